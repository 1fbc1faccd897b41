set_option maxHeartbeats 2000000 in
theorem t_Co_isGood_L24 {F B : mP} {n0 : Nat} (hn0 : big n0) : ∀ (n : Nat) (S : mS) (a0 : Nat) (x1 : Int32) (x2 : Int32), G F B S → isCo a0 → (1 ≤ x2.toInt) → (16 - x2.toInt).toNat < n → tot (f_Co_isGood_L24 n0 n (hp S) a0 x1 x2) (fun r S => G F B S ∧ (r = 0 ∨ r = 1)) := by
  intro n
  induction n with
  | zero =>
    intro S a0 x1 x2 hG h_a0 q0 hm
    exact absurd hm (Nat.not_lt_zero _)
  | succ n ih =>
    intro S a0 x1 x2 hG h_a0 q0 hm
    rw [f_Co_isGood_L24.eq_2]
    have L0 : (0 : Int32).toInt = 0 := rfl
    have L1 : (1 : Int32).toInt = 1 := rfl
    have L2 : (2 : Int32).toInt = 2 := rfl
    have L15 : (15 : Int32).toInt = 15 := rfl
    have L31 : (31 : Int32).toInt = 31 := rfl
    have L32768 : (32768 : Int32).toInt = 32768 := rfl
    have nx1 := nt_b x1
    have nx2 := nt_b x2
    refine ilt_t (fun c1 => ?_) (fun c1 => ?_)
    · refine ieq_t (fun c2 => ?_) (fun c2 => ?_)
      · have tc2 := congrArg Int32.toInt c2
        exact tot_end ⟨hG, Or.inr rfl⟩
      · exact tot_end ⟨hG, Or.inl rfl⟩
    · refine mgr_t (v := a0 + 1) (hp_co h_a0 _) rfl ?_
      refine mai_v (hp_c1 h_a0 _) (nt_in (by omega) (by omega)) (fun v6 ev6 => ?_)
      have nv6 := nt_b v6
      refine mnm_v (fun v7 ev7 => ?_)
      have nv7 := nt_b v7
      refine mnm_v (fun v8 ev8 => ?_)
      have nv8 := nt_b v8
      have kv8 : v8.toInt = x2.toInt + 1 := by rw [ev8]; exact nt_inc (by omega)
      exact ih _ a0 v7 v8 hG h_a0 (by omega) (by omega)
set_option maxHeartbeats 2000000 in
theorem t_Co_isGood_B20 {F B : mP} {n0 : Nat} (hn0 : big n0) (S : mS) (a0 : Nat) (hG : G F B S) (h_a0 : isCo a0) : tot (f_Co_isGood_B20 n0 (hp S) a0) (fun r S => G F B S ∧ (r = 0 ∨ r = 1)) := by
  unfold f_Co_isGood_B20
  have L0 : (0 : Int32).toInt = 0 := rfl
  have L1 : (1 : Int32).toInt = 1 := rfl
  exact t_Co_isGood_L24 hn0 n0 _ a0 0 1 hG h_a0 (by omega) (big_lt hn0 (by omega))
set_option maxHeartbeats 2000000 in
theorem t_Co_isGood {F B : mP} {n0 : Nat} (hn0 : big n0) (S : mS) (a0 : Nat) (hG : G F B S) (h_a0 : isCo a0) : tot (f_Co_isGood n0 (hp S) a0) (fun r S => G F B S ∧ (r = 0 ∨ r = 1)) := by
  unfold f_Co_isGood
  have L0 : (0 : Int32).toInt = 0 := rfl
  have L1 : (1 : Int32).toInt = 1 := rfl
  have L2 : (2 : Int32).toInt = 2 := rfl
  have L3 : (3 : Int32).toInt = 3 := rfl
  refine mgi_v (hp_co h_a0 _) rfl (fun v1 ev1 => ?_)
  have nv1 := nt_b v1
  refine ieq_t (fun c1 => ?_) (fun c1 => ?_)
  · have tc1 := congrArg Int32.toInt c1
    refine mgr_t (v := a0 + 1) (hp_co h_a0 _) rfl ?_
    refine mai_v (hp_c1 h_a0 _) (nt_in (by omega) (by omega)) (fun v10 ev10 => ?_)
    have nv10 := nt_b v10
    refine ieq_t (fun c2 => ?_) (fun c2 => ?_)
    · have tc2 := congrArg Int32.toInt c2
      exact tot_end ⟨hG, Or.inr rfl⟩
    · exact t_Co_isGood_B20 hn0 _ a0 hG h_a0
  · exact t_Co_isGood_B20 hn0 _ a0 hG h_a0
set_option maxHeartbeats 2000000 in
theorem t_Co_isEmpty {F B : mP} {n0 : Nat} (hn0 : big n0) (S : mS) (a0 : Nat) (hG : G F B S) (h_a0 : isCo a0) : tot (f_Co_isEmpty n0 (hp S) a0) (fun r S => G F B S ∧ (r = 0 ∨ r = 1)) := by
  unfold f_Co_isEmpty
  have L0 : (0 : Int32).toInt = 0 := rfl
  have L1 : (1 : Int32).toInt = 1 := rfl
  have L2 : (2 : Int32).toInt = 2 := rfl
  have L3 : (3 : Int32).toInt = 3 := rfl
  refine mgi_v (hp_co h_a0 _) rfl (fun v1 ev1 => ?_)
  have nv1 := nt_b v1
  refine ieq_t (fun c1 => ?_) (fun c1 => ?_)
  · have tc1 := congrArg Int32.toInt c1
    exact tot_end ⟨hG, Or.inr rfl⟩
  · exact tot_end ⟨hG, Or.inl rfl⟩
set_option maxHeartbeats 2000000 in
theorem t_Co_read_B125 {F B : mP} {n0 : Nat} (hn0 : big n0) (S : mS)  (hG : G F B S)  : tot (f_Co_read_B125 n0 (hp S) 4) (fun r S => G F B S) := by
  unfold f_Co_read_B125
  have Lm1 : (-1 : Int32).toInt = -1 := rfl
  have L7 : (7 : Int32).toInt = 7 := rfl
  have L8 : (8 : Int32).toInt = 8 := rfl
  refine mis_t (hp_4 _) ?_
  refine mcl_v (t_Pa_fail hn0 _ 7 hG) (fun v4 Sc1 zSc1 => ?_)
  obtain ⟨hGSc1, pv4⟩ := zSc1
  have nv4 := nt_b v4
  exact tot_end hGSc1
set_option maxHeartbeats 2000000 in
theorem t_Co_read_B95 {F B : mP} {n0 : Nat} (hn0 : big n0) {M : Nat} {K10 : mH → Nat → Nat → Int32 → Int32 → Int32 → Int32 → Option (Int32 × mH)} (hK10 : ∀ (S : mS) (a0 : Nat) (x2 : Int32) (x3 : Int32) (x4 : Int32) (x5 : Int32), G F B S → isCo a0 → (1 ≤ x5.toInt) → (16 - x5.toInt).toNat < M → tot (K10 (hp S) a0 4 x2 x3 x4 x5) (fun r S => G F B S)) (S : mS) (a0 : Nat) (x2 : Int32) (x3 : Int32) (x4 : Int32) (x5 : Int32) (hG : G F B S) (h_a0 : isCo a0) (q0 : 1 ≤ x5.toInt ∧ x5.toInt ≤ 15) (q1 : (16 - (x5.toInt + 1)).toNat < M) : tot (f_Co_read_B95 K10 n0 (hp S) a0 4 x2 x3 x4 x5) (fun r S => G F B S) := by
  unfold f_Co_read_B95
  have L0 : (0 : Int32).toInt = 0 := rfl
  have L1 : (1 : Int32).toInt = 1 := rfl
  have L2 : (2 : Int32).toInt = 2 := rfl
  have nx2 := nt_b x2
  have nx3 := nt_b x3
  have nx4 := nt_b x4
  have nx5 := nt_b x5
  refine mgr_t (v := a0 + 1) (hp_co h_a0 _) rfl ?_
  refine mai_v (hp_c1 h_a0 _) (nt_in (by omega) (by omega)) (fun v19 ev19 => ?_)
  have nv19 := nt_b v19
  refine mnm_v (fun v20 ev20 => ?_)
  have nv20 := nt_b v20
  refine mgr_t (v := a0 + 1) (hp_co h_a0 _) rfl ?_
  refine mai_v (hp_c1 h_a0 _) (nt_in (by omega) (by omega)) (fun v22 ev22 => ?_)
  have nv22 := nt_b v22
  refine mnm_v (fun v23 ev23 => ?_)
  have nv23 := nt_b v23
  refine mnm_v (fun v24 ev24 => ?_)
  have nv24 := nt_b v24
  have kv24 : v24.toInt = x5.toInt + 1 := by rw [ev24]; exact nt_inc (by omega)
  exact hK10 _ a0 x2 v23 v20 v24 hG h_a0 (by omega) (by omega)
set_option maxHeartbeats 2000000 in
theorem t_Co_read_L10 {F B : mP} {n0 : Nat} (hn0 : big n0) : ∀ (n : Nat) (S : mS) (a0 : Nat) (x2 : Int32) (x3 : Int32) (x4 : Int32) (x5 : Int32), G F B S → isCo a0 → (1 ≤ x5.toInt) → (16 - x5.toInt).toNat < n → tot (f_Co_read_L10 n0 n (hp S) a0 4 x2 x3 x4 x5) (fun r S => G F B S) := by
  intro n
  induction n with
  | zero =>
    intro S a0 x2 x3 x4 x5 hG h_a0 q0 hm
    exact absurd hm (Nat.not_lt_zero _)
  | succ n ih =>
    intro S a0 x2 x3 x4 x5 hG h_a0 q0 hm
    rw [f_Co_read_L10.eq_2]
    have Lm1 : (-1 : Int32).toInt = -1 := rfl
    have L0 : (0 : Int32).toInt = 0 := rfl
    have L1 : (1 : Int32).toInt = 1 := rfl
    have L2 : (2 : Int32).toInt = 2 := rfl
    have L4 : (4 : Int32).toInt = 4 := rfl
    have L8 : (8 : Int32).toInt = 8 := rfl
    have nx2 := nt_b x2
    have nx3 := nt_b x3
    have nx4 := nt_b x4
    have nx5 := nt_b x5
    refine mgi_v (hp_co h_a0 _) rfl (fun v1 ev1 => ?_)
    have nv1 := nt_b v1
    refine ilt_t (fun c1 => ?_) (fun c1 => ?_)
    · exact t_Co_read_B125 hn0 _ hG
    · refine mgr_t (v := a0 + 1) (hp_co h_a0 _) rfl ?_
      refine mln_v (hp_c1 h_a0 _) (fun v7 ev7 => ?_)
      have kv7 : v7.toInt = ((16 : Nat) : Int) := by rw [ev7]; exact nI_toInt (show 16 < 2 ^ 31 by decide)
      refine ile_t (fun c2 => ?_) (fun c2 => ?_)
      · exact t_Co_read_B125 hn0 _ hG
      · refine mis_t (hp_4 _) ?_
        refine mcl_v (t_Pa_nextBit hn0 _ 1 hG) (fun v10 Sc3 zSc3 => ?_)
        obtain ⟨hGSc3, pv10⟩ := zSc3
        have nv10 := nt_b v10
        refine ieq_t (fun c4 => ?_) (fun c4 => ?_)
        · have tc4 := congrArg Int32.toInt c4
          exact tot_end hGSc3
        · refine mnm_v (fun v13 ev13 => ?_)
          have nv13 := nt_b v13
          refine mnm_v (fun v14 ev14 => ?_)
          have nv14 := nt_b v14
          refine mgr_t (v := a0 + 1) (hp_co h_a0 _) rfl ?_
          refine mai_v (hp_c1 h_a0 _) (nt_in (by omega) (by omega)) (fun v16 ev16 => ?_)
          have nv16 := nt_b v16
          refine ilq_t ?_ ?_
          · exact t_Co_read_B95 hn0 ih _ a0 v13 x3 x4 x5 hGSc3 h_a0 (by omega) (by omega)
          · refine ilt_t (fun c6 => ?_) (fun c6 => ?_)
            · exact t_Co_read_B95 hn0 ih _ a0 v13 x3 x4 x5 hGSc3 h_a0 (by omega) (by omega)
            · refine mgr_t (v := a0 + 3) (hp_co h_a0 _) rfl ?_
              refine mln_v (hp_c3 h_a0 _) (fun v27 ev27 => ?_)
              have cv27 := nC_lt h_a0
              have kv27 : v27.toInt = ((nC a0 : Nat) : Int) := by rw [ev27]; exact nI_toInt (show nC a0 < 2 ^ 31 by omega)
              refine ile_t (fun c7 => ?_) (fun c7 => ?_)
              · exact t_Co_read_B95 hn0 ih _ a0 v13 x3 x4 x5 hGSc3 h_a0 (by omega) (by omega)
              · refine mgr_t (v := a0 + 3) (hp_co h_a0 _) rfl ?_
                refine mai_v (hp_c3 h_a0 _) (nt_in (by omega) (by omega)) (fun v30 ev30 => ?_)
                have nv30 := nt_b v30
                exact tot_end hGSc3
set_option maxHeartbeats 2000000 in
theorem t_Co_read {F B : mP} {n0 : Nat} (hn0 : big n0) (S : mS) (a0 : Nat) (hG : G F B S) (h_a0 : isCo a0) : tot (f_Co_read n0 (hp S) a0 4) (fun r S => G F B S) := by
  unfold f_Co_read
  have L0 : (0 : Int32).toInt = 0 := rfl
  have L1 : (1 : Int32).toInt = 1 := rfl
  exact t_Co_read_L10 hn0 n0 _ a0 0 0 0 1 hG h_a0 (by omega) (big_lt hn0 (by omega))
set_option maxHeartbeats 2000000 in
theorem t_Le_giveRun {F B : mP} {n0 : Nat} (hn0 : big n0) (S : mS) (x1 : Int32) (hG : G F B S)  : tot (f_Le_giveRun n0 (hp S) 4 x1) (fun r S => G F B S ∧ (r = 0 ∨ r = 1)) := by
  unfold f_Le_giveRun
  have Lm1 : (-1 : Int32).toInt = -1 := rfl
  have L0 : (0 : Int32).toInt = 0 := rfl
  have L1 : (1 : Int32).toInt = 1 := rfl
  have L8 : (8 : Int32).toInt = 8 := rfl
  have nx1 := nt_b x1
  refine mis_t (hp_4 _) ?_
  refine mcl_v (t_Pa_nextByte hn0 _ hG) (fun v2 Sc1 zSc1 => ?_)
  have hGSc1 : G F B Sc1 := zSc1
  have nv2 := nt_b v2
  refine ieq_t (fun c2 => ?_) (fun c2 => ?_)
  · have tc2 := congrArg Int32.toInt c2
    exact tot_end ⟨hGSc1, Or.inl rfl⟩
  · refine mis_t (hp_4 _) ?_
    refine mcl_v (t_Pa_giveTimes hn0 _ v2 x1 hGSc1) (fun v6 Sc3 zSc3 => ?_)
    obtain ⟨hGSc3, pv6⟩ := zSc3
    have nv6 := nt_b v6
    refine ieq_t (fun c4 => ?_) (fun c4 => ?_)
    · have tc4 := congrArg Int32.toInt c4
      exact tot_end ⟨hGSc3, Or.inl rfl⟩
    · exact tot_end ⟨hGSc3, Or.inr rfl⟩
set_option maxHeartbeats 2000000 in
theorem t_Le_unpack_L5 {F B : mP} {n0 : Nat} (hn0 : big n0) : ∀ (n : Nat) (S : mS) (x3 : Int32) (x4 : Int32), G F B S → (1000000 - x4.toInt).toNat < n → tot (f_Le_unpack_L5 n0 n (hp S) 4 x3 x4) (fun r S => G F B S) := by
  intro n
  induction n with
  | zero =>
    intro S x3 x4 hG hm
    exact absurd hm (Nat.not_lt_zero _)
  | succ n ih =>
    intro S x3 x4 hG hm
    rw [f_Le_unpack_L5.eq_2]
    have Lm1 : (-1 : Int32).toInt = -1 := rfl
    have L0 : (0 : Int32).toInt = 0 := rfl
    have L1 : (1 : Int32).toInt = 1 := rfl
    have L8 : (8 : Int32).toInt = 8 := rfl
    have L128 : (128 : Int32).toInt = 128 := rfl
    have L257 : (257 : Int32).toInt = 257 := rfl
    have L1000000 : (1000000 : Int32).toInt = 1000000 := rfl
    have nx3 := nt_b x3
    have nx4 := nt_b x4
    refine ile_t (fun c1 => ?_) (fun c1 => ?_)
    · exact tot_end hG
    · refine ieq_t (fun c2 => ?_) (fun c2 => ?_)
      · have tc2 := congrArg Int32.toInt c2
        exact tot_end hG
      · refine mis_t (hp_4 _) ?_
        refine mcl_v (t_Pa_nextByte hn0 _ hG) (fun v4 Sc3 zSc3 => ?_)
        have hGSc3 : G F B Sc3 := zSc3
        have nv4 := nt_b v4
        refine ieq_t (fun c4 => ?_) (fun c4 => ?_)
        · have tc4 := congrArg Int32.toInt c4
          exact tot_end hGSc3
        · refine ieq_t (fun c5 => ?_) (fun c5 => ?_)
          · have tc5 := congrArg Int32.toInt c5
            exact tot_end hGSc3
          · refine ile_t (fun c6 => ?_) (fun c6 => ?_)
            · refine mcl_v (t_Le_giveRun hn0 _ (257 - v4) hGSc3) (fun v10 Sc7 zSc7 => ?_)
              obtain ⟨hGSc7, pv10⟩ := zSc7
              have nv10 := nt_b v10
              refine mnm_v (fun v12 ev12 => ?_)
              have nv12 := nt_b v12
              have kv12 : v12.toInt = x4.toInt + 1 := by rw [ev12]; exact nt_inc (by omega)
              exact ih _ v10 v12 hGSc7 (by omega)
            · refine mis_t (hp_4 _) ?_
              refine mcl_v (t_Pa_giveAsTheyAre hn0 _ (v4 + 1) hGSc3) (fun v14 Sc8 zSc8 => ?_)
              obtain ⟨hGSc8, pv14⟩ := zSc8
              have nv14 := nt_b v14
              refine mnm_v (fun v16 ev16 => ?_)
              have nv16 := nt_b v16
              have kv16 : v16.toInt = x4.toInt + 1 := by rw [ev16]; exact nt_inc (by omega)
              exact ih _ v14 v16 hGSc8 (by omega)
set_option maxHeartbeats 2000000 in
theorem t_Le_unpack {F B : mP} {n0 : Nat} (hn0 : big n0) (S : mS) (x2 : Int32) (hG : G F B S)  : tot (f_Le_unpack n0 (hp S) 37 4 x2) (fun r S => G F B S) := by
  unfold f_Le_unpack
  have L0 : (0 : Int32).toInt = 0 := rfl
  have L1 : (1 : Int32).toInt = 1 := rfl
  have nx2 := nt_b x2
  exact t_Le_unpack_L5 hn0 n0 _ 1 0 hG (big_lt hn0 (by omega))
set_option maxHeartbeats 2000000 in
theorem t_Hx_digitOf_B34 {F B : mP} {n0 : Nat} (hn0 : big n0) (S : mS) (x0 : Int32) (hG : G F B S)  : tot (f_Hx_digitOf_B34 n0 (hp S) x0) (fun r S => G F B S) := by
  unfold f_Hx_digitOf_B34
  have Lm1 : (-1 : Int32).toInt = -1 := rfl
  have L87 : (87 : Int32).toInt = 87 := rfl
  have L97 : (97 : Int32).toInt = 97 := rfl
  have L102 : (102 : Int32).toInt = 102 := rfl
  have nx0 := nt_b x0
  refine ilt_t (fun c1 => ?_) (fun c1 => ?_)
  · exact tot_end hG
  · refine ilt_t (fun c2 => ?_) (fun c2 => ?_)
    · exact tot_end hG
    · exact tot_end hG
set_option maxHeartbeats 2000000 in
theorem t_Hx_digitOf_B17 {F B : mP} {n0 : Nat} (hn0 : big n0) (S : mS) (x0 : Int32) (hG : G F B S)  : tot (f_Hx_digitOf_B17 n0 (hp S) x0) (fun r S => G F B S) := by
  unfold f_Hx_digitOf_B17
  have L55 : (55 : Int32).toInt = 55 := rfl
  have L65 : (65 : Int32).toInt = 65 := rfl
  have L70 : (70 : Int32).toInt = 70 := rfl
  have nx0 := nt_b x0
  refine ilt_t (fun c1 => ?_) (fun c1 => ?_)
  · exact t_Hx_digitOf_B34 hn0 _ x0 hG
  · refine ilt_t (fun c2 => ?_) (fun c2 => ?_)
    · exact t_Hx_digitOf_B34 hn0 _ x0 hG
    · exact tot_end hG
set_option maxHeartbeats 2000000 in
theorem t_Hx_digitOf {F B : mP} {n0 : Nat} (hn0 : big n0) (S : mS) (x0 : Int32) (hG : G F B S)  : tot (f_Hx_digitOf n0 (hp S) x0) (fun r S => G F B S) := by
  unfold f_Hx_digitOf
  have L48 : (48 : Int32).toInt = 48 := rfl
  have L57 : (57 : Int32).toInt = 57 := rfl
  have nx0 := nt_b x0
  refine ilt_t (fun c1 => ?_) (fun c1 => ?_)
  · exact t_Hx_digitOf_B17 hn0 _ x0 hG
  · refine ilt_t (fun c2 => ?_) (fun c2 => ?_)
    · exact t_Hx_digitOf_B17 hn0 _ x0 hG
    · exact tot_end hG
set_option maxHeartbeats 2000000 in
theorem t_Hx_unpack_B119 {F B : mP} {n0 : Nat} (hn0 : big n0) {M : Nat} {K8 : mH → Nat → Int32 → Int32 → Int32 → Option (Unit × mH)} (hK8 : ∀ (S : mS) (x3 : Int32) (x4 : Int32) (x5 : Int32), G F B S → (1000000 - x5.toInt).toNat < M → tot (K8 (hp S) 4 x3 x4 x5) (fun r S => G F B S)) (S : mS) (x5 : Int32) (p0 : Int32) (hG : G F B S) (q0 : x5.toInt < 1000000) (q1 : (1000000 - (x5.toInt + 1)).toNat < M) : tot (f_Hx_unpack_B119 K8 n0 (hp S) 4 x5 p0) (fun r S => G F B S) := by
  unfold f_Hx_unpack_B119
  have Lm1 : (-1 : Int32).toInt = -1 := rfl
  have L1 : (1 : Int32).toInt = 1 := rfl
  have nx5 := nt_b x5
  have np0 := nt_b p0
  refine mnm_v (fun v17 ev17 => ?_)
  have nv17 := nt_b v17
  have kv17 : v17.toInt = x5.toInt + 1 := by rw [ev17]; exact nt_inc (by omega)
  exact hK8 _ (-1) p0 v17 hG (by omega)
set_option maxHeartbeats 2000000 in
theorem t_Hx_unpack_B118 {F B : mP} {n0 : Nat} (hn0 : big n0) {M : Nat} {K8 : mH → Nat → Int32 → Int32 → Int32 → Option (Unit × mH)} (hK8 : ∀ (S : mS) (x3 : Int32) (x4 : Int32) (x5 : Int32), G F B S → (1000000 - x5.toInt).toNat < M → tot (K8 (hp S) 4 x3 x4 x5) (fun r S => G F B S)) (S : mS) (x5 : Int32) (hG : G F B S) (q0 : x5.toInt < 1000000) (q1 : (1000000 - (x5.toInt + 1)).toNat < M) : tot (f_Hx_unpack_B118 K8 n0 (hp S) 4 x5) (fun r S => G F B S) := by
  unfold f_Hx_unpack_B118
  have L0 : (0 : Int32).toInt = 0 := rfl
  have nx5 := nt_b x5
  exact t_Hx_unpack_B119 hn0 hK8 _ x5 0 hG (by omega) (by omega)
set_option maxHeartbeats 2000000 in
theorem t_Hx_unpack_B49 {F B : mP} {n0 : Nat} (hn0 : big n0) {M : Nat} {K8 : mH → Nat → Int32 → Int32 → Int32 → Option (Unit × mH)} (hK8 : ∀ (S : mS) (x3 : Int32) (x4 : Int32) (x5 : Int32), G F B S → (1000000 - x5.toInt).toNat < M → tot (K8 (hp S) 4 x3 x4 x5) (fun r S => G F B S)) (S : mS) (x3 : Int32) (x5 : Int32) (x6 : Int32) (p0 : Int32) (hG : G F B S) (q0 : x5.toInt < 1000000) (q1 : (1000000 - (x5.toInt + 1)).toNat < M) : tot (f_Hx_unpack_B49 K8 n0 (hp S) 4 x3 x5 x6 p0) (fun r S => G F B S) := by
  unfold f_Hx_unpack_B49
  have Lm1 : (-1 : Int32).toInt = -1 := rfl
  have L0 : (0 : Int32).toInt = 0 := rfl
  have L1 : (1 : Int32).toInt = 1 := rfl
  have L8 : (8 : Int32).toInt = 8 := rfl
  have L12 : (12 : Int32).toInt = 12 := rfl
  have L16 : (16 : Int32).toInt = 16 := rfl
  have L62 : (62 : Int32).toInt = 62 := rfl
  have nx3 := nt_b x3
  have nx5 := nt_b x5
  have nx6 := nt_b x6
  have np0 := nt_b p0
  refine ieq_t (fun c1 => ?_) (fun c1 => ?_)
  · have tc1 := congrArg Int32.toInt c1
    refine mis_t (hp_4 _) ?_
    refine mcl_v (t_Pa_fail hn0 _ 12 hG) (fun v23 Sc2 zSc2 => ?_)
    obtain ⟨hGSc2, pv23⟩ := zSc2
    have nv23 := nt_b v23
    refine mnm_v (fun v25 ev25 => ?_)
    have nv25 := nt_b v25
    have kv25 : v25.toInt = x5.toInt + 1 := by rw [ev25]; exact nt_inc (by omega)
    exact hK8 _ x3 v23 v25 hGSc2 (by omega)
  · refine ieq_t (fun c3 => ?_) (fun c3 => ?_)
    · have tc3 := congrArg Int32.toInt c3
      refine ieq_t (fun c4 => ?_) (fun c4 => ?_)
      · have tc4 := congrArg Int32.toInt c4
        refine mnm_v (fun v20 ev20 => ?_)
        have nv20 := nt_b v20
        have kv20 : v20.toInt = x5.toInt + 1 := by rw [ev20]; exact nt_inc (by omega)
        exact hK8 _ p0 0 v20 hG (by omega)
      · refine mnm_v (fun v21 ev21 => ?_)
        have nv21 := nt_b v21
        have kv21 : v21.toInt = x5.toInt + 1 := by rw [ev21]; exact nt_inc (by omega)
        exact hK8 _ p0 1 v21 hG (by omega)
    · refine mis_t (hp_4 _) ?_
      refine mcl_v (t_Pa_give hn0 _ ((x3 * 16) + p0) hG) (fun v14 Sc5 zSc5 => ?_)
      obtain ⟨hGSc5, pv14⟩ := zSc5
      have nv14 := nt_b v14
      refine ieq_t (fun c6 => ?_) (fun c6 => ?_)
      · have tc6 := congrArg Int32.toInt c6
        exact t_Hx_unpack_B118 hn0 hK8 _ x5 hGSc5 (by omega) (by omega)
      · refine ieq_t (fun c7 => ?_) (fun c7 => ?_)
        · have tc7 := congrArg Int32.toInt c7
          exact t_Hx_unpack_B118 hn0 hK8 _ x5 hGSc5 (by omega) (by omega)
        · exact t_Hx_unpack_B119 hn0 hK8 _ x5 1 hGSc5 (by omega) (by omega)
set_option maxHeartbeats 2000000 in
theorem t_Hx_unpack_L8 {F B : mP} {n0 : Nat} (hn0 : big n0) : ∀ (n : Nat) (S : mS) (x3 : Int32) (x4 : Int32) (x5 : Int32), G F B S → (1000000 - x5.toInt).toNat < n → tot (f_Hx_unpack_L8 n0 n (hp S) 4 x3 x4 x5) (fun r S => G F B S) := by
  intro n
  induction n with
  | zero =>
    intro S x3 x4 x5 hG hm
    exact absurd hm (Nat.not_lt_zero _)
  | succ n ih =>
    intro S x3 x4 x5 hG hm
    rw [f_Hx_unpack_L8.eq_2]
    have Lm1 : (-1 : Int32).toInt = -1 := rfl
    have L0 : (0 : Int32).toInt = 0 := rfl
    have L1 : (1 : Int32).toInt = 1 := rfl
    have L8 : (8 : Int32).toInt = 8 := rfl
    have L62 : (62 : Int32).toInt = 62 := rfl
    have L1000000 : (1000000 : Int32).toInt = 1000000 := rfl
    have nx3 := nt_b x3
    have nx4 := nt_b x4
    have nx5 := nt_b x5
    refine ile_t (fun c1 => ?_) (fun c1 => ?_)
    · exact tot_end hG
    · refine ieq_t (fun c2 => ?_) (fun c2 => ?_)
      · have tc2 := congrArg Int32.toInt c2
        exact tot_end hG
      · refine mis_t (hp_4 _) ?_
        refine mcl_v (t_Pa_nextSign hn0 _ hG) (fun v4 Sc3 zSc3 => ?_)
        have hGSc3 : G F B Sc3 := zSc3
        have nv4 := nt_b v4
        refine ieq_t (fun c4 => ?_) (fun c4 => ?_)
        · have tc4 := congrArg Int32.toInt c4
          exact tot_end hGSc3
        · refine ieq_t (fun c5 => ?_) (fun c5 => ?_)
          · have tc5 := congrArg Int32.toInt c5
            exact t_Hx_unpack_B49 hn0 ih _ x3 x5 v4 0 hGSc3 (by omega) (by omega)
          · refine mcl_v (t_Hx_digitOf hn0 _ v4 hGSc3) (fun v9 Sc6 zSc6 => ?_)
            have hGSc6 : G F B Sc6 := zSc6
            have nv9 := nt_b v9
            exact t_Hx_unpack_B49 hn0 ih _ x3 x5 v4 v9 hGSc6 (by omega) (by omega)
set_option maxHeartbeats 2000000 in
theorem t_Hx_unpack {F B : mP} {n0 : Nat} (hn0 : big n0) (S : mS) (x2 : Int32) (hG : G F B S)  : tot (f_Hx_unpack n0 (hp S) 36 4 x2) (fun r S => G F B S) := by
  unfold f_Hx_unpack
  have Lm1 : (-1 : Int32).toInt = -1 := rfl
  have L0 : (0 : Int32).toInt = 0 := rfl
  have L1 : (1 : Int32).toInt = 1 := rfl
  have nx2 := nt_b x2
  exact t_Hx_unpack_L8 hn0 n0 _ (-1) 1 0 hG (big_lt hn0 (by omega))
set_option maxHeartbeats 2000000 in
theorem t_Pa_lowNumber_L4 {F B : mP} {n0 : Nat} (hn0 : big n0) : ∀ (n : Nat) (S : mS) (x1 : Int32) (x2 : Int32) (x3 : Int32), G F B S → (x1.toInt ≤ 13) → (0 ≤ x3.toInt ∧ x3.toInt ≤ 13) → (0 ≤ x2.toInt ∧ x2.toInt < 2 ^ x3.toInt.toNat) → (x1.toInt - x3.toInt).toNat < n → tot (f_Pa_lowNumber_L4 n0 n (hp S) 4 x1 x2 x3) (fun r S => G F B S ∧ (-1 ≤ r.toInt ∧ r.toInt ≤ 8191)) := by
  intro n
  induction n with
  | zero =>
    intro S x1 x2 x3 hG q0 q1 q2 hm
    exact absurd hm (Nat.not_lt_zero _)
  | succ n ih =>
    intro S x1 x2 x3 hG q0 q1 q2 hm
    rw [f_Pa_lowNumber_L4.eq_2]
    have Lm1 : (-1 : Int32).toInt = -1 := rfl
    have L0 : (0 : Int32).toInt = 0 := rfl
    have L1 : (1 : Int32).toInt = 1 := rfl
    have L8 : (8 : Int32).toInt = 8 := rfl
    have L31 : (31 : Int32).toInt = 31 := rfl
    have nx1 := nt_b x1
    have nx2 := nt_b x2
    have nx3 := nt_b x3
    refine ile_t (fun c1 => ?_) (fun c1 => ?_)
    · exact tot_end ⟨hG, ⟨by omega, lb_end (by omega) q2.2⟩⟩
    · refine mis_t (hp_4 _) ?_
      refine mcl_v (t_Pa_nextBit hn0 _ 1 hG) (fun v3 Sc2 zSc2 => ?_)
      obtain ⟨hGSc2, pv3⟩ := zSc2
      have nv3 := nt_b v3
      refine ieq_t (fun c3 => ?_) (fun c3 => ?_)
      · have tc3 := congrArg Int32.toInt c3
        exact tot_end ⟨hGSc2, by omega⟩
      · refine mnm_v (fun v6 ev6 => ?_)
        have nv6 := nt_b v6
        have sv6 := lb_step (b := v3) (by omega) (by omega) q2 (pv3.elim (fun e => absurd (congrArg Int32.toInt e) (by omega)) id)
        rw [← ev6] at sv6
        refine mnm_v (fun v7 ev7 => ?_)
        have nv7 := nt_b v7
        have kv7 : v7.toInt = x3.toInt + 1 := by rw [ev7]; exact nt_inc (by omega)
        have tv7 : v7.toInt.toNat = x3.toInt.toNat + 1 := by omega
        rw [← tv7] at sv6
        exact ih _ x1 v6 v7 hGSc2 q0 (by omega) sv6 (by omega)
set_option maxHeartbeats 2000000 in
theorem t_Pa_lowNumber {F B : mP} {n0 : Nat} (hn0 : big n0) (S : mS) (x1 : Int32) (hG : G F B S) (q0 : x1.toInt ≤ 13) : tot (f_Pa_lowNumber n0 (hp S) 4 x1) (fun r S => G F B S ∧ (-1 ≤ r.toInt ∧ r.toInt ≤ 8191)) := by
  unfold f_Pa_lowNumber
  have L0 : (0 : Int32).toInt = 0 := rfl
  have nx1 := nt_b x1
  exact t_Pa_lowNumber_L4 hn0 n0 _ x1 0 0 hG q0 (by omega) ⟨by omega, by rw [L0]; decide⟩ (big_lt hn0 (by omega))
