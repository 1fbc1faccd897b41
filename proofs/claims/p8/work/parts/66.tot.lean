set_option maxHeartbeats 2000000 in
theorem t_Li_rowSize {F B : mP} {n0 : Nat} (hn0 : big n0) (S : mS) (a0 : Nat) (hG : G F B S) (h_a0 : isLi a0) : tot (f_Li_rowSize n0 (hp S) a0) (fun r S => G F B S ∧ (1 ≤ r.toInt ∧ r.toInt ≤ 268435457)) := by
  unfold f_Li_rowSize
  have L1 : (1 : Int32).toInt = 1 := rfl
  have L3 : (3 : Int32).toInt = 3 := rfl
  have L4 : (4 : Int32).toInt = 4 := rfl
  have L5 : (5 : Int32).toInt = 5 := rfl
  have L6 : (6 : Int32).toInt = 6 := rfl
  have L7 : (7 : Int32).toInt = 7 := rfl
  have L8 : (8 : Int32).toInt = 8 := rfl
  refine mgi_v (hp_li h_a0 _) rfl (fun v1 ev1 => ?_)
  have nv1 := nt_b v1
  refine mgi_v (hp_li h_a0 _) rfl (fun v2 ev2 => ?_)
  have nv2 := nt_b v2
  refine mgi_v (hp_li h_a0 _) rfl (fun v3 ev3 => ?_)
  have nv3 := nt_b v3
  refine mnm_v (fun v4 ev4 => ?_)
  have nv4 := nt_b v4
  have iv4 := nt_if ev4
  have d8 := nt_d8 (((v1 * v2) * v3) + 7)
  exact tot_end ⟨hG, by omega⟩
set_option maxHeartbeats 2000000 in
theorem t_Li_shiftOf {F B : mP} {n0 : Nat} (hn0 : big n0) (S : mS) (a0 : Nat) (x1 : Int32) (hG : G F B S) (h_a0 : isLi a0) : tot (f_Li_shiftOf n0 (hp S) a0 x1) (fun r S => G F B S) := by
  unfold f_Li_shiftOf
  have L4 : (4 : Int32).toInt = 4 := rfl
  have L6 : (6 : Int32).toInt = 6 := rfl
  have L8 : (8 : Int32).toInt = 8 := rfl
  have nx1 := nt_b x1
  refine mgi_v (hp_li h_a0 _) rfl (fun v1 ev1 => ?_)
  have nv1 := nt_b v1
  refine mgi_v (hp_li h_a0 _) rfl (fun v2 ev2 => ?_)
  have nv2 := nt_b v2
  have fv2 : v2 = v1 := ev2.trans ev1.symm
  have gv2 := congrArg Int32.toInt fv2
  exact tot_end hG
set_option maxHeartbeats 2000000 in
theorem t_Li_mask {F B : mP} {n0 : Nat} (hn0 : big n0) (S : mS) (a0 : Nat) (hG : G F B S) (h_a0 : isLi a0) : tot (f_Li_mask n0 (hp S) a0) (fun r S => G F B S) := by
  unfold f_Li_mask
  have L1 : (1 : Int32).toInt = 1 := rfl
  have L4 : (4 : Int32).toInt = 4 := rfl
  have L6 : (6 : Int32).toInt = 6 := rfl
  have L31 : (31 : Int32).toInt = 31 := rfl
  refine mgi_v (hp_li h_a0 _) rfl (fun v1 ev1 => ?_)
  have nv1 := nt_b v1
  exact tot_end hG
set_option maxHeartbeats 2000000 in
theorem t_Li_numberAt {F B : mP} {n0 : Nat} (hn0 : big n0) (S : mS) (a0 : Nat) (a1 : Nat) (x2 : Int32) (x3 : Int32) (hG : G F B S) (h_a0 : isLi a0) (h_a1 : isBy a1) : tot (f_Li_numberAt n0 (hp S) a0 a1 x2 x3) (fun r S => G F B S) := by
  unfold f_Li_numberAt
  have L1 : (1 : Int32).toInt = 1 := rfl
  have L4 : (4 : Int32).toInt = 4 := rfl
  have L6 : (6 : Int32).toInt = 6 := rfl
  have L8 : (8 : Int32).toInt = 8 := rfl
  have L16 : (16 : Int32).toInt = 16 := rfl
  have L31 : (31 : Int32).toInt = 31 := rfl
  have L256 : (256 : Int32).toInt = 256 := rfl
  have nx2 := nt_b x2
  have nx3 := nt_b x3
  refine mgi_v (hp_li h_a0 _) rfl (fun v1 ev1 => ?_)
  have nv1 := nt_b v1
  refine mnm_v (fun v2 ev2 => ?_)
  have nv2 := nt_b v2
  refine mgi_v (hp_li h_a0 _) rfl (fun v3 ev3 => ?_)
  have nv3 := nt_b v3
  have fv3 : v3 = v1 := ev3.trans ev1.symm
  have gv3 := congrArg Int32.toInt fv3
  refine ieq_t (fun c1 => ?_) (fun c1 => ?_)
  · have tc1 := congrArg Int32.toInt c1
    refine mis_t (hp_by h_a1 _) ?_
    refine mcl_v (t_By_byteAt hn0 _ a1 v2 hG h_a1) (fun v15 Sc2 zSc2 => ?_)
    subst zSc2
    have nv15 := nt_b v15
    refine mis_t (hp_by h_a1 _) ?_
    refine mcl_v (t_By_byteAt hn0 _ a1 (v2 + 1) hG h_a1) (fun v18 Sc3 zSc3 => ?_)
    subst zSc3
    have nv18 := nt_b v18
    exact tot_end hG
  · refine mis_t (hp_by h_a1 _) ?_
    refine mcl_v (t_By_byteAt hn0 _ a1 v2 hG h_a1) (fun v6 Sc4 zSc4 => ?_)
    subst zSc4
    have nv6 := nt_b v6
    refine mis_t (hp_li h_a0 _) ?_
    refine mcl_v (t_Li_shiftOf hn0 _ a0 x3 hG h_a0) (fun v9 Sc5 zSc5 => ?_)
    have hGSc5 : G F B Sc5 := zSc5
    have nv9 := nt_b v9
    refine mis_t (hp_li h_a0 _) ?_
    refine mcl_v (t_Li_mask hn0 _ a0 hGSc5 h_a0) (fun v12 Sc6 zSc6 => ?_)
    have hGSc6 : G F B Sc6 := zSc6
    have nv12 := nt_b v12
    exact tot_end hGSc6
set_option maxHeartbeats 2000000 in
theorem t_Li_setNumber {F B : mP} {n0 : Nat} (hn0 : big n0) (S : mS) (a0 : Nat) (a1 : Nat) (x2 : Int32) (x3 : Int32) (x4 : Int32) (hG : G F B S) (h_a0 : isLi a0) (h_a1 : isBy a1) : tot (f_Li_setNumber n0 (hp S) a0 a1 x2 x3 x4) (fun r S => G F B S) := by
  unfold f_Li_setNumber
  have Lm1 : (-1 : Int32).toInt = -1 := rfl
  have L1 : (1 : Int32).toInt = 1 := rfl
  have L4 : (4 : Int32).toInt = 4 := rfl
  have L6 : (6 : Int32).toInt = 6 := rfl
  have L8 : (8 : Int32).toInt = 8 := rfl
  have L16 : (16 : Int32).toInt = 16 := rfl
  have L31 : (31 : Int32).toInt = 31 := rfl
  have nx2 := nt_b x2
  have nx3 := nt_b x3
  have nx4 := nt_b x4
  refine mgi_v (hp_li h_a0 _) rfl (fun v1 ev1 => ?_)
  have nv1 := nt_b v1
  refine mnm_v (fun v2 ev2 => ?_)
  have nv2 := nt_b v2
  refine mgi_v (hp_li h_a0 _) rfl (fun v3 ev3 => ?_)
  have nv3 := nt_b v3
  have fv3 : v3 = v1 := ev3.trans ev1.symm
  have gv3 := congrArg Int32.toInt fv3
  refine ieq_t (fun c1 => ?_) (fun c1 => ?_)
  · have tc1 := congrArg Int32.toInt c1
    refine mis_t (hp_by h_a1 _) ?_
    refine mcl_v (t_By_change hn0 _ a1 v2 (x4 >>> (8 &&& 31)) hG h_a1) (fun u3 Sc2 zSc2 => ?_)
    have hGSc2 : G F B Sc2 := zSc2
    refine mis_t (hp_by h_a1 _) ?_
    refine mcl_v (t_By_change hn0 _ a1 (v2 + 1) x4 hGSc2 h_a1) (fun u5 Sc4 zSc4 => ?_)
    have hGSc4 : G F B Sc4 := zSc4
    exact tot_end hGSc4
  · refine mis_t (hp_by h_a1 _) ?_
    refine mcl_v (t_By_byteAt hn0 _ a1 v2 hG h_a1) (fun v6 Sc6 zSc6 => ?_)
    subst zSc6
    have nv6 := nt_b v6
    refine mis_t (hp_li h_a0 _) ?_
    refine mcl_v (t_Li_mask hn0 _ a0 hG h_a0) (fun v9 Sc7 zSc7 => ?_)
    have hGSc7 : G F B Sc7 := zSc7
    have nv9 := nt_b v9
    refine mis_t (hp_li h_a0 _) ?_
    refine mcl_v (t_Li_shiftOf hn0 _ a0 x3 hGSc7 h_a0) (fun v12 Sc8 zSc8 => ?_)
    have hGSc8 : G F B Sc8 := zSc8
    have nv12 := nt_b v12
    refine mnm_v (fun v14 ev14 => ?_)
    have nv14 := nt_b v14
    refine mis_t (hp_li h_a0 _) ?_
    refine mcl_v (t_Li_mask hn0 _ a0 hGSc8 h_a0) (fun v16 Sc9 zSc9 => ?_)
    have hGSc9 : G F B Sc9 := zSc9
    have nv16 := nt_b v16
    refine mis_t (hp_li h_a0 _) ?_
    refine mcl_v (t_Li_shiftOf hn0 _ a0 x3 hGSc9 h_a0) (fun v19 Sc10 zSc10 => ?_)
    have hGSc10 : G F B Sc10 := zSc10
    have nv19 := nt_b v19
    refine mis_t (hp_by h_a1 _) ?_
    refine mcl_v (t_By_change hn0 _ a1 v2 (v14 ||| ((x4 &&& v16) <<< (v19 &&& 31))) hGSc10 h_a1) (fun u12 Sc11 zSc11 => ?_)
    have hGSc11 : G F B Sc11 := zSc11
    exact tot_end hGSc11
set_option maxHeartbeats 2000000 in
theorem t_Li_undoNumbers_L61 {F B : mP} {n0 : Nat} (hn0 : big n0) {M : Nat} {K7 : mH → Nat → Nat → Int32 → Int32 → Option (Unit × mH)} (hK7 : ∀ (S : mS) (a0 : Nat) (a1 : Nat) (x2 : Int32) (x3 : Int32), G F B S → isLi a0 → isBy a1 → (1 ≤ x2.toInt ∧ x2.toInt ≤ 268435457) → (0 ≤ x3.toInt) → (65536 - x3.toInt).toNat < M → tot (K7 (hp S) a0 a1 x2 x3) (fun r S => G F B S)) : ∀ (n : Nat) (S : mS) (a0 : Nat) (a1 : Nat) (x2 : Int32) (x3 : Int32) (x5 : Int32) (x6 : Int32), G F B S → isLi a0 → isBy a1 → (1 ≤ x2.toInt ∧ x2.toInt ≤ 268435457) → (0 ≤ x3.toInt ∧ x3.toInt ≤ 65536) → ((65536 - (x3.toInt + x2.toInt)).toNat < M) → (x5.toInt - x6.toInt).toNat < n → tot (f_Li_undoNumbers_L61 K7 n0 n (hp S) a0 a1 x2 x3 x5 x6) (fun r S => G F B S) := by
  intro n
  induction n with
  | zero =>
    intro S a0 a1 x2 x3 x5 x6 hG h_a0 h_a1 q0 q1 q2 hm
    exact absurd hm (Nat.not_lt_zero _)
  | succ n ih =>
    intro S a0 a1 x2 x3 x5 x6 hG h_a0 h_a1 q0 q1 q2 hm
    rw [f_Li_undoNumbers_L61.eq_2]
    have L0 : (0 : Int32).toInt = 0 := rfl
    have L1 : (1 : Int32).toInt = 1 := rfl
    have L3 : (3 : Int32).toInt = 3 := rfl
    have L6 : (6 : Int32).toInt = 6 := rfl
    have nx2 := nt_b x2
    have nx3 := nt_b x3
    have nx5 := nt_b x5
    have nx6 := nt_b x6
    refine ile_t (fun c1 => ?_) (fun c1 => ?_)
    · refine mnm_v (fun v16 ev16 => ?_)
      have nv16 := nt_b v16
      have kz2 : (x3 + x2 : Int32).toInt = (x3 : Int32).toInt + (x2 : Int32).toInt := nt_add (by omega) (by omega)
      have kv16 : v16.toInt = (x3 + x2).toInt := by rw [ev16]
      exact hK7 _ a0 a1 x2 v16 hG h_a0 h_a1 (by omega) (by omega) (by omega)
    · refine mgi_v (hp_li h_a0 _) rfl (fun v17 ev17 => ?_)
      have nv17 := nt_b v17
      refine mis_t (hp_li h_a0 _) ?_
      refine mcl_v (t_Li_numberAt hn0 _ a0 a1 x3 (x6 - v17) hG h_a0 h_a1) (fun v19 Sc3 zSc3 => ?_)
      have hGSc3 : G F B Sc3 := zSc3
      have nv19 := nt_b v19
      refine mis_t (hp_li h_a0 _) ?_
      refine mcl_v (t_Li_numberAt hn0 _ a0 a1 x3 x6 hGSc3 h_a0 h_a1) (fun v22 Sc4 zSc4 => ?_)
      have hGSc4 : G F B Sc4 := zSc4
      have nv22 := nt_b v22
      refine mis_t (hp_li h_a0 _) ?_
      refine mcl_v (t_Li_setNumber hn0 _ a0 a1 x3 x6 (v19 + v22) hGSc4 h_a0 h_a1) (fun u6 Sc5 zSc5 => ?_)
      have hGSc5 : G F B Sc5 := zSc5
      refine mnm_v (fun v28 ev28 => ?_)
      have nv28 := nt_b v28
      have kv28 : v28.toInt = x6.toInt + 1 := by rw [ev28]; exact nt_inc (by omega)
      exact ih _ a0 a1 x2 x3 x5 v28 hGSc5 h_a0 h_a1 (by omega) (by omega) (by omega) (by omega)
set_option maxHeartbeats 2000000 in
theorem t_Li_undoNumbers_L7 {F B : mP} {n0 : Nat} (hn0 : big n0) : ∀ (n : Nat) (S : mS) (a0 : Nat) (a1 : Nat) (x2 : Int32) (x3 : Int32), G F B S → isLi a0 → isBy a1 → (1 ≤ x2.toInt ∧ x2.toInt ≤ 268435457) → (0 ≤ x3.toInt) → (65536 - x3.toInt).toNat < n → tot (f_Li_undoNumbers_L7 n0 n (hp S) a0 a1 x2 x3) (fun r S => G F B S) := by
  intro n
  induction n with
  | zero =>
    intro S a0 a1 x2 x3 hG h_a0 h_a1 q0 q1 hm
    exact absurd hm (Nat.not_lt_zero _)
  | succ n ih =>
    intro S a0 a1 x2 x3 hG h_a0 h_a1 q0 q1 hm
    rw [f_Li_undoNumbers_L7.eq_2]
    have L0 : (0 : Int32).toInt = 0 := rfl
    have L1 : (1 : Int32).toInt = 1 := rfl
    have L3 : (3 : Int32).toInt = 3 := rfl
    have L4 : (4 : Int32).toInt = 4 := rfl
    have L5 : (5 : Int32).toInt = 5 := rfl
    have L6 : (6 : Int32).toInt = 6 := rfl
    have L8 : (8 : Int32).toInt = 8 := rfl
    have nx2 := nt_b x2
    have nx3 := nt_b x3
    refine mgi_v (hp_by h_a1 _) rfl (fun v4 ev4 => ?_)
    have nv4 := nt_b v4
    have bv4 := b_by h_a1 hG
    rw [← ev4] at bv4
    have cv4 := nB_lt h_a1
    refine ile_t (fun c1 => ?_) (fun c1 => ?_)
    · exact tot_end hG
    · refine mgi_v (hp_by h_a1 _) rfl (fun v6 ev6 => ?_)
      have nv6 := nt_b v6
      have bv6 := b_by h_a1 hG
      rw [← ev6] at bv6
      have cv6 := nB_lt h_a1
      have fv6 : v6 = v4 := ev6.trans ev4.symm
      have gv6 := congrArg Int32.toInt fv6
      refine mnm_v (fun v7 ev7 => ?_)
      have nv7 := nt_b v7
      have kz2 : (v6 - x3 : Int32).toInt = (v6 : Int32).toInt - (x3 : Int32).toInt := nt_sub (by omega) (by omega)
      have iv7 := nt_if ev7
      refine mgi_v (hp_li h_a0 _) rfl (fun v8 ev8 => ?_)
      have nv8 := nt_b v8
      refine mgi_v (hp_li h_a0 _) rfl (fun v9 ev9 => ?_)
      have nv9 := nt_b v9
      refine mgi_v (hp_li h_a0 _) rfl (fun v10 ev10 => ?_)
      have nv10 := nt_b v10
      refine mnm_v (fun v11 ev11 => ?_)
      have nv11 := nt_b v11
      have iv11 := nt_if ev11
      refine mgd_t (fun e => by have := congrArg Int32.toInt e; omega) ?_
      refine mnm_v (fun v13 ev13 => ?_)
      have nv13 := nt_b v13
      have iv13 := nt_if ev13
      refine mgi_v (hp_li h_a0 _) rfl (fun v14 ev14 => ?_)
      have nv14 := nt_b v14
      have fv14 : v14 = v9 := ev14.trans ev9.symm
      have gv14 := congrArg Int32.toInt fv14
      exact t_Li_undoNumbers_L61 hn0 ih n0 _ a0 a1 x2 x3 v13 v14 hG h_a0 h_a1 (by omega) (by omega) (by omega) (big_lt hn0 (by omega))
set_option maxHeartbeats 2000000 in
theorem t_Li_undoNumbers {F B : mP} {n0 : Nat} (hn0 : big n0) (S : mS) (a0 : Nat) (a1 : Nat) (hG : G F B S) (h_a0 : isLi a0) (h_a1 : isBy a1) : tot (f_Li_undoNumbers n0 (hp S) a0 a1) (fun r S => G F B S) := by
  unfold f_Li_undoNumbers
  have L0 : (0 : Int32).toInt = 0 := rfl
  have L6 : (6 : Int32).toInt = 6 := rfl
  refine mis_t (hp_li h_a0 _) ?_
  refine mcl_v (t_Li_rowSize hn0 _ a0 hG h_a0) (fun v2 Sc1 zSc1 => ?_)
  obtain ⟨hGSc1, pv2⟩ := zSc1
  have nv2 := nt_b v2
  exact t_Li_undoNumbers_L7 hn0 n0 _ a0 a1 v2 0 hGSc1 h_a0 h_a1 (by omega) (by omega) (big_lt hn0 (by omega))
set_option maxHeartbeats 2000000 in
theorem t_Li_nearest_B46 {F B : mP} {n0 : Nat} (hn0 : big n0) (S : mS) (x1 : Int32) (x2 : Int32) (x5 : Int32) (x6 : Int32) (hG : G F B S)  : tot (f_Li_nearest_B46 n0 (hp S) x1 x2 x5 x6) (fun r S => G F B S) := by
  unfold f_Li_nearest_B46
  have nx1 := nt_b x1
  have nx2 := nt_b x2
  have nx5 := nt_b x5
  have nx6 := nt_b x6
  refine ilt_t (fun c1 => ?_) (fun c1 => ?_)
  · exact tot_end hG
  · exact tot_end hG
set_option maxHeartbeats 2000000 in
theorem t_Li_nearest {F B : mP} {n0 : Nat} (hn0 : big n0) (S : mS) (x0 : Int32) (x1 : Int32) (x2 : Int32) (hG : G F B S)  : tot (f_Li_nearest n0 (hp S) x0 x1 x2) (fun r S => G F B S) := by
  unfold f_Li_nearest
  have L0 : (0 : Int32).toInt = 0 := rfl
  have nx0 := nt_b x0
  have nx1 := nt_b x1
  have nx2 := nt_b x2
  refine mnm_v (fun v1 ev1 => ?_)
  have nv1 := nt_b v1
  refine mnm_v (fun v2 ev2 => ?_)
  have nv2 := nt_b v2
  refine mnm_v (fun v3 ev3 => ?_)
  have nv3 := nt_b v3
  refine mnm_v (fun v4 ev4 => ?_)
  have nv4 := nt_b v4
  refine ilt_t (fun c1 => ?_) (fun c1 => ?_)
  · exact t_Li_nearest_B46 hn0 _ x1 x2 v3 v4 hG
  · refine ilt_t (fun c2 => ?_) (fun c2 => ?_)
    · exact t_Li_nearest_B46 hn0 _ x1 x2 v3 v4 hG
    · exact tot_end hG
set_option maxHeartbeats 2000000 in
theorem t_Li_guessOf {F B : mP} {n0 : Nat} (hn0 : big n0) (S : mS) (x0 : Int32) (x1 : Int32) (x2 : Int32) (x3 : Int32) (hG : G F B S)  : tot (f_Li_guessOf n0 (hp S) x0 x1 x2 x3) (fun r S => G F B S) := by
  unfold f_Li_guessOf
  have L0 : (0 : Int32).toInt = 0 := rfl
  have L1 : (1 : Int32).toInt = 1 := rfl
  have L2 : (2 : Int32).toInt = 2 := rfl
  have L3 : (3 : Int32).toInt = 3 := rfl
  have L4 : (4 : Int32).toInt = 4 := rfl
  have nx0 := nt_b x0
  have nx1 := nt_b x1
  have nx2 := nt_b x2
  have nx3 := nt_b x3
  refine ieq_t (fun c1 => ?_) (fun c1 => ?_)
  · have tc1 := congrArg Int32.toInt c1
    exact tot_end hG
  · refine ieq_t (fun c2 => ?_) (fun c2 => ?_)
    · have tc2 := congrArg Int32.toInt c2
      exact tot_end hG
    · refine ieq_t (fun c3 => ?_) (fun c3 => ?_)
      · have tc3 := congrArg Int32.toInt c3
        exact tot_end hG
      · refine ieq_t (fun c4 => ?_) (fun c4 => ?_)
        · have tc4 := congrArg Int32.toInt c4
          refine mcl_v (t_Li_nearest hn0 _ x1 x2 x3 hG) (fun v6 Sc5 zSc5 => ?_)
          have hGSc5 : G F B Sc5 := zSc5
          have nv6 := nt_b v6
          exact tot_end hGSc5
        · exact tot_end hG
set_option maxHeartbeats 2000000 in
theorem t_Li_undoRow_B135 {F B : mP} {n0 : Nat} (hn0 : big n0) {M : Nat} {K27 : mH → Nat → Int32 → Int32 → Int32 → Int32 → Int32 → Int32 → Int32 → Option (Unit × mH)} (hK27 : ∀ (S : mS) (a1 : Nat) (x2 : Int32) (x3 : Int32) (x4 : Int32) (x5 : Int32) (x6 : Int32) (x7 : Int32) (x8 : Int32), G F B S → isBy a1 → (x5.toInt - x8.toInt).toNat < M → tot (K27 (hp S) a1 x2 x3 x4 x5 x6 x7 x8) (fun r S => G F B S)) (S : mS) (a1 : Nat) (x2 : Int32) (x3 : Int32) (x4 : Int32) (x5 : Int32) (x6 : Int32) (x7 : Int32) (x8 : Int32) (x9 : Int32) (x12 : Int32) (x13 : Int32) (p0 : Int32) (hG : G F B S) (h_a1 : isBy a1) (q0 : x8.toInt < x5.toInt) (q1 : (x5.toInt - (x8.toInt + 1)).toNat < M) : tot (f_Li_undoRow_B135 K27 n0 (hp S) a1 x2 x3 x4 x5 x6 x7 x8 x9 x12 x13 p0) (fun r S => G F B S) := by
  unfold f_Li_undoRow_B135
  have L1 : (1 : Int32).toInt = 1 := rfl
  have nx2 := nt_b x2
  have nx3 := nt_b x3
  have nx4 := nt_b x4
  have nx5 := nt_b x5
  have nx6 := nt_b x6
  have nx7 := nt_b x7
  have nx8 := nt_b x8
  have nx9 := nt_b x9
  have nx12 := nt_b x12
  have nx13 := nt_b x13
  have np0 := nt_b p0
  refine mcl_v (t_Li_guessOf hn0 _ x2 x12 x13 p0 hG) (fun v15 Sc1 zSc1 => ?_)
  have hGSc1 : G F B Sc1 := zSc1
  have nv15 := nt_b v15
  refine mis_t (hp_by h_a1 _) ?_
  refine mcl_v (t_By_byteAt hn0 _ a1 (x3 + x8) hGSc1 h_a1) (fun v18 Sc2 zSc2 => ?_)
  subst zSc2
  have nv18 := nt_b v18
  refine mis_t (hp_by h_a1 _) ?_
  refine mcl_v (t_By_change hn0 _ a1 x9 (v18 + v15) hGSc1 h_a1) (fun u4 Sc3 zSc3 => ?_)
  have hGSc3 : G F B Sc3 := zSc3
  refine mnm_v (fun v24 ev24 => ?_)
  have nv24 := nt_b v24
  have kv24 : v24.toInt = x8.toInt + 1 := by rw [ev24]; exact nt_inc (by omega)
  exact hK27 _ a1 x2 x3 x4 x5 x6 x7 v24 hGSc3 h_a1 (by omega)
set_option maxHeartbeats 2000000 in
theorem t_Li_undoRow_B134 {F B : mP} {n0 : Nat} (hn0 : big n0) {M : Nat} {K27 : mH → Nat → Int32 → Int32 → Int32 → Int32 → Int32 → Int32 → Int32 → Option (Unit × mH)} (hK27 : ∀ (S : mS) (a1 : Nat) (x2 : Int32) (x3 : Int32) (x4 : Int32) (x5 : Int32) (x6 : Int32) (x7 : Int32) (x8 : Int32), G F B S → isBy a1 → (x5.toInt - x8.toInt).toNat < M → tot (K27 (hp S) a1 x2 x3 x4 x5 x6 x7 x8) (fun r S => G F B S)) (S : mS) (a1 : Nat) (x2 : Int32) (x3 : Int32) (x4 : Int32) (x5 : Int32) (x6 : Int32) (x7 : Int32) (x8 : Int32) (x9 : Int32) (x12 : Int32) (x13 : Int32) (hG : G F B S) (h_a1 : isBy a1) (q0 : x8.toInt < x5.toInt) (q1 : (x5.toInt - (x8.toInt + 1)).toNat < M) : tot (f_Li_undoRow_B134 K27 n0 (hp S) a1 x2 x3 x4 x5 x6 x7 x8 x9 x12 x13) (fun r S => G F B S) := by
  unfold f_Li_undoRow_B134
  have L0 : (0 : Int32).toInt = 0 := rfl
  have nx2 := nt_b x2
  have nx3 := nt_b x3
  have nx4 := nt_b x4
  have nx5 := nt_b x5
  have nx6 := nt_b x6
  have nx7 := nt_b x7
  have nx8 := nt_b x8
  have nx9 := nt_b x9
  have nx12 := nt_b x12
  have nx13 := nt_b x13
  exact t_Li_undoRow_B135 hn0 hK27 _ a1 x2 x3 x4 x5 x6 x7 x8 x9 x12 x13 0 hG h_a1 (by omega) (by omega)
set_option maxHeartbeats 2000000 in
theorem t_Li_undoRow_B107 {F B : mP} {n0 : Nat} (hn0 : big n0) {M : Nat} {K27 : mH → Nat → Int32 → Int32 → Int32 → Int32 → Int32 → Int32 → Int32 → Option (Unit × mH)} (hK27 : ∀ (S : mS) (a1 : Nat) (x2 : Int32) (x3 : Int32) (x4 : Int32) (x5 : Int32) (x6 : Int32) (x7 : Int32) (x8 : Int32), G F B S → isBy a1 → (x5.toInt - x8.toInt).toNat < M → tot (K27 (hp S) a1 x2 x3 x4 x5 x6 x7 x8) (fun r S => G F B S)) (S : mS) (a1 : Nat) (x2 : Int32) (x3 : Int32) (x4 : Int32) (x5 : Int32) (x6 : Int32) (x7 : Int32) (x8 : Int32) (x9 : Int32) (x10 : Int32) (x11 : Int32) (x12 : Int32) (p0 : Int32) (hG : G F B S) (h_a1 : isBy a1) (q0 : x8.toInt < x5.toInt) (q1 : (x5.toInt - (x8.toInt + 1)).toNat < M) : tot (f_Li_undoRow_B107 K27 n0 (hp S) a1 x2 x3 x4 x5 x6 x7 x8 x9 x10 x11 x12 p0) (fun r S => G F B S) := by
  unfold f_Li_undoRow_B107
  have L0 : (0 : Int32).toInt = 0 := rfl
  have L1 : (1 : Int32).toInt = 1 := rfl
  have nx2 := nt_b x2
  have nx3 := nt_b x3
  have nx4 := nt_b x4
  have nx5 := nt_b x5
  have nx6 := nt_b x6
  have nx7 := nt_b x7
  have nx8 := nt_b x8
  have nx9 := nt_b x9
  have nx10 := nt_b x10
  have nx11 := nt_b x11
  have nx12 := nt_b x12
  have np0 := nt_b p0
  refine ieq_t (fun c1 => ?_) (fun c1 => ?_)
  · have tc1 := congrArg Int32.toInt c1
    exact t_Li_undoRow_B134 hn0 hK27 _ a1 x2 x3 x4 x5 x6 x7 x8 x9 x12 p0 hG h_a1 (by omega) (by omega)
  · refine ieq_t (fun c2 => ?_) (fun c2 => ?_)
    · have tc2 := congrArg Int32.toInt c2
      exact t_Li_undoRow_B134 hn0 hK27 _ a1 x2 x3 x4 x5 x6 x7 x8 x9 x12 p0 hG h_a1 (by omega) (by omega)
    · refine mis_t (hp_by h_a1 _) ?_
      refine mcl_v (t_By_byteAt hn0 _ a1 ((x9 - x7) - x6) hG h_a1) (fun v27 Sc3 zSc3 => ?_)
      subst zSc3
      have nv27 := nt_b v27
      exact t_Li_undoRow_B135 hn0 hK27 _ a1 x2 x3 x4 x5 x6 x7 x8 x9 x12 p0 v27 hG h_a1 (by omega) (by omega)
set_option maxHeartbeats 2000000 in
theorem t_Li_undoRow_B87 {F B : mP} {n0 : Nat} (hn0 : big n0) {M : Nat} {K27 : mH → Nat → Int32 → Int32 → Int32 → Int32 → Int32 → Int32 → Int32 → Option (Unit × mH)} (hK27 : ∀ (S : mS) (a1 : Nat) (x2 : Int32) (x3 : Int32) (x4 : Int32) (x5 : Int32) (x6 : Int32) (x7 : Int32) (x8 : Int32), G F B S → isBy a1 → (x5.toInt - x8.toInt).toNat < M → tot (K27 (hp S) a1 x2 x3 x4 x5 x6 x7 x8) (fun r S => G F B S)) (S : mS) (a1 : Nat) (x2 : Int32) (x3 : Int32) (x4 : Int32) (x5 : Int32) (x6 : Int32) (x7 : Int32) (x8 : Int32) (x9 : Int32) (x10 : Int32) (x11 : Int32) (p0 : Int32) (hG : G F B S) (h_a1 : isBy a1) (q0 : x8.toInt < x5.toInt) (q1 : (x5.toInt - (x8.toInt + 1)).toNat < M) : tot (f_Li_undoRow_B87 K27 n0 (hp S) a1 x2 x3 x4 x5 x6 x7 x8 x9 x10 x11 p0) (fun r S => G F B S) := by
  unfold f_Li_undoRow_B87
  have L0 : (0 : Int32).toInt = 0 := rfl
  have L1 : (1 : Int32).toInt = 1 := rfl
  have nx2 := nt_b x2
  have nx3 := nt_b x3
  have nx4 := nt_b x4
  have nx5 := nt_b x5
  have nx6 := nt_b x6
  have nx7 := nt_b x7
  have nx8 := nt_b x8
  have nx9 := nt_b x9
  have nx10 := nt_b x10
  have nx11 := nt_b x11
  have np0 := nt_b p0
  refine ieq_t (fun c1 => ?_) (fun c1 => ?_)
  · have tc1 := congrArg Int32.toInt c1
    exact t_Li_undoRow_B107 hn0 hK27 _ a1 x2 x3 x4 x5 x6 x7 x8 x9 x10 x11 p0 0 hG h_a1 (by omega) (by omega)
  · refine mis_t (hp_by h_a1 _) ?_
    refine mcl_v (t_By_byteAt hn0 _ a1 (x9 - x7) hG h_a1) (fun v30 Sc2 zSc2 => ?_)
    subst zSc2
    have nv30 := nt_b v30
    exact t_Li_undoRow_B107 hn0 hK27 _ a1 x2 x3 x4 x5 x6 x7 x8 x9 x10 x11 p0 v30 hG h_a1 (by omega) (by omega)
set_option maxHeartbeats 2000000 in
theorem t_Li_undoRow_B67 {F B : mP} {n0 : Nat} (hn0 : big n0) {M : Nat} {K27 : mH → Nat → Int32 → Int32 → Int32 → Int32 → Int32 → Int32 → Int32 → Option (Unit × mH)} (hK27 : ∀ (S : mS) (a1 : Nat) (x2 : Int32) (x3 : Int32) (x4 : Int32) (x5 : Int32) (x6 : Int32) (x7 : Int32) (x8 : Int32), G F B S → isBy a1 → (x5.toInt - x8.toInt).toNat < M → tot (K27 (hp S) a1 x2 x3 x4 x5 x6 x7 x8) (fun r S => G F B S)) (S : mS) (a1 : Nat) (x2 : Int32) (x3 : Int32) (x4 : Int32) (x5 : Int32) (x6 : Int32) (x7 : Int32) (x8 : Int32) (x9 : Int32) (x10 : Int32) (p0 : Int32) (hG : G F B S) (h_a1 : isBy a1) (q0 : x8.toInt < x5.toInt) (q1 : (x5.toInt - (x8.toInt + 1)).toNat < M) : tot (f_Li_undoRow_B67 K27 n0 (hp S) a1 x2 x3 x4 x5 x6 x7 x8 x9 x10 p0) (fun r S => G F B S) := by
  unfold f_Li_undoRow_B67
  have L0 : (0 : Int32).toInt = 0 := rfl
  have L1 : (1 : Int32).toInt = 1 := rfl
  have nx2 := nt_b x2
  have nx3 := nt_b x3
  have nx4 := nt_b x4
  have nx5 := nt_b x5
  have nx6 := nt_b x6
  have nx7 := nt_b x7
  have nx8 := nt_b x8
  have nx9 := nt_b x9
  have nx10 := nt_b x10
  have np0 := nt_b p0
  refine ieq_t (fun c1 => ?_) (fun c1 => ?_)
  · have tc1 := congrArg Int32.toInt c1
    exact t_Li_undoRow_B87 hn0 hK27 _ a1 x2 x3 x4 x5 x6 x7 x8 x9 x10 p0 0 hG h_a1 (by omega) (by omega)
  · refine mis_t (hp_by h_a1 _) ?_
    refine mcl_v (t_By_byteAt hn0 _ a1 (x9 - x6) hG h_a1) (fun v33 Sc2 zSc2 => ?_)
    subst zSc2
    have nv33 := nt_b v33
    exact t_Li_undoRow_B87 hn0 hK27 _ a1 x2 x3 x4 x5 x6 x7 x8 x9 x10 p0 v33 hG h_a1 (by omega) (by omega)
set_option maxHeartbeats 2000000 in
theorem t_Li_undoRow_B53 {F B : mP} {n0 : Nat} (hn0 : big n0) {M : Nat} {K27 : mH → Nat → Int32 → Int32 → Int32 → Int32 → Int32 → Int32 → Int32 → Option (Unit × mH)} (hK27 : ∀ (S : mS) (a1 : Nat) (x2 : Int32) (x3 : Int32) (x4 : Int32) (x5 : Int32) (x6 : Int32) (x7 : Int32) (x8 : Int32), G F B S → isBy a1 → (x5.toInt - x8.toInt).toNat < M → tot (K27 (hp S) a1 x2 x3 x4 x5 x6 x7 x8) (fun r S => G F B S)) (S : mS) (a1 : Nat) (x2 : Int32) (x3 : Int32) (x4 : Int32) (x5 : Int32) (x6 : Int32) (x7 : Int32) (x8 : Int32) (x9 : Int32) (p0 : Int32) (hG : G F B S) (h_a1 : isBy a1) (q0 : x8.toInt < x5.toInt) (q1 : (x5.toInt - (x8.toInt + 1)).toNat < M) : tot (f_Li_undoRow_B53 K27 n0 (hp S) a1 x2 x3 x4 x5 x6 x7 x8 x9 p0) (fun r S => G F B S) := by
  unfold f_Li_undoRow_B53
  have L0 : (0 : Int32).toInt = 0 := rfl
  have L1 : (1 : Int32).toInt = 1 := rfl
  have nx2 := nt_b x2
  have nx3 := nt_b x3
  have nx4 := nt_b x4
  have nx5 := nt_b x5
  have nx6 := nt_b x6
  have nx7 := nt_b x7
  have nx8 := nt_b x8
  have nx9 := nt_b x9
  have np0 := nt_b p0
  refine ilt_t (fun c1 => ?_) (fun c1 => ?_)
  · exact t_Li_undoRow_B67 hn0 hK27 _ a1 x2 x3 x4 x5 x6 x7 x8 x9 p0 0 hG h_a1 (by omega) (by omega)
  · exact t_Li_undoRow_B67 hn0 hK27 _ a1 x2 x3 x4 x5 x6 x7 x8 x9 p0 1 hG h_a1 (by omega) (by omega)
set_option maxHeartbeats 2000000 in
theorem t_Li_undoRow_L27 {F B : mP} {n0 : Nat} (hn0 : big n0) : ∀ (n : Nat) (S : mS) (a1 : Nat) (x2 : Int32) (x3 : Int32) (x4 : Int32) (x5 : Int32) (x6 : Int32) (x7 : Int32) (x8 : Int32), G F B S → isBy a1 → (x5.toInt - x8.toInt).toNat < n → tot (f_Li_undoRow_L27 n0 n (hp S) a1 x2 x3 x4 x5 x6 x7 x8) (fun r S => G F B S) := by
  intro n
  induction n with
  | zero =>
    intro S a1 x2 x3 x4 x5 x6 x7 x8 hG h_a1 hm
    exact absurd hm (Nat.not_lt_zero _)
  | succ n ih =>
    intro S a1 x2 x3 x4 x5 x6 x7 x8 hG h_a1 hm
    rw [f_Li_undoRow_L27.eq_2]
    have L0 : (0 : Int32).toInt = 0 := rfl
    have L1 : (1 : Int32).toInt = 1 := rfl
    have nx2 := nt_b x2
    have nx3 := nt_b x3
    have nx4 := nt_b x4
    have nx5 := nt_b x5
    have nx6 := nt_b x6
    have nx7 := nt_b x7
    have nx8 := nt_b x8
    refine ile_t (fun c1 => ?_) (fun c1 => ?_)
    · exact tot_end hG
    · refine mnm_v (fun v8 ev8 => ?_)
      have nv8 := nt_b v8
      refine ilt_t (fun c2 => ?_) (fun c2 => ?_)
      · exact t_Li_undoRow_B53 hn0 ih _ a1 x2 x3 x4 x5 x6 x7 x8 v8 0 hG h_a1 (by omega) (by omega)
      · exact t_Li_undoRow_B53 hn0 ih _ a1 x2 x3 x4 x5 x6 x7 x8 v8 1 hG h_a1 (by omega) (by omega)
set_option maxHeartbeats 2000000 in
theorem t_Li_undoRow {F B : mP} {n0 : Nat} (hn0 : big n0) (S : mS) (a0 : Nat) (a1 : Nat) (x2 : Int32) (x3 : Int32) (x4 : Int32) (x5 : Int32) (hG : G F B S) (h_a0 : isLi a0) (h_a1 : isBy a1) : tot (f_Li_undoRow n0 (hp S) a0 a1 x2 x3 x4 x5) (fun r S => G F B S) := by
  unfold f_Li_undoRow
  have L0 : (0 : Int32).toInt = 0 := rfl
  have L1 : (1 : Int32).toInt = 1 := rfl
  have L3 : (3 : Int32).toInt = 3 := rfl
  have L4 : (4 : Int32).toInt = 4 := rfl
  have L6 : (6 : Int32).toInt = 6 := rfl
  have L8 : (8 : Int32).toInt = 8 := rfl
  have nx2 := nt_b x2
  have nx3 := nt_b x3
  have nx4 := nt_b x4
  have nx5 := nt_b x5
  refine mgi_v (hp_li h_a0 _) rfl (fun v1 ev1 => ?_)
  have nv1 := nt_b v1
  refine mgi_v (hp_li h_a0 _) rfl (fun v2 ev2 => ?_)
  have nv2 := nt_b v2
  refine mnm_v (fun v3 ev3 => ?_)
  have nv3 := nt_b v3
  have iv3 := nt_if ev3
  refine mis_t (hp_li h_a0 _) ?_
  refine mcl_v (t_Li_rowSize hn0 _ a0 hG h_a0) (fun v5 Sc1 zSc1 => ?_)
  obtain ⟨hGSc1, pv5⟩ := zSc1
  have nv5 := nt_b v5
  exact t_Li_undoRow_L27 hn0 n0 _ a1 x2 x3 x4 x5 v3 v5 0 hGSc1 h_a1 (big_lt hn0 (by omega))
set_option maxHeartbeats 2000000 in
theorem t_Li_undoTags_B87 {F B : mP} {n0 : Nat} (hn0 : big n0) {M : Nat} {K13 : mH → Nat → Nat → Int32 → Int32 → Int32 → Int32 → Option (Int32 × mH)} (hK13 : ∀ (S : mS) (a0 : Nat) (a1 : Nat) (x2 : Int32) (x3 : Int32) (x4 : Int32) (x5 : Int32), G F B S → isLi a0 → isBy a1 → (x4 = 0 ∨ x4 = 1) → (1 ≤ x2.toInt ∧ x2.toInt ≤ 268435457) → (0 ≤ x3.toInt ∧ x3.toInt ≤ x5.toInt) → (x3.toInt ≤ nB a1) → (65536 - x5.toInt).toNat < M → tot (K13 (hp S) a0 a1 x2 x3 x4 x5) (fun r S => G F B S ∧ (r = 0 ∨ r = 1))) (S : mS) (a0 : Nat) (a1 : Nat) (x2 : Int32) (x3 : Int32) (x4 : Int32) (x5 : Int32) (hG : G F B S) (h_a0 : isLi a0) (h_a1 : isBy a1) (q0 : x4 = 0 ∨ x4 = 1) (q1 : 1 ≤ x2.toInt ∧ x2.toInt ≤ 268435457) (q2 : 0 ≤ x3.toInt ∧ x3.toInt ≤ x5.toInt + x2.toInt) (q3 : x3.toInt ≤ nB a1) (q4 : 0 ≤ x5.toInt ∧ x5.toInt ≤ 65536) (q5 : (65536 - (x5.toInt + x2.toInt + 1)).toNat < M) : tot (f_Li_undoTags_B87 K13 n0 (hp S) a0 a1 x2 x3 x4 x5) (fun r S => G F B S ∧ (r = 0 ∨ r = 1)) := by
  unfold f_Li_undoTags_B87
  have L1 : (1 : Int32).toInt = 1 := rfl
  have nx2 := nt_b x2
  have nx3 := nt_b x3
  have nx4 := nt_b x4
  have nx5 := nt_b x5
  refine mnm_v (fun v16 ev16 => ?_)
  have nv16 := nt_b v16
  have kz1 : (x2 + 1 : Int32).toInt = (x2 : Int32).toInt + (1 : Int32).toInt := nt_add (by omega) (by omega)
  have kz2 : (x5 + (x2 + 1) : Int32).toInt = (x5 : Int32).toInt + ((x2 + 1) : Int32).toInt := nt_add (by omega) (by omega)
  have kv16 : v16.toInt = (x5 + (x2 + 1)).toInt := by rw [ev16]
  exact hK13 _ a0 a1 x2 x3 x4 v16 hG h_a0 h_a1 q0 (by omega) (by omega) (by omega) (by omega)
set_option maxHeartbeats 2000000 in
theorem t_Li_undoTags_B46 {F B : mP} {n0 : Nat} (hn0 : big n0) {M : Nat} {K13 : mH → Nat → Nat → Int32 → Int32 → Int32 → Int32 → Option (Int32 × mH)} (hK13 : ∀ (S : mS) (a0 : Nat) (a1 : Nat) (x2 : Int32) (x3 : Int32) (x4 : Int32) (x5 : Int32), G F B S → isLi a0 → isBy a1 → (x4 = 0 ∨ x4 = 1) → (1 ≤ x2.toInt ∧ x2.toInt ≤ 268435457) → (0 ≤ x3.toInt ∧ x3.toInt ≤ x5.toInt) → (x3.toInt ≤ nB a1) → (65536 - x5.toInt).toNat < M → tot (K13 (hp S) a0 a1 x2 x3 x4 x5) (fun r S => G F B S ∧ (r = 0 ∨ r = 1))) (S : mS) (a0 : Nat) (a1 : Nat) (x2 : Int32) (x3 : Int32) (x5 : Int32) (x6 : Int32) (p0 : Int32) (hG : G F B S) (h_a0 : isLi a0) (h_a1 : isBy a1) (q0 : p0 = 0 ∨ p0 = 1) (q1 : 1 ≤ x2.toInt ∧ x2.toInt ≤ 268435457) (q2 : 0 ≤ x3.toInt ∧ x3.toInt ≤ x5.toInt) (q3 : x3.toInt ≤ nB a1) (q4 : 0 ≤ x5.toInt ∧ x5.toInt ≤ 65536) (q5 : (65536 - (x5.toInt + x2.toInt + 1)).toNat < M) (q6 : x5.toInt < (S.1 (100 * a1 + 1)).toInt) : tot (f_Li_undoTags_B46 K13 n0 (hp S) a0 a1 x2 x3 x5 x6 p0) (fun r S => G F B S ∧ (r = 0 ∨ r = 1)) := by
  unfold f_Li_undoTags_B46
  have L0 : (0 : Int32).toInt = 0 := rfl
  have L1 : (1 : Int32).toInt = 1 := rfl
  have L6 : (6 : Int32).toInt = 6 := rfl
  have nx2 := nt_b x2
  have nx3 := nt_b x3
  have nx5 := nt_b x5
  have nx6 := nt_b x6
  have np0 := nt_b p0
  refine ieq_t (fun c1 => ?_) (fun c1 => ?_)
  · have tc1 := congrArg Int32.toInt c1
    exact t_Li_undoTags_B87 hn0 hK13 _ a0 a1 x2 x3 p0 x5 hG h_a0 h_a1 (by first | assumption | exact Or.inl rfl | exact Or.inr rfl) (by omega) (by omega) (by omega) (by omega) (by omega)
  · refine mgi_v (hp_by h_a1 _) rfl (fun v17 ev17 => ?_)
    have nv17 := nt_b v17
    have bv17 := b_by h_a1 hG
    rw [← ev17] at bv17
    have cv17 := nB_lt h_a1
    rw [← ev17] at q6
    refine mnm_v (fun v18 ev18 => ?_)
    have nv18 := nt_b v18
    have kz2 : (v17 - x5 : Int32).toInt = (v17 : Int32).toInt - (x5 : Int32).toInt := nt_sub (by omega) (by omega)
    have kz3 : ((v17 - x5) - 1 : Int32).toInt = ((v17 - x5) : Int32).toInt - (1 : Int32).toInt := nt_sub (by omega) (by omega)
    have iv18 := nt_if ev18
    refine mis_t (hp_li h_a0 _) ?_
    refine mcl_v (t_Li_undoRow hn0 _ a0 a1 x6 (x5 + 1) x3 v18 hG h_a0 h_a1) (fun u5 Sc4 zSc4 => ?_)
    have hGSc4 : G F B Sc4 := zSc4
    refine mnm_v (fun v23 ev23 => ?_)
    have nv23 := nt_b v23
    have kz6 : (x3 + v18 : Int32).toInt = (x3 : Int32).toInt + (v18 : Int32).toInt := nt_add (by omega) (by omega)
    have kv23 : v23.toInt = (x3 + v18).toInt := by rw [ev23]
    exact t_Li_undoTags_B87 hn0 hK13 _ a0 a1 x2 v23 p0 x5 hGSc4 h_a0 h_a1 (by first | assumption | exact Or.inl rfl | exact Or.inr rfl) (by omega) (by omega) (by omega) (by omega) (by omega)
set_option maxHeartbeats 2000000 in
theorem t_Li_undoTags_L13 {F B : mP} {n0 : Nat} (hn0 : big n0) : ∀ (n : Nat) (S : mS) (a0 : Nat) (a1 : Nat) (x2 : Int32) (x3 : Int32) (x4 : Int32) (x5 : Int32), G F B S → isLi a0 → isBy a1 → (x4 = 0 ∨ x4 = 1) → (1 ≤ x2.toInt ∧ x2.toInt ≤ 268435457) → (0 ≤ x3.toInt ∧ x3.toInt ≤ x5.toInt) → (x3.toInt ≤ nB a1) → (65536 - x5.toInt).toNat < n → tot (f_Li_undoTags_L13 n0 n (hp S) a0 a1 x2 x3 x4 x5) (fun r S => G F B S ∧ (r = 0 ∨ r = 1)) := by
  intro n
  induction n with
  | zero =>
    intro S a0 a1 x2 x3 x4 x5 hG h_a0 h_a1 q0 q1 q2 q3 hm
    exact absurd hm (Nat.not_lt_zero _)
  | succ n ih =>
    intro S a0 a1 x2 x3 x4 x5 hG h_a0 h_a1 q0 q1 q2 q3 hm
    rw [f_Li_undoTags_L13.eq_2]
    have L0 : (0 : Int32).toInt = 0 := rfl
    have L1 : (1 : Int32).toInt = 1 := rfl
    have L4 : (4 : Int32).toInt = 4 := rfl
    have nx2 := nt_b x2
    have nx3 := nt_b x3
    have nx4 := nt_b x4
    have nx5 := nt_b x5
    refine mgi_v (hp_by h_a1 _) rfl (fun v4 ev4 => ?_)
    have nv4 := nt_b v4
    have bv4 := b_by h_a1 hG
    rw [← ev4] at bv4
    have cv4 := nB_lt h_a1
    have dv4 := congrArg Int32.toInt ev4
    refine ile_t (fun c1 => ?_) (fun c1 => ?_)
    · refine mpt_t (hp_by h_a1 _) (Nat.le_of_ble_eq_true rfl) (hs_by h_a1 _ _) ?_
      have hGS2 : G F B (uV S (100 * a1 + 1) (x3)) := g_by h_a1 hG (by omega) (by omega)
      generalize uV S (100 * a1 + 1) (x3) = S2 at hGS2 ⊢
      refine mgd_t (nt_bool (q0)) ?_
      exact tot_end ⟨hGS2, q0⟩
    · refine ieq_t (fun c3 => ?_) (fun c3 => ?_)
      · have tc3 := congrArg Int32.toInt c3
        refine mpt_t (hp_by h_a1 _) (Nat.le_of_ble_eq_true rfl) (hs_by h_a1 _ _) ?_
        have hGS4 : G F B (uV S (100 * a1 + 1) (x3)) := g_by h_a1 hG (by omega) (by omega)
        generalize uV S (100 * a1 + 1) (x3) = S4 at hGS4 ⊢
        refine mgd_t (nt_bool (q0)) ?_
        exact tot_end ⟨hGS4, q0⟩
      · refine mis_t (hp_by h_a1 _) ?_
        refine mcl_v (t_By_byteAt hn0 _ a1 x5 hG h_a1) (fun v12 Sc5 zSc5 => ?_)
        subst zSc5
        have nv12 := nt_b v12
        refine ilt_t (fun c6 => ?_) (fun c6 => ?_)
        · exact t_Li_undoTags_B46 hn0 ih _ a0 a1 x2 x3 x5 v12 0 hG h_a0 h_a1 (by first | assumption | exact Or.inl rfl | exact Or.inr rfl) (by omega) (by omega) (by omega) (by omega) (by omega) (by omega)
        · exact t_Li_undoTags_B46 hn0 ih _ a0 a1 x2 x3 x5 v12 1 hG h_a0 h_a1 (by first | assumption | exact Or.inl rfl | exact Or.inr rfl) (by omega) (by omega) (by omega) (by omega) (by omega) (by omega)
set_option maxHeartbeats 2000000 in
theorem t_Li_undoTags {F B : mP} {n0 : Nat} (hn0 : big n0) (S : mS) (a0 : Nat) (a1 : Nat) (hG : G F B S) (h_a0 : isLi a0) (h_a1 : isBy a1) : tot (f_Li_undoTags n0 (hp S) a0 a1) (fun r S => G F B S ∧ (r = 0 ∨ r = 1)) := by
  unfold f_Li_undoTags
  have L0 : (0 : Int32).toInt = 0 := rfl
  have L1 : (1 : Int32).toInt = 1 := rfl
  have L6 : (6 : Int32).toInt = 6 := rfl
  refine mis_t (hp_li h_a0 _) ?_
  refine mcl_v (t_Li_rowSize hn0 _ a0 hG h_a0) (fun v2 Sc1 zSc1 => ?_)
  obtain ⟨hGSc1, pv2⟩ := zSc1
  have nv2 := nt_b v2
  exact t_Li_undoTags_L13 hn0 n0 _ a0 a1 v2 0 1 0 hGSc1 h_a0 h_a1 (by first | assumption | exact Or.inl rfl | exact Or.inr rfl) (by omega) (by omega) (by omega) (big_lt hn0 (by omega))
set_option maxHeartbeats 2000000 in
theorem t_Li_undo_B13 {F B : mP} {n0 : Nat} (hn0 : big n0) (S : mS) (a0 : Nat) (a1 : Nat) (hG : G F B S) (h_a0 : isLi a0) (h_a1 : isBy a1) : tot (f_Li_undo_B13 n0 (hp S) a0 a1) (fun r S => G F B S ∧ (r = 0 ∨ r = 1)) := by
  unfold f_Li_undo_B13
  have L0 : (0 : Int32).toInt = 0 := rfl
  have L1 : (1 : Int32).toInt = 1 := rfl
  have L2 : (2 : Int32).toInt = 2 := rfl
  have L6 : (6 : Int32).toInt = 6 := rfl
  have L10 : (10 : Int32).toInt = 10 := rfl
  refine mgi_v (hp_li h_a0 _) rfl (fun v3 ev3 => ?_)
  have nv3 := nt_b v3
  refine ilt_t (fun c1 => ?_) (fun c1 => ?_)
  · exact tot_end ⟨hG, Or.inr rfl⟩
  · refine mis_t (hp_li h_a0 _) ?_
    refine mcl_v (t_Li_undoTags hn0 _ a0 a1 hG h_a0 h_a1) (fun v6 Sc2 zSc2 => ?_)
    obtain ⟨hGSc2, pv6⟩ := zSc2
    have nv6 := nt_b v6
    refine ieq_t (fun c3 => ?_) (fun c3 => ?_)
    · have tc3 := congrArg Int32.toInt c3
      exact tot_end ⟨hGSc2, Or.inl rfl⟩
    · exact tot_end ⟨hGSc2, Or.inr rfl⟩
set_option maxHeartbeats 2000000 in
theorem t_Li_undo {F B : mP} {n0 : Nat} (hn0 : big n0) (S : mS) (a0 : Nat) (a1 : Nat) (hG : G F B S) (h_a0 : isLi a0) (h_a1 : isBy a1) : tot (f_Li_undo n0 (hp S) a0 a1) (fun r S => G F B S ∧ (r = 0 ∨ r = 1)) := by
  unfold f_Li_undo
  have L2 : (2 : Int32).toInt = 2 := rfl
  have L6 : (6 : Int32).toInt = 6 := rfl
  refine mgi_v (hp_li h_a0 _) rfl (fun v1 ev1 => ?_)
  have nv1 := nt_b v1
  refine ieq_t (fun c1 => ?_) (fun c1 => ?_)
  · have tc1 := congrArg Int32.toInt c1
    refine mis_t (hp_li h_a0 _) ?_
    refine mcl_v (t_Li_undoNumbers hn0 _ a0 a1 hG h_a0 h_a1) (fun u3 Sc2 zSc2 => ?_)
    have hGSc2 : G F B Sc2 := zSc2
    exact t_Li_undo_B13 hn0 _ a0 a1 hGSc2 h_a0 h_a1
  · exact t_Li_undo_B13 hn0 _ a0 a1 hG h_a0 h_a1
set_option maxHeartbeats 2000000 in
theorem t_SF_noteFault {F B : mP} {n0 : Nat} (hn0 : big n0) (S : mS) (x1 : Int32) (x2 : Int32) (x3 : Int32) (hG : G F B S)  : tot (f_SF_noteFault n0 (hp S) 0 x1 x2 x3) (fun r S => G F B S) := by
  unfold f_SF_noteFault
  have L0 : (0 : Int32).toInt = 0 := rfl
  have L14 : (14 : Int32).toInt = 14 := rfl
  have L15 : (15 : Int32).toInt = 15 := rfl
  have L16 : (16 : Int32).toInt = 16 := rfl
  have nx1 := nt_b x1
  have nx2 := nt_b x2
  have nx3 := nt_b x3
  refine mpt_t (hp_0 _) (Nat.le_of_ble_eq_true rfl) (hs_0_14 _ _) ?_
  have hGS1 : G F B (uV S 14 (x1)) := g_14 hG
  refine mpt_t (hp_0 _) (Nat.le_of_ble_eq_true rfl) (hs_0_15 _ _) ?_
  have hGS2 : G F B (uV (uV S 14 (x1)) 15 (x2)) := g_15 hGS1
  refine mpt_t (hp_0 _) (Nat.le_of_ble_eq_true rfl) (hs_0_16 _ _) ?_
  have hGS3 : G F B (uV (uV (uV S 14 (x1)) 15 (x2)) 16 (x3)) := g_16 hGS2
  exact tot_end hGS3
set_option maxHeartbeats 2000000 in
theorem t_Li_begin {F B : mP} {n0 : Nat} (hn0 : big n0) (S : mS) (a0 : Nat) (x1 : Int32) (x2 : Int32) (hG : G F B S) (h_a0 : isLi a0) : tot (f_Li_begin n0 (hp S) a0 x1 x2) (fun r S => G F B S) := by
  unfold f_Li_begin
  have L0 : (0 : Int32).toInt = 0 := rfl
  have L1 : (1 : Int32).toInt = 1 := rfl
  have L2 : (2 : Int32).toInt = 2 := rfl
  have L6 : (6 : Int32).toInt = 6 := rfl
  have nx1 := nt_b x1
  have nx2 := nt_b x2
  refine mpt_t (hp_li h_a0 _) (Nat.le_of_ble_eq_true rfl) (hs_li_0 h_a0 _ _) ?_
  have hGS1 : G F B (uV S (100 * a0 + 0) (x1)) := g_li h_a0 (by decide) hG
  generalize uV S (100 * a0 + 0) (x1) = S1 at hGS1 ⊢
  refine mpt_t (hp_li h_a0 _) (Nat.le_of_ble_eq_true rfl) (hs_li_1 h_a0 _ _) ?_
  have hGS2 : G F B (uV S1 (100 * a0 + 1) (x2)) := g_li h_a0 (by decide) hGS1
  generalize uV S1 (100 * a0 + 1) (x2) = S2 at hGS2 ⊢
  refine mpt_t (hp_li h_a0 _) (Nat.le_of_ble_eq_true rfl) (hs_li_2 h_a0 _ _) ?_
  have hGS3 : G F B (uV S2 (100 * a0 + 2) (1)) := g_li h_a0 (by decide) hGS2
  generalize uV S2 (100 * a0 + 2) (1) = S3 at hGS3 ⊢
  exact tot_end hGS3
set_option maxHeartbeats 2000000 in
theorem t_Li_shape {F B : mP} {n0 : Nat} (hn0 : big n0) (S : mS) (a0 : Nat) (x1 : Int32) (x2 : Int32) (x3 : Int32) (x4 : Int32) (hG : G F B S) (h_a0 : isLi a0) : tot (f_Li_shape n0 (hp S) a0 x1 x2 x3 x4) (fun r S => G F B S) := by
  unfold f_Li_shape
  have L2 : (2 : Int32).toInt = 2 := rfl
  have L3 : (3 : Int32).toInt = 3 := rfl
  have L4 : (4 : Int32).toInt = 4 := rfl
  have L5 : (5 : Int32).toInt = 5 := rfl
  have L6 : (6 : Int32).toInt = 6 := rfl
  have nx1 := nt_b x1
  have nx2 := nt_b x2
  have nx3 := nt_b x3
  have nx4 := nt_b x4
  refine mpt_t (hp_li h_a0 _) (Nat.le_of_ble_eq_true rfl) (hs_li_2 h_a0 _ _) ?_
  have hGS1 : G F B (uV S (100 * a0 + 2) (x1)) := g_li h_a0 (by decide) hG
  generalize uV S (100 * a0 + 2) (x1) = S1 at hGS1 ⊢
  refine mpt_t (hp_li h_a0 _) (Nat.le_of_ble_eq_true rfl) (hs_li_3 h_a0 _ _) ?_
  have hGS2 : G F B (uV S1 (100 * a0 + 3) (x2)) := g_li h_a0 (by decide) hGS1
  generalize uV S1 (100 * a0 + 3) (x2) = S2 at hGS2 ⊢
  refine mpt_t (hp_li h_a0 _) (Nat.le_of_ble_eq_true rfl) (hs_li_4 h_a0 _ _) ?_
  have hGS3 : G F B (uV S2 (100 * a0 + 4) (x3)) := g_li h_a0 (by decide) hGS2
  generalize uV S2 (100 * a0 + 4) (x3) = S3 at hGS3 ⊢
  refine mpt_t (hp_li h_a0 _) (Nat.le_of_ble_eq_true rfl) (hs_li_5 h_a0 _ _) ?_
  have hGS4 : G F B (uV S3 (100 * a0 + 5) (x4)) := g_li h_a0 (by decide) hGS3
  generalize uV S3 (100 * a0 + 5) (x4) = S4 at hGS4 ⊢
  exact tot_end hGS4
