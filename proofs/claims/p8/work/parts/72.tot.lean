set_option maxHeartbeats 2000000 in
theorem t_Mo_isIn {F B : mP} {n0 : Nat} (hn0 : big n0) (S : mS) (x0 : Int32) (x1 : Int32) (x2 : Int32) (hG : G F B S)  : tot (f_Mo_isIn n0 (hp S) x0 x1 x2) (fun r S' => S = S' ∧ ((r.toInt = 1 ∧ x1.toInt ≤ x0.toInt ∧ x0.toInt ≤ x2.toInt) ∨ (r.toInt = 0 ∧ (x0.toInt < x1.toInt ∨ x2.toInt < x0.toInt)))) := by
  unfold f_Mo_isIn
  have L0 : (0 : Int32).toInt = 0 := rfl
  have L1 : (1 : Int32).toInt = 1 := rfl
  have nx0 := nt_b x0
  have nx1 := nt_b x1
  have nx2 := nt_b x2
  refine ilt_t (fun c1 => ?_) (fun c1 => ?_)
  · exact tot_end ⟨rfl, by omega⟩
  · refine ilt_t (fun c2 => ?_) (fun c2 => ?_)
    · exact tot_end ⟨rfl, by omega⟩
    · exact tot_end ⟨rfl, by omega⟩
set_option maxHeartbeats 2000000 in
theorem t_Mo_isWhite {F B : mP} {n0 : Nat} (hn0 : big n0) (S : mS) (x0 : Int32) (hG : G F B S)  : tot (f_Mo_isWhite n0 (hp S) x0) (fun r S' => S = S') := by
  unfold f_Mo_isWhite
  have L0 : (0 : Int32).toInt = 0 := rfl
  have L1 : (1 : Int32).toInt = 1 := rfl
  have L9 : (9 : Int32).toInt = 9 := rfl
  have L10 : (10 : Int32).toInt = 10 := rfl
  have L12 : (12 : Int32).toInt = 12 := rfl
  have L13 : (13 : Int32).toInt = 13 := rfl
  have L32 : (32 : Int32).toInt = 32 := rfl
  have nx0 := nt_b x0
  refine ieq_t (fun c1 => ?_) (fun c1 => ?_)
  · have tc1 := congrArg Int32.toInt c1
    exact tot_end rfl
  · refine ieq_t (fun c2 => ?_) (fun c2 => ?_)
    · have tc2 := congrArg Int32.toInt c2
      exact tot_end rfl
    · refine ieq_t (fun c3 => ?_) (fun c3 => ?_)
      · have tc3 := congrArg Int32.toInt c3
        exact tot_end rfl
      · refine ieq_t (fun c4 => ?_) (fun c4 => ?_)
        · have tc4 := congrArg Int32.toInt c4
          exact tot_end rfl
        · refine ieq_t (fun c5 => ?_) (fun c5 => ?_)
          · have tc5 := congrArg Int32.toInt c5
            exact tot_end rfl
          · refine ieq_t (fun c6 => ?_) (fun c6 => ?_)
            · have tc6 := congrArg Int32.toInt c6
              exact tot_end rfl
            · exact tot_end rfl
set_option maxHeartbeats 2000000 in
theorem t_Mo_digit {F B : mP} {n0 : Nat} (hn0 : big n0) (S : mS) (x0 : Int32) (hG : G F B S)  : tot (f_Mo_digit n0 (hp S) x0) (fun r S' => S = S') := by
  unfold f_Mo_digit
  have Lm1 : (-1 : Int32).toInt = -1 := rfl
  have L0 : (0 : Int32).toInt = 0 := rfl
  have L48 : (48 : Int32).toInt = 48 := rfl
  have L55 : (55 : Int32).toInt = 55 := rfl
  have L57 : (57 : Int32).toInt = 57 := rfl
  have L65 : (65 : Int32).toInt = 65 := rfl
  have L70 : (70 : Int32).toInt = 70 := rfl
  have L87 : (87 : Int32).toInt = 87 := rfl
  have L97 : (97 : Int32).toInt = 97 := rfl
  have L102 : (102 : Int32).toInt = 102 := rfl
  have nx0 := nt_b x0
  refine mcl_v (t_Mo_isIn hn0 _ x0 48 57 hG) (fun v2 Sc1 zSc1 => ?_)
  obtain ⟨eSc1, pv2⟩ := zSc1
  subst eSc1
  have nv2 := nt_b v2
  refine ieq_t (fun c2 => ?_) (fun c2 => ?_)
  · have tc2 := congrArg Int32.toInt c2
    refine mcl_v (t_Mo_isIn hn0 _ x0 65 70 hG) (fun v6 Sc3 zSc3 => ?_)
    obtain ⟨eSc3, pv6⟩ := zSc3
    subst eSc3
    have nv6 := nt_b v6
    refine ieq_t (fun c4 => ?_) (fun c4 => ?_)
    · have tc4 := congrArg Int32.toInt c4
      refine mcl_v (t_Mo_isIn hn0 _ x0 97 102 hG) (fun v10 Sc5 zSc5 => ?_)
      obtain ⟨eSc5, pv10⟩ := zSc5
      subst eSc5
      have nv10 := nt_b v10
      refine ieq_t (fun c6 => ?_) (fun c6 => ?_)
      · have tc6 := congrArg Int32.toInt c6
        exact tot_end rfl
      · exact tot_end rfl
    · exact tot_end rfl
  · exact tot_end rfl
set_option maxHeartbeats 2000000 in
theorem t_Mo_number_L4 {F B : mP} {n0 : Nat} (hn0 : big n0) : ∀ (n : Nat) (S : mS) (x1 : Int32) (x2 : Int32) (x3 : Int32), G F B S → Hm S → (0 ≤ x3.toInt ∧ x3.toInt ≤ x1.toInt ∧ x1.toInt ≤ 13) → (0 ≤ x2.toInt ∧ x2.toInt < 2 ^ x3.toInt.toNat) → (x1.toInt - x3.toInt).toNat < n → tot (f_Mo_number_L4 n0 n (hp S) 50 x1 x2 x3) (fun r S' => QQ F B (0) S S' ∧ (0 ≤ r.toInt ∧ r.toInt < 2 ^ x1.toInt.toNat)) := by
  intro n
  induction n with
  | zero =>
    intro S x1 x2 x3 hG hH q0 q1 hm
    exact absurd hm (Nat.not_lt_zero _)
  | succ n ih =>
    intro S x1 x2 x3 hG hH q0 q1 hm
    rw [f_Mo_number_L4.eq_2]
    have L0 : (0 : Int32).toInt = 0 := rfl
    have L1 : (1 : Int32).toInt = 1 := rfl
    have L10 : (10 : Int32).toInt = 10 := rfl
    have L31 : (31 : Int32).toInt = 31 := rfl
    have nx1 := nt_b x1
    have nx2 := nt_b x2
    have nx3 := nt_b x3
    have hR0 := Rm_refl S
    have zS0 := mz_le hG
    refine ile_t (fun c1 => ?_) (fun c1 => ?_)
    · exact tot_end ⟨(QQ_fin hG hH hR0 (by omega)), ⟨q1.1, Int.lt_of_lt_of_le q1.2 (pw_mono (by omega))⟩⟩
    · refine mis_t (hp_50 _) ?_
      refine mcl_v (t_Mo_isGood _) (fun v3 Sc2 zSc2 => ?_)
      obtain ⟨eSc2, pv3⟩ := zSc2
      subst eSc2
      have nv3 := nt_b v3
      refine ieq_t (fun c3 => ?_) (fun c3 => ?_)
      · have tc3 := congrArg Int32.toInt c3
        exact tot_end ⟨(QQ_fin hG hH hR0 (by omega)), ⟨q1.1, Int.lt_of_lt_of_le q1.2 (pw_mono (by omega))⟩⟩
      · refine mis_t (hp_50 _) ?_
        refine mcl_v (t_Mo_bit _ hG hH) (fun v7 Sc4 zSc4 => ?_)
        obtain ⟨⟨hGSc4, hHSc4, rRSc4⟩, pv7⟩ := zSc4
        have hRSc4 := Rm_trans hR0 rRSc4
        have zzSc4 := Rm_mz hGSc4 hHSc4 rRSc4 (by omega)
        have ggSc4 := rRSc4.1
        have nv7 := nt_b v7
        refine mnm_v (fun v9 ev9 => ?_)
        have nv9 := nt_b v9
        have sv9 := lb_step (b := v7) (by omega) (by omega) q1 pv7.1
        rw [← ev9] at sv9
        refine mnm_v (fun v10 ev10 => ?_)
        have nv10 := nt_b v10
        have kv10 : v10.toInt = x3.toInt + 1 := by rw [ev10]; exact nt_inc (by omega)
        have tv10 : v10.toInt.toNat = x3.toInt.toNat + 1 := by omega
        rw [← tv10] at sv9
        exact tot_mono (ih _ x1 v9 v10 hGSc4 hHSc4 (by omega) sv9 (by omega)) (fun r S' z => ⟨QQ_tq hRSc4 (by omega) z.1, z.2⟩)
set_option maxHeartbeats 2000000 in
theorem t_Mo_number {F B : mP} {n0 : Nat} (hn0 : big n0) (S : mS) (x1 : Int32) (hG : G F B S) (hH : Hm S) (q0 : 0 ≤ x1.toInt ∧ x1.toInt ≤ 13) : tot (f_Mo_number n0 (hp S) 50 x1) (fun r S' => QQ F B (0) S S' ∧ (0 ≤ r.toInt ∧ r.toInt < 2 ^ x1.toInt.toNat)) := by
  unfold f_Mo_number
  have L0 : (0 : Int32).toInt = 0 := rfl
  have nx1 := nt_b x1
  have hR0 := Rm_refl S
  have zS0 := mz_le hG
  exact tot_mono (t_Mo_number_L4 hn0 n0 _ x1 0 0 hG hH (by omega) ⟨by omega, by rw [L0]; decide⟩ (big_lt hn0 (by omega))) (fun r S' z => ⟨QQ_tq hR0 (by omega) z.1, z.2⟩)
set_option maxHeartbeats 2000000 in
theorem t_Mo_makeCodes_L19 {F B : mP} {n0 : Nat} (hn0 : big n0) {M : Nat} {K5 : mH → Nat → Int32 → Int32 → Int32 → Int32 → Option (Unit × mH)} (hK5 : ∀ (S : mS) (x1 : Int32) (x2 : Int32) (x3 : Int32) (x4 : Int32), G F B S → Hm S → (0 ≤ x1.toInt) → (0 ≤ x2.toInt) → (x1.toInt + x2.toInt ≤ 339) → (1 ≤ x4.toInt) → (16 - x4.toInt).toNat < M → tot (K5 (hp S) 50 x1 x2 x3 x4) (fun r S' => QQ F B (0) S S')) : ∀ (n : Nat) (S : mS) (x1 : Int32) (x2 : Int32) (x3 : Int32) (x4 : Int32) (x5 : Int32), G F B S → Hm S → (0 ≤ x1.toInt) → (0 ≤ x2.toInt) → (x1.toInt + x2.toInt ≤ 339) → (1 ≤ x4.toInt ∧ x4.toInt ≤ 15) → ((16 - (x4.toInt + 1)).toNat < M) → (x1.toInt ≤ x5.toInt) → (x1.toInt + x2.toInt - x5.toInt).toNat < n → tot (f_Mo_makeCodes_L19 K5 n0 n (hp S) 50 x1 x2 x3 x4 x5) (fun r S' => QQ F B (0) S S') := by
  intro n
  induction n with
  | zero =>
    intro S x1 x2 x3 x4 x5 hG hH q0 q1 q2 q3 q4 q5 hm
    exact absurd hm (Nat.not_lt_zero _)
  | succ n ih =>
    intro S x1 x2 x3 x4 x5 hG hH q0 q1 q2 q3 q4 q5 hm
    rw [f_Mo_makeCodes_L19.eq_2]
    have L0 : (0 : Int32).toInt = 0 := rfl
    have L1 : (1 : Int32).toInt = 1 := rfl
    have L10 : (10 : Int32).toInt = 10 := rfl
    have L20 : (20 : Int32).toInt = 20 := rfl
    have L21 : (21 : Int32).toInt = 21 := rfl
    have nx1 := nt_b x1
    have nx2 := nt_b x2
    have nx3 := nt_b x3
    have nx4 := nt_b x4
    have nx5 := nt_b x5
    have hR0 := Rm_refl S
    have zS0 := mz_le hG
    have kz2 : (x1 + x2 : Int32).toInt = (x1 : Int32).toInt + (x2 : Int32).toInt := nt_add (by omega) (by omega)
    refine ile_t (fun c1 => ?_) (fun c1 => ?_)
    · refine mnm_v (fun v4 ev4 => ?_)
      have nv4 := nt_b v4
      have kv4 : v4.toInt = x4.toInt + 1 := by rw [ev4]; exact nt_inc (by omega)
      exact tot_mono (hK5 _ x1 x2 x3 v4 hG hH (by omega) (by omega) (by omega) (by omega) (by omega)) (fun r S' z => QQ_tq hR0 (by omega) z)
    · refine mgr_t (v := 60) (hp_50 _) rfl ?_
      refine mai_v (hp_60 _) (nt_in (by omega) (by omega)) (fun v6 ev6 => ?_)
      have nv6 := nt_b v6
      refine ieq_t (fun c3 => ?_) (fun c3 => ?_)
      · have tc3 := congrArg Int32.toInt c3
        refine mgr_t (v := 61) (hp_50 _) rfl ?_
        refine mas_t (hp_61 _) (nt_in (by omega) (by omega)) (ha_61 _ _) ?_
        have hGS4 : G F B (uA S 61 (upd (S.2.1 61) (x5).toNatClampNeg x3)) := G_Ai hG (nb (by decide)) (by decide)
        have hHS4 : Hm (uA S 61 (upd (S.2.1 61) (x5).toNatClampNeg x3)) := hH
        have hRS4 : Rm _ S (uA S 61 (upd (S.2.1 61) (x5).toNatClampNeg x3)) := hR0
        have zzS4 : mz (uA S 61 (upd (S.2.1 61) (x5).toNatClampNeg x3)) = mz S := rfl
        generalize uA S 61 (upd (S.2.1 61) (x5).toNatClampNeg x3) = S4 at hGS4 hHS4 hRS4 zzS4  ⊢
        refine mnm_v (fun v11 ev11 => ?_)
        have nv11 := nt_b v11
        refine mnm_v (fun v12 ev12 => ?_)
        have nv12 := nt_b v12
        have kv12 : v12.toInt = x5.toInt + 1 := by rw [ev12]; exact nt_inc (by omega)
        exact tot_mono (ih _ x1 x2 v11 x4 v12 hGS4 hHS4 (by omega) (by omega) (by omega) (by omega) (by omega) (by omega) (by omega)) (fun r S' z => QQ_tq hRS4 (by omega) z)
      · refine mnm_v (fun v8 ev8 => ?_)
        have nv8 := nt_b v8
        have kv8 : v8.toInt = x5.toInt + 1 := by rw [ev8]; exact nt_inc (by omega)
        exact tot_mono (ih _ x1 x2 x3 x4 v8 hG hH (by omega) (by omega) (by omega) (by omega) (by omega) (by omega) (by omega)) (fun r S' z => QQ_tq hR0 (by omega) z)
set_option maxHeartbeats 2000000 in
theorem t_Mo_makeCodes_L5 {F B : mP} {n0 : Nat} (hn0 : big n0) : ∀ (n : Nat) (S : mS) (x1 : Int32) (x2 : Int32) (x3 : Int32) (x4 : Int32), G F B S → Hm S → (0 ≤ x1.toInt) → (0 ≤ x2.toInt) → (x1.toInt + x2.toInt ≤ 339) → (1 ≤ x4.toInt) → (16 - x4.toInt).toNat < n → tot (f_Mo_makeCodes_L5 n0 n (hp S) 50 x1 x2 x3 x4) (fun r S' => QQ F B (0) S S') := by
  intro n
  induction n with
  | zero =>
    intro S x1 x2 x3 x4 hG hH q0 q1 q2 q3 hm
    exact absurd hm (Nat.not_lt_zero _)
  | succ n ih =>
    intro S x1 x2 x3 x4 hG hH q0 q1 q2 q3 hm
    rw [f_Mo_makeCodes_L5.eq_2]
    have L0 : (0 : Int32).toInt = 0 := rfl
    have L1 : (1 : Int32).toInt = 1 := rfl
    have L16 : (16 : Int32).toInt = 16 := rfl
    have L31 : (31 : Int32).toInt = 31 := rfl
    have nx1 := nt_b x1
    have nx2 := nt_b x2
    have nx3 := nt_b x3
    have nx4 := nt_b x4
    have hR0 := Rm_refl S
    have zS0 := mz_le hG
    refine ile_t (fun c1 => ?_) (fun c1 => ?_)
    · exact tot_end (QQ_fin hG hH hR0 (by omega))
    · refine mnm_v (fun v2 ev2 => ?_)
      have nv2 := nt_b v2
      exact tot_mono (t_Mo_makeCodes_L19 hn0 ih n0 _ x1 x2 v2 x4 x1 hG hH (by omega) (by omega) (by omega) (by omega) (by omega) (by omega) (big_lt hn0 (by omega))) (fun r S' z => QQ_tq hR0 (by omega) z)
set_option maxHeartbeats 2000000 in
theorem t_Mo_makeCodes {F B : mP} {n0 : Nat} (hn0 : big n0) (S : mS) (x1 : Int32) (x2 : Int32) (hG : G F B S) (hH : Hm S) (q0 : 0 ≤ x1.toInt) (q1 : 0 ≤ x2.toInt) (q2 : x1.toInt + x2.toInt ≤ 339) : tot (f_Mo_makeCodes n0 (hp S) 50 x1 x2) (fun r S' => QQ F B (0) S S') := by
  unfold f_Mo_makeCodes
  have L0 : (0 : Int32).toInt = 0 := rfl
  have L1 : (1 : Int32).toInt = 1 := rfl
  have nx1 := nt_b x1
  have nx2 := nt_b x2
  have hR0 := Rm_refl S
  have zS0 := mz_le hG
  exact tot_mono (t_Mo_makeCodes_L5 hn0 n0 _ x1 x2 0 1 hG hH (by omega) (by omega) (by omega) (by omega) (big_lt hn0 (by omega))) (fun r S' z => QQ_tq hR0 (by omega) z)
set_option maxHeartbeats 2000000 in
theorem t_Mo_isWhole_B118 {F B : mP} {n0 : Nat} (hn0 : big n0) (S : mS) (x3 : Int32) (x5 : Int32) (hG : G F B S)  : tot (f_Mo_isWhole_B118 n0 (hp S) x3 x5) (fun r S' => S = S') := by
  unfold f_Mo_isWhole_B118
  have L0 : (0 : Int32).toInt = 0 := rfl
  have L1 : (1 : Int32).toInt = 1 := rfl
  have nx3 := nt_b x3
  have nx5 := nt_b x5
  refine ieq_t (fun c1 => ?_) (fun c1 => ?_)
  · have tc1 := congrArg Int32.toInt c1
    refine ieq_t (fun c2 => ?_) (fun c2 => ?_)
    · have tc2 := congrArg Int32.toInt c2
      exact tot_end rfl
    · exact tot_end rfl
  · exact tot_end rfl
set_option maxHeartbeats 2000000 in
theorem t_Mo_isWhole_B69 {F B : mP} {n0 : Nat} (hn0 : big n0) {M : Nat} {K12 : mH → Nat → Int32 → Int32 → Int32 → Int32 → Int32 → Int32 → Int32 → Option (Int32 × mH)} (hK12 : ∀ (S : mS) (x1 : Int32) (x2 : Int32) (x3 : Int32) (x4 : Int32) (x5 : Int32) (x6 : Int32) (x7 : Int32), G F B S → (0 ≤ x1.toInt) → (0 ≤ x2.toInt) → (x1.toInt + x2.toInt ≤ 339) → (x1.toInt ≤ x7.toInt) → (x1.toInt + x2.toInt - x7.toInt).toNat < M → tot (K12 (hp S) 50 x1 x2 x3 x4 x5 x6 x7) (fun r S' => S = S')) (S : mS) (x1 : Int32) (x2 : Int32) (x3 : Int32) (x4 : Int32) (x6 : Int32) (x7 : Int32) (p0 : Int32) (hG : G F B S) (q0 : 0 ≤ x1.toInt) (q1 : 0 ≤ x2.toInt) (q2 : x1.toInt + x2.toInt ≤ 339) (q3 : x1.toInt ≤ x7.toInt) (q4 : x7.toInt < x1.toInt + x2.toInt) (q5 : (x1.toInt + x2.toInt - (x7.toInt + 1)).toNat < M) : tot (f_Mo_isWhole_B69 K12 n0 (hp S) 50 x1 x2 x3 x4 x6 x7 p0) (fun r S' => S = S') := by
  unfold f_Mo_isWhole_B69
  have L1 : (1 : Int32).toInt = 1 := rfl
  have L10 : (10 : Int32).toInt = 10 := rfl
  have L20 : (20 : Int32).toInt = 20 := rfl
  have nx1 := nt_b x1
  have nx2 := nt_b x2
  have nx3 := nt_b x3
  have nx4 := nt_b x4
  have nx6 := nt_b x6
  have nx7 := nt_b x7
  have np0 := nt_b p0
  refine mgr_t (v := 60) (hp_50 _) rfl ?_
  refine mai_v (hp_60 _) (nt_in (by omega) (by omega)) (fun v14 ev14 => ?_)
  have nv14 := nt_b v14
  refine ieq_t (fun c1 => ?_) (fun c1 => ?_)
  · have tc1 := congrArg Int32.toInt c1
    refine mnm_v (fun v17 ev17 => ?_)
    have nv17 := nt_b v17
    refine mnm_v (fun v18 ev18 => ?_)
    have nv18 := nt_b v18
    have kv18 : v18.toInt = x7.toInt + 1 := by rw [ev18]; exact nt_inc (by omega)
    exact hK12 _ x1 x2 x3 x4 p0 v17 v18 hG (by omega) (by omega) (by omega) (by omega) (by omega)
  · refine mnm_v (fun v16 ev16 => ?_)
    have nv16 := nt_b v16
    have kv16 : v16.toInt = x7.toInt + 1 := by rw [ev16]; exact nt_inc (by omega)
    exact hK12 _ x1 x2 x3 x4 p0 x6 v16 hG (by omega) (by omega) (by omega) (by omega) (by omega)
set_option maxHeartbeats 2000000 in
theorem t_Mo_isWhole_B48 {F B : mP} {n0 : Nat} (hn0 : big n0) {M : Nat} {K12 : mH → Nat → Int32 → Int32 → Int32 → Int32 → Int32 → Int32 → Int32 → Option (Int32 × mH)} (hK12 : ∀ (S : mS) (x1 : Int32) (x2 : Int32) (x3 : Int32) (x4 : Int32) (x5 : Int32) (x6 : Int32) (x7 : Int32), G F B S → (0 ≤ x1.toInt) → (0 ≤ x2.toInt) → (x1.toInt + x2.toInt ≤ 339) → (x1.toInt ≤ x7.toInt) → (x1.toInt + x2.toInt - x7.toInt).toNat < M → tot (K12 (hp S) 50 x1 x2 x3 x4 x5 x6 x7) (fun r S' => S = S')) (S : mS) (x1 : Int32) (x2 : Int32) (x3 : Int32) (x5 : Int32) (x6 : Int32) (x7 : Int32) (p0 : Int32) (hG : G F B S) (q0 : 0 ≤ x1.toInt) (q1 : 0 ≤ x2.toInt) (q2 : x1.toInt + x2.toInt ≤ 339) (q3 : x1.toInt ≤ x7.toInt) (q4 : x7.toInt < x1.toInt + x2.toInt) (q5 : (x1.toInt + x2.toInt - (x7.toInt + 1)).toNat < M) : tot (f_Mo_isWhole_B48 K12 n0 (hp S) 50 x1 x2 x3 x5 x6 x7 p0) (fun r S' => S = S') := by
  unfold f_Mo_isWhole_B48
  have L0 : (0 : Int32).toInt = 0 := rfl
  have L1 : (1 : Int32).toInt = 1 := rfl
  have L10 : (10 : Int32).toInt = 10 := rfl
  have L20 : (20 : Int32).toInt = 20 := rfl
  have nx1 := nt_b x1
  have nx2 := nt_b x2
  have nx3 := nt_b x3
  have nx5 := nt_b x5
  have nx6 := nt_b x6
  have nx7 := nt_b x7
  have np0 := nt_b p0
  refine mgr_t (v := 60) (hp_50 _) rfl ?_
  refine mai_v (hp_60 _) (nt_in (by omega) (by omega)) (fun v11 ev11 => ?_)
  have nv11 := nt_b v11
  refine ile_t (fun c1 => ?_) (fun c1 => ?_)
  · exact t_Mo_isWhole_B69 hn0 hK12 _ x1 x2 x3 p0 x6 x7 x5 hG (by omega) (by omega) (by omega) (by omega) (by omega) (by omega)
  · exact t_Mo_isWhole_B69 hn0 hK12 _ x1 x2 x3 p0 x6 x7 (x5 + 1) hG (by omega) (by omega) (by omega) (by omega) (by omega) (by omega)
set_option maxHeartbeats 2000000 in
theorem t_Mo_isWhole_L12 {F B : mP} {n0 : Nat} (hn0 : big n0) : ∀ (n : Nat) (S : mS) (x1 : Int32) (x2 : Int32) (x3 : Int32) (x4 : Int32) (x5 : Int32) (x6 : Int32) (x7 : Int32), G F B S → (0 ≤ x1.toInt) → (0 ≤ x2.toInt) → (x1.toInt + x2.toInt ≤ 339) → (x1.toInt ≤ x7.toInt) → (x1.toInt + x2.toInt - x7.toInt).toNat < n → tot (f_Mo_isWhole_L12 n0 n (hp S) 50 x1 x2 x3 x4 x5 x6 x7) (fun r S' => S = S') := by
  intro n
  induction n with
  | zero =>
    intro S x1 x2 x3 x4 x5 x6 x7 hG q0 q1 q2 q3 hm
    exact absurd hm (Nat.not_lt_zero _)
  | succ n ih =>
    intro S x1 x2 x3 x4 x5 x6 x7 hG q0 q1 q2 q3 hm
    rw [f_Mo_isWhole_L12.eq_2]
    have L0 : (0 : Int32).toInt = 0 := rfl
    have L1 : (1 : Int32).toInt = 1 := rfl
    have L10 : (10 : Int32).toInt = 10 := rfl
    have L20 : (20 : Int32).toInt = 20 := rfl
    have L31 : (31 : Int32).toInt = 31 := rfl
    have L32768 : (32768 : Int32).toInt = 32768 := rfl
    have nx1 := nt_b x1
    have nx2 := nt_b x2
    have nx3 := nt_b x3
    have nx4 := nt_b x4
    have nx5 := nt_b x5
    have nx6 := nt_b x6
    have nx7 := nt_b x7
    have kz2 : (x1 + x2 : Int32).toInt = (x1 : Int32).toInt + (x2 : Int32).toInt := nt_add (by omega) (by omega)
    refine ile_t (fun c1 => ?_) (fun c1 => ?_)
    · refine ieq_t (fun c3 => ?_) (fun c3 => ?_)
      · have tc3 := congrArg Int32.toInt c3
        exact tot_end rfl
      · refine ieq_t (fun c4 => ?_) (fun c4 => ?_)
        · have tc4 := congrArg Int32.toInt c4
          refine ieq_t (fun c5 => ?_) (fun c5 => ?_)
          · have tc5 := congrArg Int32.toInt c5
            exact tot_end rfl
          · exact t_Mo_isWhole_B118 hn0 _ x3 x5 hG
        · exact t_Mo_isWhole_B118 hn0 _ x3 x5 hG
    · refine mgr_t (v := 60) (hp_50 _) rfl ?_
      refine mai_v (hp_60 _) (nt_in (by omega) (by omega)) (fun v8 ev8 => ?_)
      have nv8 := nt_b v8
      refine ile_t (fun c6 => ?_) (fun c6 => ?_)
      · exact t_Mo_isWhole_B48 hn0 ih _ x1 x2 x3 x5 x6 x7 x4 hG (by omega) (by omega) (by omega) (by omega) (by omega) (by omega)
      · refine mgr_t (v := 60) (hp_50 _) rfl ?_
        refine mai_v (hp_60 _) (nt_in (by omega) (by omega)) (fun v20 ev20 => ?_)
        have nv20 := nt_b v20
        exact t_Mo_isWhole_B48 hn0 ih _ x1 x2 x3 x5 x6 x7 (x4 + (32768 >>> (v20 &&& 31))) hG (by omega) (by omega) (by omega) (by omega) (by omega) (by omega)
set_option maxHeartbeats 2000000 in
theorem t_Mo_isWhole {F B : mP} {n0 : Nat} (hn0 : big n0) (S : mS) (x1 : Int32) (x2 : Int32) (x3 : Int32) (hG : G F B S) (q0 : 0 ≤ x1.toInt) (q1 : 0 ≤ x2.toInt) (q2 : x1.toInt + x2.toInt ≤ 339) : tot (f_Mo_isWhole n0 (hp S) 50 x1 x2 x3) (fun r S' => S = S') := by
  unfold f_Mo_isWhole
  have L0 : (0 : Int32).toInt = 0 := rfl
  have nx1 := nt_b x1
  have nx2 := nt_b x2
  have nx3 := nt_b x3
  exact t_Mo_isWhole_L12 hn0 n0 _ x1 x2 x3 0 0 0 x1 hG (by omega) (by omega) (by omega) (by omega) (big_lt hn0 (by omega))
set_option maxHeartbeats 2000000 in
theorem t_Mo_symbol_B98 {F B : mP} {n0 : Nat} (hn0 : big n0) {M5 : Nat} {K5 : mH → Nat → Int32 → Int32 → Int32 → Int32 → Option (Int32 × mH)} (hK5 : ∀ (S : mS) (x1 : Int32) (x2 : Int32) (x3 : Int32) (x4 : Int32), G F B S → Hm S → (0 ≤ x1.toInt) → (0 ≤ x2.toInt) → (x1.toInt + x2.toInt ≤ 339) → (0 ≤ x4.toInt ∧ x4.toInt + mz S ≤ 700000) → mz S < M5 → tot (K5 (hp S) 50 x1 x2 x3 x4) (fun r S' => QQ F B (1 - x4.toInt) S S')) {M : Nat} {K18 : mH → Nat → Int32 → Int32 → Int32 → Int32 → Int32 → Int32 → Option (Int32 × mH)} (hK18 : ∀ (S : mS) (x1 : Int32) (x2 : Int32) (x3 : Int32) (x4 : Int32) (x5 : Int32) (x6 : Int32), G F B S → Hm S → (0 ≤ x1.toInt) → (0 ≤ x2.toInt) → (x1.toInt + x2.toInt ≤ 339) → (0 ≤ x4.toInt ∧ x4.toInt + mz S ≤ 700000) → (1 ≤ mz S) → (mz S ≤ M5) → (x1.toInt ≤ x6.toInt) → (x1.toInt + x2.toInt - x6.toInt).toNat < M → tot (K18 (hp S) 50 x1 x2 x3 x4 x5 x6) (fun r S' => QQ F B (1 - x4.toInt) S S')) (S : mS) (x1 : Int32) (x2 : Int32) (x3 : Int32) (x4 : Int32) (x6 : Int32) (hG : G F B S) (hH : Hm S) (q0 : 0 ≤ x1.toInt) (q1 : 0 ≤ x2.toInt) (q2 : x1.toInt + x2.toInt ≤ 339) (q3 : 0 ≤ x4.toInt ∧ x4.toInt + mz S ≤ 700000) (q4 : 1 ≤ mz S) (q5 : mz S ≤ M5) (q6 : x1.toInt ≤ x6.toInt ∧ x6.toInt < x1.toInt + x2.toInt) (q7 : (x1.toInt + x2.toInt - (x6.toInt + 1)).toNat < M) : tot (f_Mo_symbol_B98 K5 K18 n0 (hp S) 50 x1 x2 x3 x4 x6) (fun r S' => QQ F B (1 - x4.toInt) S S') := by
  unfold f_Mo_symbol_B98
  have L1 : (1 : Int32).toInt = 1 := rfl
  have nx1 := nt_b x1
  have nx2 := nt_b x2
  have nx3 := nt_b x3
  have nx4 := nt_b x4
  have nx6 := nt_b x6
  have hR0 := Rm_refl S
  have zS0 := mz_le hG
  refine mnm_v (fun v18 ev18 => ?_)
  have nv18 := nt_b v18
  have kv18 : v18.toInt = x6.toInt + 1 := by rw [ev18]; exact nt_inc (by omega)
  exact tot_mono (hK18 _ x1 x2 x3 x4 1 v18 hG hH (by omega) (by omega) (by omega) (by omega) (by omega) (by omega) (by omega) (by omega)) (fun r S' z => QQ_tq hR0 (by omega) z)
set_option maxHeartbeats 2000000 in
theorem t_Mo_symbol_B59 {F B : mP} {n0 : Nat} (hn0 : big n0) {M5 : Nat} {K5 : mH → Nat → Int32 → Int32 → Int32 → Int32 → Option (Int32 × mH)} (hK5 : ∀ (S : mS) (x1 : Int32) (x2 : Int32) (x3 : Int32) (x4 : Int32), G F B S → Hm S → (0 ≤ x1.toInt) → (0 ≤ x2.toInt) → (x1.toInt + x2.toInt ≤ 339) → (0 ≤ x4.toInt ∧ x4.toInt + mz S ≤ 700000) → mz S < M5 → tot (K5 (hp S) 50 x1 x2 x3 x4) (fun r S' => QQ F B (1 - x4.toInt) S S')) {M : Nat} {K18 : mH → Nat → Int32 → Int32 → Int32 → Int32 → Int32 → Int32 → Option (Int32 × mH)} (hK18 : ∀ (S : mS) (x1 : Int32) (x2 : Int32) (x3 : Int32) (x4 : Int32) (x5 : Int32) (x6 : Int32), G F B S → Hm S → (0 ≤ x1.toInt) → (0 ≤ x2.toInt) → (x1.toInt + x2.toInt ≤ 339) → (0 ≤ x4.toInt ∧ x4.toInt + mz S ≤ 700000) → (1 ≤ mz S) → (mz S ≤ M5) → (x1.toInt ≤ x6.toInt) → (x1.toInt + x2.toInt - x6.toInt).toNat < M → tot (K18 (hp S) 50 x1 x2 x3 x4 x5 x6) (fun r S' => QQ F B (1 - x4.toInt) S S')) (S : mS) (x1 : Int32) (x2 : Int32) (x3 : Int32) (x4 : Int32) (x5 : Int32) (x6 : Int32) (hG : G F B S) (hH : Hm S) (q0 : 0 ≤ x1.toInt) (q1 : 0 ≤ x2.toInt) (q2 : x1.toInt + x2.toInt ≤ 339) (q3 : 0 ≤ x4.toInt ∧ x4.toInt + mz S ≤ 700000) (q4 : 1 ≤ mz S) (q5 : mz S ≤ M5) (q6 : x1.toInt ≤ x6.toInt ∧ x6.toInt < x1.toInt + x2.toInt) (q7 : (x1.toInt + x2.toInt - (x6.toInt + 1)).toNat < M) : tot (f_Mo_symbol_B59 K5 K18 n0 (hp S) 50 x1 x2 x3 x4 x5 x6) (fun r S' => QQ F B (1 - x4.toInt) S S') := by
  unfold f_Mo_symbol_B59
  have L0 : (0 : Int32).toInt = 0 := rfl
  have L1 : (1 : Int32).toInt = 1 := rfl
  have L10 : (10 : Int32).toInt = 10 := rfl
  have L20 : (20 : Int32).toInt = 20 := rfl
  have L21 : (21 : Int32).toInt = 21 := rfl
  have L31 : (31 : Int32).toInt = 31 := rfl
  have nx1 := nt_b x1
  have nx2 := nt_b x2
  have nx3 := nt_b x3
  have nx4 := nt_b x4
  have nx5 := nt_b x5
  have nx6 := nt_b x6
  have hR0 := Rm_refl S
  have zS0 := mz_le hG
  refine ieq_t (fun c1 => ?_) (fun c1 => ?_)
  · have tc1 := congrArg Int32.toInt c1
    refine mgr_t (v := 60) (hp_50 _) rfl ?_
    refine mai_v (hp_60 _) (nt_in (by omega) (by omega)) (fun v20 ev20 => ?_)
    have nv20 := nt_b v20
    refine ile_t (fun c2 => ?_) (fun c2 => ?_)
    · refine mnm_v (fun v22 ev22 => ?_)
      have nv22 := nt_b v22
      have kv22 : v22.toInt = x6.toInt + 1 := by rw [ev22]; exact nt_inc (by omega)
      exact tot_mono (hK18 _ x1 x2 x3 x4 0 v22 hG hH (by omega) (by omega) (by omega) (by omega) (by omega) (by omega) (by omega) (by omega)) (fun r S' z => QQ_tq hR0 (by omega) z)
    · refine mgr_t (v := 61) (hp_50 _) rfl ?_
      refine mai_v (hp_61 _) (nt_in (by omega) (by omega)) (fun v24 ev24 => ?_)
      have nv24 := nt_b v24
      refine mgr_t (v := 60) (hp_50 _) rfl ?_
      refine mai_v (hp_60 _) (nt_in (by omega) (by omega)) (fun v26 ev26 => ?_)
      have nv26 := nt_b v26
      refine ilq_t ?_ ?_
      · exact tot_mono (t_Mo_symbol_B98 hn0 hK5 hK18 _ x1 x2 x3 x4 x6 hG hH (by omega) (by omega) (by omega) (by omega) (by omega) (by omega) (by omega) (by omega)) (fun r S' z => QQ_tq hR0 (by omega) z)
      · refine mnm_v (fun v28 ev28 => ?_)
        have nv28 := nt_b v28
        have kv28 : v28.toInt = x6.toInt + 1 := by rw [ev28]; exact nt_inc (by omega)
        exact tot_mono (hK18 _ x1 x2 x3 x4 0 v28 hG hH (by omega) (by omega) (by omega) (by omega) (by omega) (by omega) (by omega) (by omega)) (fun r S' z => QQ_tq hR0 (by omega) z)
  · exact tot_mono (t_Mo_symbol_B98 hn0 hK5 hK18 _ x1 x2 x3 x4 x6 hG hH (by omega) (by omega) (by omega) (by omega) (by omega) (by omega) (by omega) (by omega)) (fun r S' z => QQ_tq hR0 (by omega) z)
set_option maxHeartbeats 2000000 in
theorem t_Mo_symbol_L18 {F B : mP} {n0 : Nat} (hn0 : big n0) {M : Nat} {K5 : mH → Nat → Int32 → Int32 → Int32 → Int32 → Option (Int32 × mH)} (hK5 : ∀ (S : mS) (x1 : Int32) (x2 : Int32) (x3 : Int32) (x4 : Int32), G F B S → Hm S → (0 ≤ x1.toInt) → (0 ≤ x2.toInt) → (x1.toInt + x2.toInt ≤ 339) → (0 ≤ x4.toInt ∧ x4.toInt + mz S ≤ 700000) → mz S < M → tot (K5 (hp S) 50 x1 x2 x3 x4) (fun r S' => QQ F B (1 - x4.toInt) S S')) : ∀ (n : Nat) (S : mS) (x1 : Int32) (x2 : Int32) (x3 : Int32) (x4 : Int32) (x5 : Int32) (x6 : Int32), G F B S → Hm S → (0 ≤ x1.toInt) → (0 ≤ x2.toInt) → (x1.toInt + x2.toInt ≤ 339) → (0 ≤ x4.toInt ∧ x4.toInt + mz S ≤ 700000) → (1 ≤ mz S) → (mz S ≤ M) → (x1.toInt ≤ x6.toInt) → (x1.toInt + x2.toInt - x6.toInt).toNat < n → tot (f_Mo_symbol_L18 K5 n0 n (hp S) 50 x1 x2 x3 x4 x5 x6) (fun r S' => QQ F B (1 - x4.toInt) S S') := by
  intro n
  induction n with
  | zero =>
    intro S x1 x2 x3 x4 x5 x6 hG hH q0 q1 q2 q3 q4 q5 q6 hm
    exact absurd hm (Nat.not_lt_zero _)
  | succ n ih =>
    intro S x1 x2 x3 x4 x5 x6 hG hH q0 q1 q2 q3 q4 q5 q6 hm
    rw [f_Mo_symbol_L18.eq_2]
    have L0 : (0 : Int32).toInt = 0 := rfl
    have L1 : (1 : Int32).toInt = 1 := rfl
    have L7 : (7 : Int32).toInt = 7 := rfl
    have L10 : (10 : Int32).toInt = 10 := rfl
    have L20 : (20 : Int32).toInt = 20 := rfl
    have L21 : (21 : Int32).toInt = 21 := rfl
    have L31 : (31 : Int32).toInt = 31 := rfl
    have nx1 := nt_b x1
    have nx2 := nt_b x2
    have nx3 := nt_b x3
    have nx4 := nt_b x4
    have nx5 := nt_b x5
    have nx6 := nt_b x6
    have hR0 := Rm_refl S
    have zS0 := mz_le hG
    have kz2 : (x1 + x2 : Int32).toInt = (x1 : Int32).toInt + (x2 : Int32).toInt := nt_add (by omega) (by omega)
    refine ile_t (fun c1 => ?_) (fun c1 => ?_)
    · refine ieq_t (fun c3 => ?_) (fun c3 => ?_)
      · have tc3 := congrArg Int32.toInt c3
        refine mis_t (hp_50 _) ?_
        refine mcl_v (t_Mo_fail _ 7 hG hH (by decide)) (fun u5 Sc4 zSc4 => ?_)
        obtain ⟨⟨hGSc4, hHSc4, rRSc4⟩, pu5⟩ := zSc4
        have hRSc4 := Rm_trans hR0 rRSc4
        have zzSc4 := Rm_mz hGSc4 hHSc4 rRSc4 (by omega)
        have ggSc4 := rRSc4.1
        exact tot_mono (hK5 _ x1 x2 x3 x4 hGSc4 hHSc4 (by omega) (by omega) (by omega) (by omega) (by omega)) (fun r S' z => QQ_tq hRSc4 (by omega) z)
      · refine mis_t (hp_50 _) ?_
        refine mcl_v (t_Mo_bit _ hG hH) (fun v8 Sc6 zSc6 => ?_)
        obtain ⟨⟨hGSc6, hHSc6, rRSc6⟩, pv8⟩ := zSc6
        have hRSc6 := Rm_trans hR0 rRSc6
        have zzSc6 := Rm_mz hGSc6 hHSc6 rRSc6 (by omega)
        have ggSc6 := rRSc6.1
        have nv8 := nt_b v8
        refine mnm_v (fun v10 ev10 => ?_)
        have nv10 := nt_b v10
        refine mnm_v (fun v11 ev11 => ?_)
        have nv11 := nt_b v11
        have kv11 : v11.toInt = x4.toInt + 1 := by rw [ev11]; exact nt_inc (by omega)
        exact tot_mono (hK5 _ x1 x2 v10 v11 hGSc6 hHSc6 (by omega) (by omega) (by omega) (by omega) (by omega)) (fun r S' z => QQ_tq hRSc6 (by omega) z)
    · refine ile_t (fun c7 => ?_) (fun c7 => ?_)
      · exact tot_mono (t_Mo_symbol_B59 hn0 hK5 ih _ x1 x2 x3 x4 x5 x6 hG hH (by omega) (by omega) (by omega) (by omega) (by omega) (by omega) (by omega) (by omega)) (fun r S' z => QQ_tq hR0 (by omega) z)
      · refine mgr_t (v := 60) (hp_50 _) rfl ?_
        refine mai_v (hp_60 _) (nt_in (by omega) (by omega)) (fun v30 ev30 => ?_)
        have nv30 := nt_b v30
        refine ieq_t (fun c8 => ?_) (fun c8 => ?_)
        · have tc8 := congrArg Int32.toInt c8
          refine mgr_t (v := 61) (hp_50 _) rfl ?_
          refine mai_v (hp_61 _) (nt_in (by omega) (by omega)) (fun v33 ev33 => ?_)
          have nv33 := nt_b v33
          refine ieq_t (fun c9 => ?_) (fun c9 => ?_)
          · have tc9 := congrArg Int32.toInt c9
            exact tot_end (QQ_fin hG hH hR0 (by omega))
          · exact tot_mono (t_Mo_symbol_B59 hn0 hK5 ih _ x1 x2 x3 x4 x5 x6 hG hH (by omega) (by omega) (by omega) (by omega) (by omega) (by omega) (by omega) (by omega)) (fun r S' z => QQ_tq hR0 (by omega) z)
        · exact tot_mono (t_Mo_symbol_B59 hn0 hK5 ih _ x1 x2 x3 x4 x5 x6 hG hH (by omega) (by omega) (by omega) (by omega) (by omega) (by omega) (by omega) (by omega)) (fun r S' z => QQ_tq hR0 (by omega) z)
set_option maxHeartbeats 2000000 in
theorem t_Mo_symbol_L5 {F B : mP} {n0 : Nat} (hn0 : big n0) : ∀ (n : Nat) (S : mS) (x1 : Int32) (x2 : Int32) (x3 : Int32) (x4 : Int32), G F B S → Hm S → (0 ≤ x1.toInt) → (0 ≤ x2.toInt) → (x1.toInt + x2.toInt ≤ 339) → (0 ≤ x4.toInt ∧ x4.toInt + mz S ≤ 700000) → mz S < n → tot (f_Mo_symbol_L5 n0 n (hp S) 50 x1 x2 x3 x4) (fun r S' => QQ F B (1 - x4.toInt) S S') := by
  intro n
  induction n with
  | zero =>
    intro S x1 x2 x3 x4 hG hH q0 q1 q2 q3 hm
    exact absurd hm (Nat.not_lt_zero _)
  | succ n ih =>
    intro S x1 x2 x3 x4 hG hH q0 q1 q2 q3 hm
    rw [f_Mo_symbol_L5.eq_2]
    have Lm1 : (-1 : Int32).toInt = -1 := rfl
    have L0 : (0 : Int32).toInt = 0 := rfl
    have L1 : (1 : Int32).toInt = 1 := rfl
    have L10 : (10 : Int32).toInt = 10 := rfl
    have nx1 := nt_b x1
    have nx2 := nt_b x2
    have nx3 := nt_b x3
    have nx4 := nt_b x4
    have hR0 := Rm_refl S
    have zS0 := mz_le hG
    refine mis_t (hp_50 _) ?_
    refine mcl_v (t_Mo_isGood _) (fun v2 Sc1 zSc1 => ?_)
    obtain ⟨eSc1, pv2⟩ := zSc1
    subst eSc1
    have nv2 := nt_b v2
    refine ieq_t (fun c2 => ?_) (fun c2 => ?_)
    · have tc2 := congrArg Int32.toInt c2
      exact tot_end (QQ_fin hG hH hR0 (by omega))
    · exact tot_mono (t_Mo_symbol_L18 hn0 ih n0 _ x1 x2 x3 x4 0 x1 hG hH (by omega) (by omega) (by omega) (by omega) (by omega) (by omega) (by omega) (big_lt hn0 (by omega))) (fun r S' z => QQ_tq hR0 (by omega) z)
set_option maxHeartbeats 2000000 in
theorem t_Mo_symbol {F B : mP} {n0 : Nat} (hn0 : big n0) (S : mS) (x1 : Int32) (x2 : Int32) (hG : G F B S) (hH : Hm S) (q0 : 0 ≤ x1.toInt) (q1 : 0 ≤ x2.toInt) (q2 : x1.toInt + x2.toInt ≤ 339) : tot (f_Mo_symbol n0 (hp S) 50 x1 x2) (fun r S' => QQ F B (1) S S') := by
  unfold f_Mo_symbol
  have L0 : (0 : Int32).toInt = 0 := rfl
  have nx1 := nt_b x1
  have nx2 := nt_b x2
  have hR0 := Rm_refl S
  have zS0 := mz_le hG
  exact tot_mono (t_Mo_symbol_L5 hn0 n0 _ x1 x2 0 0 hG hH (by omega) (by omega) (by omega) (by omega) (big_lt hn0 (by omega))) (fun r S' z => QQ_tq hR0 (by omega) z)
