set_option maxHeartbeats 2000000 in
theorem t_Mo_fixCodes_L63 {F B : mP} {n0 : Nat} (hn0 : big n0) : ∀ (n : Nat) (S : mS) (x1 : Int32), G F B S → Hm S → (0 ≤ x1.toInt) → (320 - x1.toInt).toNat < n → tot (f_Mo_fixCodes_L63 n0 n (hp S) 50 x1) (fun r S' => QQ F B (0) S S') := by
  intro n
  induction n with
  | zero =>
    intro S x1 hG hH q0 hm
    exact absurd hm (Nat.not_lt_zero _)
  | succ n ih =>
    intro S x1 hG hH q0 hm
    rw [f_Mo_fixCodes_L63.eq_2]
    have L0 : (0 : Int32).toInt = 0 := rfl
    have L1 : (1 : Int32).toInt = 1 := rfl
    have L5 : (5 : Int32).toInt = 5 := rfl
    have L10 : (10 : Int32).toInt = 10 := rfl
    have L20 : (20 : Int32).toInt = 20 := rfl
    have L32 : (32 : Int32).toInt = 32 := rfl
    have L288 : (288 : Int32).toInt = 288 := rfl
    have L320 : (320 : Int32).toInt = 320 := rfl
    have nx1 := nt_b x1
    have hR0 := Rm_refl S
    have zS0 := mz_le hG
    refine ile_t (fun c1 => ?_) (fun c1 => ?_)
    · refine mis_t (hp_50 _) ?_
      refine mcl_v (t_Mo_makeCodes hn0 _ 0 288 hG hH (by omega) (by omega) (by omega)) (fun u3 Sc2 zSc2 => ?_)
      obtain ⟨hGSc2, hHSc2, rRSc2⟩ := zSc2
      have hRSc2 := Rm_trans hR0 rRSc2
      have zzSc2 := Rm_mz hGSc2 hHSc2 rRSc2 (by omega)
      have ggSc2 := rRSc2.1
      refine mis_t (hp_50 _) ?_
      refine mcl_v (t_Mo_makeCodes hn0 _ 288 32 hGSc2 hHSc2 (by omega) (by omega) (by omega)) (fun u5 Sc4 zSc4 => ?_)
      obtain ⟨hGSc4, hHSc4, rRSc4⟩ := zSc4
      have hRSc4 := Rm_trans hRSc2 rRSc4
      have zzSc4 := Rm_mz hGSc4 hHSc4 rRSc4 (by omega)
      have ggSc4 := rRSc4.1
      exact tot_end (QQ_fin hGSc4 hHSc4 hRSc4 (by omega))
    · refine mgr_t (v := 60) (hp_50 _) rfl ?_
      refine mas_t (hp_60 _) (nt_in (by omega) (by omega)) (ha_60 _ _) ?_
      have hGS6 : G F B (uA S 60 (upd (S.2.1 60) (x1).toNatClampNeg 5)) := G_Ai hG (nb (by decide)) (by decide)
      have hHS6 : Hm (uA S 60 (upd (S.2.1 60) (x1).toNatClampNeg 5)) := hH
      have hRS6 : Rm _ S (uA S 60 (upd (S.2.1 60) (x1).toNatClampNeg 5)) := hR0
      have zzS6 : mz (uA S 60 (upd (S.2.1 60) (x1).toNatClampNeg 5)) = mz S := rfl
      generalize uA S 60 (upd (S.2.1 60) (x1).toNatClampNeg 5) = S6 at hGS6 hHS6 hRS6 zzS6  ⊢
      refine mnm_v (fun v13 ev13 => ?_)
      have nv13 := nt_b v13
      have kv13 : v13.toInt = x1.toInt + 1 := by rw [ev13]; exact nt_inc (by omega)
      exact tot_mono (ih _ v13 hGS6 hHS6 (by omega) (by omega)) (fun r S' z => QQ_tq hRS6 (by omega) z)
set_option maxHeartbeats 2000000 in
theorem t_Mo_fixCodes_L2 {F B : mP} {n0 : Nat} (hn0 : big n0) : ∀ (n : Nat) (S : mS) (x1 : Int32), G F B S → Hm S → (0 ≤ x1.toInt) → (288 - x1.toInt).toNat < n → tot (f_Mo_fixCodes_L2 n0 n (hp S) 50 x1) (fun r S' => QQ F B (0) S S') := by
  intro n
  induction n with
  | zero =>
    intro S x1 hG hH q0 hm
    exact absurd hm (Nat.not_lt_zero _)
  | succ n ih =>
    intro S x1 hG hH q0 hm
    rw [f_Mo_fixCodes_L2.eq_2]
    have L0 : (0 : Int32).toInt = 0 := rfl
    have L1 : (1 : Int32).toInt = 1 := rfl
    have L7 : (7 : Int32).toInt = 7 := rfl
    have L8 : (8 : Int32).toInt = 8 := rfl
    have L9 : (9 : Int32).toInt = 9 := rfl
    have L10 : (10 : Int32).toInt = 10 := rfl
    have L20 : (20 : Int32).toInt = 20 := rfl
    have L144 : (144 : Int32).toInt = 144 := rfl
    have L256 : (256 : Int32).toInt = 256 := rfl
    have L280 : (280 : Int32).toInt = 280 := rfl
    have L288 : (288 : Int32).toInt = 288 := rfl
    have nx1 := nt_b x1
    have hR0 := Rm_refl S
    have zS0 := mz_le hG
    refine ile_t (fun c1 => ?_) (fun c1 => ?_)
    · exact tot_mono (t_Mo_fixCodes_L63 hn0 n0 _ 288 hG hH (by omega) (big_lt hn0 (by omega))) (fun r S' z => QQ_tq hR0 (by omega) z)
    · refine mgr_t (v := 60) (hp_50 _) rfl ?_
      refine ile_t (fun c2 => ?_) (fun c2 => ?_)
      · refine ile_t (fun c3 => ?_) (fun c3 => ?_)
        · refine ile_t (fun c4 => ?_) (fun c4 => ?_)
          · refine mas_t (hp_60 _) (nt_in (by omega) (by omega)) (ha_60 _ _) ?_
            have hGS5 : G F B (uA S 60 (upd (S.2.1 60) (x1).toNatClampNeg 8)) := G_Ai hG (nb (by decide)) (by decide)
            have hHS5 : Hm (uA S 60 (upd (S.2.1 60) (x1).toNatClampNeg 8)) := hH
            have hRS5 : Rm _ S (uA S 60 (upd (S.2.1 60) (x1).toNatClampNeg 8)) := hR0
            have zzS5 : mz (uA S 60 (upd (S.2.1 60) (x1).toNatClampNeg 8)) = mz S := rfl
            generalize uA S 60 (upd (S.2.1 60) (x1).toNatClampNeg 8) = S5 at hGS5 hHS5 hRS5 zzS5  ⊢
            refine mnm_v (fun v19 ev19 => ?_)
            have nv19 := nt_b v19
            have kv19 : v19.toInt = x1.toInt + 1 := by rw [ev19]; exact nt_inc (by omega)
            exact tot_mono (ih _ v19 hGS5 hHS5 (by omega) (by omega)) (fun r S' z => QQ_tq hRS5 (by omega) z)
          · refine mas_t (hp_60 _) (nt_in (by omega) (by omega)) (ha_60 _ _) ?_
            have hGS6 : G F B (uA S 60 (upd (S.2.1 60) (x1).toNatClampNeg 7)) := G_Ai hG (nb (by decide)) (by decide)
            have hHS6 : Hm (uA S 60 (upd (S.2.1 60) (x1).toNatClampNeg 7)) := hH
            have hRS6 : Rm _ S (uA S 60 (upd (S.2.1 60) (x1).toNatClampNeg 7)) := hR0
            have zzS6 : mz (uA S 60 (upd (S.2.1 60) (x1).toNatClampNeg 7)) = mz S := rfl
            generalize uA S 60 (upd (S.2.1 60) (x1).toNatClampNeg 7) = S6 at hGS6 hHS6 hRS6 zzS6  ⊢
            refine mnm_v (fun v21 ev21 => ?_)
            have nv21 := nt_b v21
            have kv21 : v21.toInt = x1.toInt + 1 := by rw [ev21]; exact nt_inc (by omega)
            exact tot_mono (ih _ v21 hGS6 hHS6 (by omega) (by omega)) (fun r S' z => QQ_tq hRS6 (by omega) z)
        · refine mas_t (hp_60 _) (nt_in (by omega) (by omega)) (ha_60 _ _) ?_
          have hGS7 : G F B (uA S 60 (upd (S.2.1 60) (x1).toNatClampNeg 9)) := G_Ai hG (nb (by decide)) (by decide)
          have hHS7 : Hm (uA S 60 (upd (S.2.1 60) (x1).toNatClampNeg 9)) := hH
          have hRS7 : Rm _ S (uA S 60 (upd (S.2.1 60) (x1).toNatClampNeg 9)) := hR0
          have zzS7 : mz (uA S 60 (upd (S.2.1 60) (x1).toNatClampNeg 9)) = mz S := rfl
          generalize uA S 60 (upd (S.2.1 60) (x1).toNatClampNeg 9) = S7 at hGS7 hHS7 hRS7 zzS7  ⊢
          refine mnm_v (fun v23 ev23 => ?_)
          have nv23 := nt_b v23
          have kv23 : v23.toInt = x1.toInt + 1 := by rw [ev23]; exact nt_inc (by omega)
          exact tot_mono (ih _ v23 hGS7 hHS7 (by omega) (by omega)) (fun r S' z => QQ_tq hRS7 (by omega) z)
      · refine mas_t (hp_60 _) (nt_in (by omega) (by omega)) (ha_60 _ _) ?_
        have hGS8 : G F B (uA S 60 (upd (S.2.1 60) (x1).toNatClampNeg 8)) := G_Ai hG (nb (by decide)) (by decide)
        have hHS8 : Hm (uA S 60 (upd (S.2.1 60) (x1).toNatClampNeg 8)) := hH
        have hRS8 : Rm _ S (uA S 60 (upd (S.2.1 60) (x1).toNatClampNeg 8)) := hR0
        have zzS8 : mz (uA S 60 (upd (S.2.1 60) (x1).toNatClampNeg 8)) = mz S := rfl
        generalize uA S 60 (upd (S.2.1 60) (x1).toNatClampNeg 8) = S8 at hGS8 hHS8 hRS8 zzS8  ⊢
        refine mnm_v (fun v25 ev25 => ?_)
        have nv25 := nt_b v25
        have kv25 : v25.toInt = x1.toInt + 1 := by rw [ev25]; exact nt_inc (by omega)
        exact tot_mono (ih _ v25 hGS8 hHS8 (by omega) (by omega)) (fun r S' z => QQ_tq hRS8 (by omega) z)
set_option maxHeartbeats 2000000 in
theorem t_Mo_fixCodes {F B : mP} {n0 : Nat} (hn0 : big n0) (S : mS)  (hG : G F B S) (hH : Hm S)  : tot (f_Mo_fixCodes n0 (hp S) 50) (fun r S' => QQ F B (0) S S') := by
  unfold f_Mo_fixCodes
  have L0 : (0 : Int32).toInt = 0 := rfl
  have hR0 := Rm_refl S
  have zS0 := mz_le hG
  exact tot_mono (t_Mo_fixCodes_L2 hn0 n0 _ 0 hG hH (by omega) (big_lt hn0 (by omega))) (fun r S' z => QQ_tq hR0 (by omega) z)
set_option maxHeartbeats 2000000 in
theorem t_Mo_readLengths_B202 {F B : mP} {n0 : Nat} (hn0 : big n0) {M10 : Nat} {K10 : mH → Nat → Int32 → Int32 → Int32 → Int32 → Option (Unit × mH)} (hK10 : ∀ (S : mS) (x1 : Int32) (x3 : Int32) (x4 : Int32) (x5 : Int32), G F B S → Hm S → (257 ≤ x1.toInt ∧ x1.toInt ≤ 288) → (x1.toInt ≤ x3.toInt ∧ x3.toInt ≤ x1.toInt + 32) → (0 ≤ x4.toInt ∧ x4.toInt ≤ x3.toInt) → mz S < M10 → tot (K10 (hp S) 50 x1 x3 x4 x5) (fun r S' => QQ F B (0) S S')) {M : Nat} {K165 : mH → Nat → Int32 → Int32 → Int32 → Int32 → Int32 → Int32 → Option (Unit × mH)} (hK165 : ∀ (S : mS) (x1 : Int32) (x3 : Int32) (x4 : Int32) (x7 : Int32) (x8 : Int32) (x9 : Int32), G F B S → Hm S → (257 ≤ x1.toInt ∧ x1.toInt ≤ 288) → (x1.toInt ≤ x3.toInt ∧ x3.toInt ≤ x1.toInt + 32) → (0 ≤ x4.toInt ∧ x4.toInt ≤ x3.toInt) → (0 ≤ x7.toInt ∧ x7.toInt ≤ 200) → (mz S < M10) → (0 ≤ x9.toInt) → (mz S = 0 ∨ x4.toInt + x7.toInt - x9.toInt ≤ x3.toInt) → (x7.toInt - x9.toInt).toNat < M → tot (K165 (hp S) 50 x1 x3 x4 x7 x8 x9) (fun r S' => QQ F B (0) S S')) (S : mS) (x1 : Int32) (x3 : Int32) (x4 : Int32) (x7 : Int32) (x8 : Int32) (x9 : Int32) (p0 : Int32) (hG : G F B S) (hH : Hm S) (q0 : 257 ≤ x1.toInt ∧ x1.toInt ≤ 288) (q1 : x1.toInt ≤ x3.toInt ∧ x3.toInt ≤ x1.toInt + 32) (q2 : 0 ≤ x4.toInt ∧ x4.toInt ≤ x3.toInt) (q3 : 0 ≤ x7.toInt ∧ x7.toInt ≤ 200) (q4 : mz S < M10) (q5 : 0 ≤ x9.toInt ∧ x9.toInt < x7.toInt) (q6 : x4.toInt + x7.toInt - x9.toInt ≤ x3.toInt) (q7 : 0 ≤ p0.toInt ∧ p0.toInt < 339) (q8 : (x7.toInt - (x9.toInt + 1)).toNat < M) : tot (f_Mo_readLengths_B202 K10 K165 n0 (hp S) 50 x1 x3 x4 x7 x8 x9 p0 60) (fun r S' => QQ F B (0) S S') := by
  unfold f_Mo_readLengths_B202
  have L1 : (1 : Int32).toInt = 1 := rfl
  have nx1 := nt_b x1
  have nx3 := nt_b x3
  have nx4 := nt_b x4
  have nx7 := nt_b x7
  have nx8 := nt_b x8
  have nx9 := nt_b x9
  have np0 := nt_b p0
  have hR0 := Rm_refl S
  have zS0 := mz_le hG
  refine mas_t (hp_60 _) (nt_in (by omega) (by omega)) (ha_60 _ _) ?_
  have hGS1 : G F B (uA S 60 (upd (S.2.1 60) (p0).toNatClampNeg x8)) := G_Ai hG (nb (by decide)) (by decide)
  have hHS1 : Hm (uA S 60 (upd (S.2.1 60) (p0).toNatClampNeg x8)) := hH
  have hRS1 : Rm _ S (uA S 60 (upd (S.2.1 60) (p0).toNatClampNeg x8)) := hR0
  have zzS1 : mz (uA S 60 (upd (S.2.1 60) (p0).toNatClampNeg x8)) = mz S := rfl
  generalize uA S 60 (upd (S.2.1 60) (p0).toNatClampNeg x8) = S1 at hGS1 hHS1 hRS1 zzS1  ⊢
  refine mnm_v (fun v34 ev34 => ?_)
  have nv34 := nt_b v34
  have kv34 : v34.toInt = x4.toInt + 1 := by rw [ev34]; exact nt_inc (by omega)
  refine mnm_v (fun v35 ev35 => ?_)
  have nv35 := nt_b v35
  have kv35 : v35.toInt = x9.toInt + 1 := by rw [ev35]; exact nt_inc (by omega)
  exact tot_mono (hK165 _ x1 x3 v34 x7 x8 v35 hGS1 hHS1 (by omega) (by omega) (by omega) (by omega) (by omega) (by omega) (by omega) (by omega)) (fun r S' z => QQ_tq hRS1 (by omega) z)
set_option maxHeartbeats 2000000 in
theorem t_Mo_readLengths_L165 {F B : mP} {n0 : Nat} (hn0 : big n0) {M : Nat} {K10 : mH → Nat → Int32 → Int32 → Int32 → Int32 → Option (Unit × mH)} (hK10 : ∀ (S : mS) (x1 : Int32) (x3 : Int32) (x4 : Int32) (x5 : Int32), G F B S → Hm S → (257 ≤ x1.toInt ∧ x1.toInt ≤ 288) → (x1.toInt ≤ x3.toInt ∧ x3.toInt ≤ x1.toInt + 32) → (0 ≤ x4.toInt ∧ x4.toInt ≤ x3.toInt) → mz S < M → tot (K10 (hp S) 50 x1 x3 x4 x5) (fun r S' => QQ F B (0) S S')) : ∀ (n : Nat) (S : mS) (x1 : Int32) (x3 : Int32) (x4 : Int32) (x7 : Int32) (x8 : Int32) (x9 : Int32), G F B S → Hm S → (257 ≤ x1.toInt ∧ x1.toInt ≤ 288) → (x1.toInt ≤ x3.toInt ∧ x3.toInt ≤ x1.toInt + 32) → (0 ≤ x4.toInt ∧ x4.toInt ≤ x3.toInt) → (0 ≤ x7.toInt ∧ x7.toInt ≤ 200) → (mz S < M) → (0 ≤ x9.toInt) → (mz S = 0 ∨ x4.toInt + x7.toInt - x9.toInt ≤ x3.toInt) → (x7.toInt - x9.toInt).toNat < n → tot (f_Mo_readLengths_L165 K10 n0 n (hp S) 50 x1 x3 x4 x7 x8 x9) (fun r S' => QQ F B (0) S S') := by
  intro n
  induction n with
  | zero =>
    intro S x1 x3 x4 x7 x8 x9 hG hH q0 q1 q2 q3 q4 q5 q6 hm
    exact absurd hm (Nat.not_lt_zero _)
  | succ n ih =>
    intro S x1 x3 x4 x7 x8 x9 hG hH q0 q1 q2 q3 q4 q5 q6 hm
    rw [f_Mo_readLengths_L165.eq_2]
    have L0 : (0 : Int32).toInt = 0 := rfl
    have L1 : (1 : Int32).toInt = 1 := rfl
    have L10 : (10 : Int32).toInt = 10 := rfl
    have L20 : (20 : Int32).toInt = 20 := rfl
    have L288 : (288 : Int32).toInt = 288 := rfl
    have nx1 := nt_b x1
    have nx3 := nt_b x3
    have nx4 := nt_b x4
    have nx7 := nt_b x7
    have nx8 := nt_b x8
    have nx9 := nt_b x9
    have hR0 := Rm_refl S
    have zS0 := mz_le hG
    refine ile_t (fun c1 => ?_) (fun c1 => ?_)
    · exact tot_mono (hK10 _ x1 x3 x4 x8 hG hH (by omega) (by omega) (by omega) (by omega)) (fun r S' z => QQ_tq hR0 (by omega) z)
    · refine mis_t (hp_50 _) ?_
      refine mcl_v (t_Mo_isGood _) (fun v28 Sc2 zSc2 => ?_)
      obtain ⟨eSc2, pv28⟩ := zSc2
      subst eSc2
      have nv28 := nt_b v28
      refine ieq_t (fun c3 => ?_) (fun c3 => ?_)
      · have tc3 := congrArg Int32.toInt c3
        exact tot_mono (hK10 _ x1 x3 x4 x8 hG hH (by omega) (by omega) (by omega) (by omega)) (fun r S' z => QQ_tq hR0 (by omega) z)
      · refine mgr_t (v := 60) (hp_50 _) rfl ?_
        refine ile_t (fun c4 => ?_) (fun c4 => ?_)
        · have kz5 : (288 + x4 : Int32).toInt = (288 : Int32).toInt + (x4 : Int32).toInt := nt_add (by omega) (by omega)
          have kz6 : ((288 + x4) - x1 : Int32).toInt = ((288 + x4) : Int32).toInt - (x1 : Int32).toInt := nt_sub (by omega) (by omega)
          exact tot_mono (t_Mo_readLengths_B202 hn0 hK10 ih _ x1 x3 x4 x7 x8 x9 ((288 + x4) - x1) hG hH (by omega) (by omega) (by omega) (by omega) (by omega) (by omega) (by omega) (by omega) (by omega)) (fun r S' z => QQ_tq hR0 (by omega) z)
        · exact tot_mono (t_Mo_readLengths_B202 hn0 hK10 ih _ x1 x3 x4 x7 x8 x9 x4 hG hH (by omega) (by omega) (by omega) (by omega) (by omega) (by omega) (by omega) (by omega) (by omega)) (fun r S' z => QQ_tq hR0 (by omega) z)
set_option maxHeartbeats 2000000 in
theorem t_Mo_readLengths_B160 {F B : mP} {n0 : Nat} (hn0 : big n0) {M : Nat} {K10 : mH → Nat → Int32 → Int32 → Int32 → Int32 → Option (Unit × mH)} (hK10 : ∀ (S : mS) (x1 : Int32) (x3 : Int32) (x4 : Int32) (x5 : Int32), G F B S → Hm S → (257 ≤ x1.toInt ∧ x1.toInt ≤ 288) → (x1.toInt ≤ x3.toInt ∧ x3.toInt ≤ x1.toInt + 32) → (0 ≤ x4.toInt ∧ x4.toInt ≤ x3.toInt) → mz S < M → tot (K10 (hp S) 50 x1 x3 x4 x5) (fun r S' => QQ F B (0) S S')) (S : mS) (x1 : Int32) (x3 : Int32) (x4 : Int32) (x7 : Int32) (p0 : Int32) (hG : G F B S) (hH : Hm S) (q0 : 257 ≤ x1.toInt ∧ x1.toInt ≤ 288) (q1 : x1.toInt ≤ x3.toInt ∧ x3.toInt ≤ x1.toInt + 32) (q2 : 0 ≤ x4.toInt ∧ x4.toInt ≤ x3.toInt) (q3 : 0 ≤ x7.toInt ∧ x7.toInt ≤ 200) (q4 : mz S < M) (q5 : mz S = 0 ∨ x4.toInt + x7.toInt ≤ x3.toInt) : tot (f_Mo_readLengths_B160 K10 n0 (hp S) 50 x1 x3 x4 x7 p0) (fun r S' => QQ F B (0) S S') := by
  unfold f_Mo_readLengths_B160
  have L0 : (0 : Int32).toInt = 0 := rfl
  have nx1 := nt_b x1
  have nx3 := nt_b x3
  have nx4 := nt_b x4
  have nx7 := nt_b x7
  have np0 := nt_b p0
  have hR0 := Rm_refl S
  have zS0 := mz_le hG
  exact tot_mono (t_Mo_readLengths_L165 hn0 hK10 n0 _ x1 x3 x4 x7 p0 0 hG hH (by omega) (by omega) (by omega) (by omega) (by omega) (by omega) (by omega) (big_lt hn0 (by omega))) (fun r S' z => QQ_tq hR0 (by omega) z)
set_option maxHeartbeats 2000000 in
theorem t_Mo_readLengths_B135 {F B : mP} {n0 : Nat} (hn0 : big n0) {M : Nat} {K10 : mH → Nat → Int32 → Int32 → Int32 → Int32 → Option (Unit × mH)} (hK10 : ∀ (S : mS) (x1 : Int32) (x3 : Int32) (x4 : Int32) (x5 : Int32), G F B S → Hm S → (257 ≤ x1.toInt ∧ x1.toInt ≤ 288) → (x1.toInt ≤ x3.toInt ∧ x3.toInt ≤ x1.toInt + 32) → (0 ≤ x4.toInt ∧ x4.toInt ≤ x3.toInt) → mz S < M → tot (K10 (hp S) 50 x1 x3 x4 x5) (fun r S' => QQ F B (0) S S')) (S : mS) (x1 : Int32) (x3 : Int32) (x4 : Int32) (x5 : Int32) (x6 : Int32) (x7 : Int32) (hG : G F B S) (hH : Hm S) (q0 : 257 ≤ x1.toInt ∧ x1.toInt ≤ 288) (q1 : x1.toInt ≤ x3.toInt ∧ x3.toInt ≤ x1.toInt + 32) (q2 : 0 ≤ x4.toInt ∧ x4.toInt ≤ x3.toInt) (q3 : 0 ≤ x7.toInt ∧ x7.toInt ≤ 200) (q4 : mz S < M) (q5 : mz S = 0 ∨ x4.toInt + x7.toInt ≤ x3.toInt) : tot (f_Mo_readLengths_B135 K10 n0 (hp S) 50 x1 x3 x4 x5 x6 x7) (fun r S' => QQ F B (0) S S') := by
  unfold f_Mo_readLengths_B135
  have L0 : (0 : Int32).toInt = 0 := rfl
  have L16 : (16 : Int32).toInt = 16 := rfl
  have nx1 := nt_b x1
  have nx3 := nt_b x3
  have nx4 := nt_b x4
  have nx5 := nt_b x5
  have nx6 := nt_b x6
  have nx7 := nt_b x7
  have hR0 := Rm_refl S
  have zS0 := mz_le hG
  refine ile_t (fun c1 => ?_) (fun c1 => ?_)
  · refine ieq_t (fun c2 => ?_) (fun c2 => ?_)
    · have tc2 := congrArg Int32.toInt c2
      exact tot_mono (t_Mo_readLengths_B160 hn0 hK10 _ x1 x3 x4 x7 x5 hG hH (by omega) (by omega) (by omega) (by omega) (by omega) (by omega)) (fun r S' z => QQ_tq hR0 (by omega) z)
    · exact tot_mono (t_Mo_readLengths_B160 hn0 hK10 _ x1 x3 x4 x7 0 hG hH (by omega) (by omega) (by omega) (by omega) (by omega) (by omega)) (fun r S' z => QQ_tq hR0 (by omega) z)
  · exact tot_mono (t_Mo_readLengths_B160 hn0 hK10 _ x1 x3 x4 x7 x6 hG hH (by omega) (by omega) (by omega) (by omega) (by omega) (by omega)) (fun r S' z => QQ_tq hR0 (by omega) z)
set_option maxHeartbeats 2000000 in
theorem t_Mo_readLengths_B129 {F B : mP} {n0 : Nat} (hn0 : big n0) {M : Nat} {K10 : mH → Nat → Int32 → Int32 → Int32 → Int32 → Option (Unit × mH)} (hK10 : ∀ (S : mS) (x1 : Int32) (x3 : Int32) (x4 : Int32) (x5 : Int32), G F B S → Hm S → (257 ≤ x1.toInt ∧ x1.toInt ≤ 288) → (x1.toInt ≤ x3.toInt ∧ x3.toInt ≤ x1.toInt + 32) → (0 ≤ x4.toInt ∧ x4.toInt ≤ x3.toInt) → mz S < M → tot (K10 (hp S) 50 x1 x3 x4 x5) (fun r S' => QQ F B (0) S S')) (S : mS) (x1 : Int32) (x3 : Int32) (x4 : Int32) (x5 : Int32) (x6 : Int32) (x7 : Int32) (hG : G F B S) (hH : Hm S) (q0 : 257 ≤ x1.toInt ∧ x1.toInt ≤ 288) (q1 : x1.toInt ≤ x3.toInt ∧ x3.toInt ≤ x1.toInt + 32) (q2 : 0 ≤ x4.toInt ∧ x4.toInt ≤ x3.toInt) (q3 : 0 ≤ x7.toInt ∧ x7.toInt ≤ 200) (q4 : mz S < M) : tot (f_Mo_readLengths_B129 K10 n0 (hp S) 50 x1 x3 x4 x5 x6 x7) (fun r S' => QQ F B (0) S S') := by
  unfold f_Mo_readLengths_B129
  have L6 : (6 : Int32).toInt = 6 := rfl
  have L10 : (10 : Int32).toInt = 10 := rfl
  have nx1 := nt_b x1
  have nx3 := nt_b x3
  have nx4 := nt_b x4
  have nx5 := nt_b x5
  have nx6 := nt_b x6
  have nx7 := nt_b x7
  have hR0 := Rm_refl S
  have zS0 := mz_le hG
  refine mis_t (hp_50 _) ?_
  refine mcl_v (t_Mo_fail _ 6 hG hH (by decide)) (fun u2 Sc1 zSc1 => ?_)
  obtain ⟨⟨hGSc1, hHSc1, rRSc1⟩, pu2⟩ := zSc1
  have hRSc1 := Rm_trans hR0 rRSc1
  have zzSc1 := Rm_mz hGSc1 hHSc1 rRSc1 (by omega)
  have ggSc1 := rRSc1.1
  exact tot_mono (t_Mo_readLengths_B135 hn0 hK10 _ x1 x3 x4 x5 x6 x7 hGSc1 hHSc1 (by omega) (by omega) (by omega) (by omega) (by omega) (by omega)) (fun r S' z => QQ_tq hRSc1 (by omega) z)
set_option maxHeartbeats 2000000 in
theorem t_Mo_readLengths_B120 {F B : mP} {n0 : Nat} (hn0 : big n0) {M : Nat} {K10 : mH → Nat → Int32 → Int32 → Int32 → Int32 → Option (Unit × mH)} (hK10 : ∀ (S : mS) (x1 : Int32) (x3 : Int32) (x4 : Int32) (x5 : Int32), G F B S → Hm S → (257 ≤ x1.toInt ∧ x1.toInt ≤ 288) → (x1.toInt ≤ x3.toInt ∧ x3.toInt ≤ x1.toInt + 32) → (0 ≤ x4.toInt ∧ x4.toInt ≤ x3.toInt) → mz S < M → tot (K10 (hp S) 50 x1 x3 x4 x5) (fun r S' => QQ F B (0) S S')) (S : mS) (x1 : Int32) (x3 : Int32) (x4 : Int32) (x5 : Int32) (x6 : Int32) (x7 : Int32) (hG : G F B S) (hH : Hm S) (q0 : 257 ≤ x1.toInt ∧ x1.toInt ≤ 288) (q1 : x1.toInt ≤ x3.toInt ∧ x3.toInt ≤ x1.toInt + 32) (q2 : 0 ≤ x4.toInt ∧ x4.toInt ≤ x3.toInt) (q3 : 0 ≤ x7.toInt ∧ x7.toInt ≤ 200) (q4 : mz S < M) : tot (f_Mo_readLengths_B120 K10 n0 (hp S) 50 x1 x3 x4 x5 x6 x7) (fun r S' => QQ F B (0) S S') := by
  unfold f_Mo_readLengths_B120
  have nx1 := nt_b x1
  have nx3 := nt_b x3
  have nx4 := nt_b x4
  have nx5 := nt_b x5
  have nx6 := nt_b x6
  have nx7 := nt_b x7
  have hR0 := Rm_refl S
  have zS0 := mz_le hG
  have kz2 : (x4 + x7 : Int32).toInt = (x4 : Int32).toInt + (x7 : Int32).toInt := nt_add (by omega) (by omega)
  refine ile_t (fun c1 => ?_) (fun c1 => ?_)
  · exact tot_mono (t_Mo_readLengths_B135 hn0 hK10 _ x1 x3 x4 x5 x6 x7 hG hH (by omega) (by omega) (by omega) (by omega) (by omega) (by omega)) (fun r S' z => QQ_tq hR0 (by omega) z)
  · exact tot_mono (t_Mo_readLengths_B129 hn0 hK10 _ x1 x3 x4 x5 x6 x7 hG hH (by omega) (by omega) (by omega) (by omega) (by omega)) (fun r S' z => QQ_tq hR0 (by omega) z)
set_option maxHeartbeats 2000000 in
theorem t_Mo_readLengths_B99 {F B : mP} {n0 : Nat} (hn0 : big n0) {M : Nat} {K10 : mH → Nat → Int32 → Int32 → Int32 → Int32 → Option (Unit × mH)} (hK10 : ∀ (S : mS) (x1 : Int32) (x3 : Int32) (x4 : Int32) (x5 : Int32), G F B S → Hm S → (257 ≤ x1.toInt ∧ x1.toInt ≤ 288) → (x1.toInt ≤ x3.toInt ∧ x3.toInt ≤ x1.toInt + 32) → (0 ≤ x4.toInt ∧ x4.toInt ≤ x3.toInt) → mz S < M → tot (K10 (hp S) 50 x1 x3 x4 x5) (fun r S' => QQ F B (0) S S')) (S : mS) (x1 : Int32) (x3 : Int32) (x4 : Int32) (x5 : Int32) (x6 : Int32) (p0 : Int32) (hG : G F B S) (hH : Hm S) (q0 : 257 ≤ x1.toInt ∧ x1.toInt ≤ 288) (q1 : x1.toInt ≤ x3.toInt ∧ x3.toInt ≤ x1.toInt + 32) (q2 : 0 ≤ x4.toInt ∧ x4.toInt ≤ x3.toInt) (q3 : 0 ≤ p0.toInt ∧ p0.toInt ≤ 200) (q4 : mz S < M) : tot (f_Mo_readLengths_B99 K10 n0 (hp S) 50 x1 x3 x4 x5 x6 p0) (fun r S' => QQ F B (0) S S') := by
  unfold f_Mo_readLengths_B99
  have L0 : (0 : Int32).toInt = 0 := rfl
  have L10 : (10 : Int32).toInt = 10 := rfl
  have L16 : (16 : Int32).toInt = 16 := rfl
  have nx1 := nt_b x1
  have nx3 := nt_b x3
  have nx4 := nt_b x4
  have nx5 := nt_b x5
  have nx6 := nt_b x6
  have np0 := nt_b p0
  have hR0 := Rm_refl S
  have zS0 := mz_le hG
  refine mis_t (hp_50 _) ?_
  refine mcl_v (t_Mo_isGood _) (fun v21 Sc1 zSc1 => ?_)
  obtain ⟨eSc1, pv21⟩ := zSc1
  subst eSc1
  have nv21 := nt_b v21
  refine ieq_t (fun c2 => ?_) (fun c2 => ?_)
  · have tc2 := congrArg Int32.toInt c2
    exact tot_mono (t_Mo_readLengths_B135 hn0 hK10 _ x1 x3 x4 x5 x6 p0 hG hH (by omega) (by omega) (by omega) (by omega) (by omega) (by omega)) (fun r S' z => QQ_tq hR0 (by omega) z)
  · refine ieq_t (fun c3 => ?_) (fun c3 => ?_)
    · have tc3 := congrArg Int32.toInt c3
      refine ilt_t (fun c4 => ?_) (fun c4 => ?_)
      · exact tot_mono (t_Mo_readLengths_B129 hn0 hK10 _ x1 x3 x4 x5 x6 p0 hG hH (by omega) (by omega) (by omega) (by omega) (by omega)) (fun r S' z => QQ_tq hR0 (by omega) z)
      · exact tot_mono (t_Mo_readLengths_B120 hn0 hK10 _ x1 x3 x4 x5 x6 p0 hG hH (by omega) (by omega) (by omega) (by omega) (by omega)) (fun r S' z => QQ_tq hR0 (by omega) z)
    · exact tot_mono (t_Mo_readLengths_B120 hn0 hK10 _ x1 x3 x4 x5 x6 p0 hG hH (by omega) (by omega) (by omega) (by omega) (by omega)) (fun r S' z => QQ_tq hR0 (by omega) z)
set_option maxHeartbeats 2000000 in
theorem t_Mo_readLengths_L10 {F B : mP} {n0 : Nat} (hn0 : big n0) : ∀ (n : Nat) (S : mS) (x1 : Int32) (x3 : Int32) (x4 : Int32) (x5 : Int32), G F B S → Hm S → (257 ≤ x1.toInt ∧ x1.toInt ≤ 288) → (x1.toInt ≤ x3.toInt ∧ x3.toInt ≤ x1.toInt + 32) → (0 ≤ x4.toInt ∧ x4.toInt ≤ x3.toInt) → mz S < n → tot (f_Mo_readLengths_L10 n0 n (hp S) 50 x1 x3 x4 x5) (fun r S' => QQ F B (0) S S') := by
  intro n
  induction n with
  | zero =>
    intro S x1 x3 x4 x5 hG hH q0 q1 q2 hm
    exact absurd hm (Nat.not_lt_zero _)
  | succ n ih =>
    intro S x1 x3 x4 x5 hG hH q0 q1 q2 hm
    rw [f_Mo_readLengths_L10.eq_2]
    have L0 : (0 : Int32).toInt = 0 := rfl
    have L1 : (1 : Int32).toInt = 1 := rfl
    have L2 : (2 : Int32).toInt = 2 := rfl
    have L3 : (3 : Int32).toInt = 3 := rfl
    have L7 : (7 : Int32).toInt = 7 := rfl
    have L10 : (10 : Int32).toInt = 10 := rfl
    have L11 : (11 : Int32).toInt = 11 := rfl
    have L16 : (16 : Int32).toInt = 16 := rfl
    have L17 : (17 : Int32).toInt = 17 := rfl
    have L19 : (19 : Int32).toInt = 19 := rfl
    have L320 : (320 : Int32).toInt = 320 := rfl
    have nx1 := nt_b x1
    have nx3 := nt_b x3
    have nx4 := nt_b x4
    have nx5 := nt_b x5
    have hR0 := Rm_refl S
    have zS0 := mz_le hG
    refine ile_t (fun c1 => ?_) (fun c1 => ?_)
    · exact tot_end (QQ_fin hG hH hR0 (by omega))
    · refine mis_t (hp_50 _) ?_
      refine mcl_v (t_Mo_isGood _) (fun v4 Sc2 zSc2 => ?_)
      obtain ⟨eSc2, pv4⟩ := zSc2
      subst eSc2
      have nv4 := nt_b v4
      refine ieq_t (fun c3 => ?_) (fun c3 => ?_)
      · have tc3 := congrArg Int32.toInt c3
        exact tot_end (QQ_fin hG hH hR0 (by omega))
      · refine mis_t (hp_50 _) ?_
        refine mcl_v (t_Mo_symbol hn0 _ 320 19 hG hH (by omega) (by omega) (by omega)) (fun v8 Sc4 zSc4 => ?_)
        obtain ⟨hGSc4, hHSc4, rRSc4⟩ := zSc4
        have hRSc4 := Rm_trans hR0 rRSc4
        have zzSc4 := Rm_mz hGSc4 hHSc4 rRSc4 (by omega)
        have ggSc4 := rRSc4.1
        have nv8 := nt_b v8
        refine mis_t (hp_50 _) ?_
        refine mcl_v (t_Mo_isGood _) (fun v11 Sc5 zSc5 => ?_)
        obtain ⟨eSc5, pv11⟩ := zSc5
        subst eSc5
        have nv11 := nt_b v11
        refine ieq_t (fun c6 => ?_) (fun c6 => ?_)
        · have tc6 := congrArg Int32.toInt c6
          exact tot_mono (t_Mo_readLengths_B99 hn0 ih _ x1 x3 x4 x5 v8 0 hGSc4 hHSc4 (by omega) (by omega) (by omega) (by omega) (by omega)) (fun r S' z => QQ_tq hRSc4 (by omega) z)
        · refine ile_t (fun c7 => ?_) (fun c7 => ?_)
          · refine ieq_t (fun c8 => ?_) (fun c8 => ?_)
            · have tc8 := congrArg Int32.toInt c8
              refine mis_t (hp_50 _) ?_
              refine mcl_v (t_Mo_number hn0 _ 2 hGSc4 hHSc4 (by omega)) (fun v47 Sc9 zSc9 => ?_)
              obtain ⟨⟨hGSc9, hHSc9, rRSc9⟩, pv47⟩ := zSc9
              have hRSc9 := Rm_trans hRSc4 rRSc9
              have zzSc9 := Rm_mz hGSc9 hHSc9 rRSc9 (by omega)
              have ggSc9 := rRSc9.1
              have e2v47 : (2 : Int) ^ (2 : Int32).toInt.toNat = 4 := by decide
              rw [e2v47] at pv47
              have nv47 := nt_b v47
              have kz10 : (3 + v47 : Int32).toInt = (3 : Int32).toInt + (v47 : Int32).toInt := nt_add (by omega) (by omega)
              exact tot_mono (t_Mo_readLengths_B99 hn0 ih _ x1 x3 x4 x5 v8 (3 + v47) hGSc9 hHSc9 (by omega) (by omega) (by omega) (by omega) (by omega)) (fun r S' z => QQ_tq hRSc9 (by omega) z)
            · refine ieq_t (fun c11 => ?_) (fun c11 => ?_)
              · have tc11 := congrArg Int32.toInt c11
                refine mis_t (hp_50 _) ?_
                refine mcl_v (t_Mo_number hn0 _ 3 hGSc4 hHSc4 (by omega)) (fun v44 Sc12 zSc12 => ?_)
                obtain ⟨⟨hGSc12, hHSc12, rRSc12⟩, pv44⟩ := zSc12
                have hRSc12 := Rm_trans hRSc4 rRSc12
                have zzSc12 := Rm_mz hGSc12 hHSc12 rRSc12 (by omega)
                have ggSc12 := rRSc12.1
                have e2v44 : (2 : Int) ^ (3 : Int32).toInt.toNat = 8 := by decide
                rw [e2v44] at pv44
                have nv44 := nt_b v44
                have kz13 : (3 + v44 : Int32).toInt = (3 : Int32).toInt + (v44 : Int32).toInt := nt_add (by omega) (by omega)
                exact tot_mono (t_Mo_readLengths_B99 hn0 ih _ x1 x3 x4 x5 v8 (3 + v44) hGSc12 hHSc12 (by omega) (by omega) (by omega) (by omega) (by omega)) (fun r S' z => QQ_tq hRSc12 (by omega) z)
              · refine mis_t (hp_50 _) ?_
                refine mcl_v (t_Mo_number hn0 _ 7 hGSc4 hHSc4 (by omega)) (fun v18 Sc14 zSc14 => ?_)
                obtain ⟨⟨hGSc14, hHSc14, rRSc14⟩, pv18⟩ := zSc14
                have hRSc14 := Rm_trans hRSc4 rRSc14
                have zzSc14 := Rm_mz hGSc14 hHSc14 rRSc14 (by omega)
                have ggSc14 := rRSc14.1
                have e2v18 : (2 : Int) ^ (7 : Int32).toInt.toNat = 128 := by decide
                rw [e2v18] at pv18
                have nv18 := nt_b v18
                have kz15 : (11 + v18 : Int32).toInt = (11 : Int32).toInt + (v18 : Int32).toInt := nt_add (by omega) (by omega)
                exact tot_mono (t_Mo_readLengths_B99 hn0 ih _ x1 x3 x4 x5 v8 (11 + v18) hGSc14 hHSc14 (by omega) (by omega) (by omega) (by omega) (by omega)) (fun r S' z => QQ_tq hRSc14 (by omega) z)
          · exact tot_mono (t_Mo_readLengths_B99 hn0 ih _ x1 x3 x4 x5 v8 1 hGSc4 hHSc4 (by omega) (by omega) (by omega) (by omega) (by omega)) (fun r S' z => QQ_tq hRSc4 (by omega) z)
set_option maxHeartbeats 2000000 in
theorem t_Mo_readLengths {F B : mP} {n0 : Nat} (hn0 : big n0) (S : mS) (x1 : Int32) (x2 : Int32) (hG : G F B S) (hH : Hm S) (q0 : 257 ≤ x1.toInt ∧ x1.toInt ≤ 288) (q1 : 1 ≤ x2.toInt ∧ x2.toInt ≤ 32) : tot (f_Mo_readLengths n0 (hp S) 50 x1 x2) (fun r S' => QQ F B (0) S S') := by
  unfold f_Mo_readLengths
  have Lm1 : (-1 : Int32).toInt = -1 := rfl
  have L0 : (0 : Int32).toInt = 0 := rfl
  have nx1 := nt_b x1
  have nx2 := nt_b x2
  have hR0 := Rm_refl S
  have zS0 := mz_le hG
  refine mnm_v (fun v1 ev1 => ?_)
  have nv1 := nt_b v1
  have kz1 : (x1 + x2 : Int32).toInt = (x1 : Int32).toInt + (x2 : Int32).toInt := nt_add (by omega) (by omega)
  have kv1 : v1.toInt = (x1 + x2).toInt := by rw [ev1]
  exact tot_mono (t_Mo_readLengths_L10 hn0 n0 _ x1 v1 0 (-1) hG hH (by omega) (by omega) (by omega) (big_lt hn0 (by omega))) (fun r S' z => QQ_tq hR0 (by omega) z)
set_option maxHeartbeats 2000000 in
theorem t_Mo_readCodes_B205 {F B : mP} {n0 : Nat} (hn0 : big n0) (S : mS)  (hG : G F B S) (hH : Hm S)  : tot (f_Mo_readCodes_B205 n0 (hp S) 50) (fun r S' => QQ F B (0) S S') := by
  unfold f_Mo_readCodes_B205
  have L0 : (0 : Int32).toInt = 0 := rfl
  have L10 : (10 : Int32).toInt = 10 := rfl
  have L32 : (32 : Int32).toInt = 32 := rfl
  have L288 : (288 : Int32).toInt = 288 := rfl
  have hR0 := Rm_refl S
  have zS0 := mz_le hG
  refine mis_t (hp_50 _) ?_
  refine mcl_v (t_Mo_makeCodes hn0 _ 0 288 hG hH (by omega) (by omega) (by omega)) (fun u2 Sc1 zSc1 => ?_)
  obtain ⟨hGSc1, hHSc1, rRSc1⟩ := zSc1
  have hRSc1 := Rm_trans hR0 rRSc1
  have zzSc1 := Rm_mz hGSc1 hHSc1 rRSc1 (by omega)
  have ggSc1 := rRSc1.1
  refine mis_t (hp_50 _) ?_
  refine mcl_v (t_Mo_makeCodes hn0 _ 288 32 hGSc1 hHSc1 (by omega) (by omega) (by omega)) (fun u4 Sc3 zSc3 => ?_)
  obtain ⟨hGSc3, hHSc3, rRSc3⟩ := zSc3
  have hRSc3 := Rm_trans hRSc1 rRSc3
  have zzSc3 := Rm_mz hGSc3 hHSc3 rRSc3 (by omega)
  have ggSc3 := rRSc3.1
  exact tot_end (QQ_fin hGSc3 hHSc3 hRSc3 (by omega))
set_option maxHeartbeats 2000000 in
theorem t_Mo_readCodes_B199 {F B : mP} {n0 : Nat} (hn0 : big n0) (S : mS)  (hG : G F B S) (hH : Hm S)  : tot (f_Mo_readCodes_B199 n0 (hp S) 50) (fun r S' => QQ F B (0) S S') := by
  unfold f_Mo_readCodes_B199
  have L6 : (6 : Int32).toInt = 6 := rfl
  have L10 : (10 : Int32).toInt = 10 := rfl
  have hR0 := Rm_refl S
  have zS0 := mz_le hG
  refine mis_t (hp_50 _) ?_
  refine mcl_v (t_Mo_fail _ 6 hG hH (by decide)) (fun u2 Sc1 zSc1 => ?_)
  obtain ⟨⟨hGSc1, hHSc1, rRSc1⟩, pu2⟩ := zSc1
  have hRSc1 := Rm_trans hR0 rRSc1
  have zzSc1 := Rm_mz hGSc1 hHSc1 rRSc1 (by omega)
  have ggSc1 := rRSc1.1
  exact tot_mono (t_Mo_readCodes_B205 hn0 _ hGSc1 hHSc1) (fun r S' z => QQ_tq hRSc1 (by omega) z)
set_option maxHeartbeats 2000000 in
theorem t_Mo_readCodes_B141 {F B : mP} {n0 : Nat} (hn0 : big n0) (S : mS) (x1 : Int32) (x2 : Int32) (hG : G F B S) (hH : Hm S) (q0 : 257 ≤ x1.toInt ∧ x1.toInt ≤ 288) (q1 : 1 ≤ x2.toInt ∧ x2.toInt ≤ 32) : tot (f_Mo_readCodes_B141 n0 (hp S) 50 x1 x2) (fun r S' => QQ F B (0) S S') := by
  unfold f_Mo_readCodes_B141
  have L0 : (0 : Int32).toInt = 0 := rfl
  have L1 : (1 : Int32).toInt = 1 := rfl
  have L10 : (10 : Int32).toInt = 10 := rfl
  have L19 : (19 : Int32).toInt = 19 := rfl
  have L20 : (20 : Int32).toInt = 20 := rfl
  have L30 : (30 : Int32).toInt = 30 := rfl
  have L256 : (256 : Int32).toInt = 256 := rfl
  have L286 : (286 : Int32).toInt = 286 := rfl
  have L288 : (288 : Int32).toInt = 288 := rfl
  have L320 : (320 : Int32).toInt = 320 := rfl
  have nx1 := nt_b x1
  have nx2 := nt_b x2
  have hR0 := Rm_refl S
  have zS0 := mz_le hG
  refine mis_t (hp_50 _) ?_
  refine mcl_v (t_Mo_makeCodes hn0 _ 320 19 hG hH (by omega) (by omega) (by omega)) (fun u2 Sc1 zSc1 => ?_)
  obtain ⟨hGSc1, hHSc1, rRSc1⟩ := zSc1
  have hRSc1 := Rm_trans hR0 rRSc1
  have zzSc1 := Rm_mz hGSc1 hHSc1 rRSc1 (by omega)
  have ggSc1 := rRSc1.1
  refine mis_t (hp_50 _) ?_
  refine mcl_v (t_Mo_readLengths hn0 _ x1 x2 hGSc1 hHSc1 (by omega) (by omega)) (fun u4 Sc3 zSc3 => ?_)
  obtain ⟨hGSc3, hHSc3, rRSc3⟩ := zSc3
  have hRSc3 := Rm_trans hRSc1 rRSc3
  have zzSc3 := Rm_mz hGSc3 hHSc3 rRSc3 (by omega)
  have ggSc3 := rRSc3.1
  refine mis_t (hp_50 _) ?_
  refine mcl_v (t_Mo_isGood _) (fun v32 Sc5 zSc5 => ?_)
  obtain ⟨eSc5, pv32⟩ := zSc5
  subst eSc5
  have nv32 := nt_b v32
  refine ieq_t (fun c6 => ?_) (fun c6 => ?_)
  · have tc6 := congrArg Int32.toInt c6
    exact tot_mono (t_Mo_readCodes_B205 hn0 _ hGSc3 hHSc3) (fun r S' z => QQ_tq hRSc3 (by omega) z)
  · refine mis_t (hp_50 _) ?_
    refine mcl_v (t_Mo_isWhole hn0 _ 0 286 0 hGSc3 (by omega) (by omega) (by omega)) (fun v44 Sc7 zSc7 => ?_)
    subst zSc7
    have nv44 := nt_b v44
    refine ieq_t (fun c8 => ?_) (fun c8 => ?_)
    · have tc8 := congrArg Int32.toInt c8
      exact tot_mono (t_Mo_readCodes_B199 hn0 _ hGSc3 hHSc3) (fun r S' z => QQ_tq hRSc3 (by omega) z)
    · refine mgr_t (v := 60) (hp_50 _) rfl ?_
      refine mai_v (hp_60 _) (nt_in (by omega) (by omega)) (fun v52 ev52 => ?_)
      have nv52 := nt_b v52
      refine ieq_t (fun c9 => ?_) (fun c9 => ?_)
      · have tc9 := congrArg Int32.toInt c9
        exact tot_mono (t_Mo_readCodes_B199 hn0 _ hGSc3 hHSc3) (fun r S' z => QQ_tq hRSc3 (by omega) z)
      · refine mis_t (hp_50 _) ?_
        refine mcl_v (t_Mo_isWhole hn0 _ 288 30 1 hGSc3 (by omega) (by omega) (by omega)) (fun v55 Sc10 zSc10 => ?_)
        subst zSc10
        have nv55 := nt_b v55
        refine ieq_t (fun c11 => ?_) (fun c11 => ?_)
        · have tc11 := congrArg Int32.toInt c11
          exact tot_mono (t_Mo_readCodes_B199 hn0 _ hGSc3 hHSc3) (fun r S' z => QQ_tq hRSc3 (by omega) z)
        · exact tot_mono (t_Mo_readCodes_B205 hn0 _ hGSc3 hHSc3) (fun r S' z => QQ_tq hRSc3 (by omega) z)
set_option maxHeartbeats 2000000 in
theorem t_Mo_readCodes_B115 {F B : mP} {n0 : Nat} (hn0 : big n0) (S : mS) (x1 : Int32) (x2 : Int32) (hG : G F B S) (hH : Hm S) (q0 : 257 ≤ x1.toInt ∧ x1.toInt ≤ 288) (q1 : 1 ≤ x2.toInt ∧ x2.toInt ≤ 32) : tot (f_Mo_readCodes_B115 n0 (hp S) 50 x1 x2) (fun r S' => QQ F B (0) S S') := by
  unfold f_Mo_readCodes_B115
  have L0 : (0 : Int32).toInt = 0 := rfl
  have L6 : (6 : Int32).toInt = 6 := rfl
  have L10 : (10 : Int32).toInt = 10 := rfl
  have L19 : (19 : Int32).toInt = 19 := rfl
  have L320 : (320 : Int32).toInt = 320 := rfl
  have nx1 := nt_b x1
  have nx2 := nt_b x2
  have hR0 := Rm_refl S
  have zS0 := mz_le hG
  refine mis_t (hp_50 _) ?_
  refine mcl_v (t_Mo_isGood _) (fun v20 Sc1 zSc1 => ?_)
  obtain ⟨eSc1, pv20⟩ := zSc1
  subst eSc1
  have nv20 := nt_b v20
  refine ieq_t (fun c2 => ?_) (fun c2 => ?_)
  · have tc2 := congrArg Int32.toInt c2
    exact tot_mono (t_Mo_readCodes_B141 hn0 _ x1 x2 hG hH (by omega) (by omega)) (fun r S' z => QQ_tq hR0 (by omega) z)
  · refine mis_t (hp_50 _) ?_
    refine mcl_v (t_Mo_isWhole hn0 _ 320 19 0 hG (by omega) (by omega) (by omega)) (fun v59 Sc3 zSc3 => ?_)
    subst zSc3
    have nv59 := nt_b v59
    refine ieq_t (fun c4 => ?_) (fun c4 => ?_)
    · have tc4 := congrArg Int32.toInt c4
      refine mis_t (hp_50 _) ?_
      refine mcl_v (t_Mo_fail _ 6 hG hH (by decide)) (fun u6 Sc5 zSc5 => ?_)
      obtain ⟨⟨hGSc5, hHSc5, rRSc5⟩, pu6⟩ := zSc5
      have hRSc5 := Rm_trans hR0 rRSc5
      have zzSc5 := Rm_mz hGSc5 hHSc5 rRSc5 (by omega)
      have ggSc5 := rRSc5.1
      exact tot_mono (t_Mo_readCodes_B141 hn0 _ x1 x2 hGSc5 hHSc5 (by omega) (by omega)) (fun r S' z => QQ_tq hRSc5 (by omega) z)
    · exact tot_mono (t_Mo_readCodes_B141 hn0 _ x1 x2 hG hH (by omega) (by omega)) (fun r S' z => QQ_tq hR0 (by omega) z)
set_option maxHeartbeats 2000000 in
theorem t_Mo_readCodes_L77 {F B : mP} {n0 : Nat} (hn0 : big n0) : ∀ (n : Nat) (S : mS) (x1 : Int32) (x2 : Int32) (x3 : Int32) (x4 : Int32), G F B S → Hm S → (257 ≤ x1.toInt ∧ x1.toInt ≤ 288) → (1 ≤ x2.toInt ∧ x2.toInt ≤ 32) → (x3.toInt ≤ 19) → (0 ≤ x4.toInt) → (x3.toInt - x4.toInt).toNat < n → tot (f_Mo_readCodes_L77 n0 n (hp S) 50 x1 x2 x3 x4) (fun r S' => QQ F B (0) S S') := by
  intro n
  induction n with
  | zero =>
    intro S x1 x2 x3 x4 hG hH q0 q1 q2 q3 hm
    exact absurd hm (Nat.not_lt_zero _)
  | succ n ih =>
    intro S x1 x2 x3 x4 hG hH q0 q1 q2 q3 hm
    rw [f_Mo_readCodes_L77.eq_2]
    have L0 : (0 : Int32).toInt = 0 := rfl
    have L1 : (1 : Int32).toInt = 1 := rfl
    have L3 : (3 : Int32).toInt = 3 := rfl
    have L10 : (10 : Int32).toInt = 10 := rfl
    have L20 : (20 : Int32).toInt = 20 := rfl
    have L320 : (320 : Int32).toInt = 320 := rfl
    have nx1 := nt_b x1
    have nx2 := nt_b x2
    have nx3 := nt_b x3
    have nx4 := nt_b x4
    have hR0 := Rm_refl S
    have zS0 := mz_le hG
    refine ile_t (fun c1 => ?_) (fun c1 => ?_)
    · exact tot_mono (t_Mo_readCodes_B115 hn0 _ x1 x2 hG hH (by omega) (by omega)) (fun r S' z => QQ_tq hR0 (by omega) z)
    · refine mis_t (hp_50 _) ?_
      refine mcl_v (t_Mo_isGood _) (fun v67 Sc2 zSc2 => ?_)
      obtain ⟨eSc2, pv67⟩ := zSc2
      subst eSc2
      have nv67 := nt_b v67
      refine ieq_t (fun c3 => ?_) (fun c3 => ?_)
      · have tc3 := congrArg Int32.toInt c3
        exact tot_mono (t_Mo_readCodes_B115 hn0 _ x1 x2 hG hH (by omega) (by omega)) (fun r S' z => QQ_tq hR0 (by omega) z)
      · refine mgr_t (v := 60) (hp_50 _) rfl ?_
        refine mcl_v (t_Mo_orderOf hn0 _ x4 hG (by omega)) (fun v72 Sc4 zSc4 => ?_)
        obtain ⟨eSc4, pv72⟩ := zSc4
        subst eSc4
        have nv72 := nt_b v72
        refine mis_t (hp_50 _) ?_
        refine mcl_v (t_Mo_number hn0 _ 3 hG hH (by omega)) (fun v75 Sc5 zSc5 => ?_)
        obtain ⟨⟨hGSc5, hHSc5, rRSc5⟩, pv75⟩ := zSc5
        have hRSc5 := Rm_trans hR0 rRSc5
        have zzSc5 := Rm_mz hGSc5 hHSc5 rRSc5 (by omega)
        have ggSc5 := rRSc5.1
        have e2v75 : (2 : Int) ^ (3 : Int32).toInt.toNat = 8 := by decide
        rw [e2v75] at pv75
        have nv75 := nt_b v75
        have kz6 : (320 + v72 : Int32).toInt = (320 : Int32).toInt + (v72 : Int32).toInt := nt_add (by omega) (by omega)
        refine mas_t (hp_60 _) (nt_in (by omega) (by omega)) (ha_60 _ _) ?_
        have hGS7 : G F B (uA Sc5 60 (upd (Sc5.2.1 60) ((320 + v72)).toNatClampNeg v75)) := G_Ai hGSc5 (nb (by decide)) (by decide)
        have hHS7 : Hm (uA Sc5 60 (upd (Sc5.2.1 60) ((320 + v72)).toNatClampNeg v75)) := hHSc5
        have hRS7 : Rm _ S (uA Sc5 60 (upd (Sc5.2.1 60) ((320 + v72)).toNatClampNeg v75)) := hRSc5
        have zzS7 : mz (uA Sc5 60 (upd (Sc5.2.1 60) ((320 + v72)).toNatClampNeg v75)) = mz Sc5 := rfl
        generalize uA Sc5 60 (upd (Sc5.2.1 60) ((320 + v72)).toNatClampNeg v75) = S7 at hGS7 hHS7 hRS7 zzS7  ⊢
        refine mnm_v (fun v78 ev78 => ?_)
        have nv78 := nt_b v78
        have kv78 : v78.toInt = x4.toInt + 1 := by rw [ev78]; exact nt_inc (by omega)
        exact tot_mono (ih _ x1 x2 x3 v78 hGS7 hHS7 (by omega) (by omega) (by omega) (by omega) (by omega)) (fun r S' z => QQ_tq hRS7 (by omega) z)
set_option maxHeartbeats 2000000 in
theorem t_Mo_readCodes_B74 {F B : mP} {n0 : Nat} (hn0 : big n0) (S : mS) (x1 : Int32) (x2 : Int32) (x3 : Int32) (hG : G F B S) (hH : Hm S) (q0 : 257 ≤ x1.toInt ∧ x1.toInt ≤ 288) (q1 : 1 ≤ x2.toInt ∧ x2.toInt ≤ 32) (q2 : 0 ≤ x3.toInt ∧ x3.toInt ≤ 19) : tot (f_Mo_readCodes_B74 n0 (hp S) 50 x1 x2 x3) (fun r S' => QQ F B (0) S S') := by
  unfold f_Mo_readCodes_B74
  have L0 : (0 : Int32).toInt = 0 := rfl
  have nx1 := nt_b x1
  have nx2 := nt_b x2
  have nx3 := nt_b x3
  have hR0 := Rm_refl S
  have zS0 := mz_le hG
  exact tot_mono (t_Mo_readCodes_L77 hn0 n0 _ x1 x2 x3 0 hG hH (by omega) (by omega) (by omega) (by omega) (big_lt hn0 (by omega))) (fun r S' z => QQ_tq hR0 (by omega) z)
set_option maxHeartbeats 2000000 in
theorem t_Mo_readCodes_B68 {F B : mP} {n0 : Nat} (hn0 : big n0) (S : mS) (x1 : Int32) (x2 : Int32) (x3 : Int32) (hG : G F B S) (hH : Hm S) (q0 : 257 ≤ x1.toInt ∧ x1.toInt ≤ 288) (q1 : 1 ≤ x2.toInt ∧ x2.toInt ≤ 32) (q2 : 0 ≤ x3.toInt ∧ x3.toInt ≤ 19) : tot (f_Mo_readCodes_B68 n0 (hp S) 50 x1 x2 x3) (fun r S' => QQ F B (0) S S') := by
  unfold f_Mo_readCodes_B68
  have L6 : (6 : Int32).toInt = 6 := rfl
  have L10 : (10 : Int32).toInt = 10 := rfl
  have nx1 := nt_b x1
  have nx2 := nt_b x2
  have nx3 := nt_b x3
  have hR0 := Rm_refl S
  have zS0 := mz_le hG
  refine mis_t (hp_50 _) ?_
  refine mcl_v (t_Mo_fail _ 6 hG hH (by decide)) (fun u2 Sc1 zSc1 => ?_)
  obtain ⟨⟨hGSc1, hHSc1, rRSc1⟩, pu2⟩ := zSc1
  have hRSc1 := Rm_trans hR0 rRSc1
  have zzSc1 := Rm_mz hGSc1 hHSc1 rRSc1 (by omega)
  have ggSc1 := rRSc1.1
  exact tot_mono (t_Mo_readCodes_B74 hn0 _ x1 x2 x3 hGSc1 hHSc1 (by omega) (by omega) (by omega)) (fun r S' z => QQ_tq hRSc1 (by omega) z)
set_option maxHeartbeats 2000000 in
theorem t_Mo_readCodes_L2 {F B : mP} {n0 : Nat} (hn0 : big n0) : ∀ (n : Nat) (S : mS) (x1 : Int32), G F B S → Hm S → (0 ≤ x1.toInt) → (339 - x1.toInt).toNat < n → tot (f_Mo_readCodes_L2 n0 n (hp S) 50 x1) (fun r S' => QQ F B (0) S S') := by
  intro n
  induction n with
  | zero =>
    intro S x1 hG hH q0 hm
    exact absurd hm (Nat.not_lt_zero _)
  | succ n ih =>
    intro S x1 hG hH q0 hm
    rw [f_Mo_readCodes_L2.eq_2]
    have L0 : (0 : Int32).toInt = 0 := rfl
    have L1 : (1 : Int32).toInt = 1 := rfl
    have L4 : (4 : Int32).toInt = 4 := rfl
    have L5 : (5 : Int32).toInt = 5 := rfl
    have L10 : (10 : Int32).toInt = 10 := rfl
    have L20 : (20 : Int32).toInt = 20 := rfl
    have L30 : (30 : Int32).toInt = 30 := rfl
    have L257 : (257 : Int32).toInt = 257 := rfl
    have L286 : (286 : Int32).toInt = 286 := rfl
    have L339 : (339 : Int32).toInt = 339 := rfl
    have nx1 := nt_b x1
    have hR0 := Rm_refl S
    have zS0 := mz_le hG
    refine ile_t (fun c1 => ?_) (fun c1 => ?_)
    · refine mis_t (hp_50 _) ?_
      refine mcl_v (t_Mo_number hn0 _ 5 hG hH (by omega)) (fun v3 Sc2 zSc2 => ?_)
      obtain ⟨⟨hGSc2, hHSc2, rRSc2⟩, pv3⟩ := zSc2
      have hRSc2 := Rm_trans hR0 rRSc2
      have zzSc2 := Rm_mz hGSc2 hHSc2 rRSc2 (by omega)
      have ggSc2 := rRSc2.1
      have e2v3 : (2 : Int) ^ (5 : Int32).toInt.toNat = 32 := by decide
      rw [e2v3] at pv3
      have nv3 := nt_b v3
      refine mnm_v (fun v5 ev5 => ?_)
      have nv5 := nt_b v5
      have kz3 : (v3 + 257 : Int32).toInt = (v3 : Int32).toInt + (257 : Int32).toInt := nt_add (by omega) (by omega)
      have kv5 : v5.toInt = (v3 + 257).toInt := by rw [ev5]
      refine mis_t (hp_50 _) ?_
      refine mcl_v (t_Mo_number hn0 _ 5 hGSc2 hHSc2 (by omega)) (fun v7 Sc4 zSc4 => ?_)
      obtain ⟨⟨hGSc4, hHSc4, rRSc4⟩, pv7⟩ := zSc4
      have hRSc4 := Rm_trans hRSc2 rRSc4
      have zzSc4 := Rm_mz hGSc4 hHSc4 rRSc4 (by omega)
      have ggSc4 := rRSc4.1
      have e2v7 : (2 : Int) ^ (5 : Int32).toInt.toNat = 32 := by decide
      rw [e2v7] at pv7
      have nv7 := nt_b v7
      refine mnm_v (fun v9 ev9 => ?_)
      have nv9 := nt_b v9
      have kv9 : v9.toInt = v7.toInt + 1 := by rw [ev9]; exact nt_inc (by omega)
      refine mis_t (hp_50 _) ?_
      refine mcl_v (t_Mo_number hn0 _ 4 hGSc4 hHSc4 (by omega)) (fun v11 Sc5 zSc5 => ?_)
      obtain ⟨⟨hGSc5, hHSc5, rRSc5⟩, pv11⟩ := zSc5
      have hRSc5 := Rm_trans hRSc4 rRSc5
      have zzSc5 := Rm_mz hGSc5 hHSc5 rRSc5 (by omega)
      have ggSc5 := rRSc5.1
      have e2v11 : (2 : Int) ^ (4 : Int32).toInt.toNat = 16 := by decide
      rw [e2v11] at pv11
      have nv11 := nt_b v11
      refine mnm_v (fun v13 ev13 => ?_)
      have nv13 := nt_b v13
      have kz6 : (v11 + 4 : Int32).toInt = (v11 : Int32).toInt + (4 : Int32).toInt := nt_add (by omega) (by omega)
      have kv13 : v13.toInt = (v11 + 4).toInt := by rw [ev13]
      refine mis_t (hp_50 _) ?_
      refine mcl_v (t_Mo_isGood _) (fun v15 Sc7 zSc7 => ?_)
      obtain ⟨eSc7, pv15⟩ := zSc7
      subst eSc7
      have nv15 := nt_b v15
      refine ieq_t (fun c8 => ?_) (fun c8 => ?_)
      · have tc8 := congrArg Int32.toInt c8
        exact tot_mono (t_Mo_readCodes_B74 hn0 _ v5 v9 v13 hGSc5 hHSc5 (by omega) (by omega) (by omega)) (fun r S' z => QQ_tq hRSc5 (by omega) z)
      · refine ilt_t (fun c9 => ?_) (fun c9 => ?_)
        · exact tot_mono (t_Mo_readCodes_B68 hn0 _ v5 v9 v13 hGSc5 hHSc5 (by omega) (by omega) (by omega)) (fun r S' z => QQ_tq hRSc5 (by omega) z)
        · refine ile_t (fun c10 => ?_) (fun c10 => ?_)
          · exact tot_mono (t_Mo_readCodes_B74 hn0 _ v5 v9 v13 hGSc5 hHSc5 (by omega) (by omega) (by omega)) (fun r S' z => QQ_tq hRSc5 (by omega) z)
          · exact tot_mono (t_Mo_readCodes_B68 hn0 _ v5 v9 v13 hGSc5 hHSc5 (by omega) (by omega) (by omega)) (fun r S' z => QQ_tq hRSc5 (by omega) z)
    · refine mgr_t (v := 60) (hp_50 _) rfl ?_
      refine mas_t (hp_60 _) (nt_in (by omega) (by omega)) (ha_60 _ _) ?_
      have hGS11 : G F B (uA S 60 (upd (S.2.1 60) (x1).toNatClampNeg 0)) := G_Ai hG (nb (by decide)) (by decide)
      have hHS11 : Hm (uA S 60 (upd (S.2.1 60) (x1).toNatClampNeg 0)) := hH
      have hRS11 : Rm _ S (uA S 60 (upd (S.2.1 60) (x1).toNatClampNeg 0)) := hR0
      have zzS11 : mz (uA S 60 (upd (S.2.1 60) (x1).toNatClampNeg 0)) = mz S := rfl
      generalize uA S 60 (upd (S.2.1 60) (x1).toNatClampNeg 0) = S11 at hGS11 hHS11 hRS11 zzS11  ⊢
      refine mnm_v (fun v87 ev87 => ?_)
      have nv87 := nt_b v87
      have kv87 : v87.toInt = x1.toInt + 1 := by rw [ev87]; exact nt_inc (by omega)
      exact tot_mono (ih _ v87 hGS11 hHS11 (by omega) (by omega)) (fun r S' z => QQ_tq hRS11 (by omega) z)
set_option maxHeartbeats 2000000 in
theorem t_Mo_readCodes {F B : mP} {n0 : Nat} (hn0 : big n0) (S : mS)  (hG : G F B S) (hH : Hm S)  : tot (f_Mo_readCodes n0 (hp S) 50) (fun r S' => QQ F B (0) S S') := by
  unfold f_Mo_readCodes
  have L0 : (0 : Int32).toInt = 0 := rfl
  have hR0 := Rm_refl S
  have zS0 := mz_le hG
  exact tot_mono (t_Mo_readCodes_L2 hn0 n0 _ 0 hG hH (by omega) (big_lt hn0 (by omega))) (fun r S' z => QQ_tq hR0 (by omega) z)
set_option maxHeartbeats 2000000 in
theorem t_Mo_lengthBits {F B : mP} {n0 : Nat} (hn0 : big n0) (S : mS) (x0 : Int32) (hG : G F B S) (q0 : x0.toInt ≤ 285) : tot (f_Mo_lengthBits n0 (hp S) x0) (fun r S' => S = S' ∧ (0 ≤ r.toInt ∧ r.toInt ≤ 13)) := by
  unfold f_Mo_lengthBits
  have L0 : (0 : Int32).toInt = 0 := rfl
  have L4 : (4 : Int32).toInt = 4 := rfl
  have L261 : (261 : Int32).toInt = 261 := rfl
  have L265 : (265 : Int32).toInt = 265 := rfl
  have L285 : (285 : Int32).toInt = 285 := rfl
  have nx0 := nt_b x0
  refine ilt_t (fun c1 => ?_) (fun c1 => ?_)
  · exact tot_end ⟨rfl, by omega⟩
  · refine ieq_t (fun c2 => ?_) (fun c2 => ?_)
    · have tc2 := congrArg Int32.toInt c2
      exact tot_end ⟨rfl, by omega⟩
    · exact tot_end ⟨rfl, by have k_ : (x0 - 261 : Int32).toInt = x0.toInt - (261 : Int32).toInt := nt_sub (by omega) (by omega); rw [nt_div (x := x0 - 261) (y := 4) (by omega) (by decide), L4]; omega⟩
set_option maxHeartbeats 2000000 in
theorem t_Mo_lengthOf_L6 {F B : mP} {n0 : Nat} (hn0 : big n0) : ∀ (n : Nat) (S : mS) (x0 : Int32) (x1 : Int32) (x2 : Int32), G F B S → (x0.toInt ≤ 285) → (x0.toInt - x2.toInt).toNat < n → tot (f_Mo_lengthOf_L6 n0 n (hp S) x0 x1 x2) (fun r S' => S = S') := by
  intro n
  induction n with
  | zero =>
    intro S x0 x1 x2 hG q0 hm
    exact absurd hm (Nat.not_lt_zero _)
  | succ n ih =>
    intro S x0 x1 x2 hG q0 hm
    rw [f_Mo_lengthOf_L6.eq_2]
    have L0 : (0 : Int32).toInt = 0 := rfl
    have L1 : (1 : Int32).toInt = 1 := rfl
    have L31 : (31 : Int32).toInt = 31 := rfl
    have L258 : (258 : Int32).toInt = 258 := rfl
    have L285 : (285 : Int32).toInt = 285 := rfl
    have nx0 := nt_b x0
    have nx1 := nt_b x1
    have nx2 := nt_b x2
    refine ile_t (fun c1 => ?_) (fun c1 => ?_)
    · refine ieq_t (fun c2 => ?_) (fun c2 => ?_)
      · have tc2 := congrArg Int32.toInt c2
        exact tot_end rfl
      · exact tot_end rfl
    · refine mcl_v (t_Mo_lengthBits hn0 _ x2 hG (by omega)) (fun v4 Sc3 zSc3 => ?_)
      obtain ⟨eSc3, pv4⟩ := zSc3
      subst eSc3
      have nv4 := nt_b v4
      refine mnm_v (fun v6 ev6 => ?_)
      have nv6 := nt_b v6
      refine mnm_v (fun v7 ev7 => ?_)
      have nv7 := nt_b v7
      have kv7 : v7.toInt = x2.toInt + 1 := by rw [ev7]; exact nt_inc (by omega)
      exact ih _ x0 v6 v7 hG (by omega) (by omega)
set_option maxHeartbeats 2000000 in
theorem t_Mo_lengthOf {F B : mP} {n0 : Nat} (hn0 : big n0) (S : mS) (x0 : Int32) (hG : G F B S) (q0 : x0.toInt ≤ 285) : tot (f_Mo_lengthOf n0 (hp S) x0) (fun r S' => S = S') := by
  unfold f_Mo_lengthOf
  have L3 : (3 : Int32).toInt = 3 := rfl
  have L257 : (257 : Int32).toInt = 257 := rfl
  have nx0 := nt_b x0
  exact t_Mo_lengthOf_L6 hn0 n0 _ x0 3 257 hG (by omega) (big_lt hn0 (by omega))
set_option maxHeartbeats 2000000 in
theorem t_Mo_distanceBits {F B : mP} {n0 : Nat} (hn0 : big n0) (S : mS) (x0 : Int32) (hG : G F B S) (q0 : x0.toInt ≤ 29) : tot (f_Mo_distanceBits n0 (hp S) x0) (fun r S' => S = S' ∧ (0 ≤ r.toInt ∧ r.toInt ≤ 13)) := by
  unfold f_Mo_distanceBits
  have L0 : (0 : Int32).toInt = 0 := rfl
  have L1 : (1 : Int32).toInt = 1 := rfl
  have L2 : (2 : Int32).toInt = 2 := rfl
  have L4 : (4 : Int32).toInt = 4 := rfl
  have nx0 := nt_b x0
  refine ile_t (fun c1 => ?_) (fun c1 => ?_)
  · exact tot_end ⟨rfl, by have k_ := nt_half (x := x0) (by omega); have j_ : (x0 / 2).toInt = x0.toInt / (2 : Int32).toInt := nt_div (by omega) (by decide); rw [L2] at j_; rw [nt_sub (by omega) (by omega)]; omega⟩
  · exact tot_end ⟨rfl, by omega⟩
set_option maxHeartbeats 2000000 in
theorem t_Mo_distanceOf_L4 {F B : mP} {n0 : Nat} (hn0 : big n0) : ∀ (n : Nat) (S : mS) (x0 : Int32) (x1 : Int32) (x2 : Int32), G F B S → (x0.toInt ≤ 29) → (0 ≤ x2.toInt ∧ x2.toInt ≤ 30) → (1 ≤ x1.toInt ∧ x1.toInt ≤ 1 + 8192 * x2.toInt) → (x0.toInt - x2.toInt).toNat < n → tot (f_Mo_distanceOf_L4 n0 n (hp S) x0 x1 x2) (fun r S' => S = S' ∧ (1 ≤ r.toInt ∧ r.toInt ≤ 1000000)) := by
  intro n
  induction n with
  | zero =>
    intro S x0 x1 x2 hG q0 q1 q2 hm
    exact absurd hm (Nat.not_lt_zero _)
  | succ n ih =>
    intro S x0 x1 x2 hG q0 q1 q2 hm
    rw [f_Mo_distanceOf_L4.eq_2]
    have L0 : (0 : Int32).toInt = 0 := rfl
    have L1 : (1 : Int32).toInt = 1 := rfl
    have L31 : (31 : Int32).toInt = 31 := rfl
    have nx0 := nt_b x0
    have nx1 := nt_b x1
    have nx2 := nt_b x2
    refine ile_t (fun c1 => ?_) (fun c1 => ?_)
    · exact tot_end ⟨rfl, by omega⟩
    · refine mcl_v (t_Mo_distanceBits hn0 _ x2 hG (by omega)) (fun v3 Sc2 zSc2 => ?_)
      obtain ⟨eSc2, pv3⟩ := zSc2
      subst eSc2
      have nv3 := nt_b v3
      have sv3 := sh_1 (v := v3) (by omega) (by omega)
      refine mnm_v (fun v5 ev5 => ?_)
      have nv5 := nt_b v5
      have kz3 : (x1 + (1 <<< (v3 &&& 31)) : Int32).toInt = (x1 : Int32).toInt + ((1 <<< (v3 &&& 31)) : Int32).toInt := nt_add (by omega) (by omega)
      have kv5 : v5.toInt = (x1 + (1 <<< (v3 &&& 31))).toInt := by rw [ev5]
      refine mnm_v (fun v6 ev6 => ?_)
      have nv6 := nt_b v6
      have kv6 : v6.toInt = x2.toInt + 1 := by rw [ev6]; exact nt_inc (by omega)
      exact ih _ x0 v5 v6 hG (by omega) (by omega) (by omega) (by omega)
set_option maxHeartbeats 2000000 in
theorem t_Mo_distanceOf {F B : mP} {n0 : Nat} (hn0 : big n0) (S : mS) (x0 : Int32) (hG : G F B S) (q0 : x0.toInt ≤ 29) : tot (f_Mo_distanceOf n0 (hp S) x0) (fun r S' => S = S' ∧ (1 ≤ r.toInt ∧ r.toInt ≤ 1000000)) := by
  unfold f_Mo_distanceOf
  have L0 : (0 : Int32).toInt = 0 := rfl
  have L1 : (1 : Int32).toInt = 1 := rfl
  have nx0 := nt_b x0
  exact t_Mo_distanceOf_L4 hn0 n0 _ x0 1 0 hG (by omega) (by omega) (by omega) (big_lt hn0 (by omega))
set_option maxHeartbeats 2000000 in
theorem t_Mo_match_L108 {F B : mP} {n0 : Nat} (hn0 : big n0) : ∀ (n : Nat) (S : mS) (x2 : Int32) (x4 : Int32) (x5 : Int32), G F B S → Hm S → (mz S = 0 ∨ (1 ≤ x4.toInt ∧ x4.toInt ≤ (S.1 5013).toInt)) → (x2.toInt - x5.toInt).toNat < n → tot (f_Mo_match_L108 n0 n (hp S) 50 x2 x4 x5) (fun r S' => QQ F B (0) S S') := by
  intro n
  induction n with
  | zero =>
    intro S x2 x4 x5 hG hH q0 hm
    exact absurd hm (Nat.not_lt_zero _)
  | succ n ih =>
    intro S x2 x4 x5 hG hH q0 hm
    rw [f_Mo_match_L108.eq_2]
    have L0 : (0 : Int32).toInt = 0 := rfl
    have L1 : (1 : Int32).toInt = 1 := rfl
    have L10 : (10 : Int32).toInt = 10 := rfl
    have L13 : (13 : Int32).toInt = 13 := rfl
    have L14 : (14 : Int32).toInt = 14 := rfl
    have nx2 := nt_b x2
    have nx4 := nt_b x4
    have nx5 := nt_b x5
    have hR0 := Rm_refl S
    have zS0 := mz_le hG
    refine ile_t (fun c1 => ?_) (fun c1 => ?_)
    · exact tot_end (QQ_fin hG hH hR0 (by omega))
    · refine mis_t (hp_50 _) ?_
      refine mcl_v (t_Mo_isGood _) (fun v29 Sc2 zSc2 => ?_)
      obtain ⟨eSc2, pv29⟩ := zSc2
      subst eSc2
      have nv29 := nt_b v29
      refine ieq_t (fun c3 => ?_) (fun c3 => ?_)
      · have tc3 := congrArg Int32.toInt c3
        exact tot_end (QQ_fin hG hH hR0 (by omega))
      · refine mgr_t (v := 59) (hp_50 _) rfl ?_
        refine mgi_v (hp_50 _) rfl (fun v33 ev33 => ?_)
        have nv33 := nt_b v33
        have bv33 := b_5013 hG
        rw [← ev33] at bv33
        have dv33 := congrArg Int32.toInt ev33
        have kz4 : (v33 - x4 : Int32).toInt = (v33 : Int32).toInt - (x4 : Int32).toInt := nt_sub (by omega) (by omega)
        refine mai_v (hp_59 _) (nt_in (by omega) (by omega)) (fun v34 ev34 => ?_)
        have nv34 := nt_b v34
        refine mis_t (hp_50 _) ?_
        refine mcl_v (t_Mo_give _ v34 hG hH) (fun u6 Sc5 zSc5 => ?_)
        obtain ⟨⟨hGSc5, hHSc5, rRSc5⟩, pu6⟩ := zSc5
        have hRSc5 := Rm_trans hR0 rRSc5
        have zzSc5 := Rm_mz hGSc5 hHSc5 rRSc5 (by omega)
        have ggSc5 := rRSc5.1
        refine mnm_v (fun v39 ev39 => ?_)
        have nv39 := nt_b v39
        have kv39 : v39.toInt = x5.toInt + 1 := by rw [ev39]; exact nt_inc (by omega)
        exact tot_mono (ih _ x2 x4 v39 hGSc5 hHSc5 (by omega) (by omega)) (fun r S' z => QQ_tq hRSc5 (by omega) z)
set_option maxHeartbeats 2000000 in
theorem t_Mo_match_B105 {F B : mP} {n0 : Nat} (hn0 : big n0) (S : mS) (x2 : Int32) (x4 : Int32) (hG : G F B S) (hH : Hm S) (q0 : mz S = 0 ∨ (1 ≤ x4.toInt ∧ x4.toInt ≤ (S.1 5013).toInt)) : tot (f_Mo_match_B105 n0 (hp S) 50 x2 x4) (fun r S' => QQ F B (0) S S') := by
  unfold f_Mo_match_B105
  have L0 : (0 : Int32).toInt = 0 := rfl
  have nx2 := nt_b x2
  have nx4 := nt_b x4
  have hR0 := Rm_refl S
  have zS0 := mz_le hG
  exact tot_mono (t_Mo_match_L108 hn0 n0 _ x2 x4 0 hG hH (by omega) (big_lt hn0 (by omega))) (fun r S' z => QQ_tq hR0 (by omega) z)
set_option maxHeartbeats 2000000 in
theorem t_Mo_match_B81 {F B : mP} {n0 : Nat} (hn0 : big n0) (S : mS) (x2 : Int32) (p0 : Int32) (hG : G F B S) (hH : Hm S) (q0 : mz S = 0 ∨ (1 ≤ p0.toInt ∧ p0.toInt ≤ 2000000)) : tot (f_Mo_match_B81 n0 (hp S) 50 x2 p0) (fun r S' => QQ F B (0) S S') := by
  unfold f_Mo_match_B81
  have L0 : (0 : Int32).toInt = 0 := rfl
  have L8 : (8 : Int32).toInt = 8 := rfl
  have L10 : (10 : Int32).toInt = 10 := rfl
  have L13 : (13 : Int32).toInt = 13 := rfl
  have nx2 := nt_b x2
  have np0 := nt_b p0
  have hR0 := Rm_refl S
  have zS0 := mz_le hG
  refine mis_t (hp_50 _) ?_
  refine mcl_v (t_Mo_isGood _) (fun v24 Sc1 zSc1 => ?_)
  obtain ⟨eSc1, pv24⟩ := zSc1
  subst eSc1
  have nv24 := nt_b v24
  refine ieq_t (fun c2 => ?_) (fun c2 => ?_)
  · have tc2 := congrArg Int32.toInt c2
    exact tot_mono (t_Mo_match_B105 hn0 _ x2 p0 hG hH (by omega)) (fun r S' z => QQ_tq hR0 (by omega) z)
  · refine mgi_v (hp_50 _) rfl (fun v40 ev40 => ?_)
    have nv40 := nt_b v40
    have bv40 := b_5013 hG
    rw [← ev40] at bv40
    have dv40 := congrArg Int32.toInt ev40
    refine ile_t (fun c3 => ?_) (fun c3 => ?_)
    · exact tot_mono (t_Mo_match_B105 hn0 _ x2 p0 hG hH (by omega)) (fun r S' z => QQ_tq hR0 (by omega) z)
    · refine mis_t (hp_50 _) ?_
      refine mcl_v (t_Mo_fail _ 8 hG hH (by decide)) (fun u5 Sc4 zSc4 => ?_)
      obtain ⟨⟨hGSc4, hHSc4, rRSc4⟩, pu5⟩ := zSc4
      have hRSc4 := Rm_trans hR0 rRSc4
      have zzSc4 := Rm_mz hGSc4 hHSc4 rRSc4 (by omega)
      have ggSc4 := rRSc4.1
      exact tot_mono (t_Mo_match_B105 hn0 _ x2 p0 hGSc4 hHSc4 (by omega)) (fun r S' z => QQ_tq hRSc4 (by omega) z)
set_option maxHeartbeats 2000000 in
theorem t_Mo_match_B57 {F B : mP} {n0 : Nat} (hn0 : big n0) (S : mS) (x2 : Int32) (x3 : Int32) (hG : G F B S) (hH : Hm S) (q0 : mz S = 0 ∨ x3.toInt ≤ 29) : tot (f_Mo_match_B57 n0 (hp S) 50 x2 x3) (fun r S' => QQ F B (0) S S') := by
  unfold f_Mo_match_B57
  have L0 : (0 : Int32).toInt = 0 := rfl
  have L10 : (10 : Int32).toInt = 10 := rfl
  have nx2 := nt_b x2
  have nx3 := nt_b x3
  have hR0 := Rm_refl S
  have zS0 := mz_le hG
  refine mis_t (hp_50 _) ?_
  refine mcl_v (t_Mo_isGood _) (fun v20 Sc1 zSc1 => ?_)
  obtain ⟨eSc1, pv20⟩ := zSc1
  subst eSc1
  have nv20 := nt_b v20
  refine ieq_t (fun c2 => ?_) (fun c2 => ?_)
  · have tc2 := congrArg Int32.toInt c2
    exact tot_mono (t_Mo_match_B81 hn0 _ x2 0 hG hH (by omega)) (fun r S' z => QQ_tq hR0 (by omega) z)
  · refine mcl_v (t_Mo_distanceOf hn0 _ x3 hG (by omega)) (fun v47 Sc3 zSc3 => ?_)
    obtain ⟨eSc3, pv47⟩ := zSc3
    subst eSc3
    have nv47 := nt_b v47
    refine mcl_v (t_Mo_distanceBits hn0 _ x3 hG (by omega)) (fun v50 Sc4 zSc4 => ?_)
    obtain ⟨eSc4, pv50⟩ := zSc4
    subst eSc4
    have nv50 := nt_b v50
    refine mis_t (hp_50 _) ?_
    refine mcl_v (t_Mo_number hn0 _ v50 hG hH (by omega)) (fun v53 Sc5 zSc5 => ?_)
    obtain ⟨⟨hGSc5, hHSc5, rRSc5⟩, pv53⟩ := zSc5
    have hRSc5 := Rm_trans hR0 rRSc5
    have zzSc5 := Rm_mz hGSc5 hHSc5 rRSc5 (by omega)
    have ggSc5 := rRSc5.1
    have l2v53 := lb_end (k := v50.toInt.toNat) (by omega) pv53.2
    have nv53 := nt_b v53
    have kz6 : (v47 + v53 : Int32).toInt = (v47 : Int32).toInt + (v53 : Int32).toInt := nt_add (by omega) (by omega)
    exact tot_mono (t_Mo_match_B81 hn0 _ x2 (v47 + v53) hGSc5 hHSc5 (by omega)) (fun r S' z => QQ_tq hRSc5 (by omega) z)
set_option maxHeartbeats 2000000 in
theorem t_Mo_match {F B : mP} {n0 : Nat} (hn0 : big n0) (S : mS) (x1 : Int32) (hG : G F B S) (hH : Hm S)  : tot (f_Mo_match n0 (hp S) 50 x1) (fun r S' => QQ F B (0) S S') := by
  unfold f_Mo_match
  have L0 : (0 : Int32).toInt = 0 := rfl
  have L7 : (7 : Int32).toInt = 7 := rfl
  have L10 : (10 : Int32).toInt = 10 := rfl
  have L29 : (29 : Int32).toInt = 29 := rfl
  have L32 : (32 : Int32).toInt = 32 := rfl
  have L285 : (285 : Int32).toInt = 285 := rfl
  have L288 : (288 : Int32).toInt = 288 := rfl
  have nx1 := nt_b x1
  have hR0 := Rm_refl S
  have zS0 := mz_le hG
  refine ile_t (fun c1 => ?_) (fun c1 => ?_)
  · refine mcl_v (t_Mo_lengthOf hn0 _ x1 hG (by omega)) (fun v3 Sc2 zSc2 => ?_)
    subst zSc2
    have nv3 := nt_b v3
    refine mcl_v (t_Mo_lengthBits hn0 _ x1 hG (by omega)) (fun v6 Sc3 zSc3 => ?_)
    obtain ⟨eSc3, pv6⟩ := zSc3
    subst eSc3
    have nv6 := nt_b v6
    refine mis_t (hp_50 _) ?_
    refine mcl_v (t_Mo_number hn0 _ v6 hG hH (by omega)) (fun v9 Sc4 zSc4 => ?_)
    obtain ⟨⟨hGSc4, hHSc4, rRSc4⟩, pv9⟩ := zSc4
    have hRSc4 := Rm_trans hR0 rRSc4
    have zzSc4 := Rm_mz hGSc4 hHSc4 rRSc4 (by omega)
    have ggSc4 := rRSc4.1
    have l2v9 := lb_end (k := v6.toInt.toNat) (by omega) pv9.2
    have nv9 := nt_b v9
    refine mnm_v (fun v11 ev11 => ?_)
    have nv11 := nt_b v11
    refine mis_t (hp_50 _) ?_
    refine mcl_v (t_Mo_symbol hn0 _ 288 32 hGSc4 hHSc4 (by omega) (by omega) (by omega)) (fun v13 Sc5 zSc5 => ?_)
    obtain ⟨hGSc5, hHSc5, rRSc5⟩ := zSc5
    have hRSc5 := Rm_trans hRSc4 rRSc5
    have zzSc5 := Rm_mz hGSc5 hHSc5 rRSc5 (by omega)
    have ggSc5 := rRSc5.1
    have nv13 := nt_b v13
    refine mis_t (hp_50 _) ?_
    refine mcl_v (t_Mo_isGood _) (fun v16 Sc6 zSc6 => ?_)
    obtain ⟨eSc6, pv16⟩ := zSc6
    subst eSc6
    have nv16 := nt_b v16
    refine ieq_t (fun c7 => ?_) (fun c7 => ?_)
    · have tc7 := congrArg Int32.toInt c7
      exact tot_mono (t_Mo_match_B57 hn0 _ v11 v13 hGSc5 hHSc5 (by omega)) (fun r S' z => QQ_tq hRSc5 (by omega) z)
    · refine ile_t (fun c8 => ?_) (fun c8 => ?_)
      · exact tot_mono (t_Mo_match_B57 hn0 _ v11 v13 hGSc5 hHSc5 (by omega)) (fun r S' z => QQ_tq hRSc5 (by omega) z)
      · refine mis_t (hp_50 _) ?_
        refine mcl_v (t_Mo_fail _ 7 hGSc5 hHSc5 (by decide)) (fun u10 Sc9 zSc9 => ?_)
        obtain ⟨⟨hGSc9, hHSc9, rRSc9⟩, pu10⟩ := zSc9
        have hRSc9 := Rm_trans hRSc5 rRSc9
        have zzSc9 := Rm_mz hGSc9 hHSc9 rRSc9 (by omega)
        have ggSc9 := rRSc9.1
        exact tot_mono (t_Mo_match_B57 hn0 _ v11 v13 hGSc9 hHSc9 (by omega)) (fun r S' z => QQ_tq hRSc9 (by omega) z)
  · refine mis_t (hp_50 _) ?_
    refine mcl_v (t_Mo_fail _ 7 hG hH (by decide)) (fun u12 Sc11 zSc11 => ?_)
    obtain ⟨⟨hGSc11, hHSc11, rRSc11⟩, pu12⟩ := zSc11
    have hRSc11 := Rm_trans hR0 rRSc11
    have zzSc11 := Rm_mz hGSc11 hHSc11 rRSc11 (by omega)
    have ggSc11 := rRSc11.1
    exact tot_end (QQ_fin hGSc11 hHSc11 hRSc11 (by omega))
set_option maxHeartbeats 2000000 in
theorem t_Mo_coded_B53 {F B : mP} {n0 : Nat} (hn0 : big n0) {M : Nat} {K2 : mH → Nat → Int32 → Option (Unit × mH)} (hK2 : ∀ (S : mS) (x1 : Int32), G F B S → Hm S → mz S < M → tot (K2 (hp S) 50 x1) (fun r S' => QQ F B (0) S S')) (S : mS) (x2 : Int32) (hG : G F B S) (hH : Hm S) (q0 : mz S < M) : tot (f_Mo_coded_B53 K2 n0 (hp S) 50 x2) (fun r S' => QQ F B (0) S S') := by
  unfold f_Mo_coded_B53
  have L0 : (0 : Int32).toInt = 0 := rfl
  have L1 : (1 : Int32).toInt = 1 := rfl
  have L256 : (256 : Int32).toInt = 256 := rfl
  have nx2 := nt_b x2
  have hR0 := Rm_refl S
  have zS0 := mz_le hG
  refine ieq_t (fun c1 => ?_) (fun c1 => ?_)
  · have tc1 := congrArg Int32.toInt c1
    exact tot_mono (hK2 _ 0 hG hH (by omega)) (fun r S' z => QQ_tq hR0 (by omega) z)
  · exact tot_mono (hK2 _ 1 hG hH (by omega)) (fun r S' z => QQ_tq hR0 (by omega) z)
set_option maxHeartbeats 2000000 in
theorem t_Mo_coded_B41 {F B : mP} {n0 : Nat} (hn0 : big n0) {M : Nat} {K2 : mH → Nat → Int32 → Option (Unit × mH)} (hK2 : ∀ (S : mS) (x1 : Int32), G F B S → Hm S → mz S < M → tot (K2 (hp S) 50 x1) (fun r S' => QQ F B (0) S S')) (S : mS) (x2 : Int32) (hG : G F B S) (hH : Hm S) (q0 : mz S < M) : tot (f_Mo_coded_B41 K2 n0 (hp S) 50 x2) (fun r S' => QQ F B (0) S S') := by
  unfold f_Mo_coded_B41
  have L10 : (10 : Int32).toInt = 10 := rfl
  have L256 : (256 : Int32).toInt = 256 := rfl
  have nx2 := nt_b x2
  have hR0 := Rm_refl S
  have zS0 := mz_le hG
  refine ile_t (fun c1 => ?_) (fun c1 => ?_)
  · exact tot_mono (t_Mo_coded_B53 hn0 hK2 _ x2 hG hH (by omega)) (fun r S' z => QQ_tq hR0 (by omega) z)
  · refine mis_t (hp_50 _) ?_
    refine mcl_v (t_Mo_match hn0 _ x2 hG hH) (fun u3 Sc2 zSc2 => ?_)
    obtain ⟨hGSc2, hHSc2, rRSc2⟩ := zSc2
    have hRSc2 := Rm_trans hR0 rRSc2
    have zzSc2 := Rm_mz hGSc2 hHSc2 rRSc2 (by omega)
    have ggSc2 := rRSc2.1
    exact tot_mono (t_Mo_coded_B53 hn0 hK2 _ x2 hGSc2 hHSc2 (by omega)) (fun r S' z => QQ_tq hRSc2 (by omega) z)
set_option maxHeartbeats 2000000 in
theorem t_Mo_coded_L2 {F B : mP} {n0 : Nat} (hn0 : big n0) : ∀ (n : Nat) (S : mS) (x1 : Int32), G F B S → Hm S → mz S < n → tot (f_Mo_coded_L2 n0 n (hp S) 50 x1) (fun r S' => QQ F B (0) S S') := by
  intro n
  induction n with
  | zero =>
    intro S x1 hG hH hm
    exact absurd hm (Nat.not_lt_zero _)
  | succ n ih =>
    intro S x1 hG hH hm
    rw [f_Mo_coded_L2.eq_2]
    have L0 : (0 : Int32).toInt = 0 := rfl
    have L1 : (1 : Int32).toInt = 1 := rfl
    have L10 : (10 : Int32).toInt = 10 := rfl
    have L256 : (256 : Int32).toInt = 256 := rfl
    have L288 : (288 : Int32).toInt = 288 := rfl
    have nx1 := nt_b x1
    have hR0 := Rm_refl S
    have zS0 := mz_le hG
    refine ieq_t (fun c1 => ?_) (fun c1 => ?_)
    · have tc1 := congrArg Int32.toInt c1
      exact tot_end (QQ_fin hG hH hR0 (by omega))
    · refine mis_t (hp_50 _) ?_
      refine mcl_v (t_Mo_isGood _) (fun v3 Sc2 zSc2 => ?_)
      obtain ⟨eSc2, pv3⟩ := zSc2
      subst eSc2
      have nv3 := nt_b v3
      refine ieq_t (fun c3 => ?_) (fun c3 => ?_)
      · have tc3 := congrArg Int32.toInt c3
        exact tot_end (QQ_fin hG hH hR0 (by omega))
      · refine mis_t (hp_50 _) ?_
        refine mcl_v (t_Mo_symbol hn0 _ 0 288 hG hH (by omega) (by omega) (by omega)) (fun v7 Sc4 zSc4 => ?_)
        obtain ⟨hGSc4, hHSc4, rRSc4⟩ := zSc4
        have hRSc4 := Rm_trans hR0 rRSc4
        have zzSc4 := Rm_mz hGSc4 hHSc4 rRSc4 (by omega)
        have ggSc4 := rRSc4.1
        have nv7 := nt_b v7
        refine ilt_t (fun c5 => ?_) (fun c5 => ?_)
        · exact tot_mono (t_Mo_coded_B41 hn0 ih _ v7 hGSc4 hHSc4 (by omega)) (fun r S' z => QQ_tq hRSc4 (by omega) z)
        · refine ile_t (fun c6 => ?_) (fun c6 => ?_)
          · exact tot_mono (t_Mo_coded_B41 hn0 ih _ v7 hGSc4 hHSc4 (by omega)) (fun r S' z => QQ_tq hRSc4 (by omega) z)
          · refine mis_t (hp_50 _) ?_
            refine mcl_v (t_Mo_give _ v7 hGSc4 hHSc4) (fun u8 Sc7 zSc7 => ?_)
            obtain ⟨⟨hGSc7, hHSc7, rRSc7⟩, pu8⟩ := zSc7
            have hRSc7 := Rm_trans hRSc4 rRSc7
            have zzSc7 := Rm_mz hGSc7 hHSc7 rRSc7 (by omega)
            have ggSc7 := rRSc7.1
            exact tot_mono (t_Mo_coded_B53 hn0 ih _ v7 hGSc7 hHSc7 (by omega)) (fun r S' z => QQ_tq hRSc7 (by omega) z)
set_option maxHeartbeats 2000000 in
theorem t_Mo_coded {F B : mP} {n0 : Nat} (hn0 : big n0) (S : mS)  (hG : G F B S) (hH : Hm S)  : tot (f_Mo_coded n0 (hp S) 50) (fun r S' => QQ F B (0) S S') := by
  unfold f_Mo_coded
  have L1 : (1 : Int32).toInt = 1 := rfl
  have hR0 := Rm_refl S
  have zS0 := mz_le hG
  exact tot_mono (t_Mo_coded_L2 hn0 n0 _ 1 hG hH (big_lt hn0 (by omega))) (fun r S' z => QQ_tq hR0 (by omega) z)
set_option maxHeartbeats 2000000 in
theorem t_Mo_stored_L59 {F B : mP} {n0 : Nat} (hn0 : big n0) : ∀ (n : Nat) (S : mS) (x1 : Int32) (x3 : Int32), G F B S → Hm S → (x1.toInt - x3.toInt).toNat < n → tot (f_Mo_stored_L59 n0 n (hp S) 50 x1 x3) (fun r S' => QQ F B (0) S S') := by
  intro n
  induction n with
  | zero =>
    intro S x1 x3 hG hH hm
    exact absurd hm (Nat.not_lt_zero _)
  | succ n ih =>
    intro S x1 x3 hG hH hm
    rw [f_Mo_stored_L59.eq_2]
    have L0 : (0 : Int32).toInt = 0 := rfl
    have L1 : (1 : Int32).toInt = 1 := rfl
    have L10 : (10 : Int32).toInt = 10 := rfl
    have nx1 := nt_b x1
    have nx3 := nt_b x3
    have hR0 := Rm_refl S
    have zS0 := mz_le hG
    refine ile_t (fun c1 => ?_) (fun c1 => ?_)
    · exact tot_end (QQ_fin hG hH hR0 (by omega))
    · refine mis_t (hp_50 _) ?_
      refine mcl_v (t_Mo_isGood _) (fun v22 Sc2 zSc2 => ?_)
      obtain ⟨eSc2, pv22⟩ := zSc2
      subst eSc2
      have nv22 := nt_b v22
      refine ieq_t (fun c3 => ?_) (fun c3 => ?_)
      · have tc3 := congrArg Int32.toInt c3
        exact tot_end (QQ_fin hG hH hR0 (by omega))
      · refine mis_t (hp_50 _) ?_
        refine mcl_v (t_Mo_next _ hG hH) (fun v26 Sc4 zSc4 => ?_)
        obtain ⟨⟨hGSc4, hHSc4, rRSc4⟩, pv26⟩ := zSc4
        have hRSc4 := Rm_trans hR0 rRSc4
        have zzSc4 := Rm_mz hGSc4 hHSc4 rRSc4 (by omega)
        have ggSc4 := rRSc4.1
        have nv26 := nt_b v26
        refine mis_t (hp_50 _) ?_
        refine mcl_v (t_Mo_give _ v26 hGSc4 hHSc4) (fun u6 Sc5 zSc5 => ?_)
        obtain ⟨⟨hGSc5, hHSc5, rRSc5⟩, pu6⟩ := zSc5
        have hRSc5 := Rm_trans hRSc4 rRSc5
        have zzSc5 := Rm_mz hGSc5 hHSc5 rRSc5 (by omega)
        have ggSc5 := rRSc5.1
        refine mnm_v (fun v32 ev32 => ?_)
        have nv32 := nt_b v32
        have kv32 : v32.toInt = x3.toInt + 1 := by rw [ev32]; exact nt_inc (by omega)
        exact tot_mono (ih _ x1 v32 hGSc5 hHSc5 (by omega)) (fun r S' z => QQ_tq hRSc5 (by omega) z)
set_option maxHeartbeats 2000000 in
theorem t_Mo_stored_B57 {F B : mP} {n0 : Nat} (hn0 : big n0) (S : mS) (x1 : Int32) (hG : G F B S) (hH : Hm S)  : tot (f_Mo_stored_B57 n0 (hp S) 50 x1) (fun r S' => QQ F B (0) S S') := by
  unfold f_Mo_stored_B57
  have L0 : (0 : Int32).toInt = 0 := rfl
  have nx1 := nt_b x1
  have hR0 := Rm_refl S
  have zS0 := mz_le hG
  exact tot_mono (t_Mo_stored_L59 hn0 n0 _ x1 0 hG hH (big_lt hn0 (by omega))) (fun r S' z => QQ_tq hR0 (by omega) z)
set_option maxHeartbeats 2000000 in
theorem t_Mo_stored {F B : mP} {n0 : Nat} (hn0 : big n0) (S : mS)  (hG : G F B S) (hH : Hm S)  : tot (f_Mo_stored n0 (hp S) 50) (fun r S' => QQ F B (0) S S') := by
  unfold f_Mo_stored
  have L0 : (0 : Int32).toInt = 0 := rfl
  have L5 : (5 : Int32).toInt = 5 := rfl
  have L10 : (10 : Int32).toInt = 10 := rfl
  have L19 : (19 : Int32).toInt = 19 := rfl
  have L256 : (256 : Int32).toInt = 256 := rfl
  have L65535 : (65535 : Int32).toInt = 65535 := rfl
  have hR0 := Rm_refl S
  have zS0 := mz_le hG
  refine mpt_t (hp_50 _) (Nat.le_of_ble_eq_true rfl) (hs_50_19 _ _) ?_
  obtain ⟨hGS1, hHS1, rRS1⟩ := st_0 hG hH
  have hRS1 := Rm_trans hR0 rRS1
  have zzS1 := Rm_mz hGS1 hHS1 rRS1 (by omega)
  generalize uV S 5019 0 = S1 at hGS1 hHS1 rRS1 hRS1 zzS1 ⊢
  refine mis_t (hp_50 _) ?_
  refine mcl_v (t_Mo_next _ hGS1 hHS1) (fun v3 Sc2 zSc2 => ?_)
  obtain ⟨⟨hGSc2, hHSc2, rRSc2⟩, pv3⟩ := zSc2
  have hRSc2 := Rm_trans hRS1 rRSc2
  have zzSc2 := Rm_mz hGSc2 hHSc2 rRSc2 (by omega)
  have ggSc2 := rRSc2.1
  have nv3 := nt_b v3
  refine mis_t (hp_50 _) ?_
  refine mcl_v (t_Mo_next _ hGSc2 hHSc2) (fun v6 Sc3 zSc3 => ?_)
  obtain ⟨⟨hGSc3, hHSc3, rRSc3⟩, pv6⟩ := zSc3
  have hRSc3 := Rm_trans hRSc2 rRSc3
  have zzSc3 := Rm_mz hGSc3 hHSc3 rRSc3 (by omega)
  have ggSc3 := rRSc3.1
  have nv6 := nt_b v6
  refine mnm_v (fun v8 ev8 => ?_)
  have nv8 := nt_b v8
  refine mis_t (hp_50 _) ?_
  refine mcl_v (t_Mo_next _ hGSc3 hHSc3) (fun v10 Sc4 zSc4 => ?_)
  obtain ⟨⟨hGSc4, hHSc4, rRSc4⟩, pv10⟩ := zSc4
  have hRSc4 := Rm_trans hRSc3 rRSc4
  have zzSc4 := Rm_mz hGSc4 hHSc4 rRSc4 (by omega)
  have ggSc4 := rRSc4.1
  have nv10 := nt_b v10
  refine mis_t (hp_50 _) ?_
  refine mcl_v (t_Mo_next _ hGSc4 hHSc4) (fun v13 Sc5 zSc5 => ?_)
  obtain ⟨⟨hGSc5, hHSc5, rRSc5⟩, pv13⟩ := zSc5
  have hRSc5 := Rm_trans hRSc4 rRSc5
  have zzSc5 := Rm_mz hGSc5 hHSc5 rRSc5 (by omega)
  have ggSc5 := rRSc5.1
  have nv13 := nt_b v13
  refine mnm_v (fun v15 ev15 => ?_)
  have nv15 := nt_b v15
  refine mis_t (hp_50 _) ?_
  refine mcl_v (t_Mo_isGood _) (fun v17 Sc6 zSc6 => ?_)
  obtain ⟨eSc6, pv17⟩ := zSc6
  subst eSc6
  have nv17 := nt_b v17
  refine ieq_t (fun c7 => ?_) (fun c7 => ?_)
  · have tc7 := congrArg Int32.toInt c7
    exact tot_mono (t_Mo_stored_B57 hn0 _ v8 hGSc5 hHSc5) (fun r S' z => QQ_tq hRSc5 (by omega) z)
  · refine ilq_t ?_ ?_
    · exact tot_mono (t_Mo_stored_B57 hn0 _ v8 hGSc5 hHSc5) (fun r S' z => QQ_tq hRSc5 (by omega) z)
    · refine mis_t (hp_50 _) ?_
      refine mcl_v (t_Mo_fail _ 5 hGSc5 hHSc5 (by decide)) (fun u10 Sc9 zSc9 => ?_)
      obtain ⟨⟨hGSc9, hHSc9, rRSc9⟩, pu10⟩ := zSc9
      have hRSc9 := Rm_trans hRSc5 rRSc9
      have zzSc9 := Rm_mz hGSc9 hHSc9 rRSc9 (by omega)
      have ggSc9 := rRSc9.1
      exact tot_mono (t_Mo_stored_B57 hn0 _ v8 hGSc9 hHSc9) (fun r S' z => QQ_tq hRSc9 (by omega) z)
set_option maxHeartbeats 2000000 in
theorem t_Mo_block {F B : mP} {n0 : Nat} (hn0 : big n0) (S : mS) (x1 : Int32) (hG : G F B S) (hH : Hm S)  : tot (f_Mo_block n0 (hp S) 50 x1) (fun r S' => QQ F B (0) S S') := by
  unfold f_Mo_block
  have L0 : (0 : Int32).toInt = 0 := rfl
  have L1 : (1 : Int32).toInt = 1 := rfl
  have L2 : (2 : Int32).toInt = 2 := rfl
  have L4 : (4 : Int32).toInt = 4 := rfl
  have L10 : (10 : Int32).toInt = 10 := rfl
  have nx1 := nt_b x1
  have hR0 := Rm_refl S
  have zS0 := mz_le hG
  refine ieq_t (fun c1 => ?_) (fun c1 => ?_)
  · have tc1 := congrArg Int32.toInt c1
    refine mis_t (hp_50 _) ?_
    refine mcl_v (t_Mo_stored hn0 _ hG hH) (fun u3 Sc2 zSc2 => ?_)
    obtain ⟨hGSc2, hHSc2, rRSc2⟩ := zSc2
    have hRSc2 := Rm_trans hR0 rRSc2
    have zzSc2 := Rm_mz hGSc2 hHSc2 rRSc2 (by omega)
    have ggSc2 := rRSc2.1
    exact tot_end (QQ_fin hGSc2 hHSc2 hRSc2 (by omega))
  · refine ieq_t (fun c4 => ?_) (fun c4 => ?_)
    · have tc4 := congrArg Int32.toInt c4
      refine mis_t (hp_50 _) ?_
      refine mcl_v (t_Mo_fixCodes hn0 _ hG hH) (fun u6 Sc5 zSc5 => ?_)
      obtain ⟨hGSc5, hHSc5, rRSc5⟩ := zSc5
      have hRSc5 := Rm_trans hR0 rRSc5
      have zzSc5 := Rm_mz hGSc5 hHSc5 rRSc5 (by omega)
      have ggSc5 := rRSc5.1
      refine mis_t (hp_50 _) ?_
      refine mcl_v (t_Mo_coded hn0 _ hGSc5 hHSc5) (fun u8 Sc7 zSc7 => ?_)
      obtain ⟨hGSc7, hHSc7, rRSc7⟩ := zSc7
      have hRSc7 := Rm_trans hRSc5 rRSc7
      have zzSc7 := Rm_mz hGSc7 hHSc7 rRSc7 (by omega)
      have ggSc7 := rRSc7.1
      exact tot_end (QQ_fin hGSc7 hHSc7 hRSc7 (by omega))
    · refine ieq_t (fun c9 => ?_) (fun c9 => ?_)
      · have tc9 := congrArg Int32.toInt c9
        refine mis_t (hp_50 _) ?_
        refine mcl_v (t_Mo_readCodes hn0 _ hG hH) (fun u11 Sc10 zSc10 => ?_)
        obtain ⟨hGSc10, hHSc10, rRSc10⟩ := zSc10
        have hRSc10 := Rm_trans hR0 rRSc10
        have zzSc10 := Rm_mz hGSc10 hHSc10 rRSc10 (by omega)
        have ggSc10 := rRSc10.1
        refine mis_t (hp_50 _) ?_
        refine mcl_v (t_Mo_coded hn0 _ hGSc10 hHSc10) (fun u13 Sc12 zSc12 => ?_)
        obtain ⟨hGSc12, hHSc12, rRSc12⟩ := zSc12
        have hRSc12 := Rm_trans hRSc10 rRSc12
        have zzSc12 := Rm_mz hGSc12 hHSc12 rRSc12 (by omega)
        have ggSc12 := rRSc12.1
        exact tot_end (QQ_fin hGSc12 hHSc12 hRSc12 (by omega))
      · refine mis_t (hp_50 _) ?_
        refine mcl_v (t_Mo_fail _ 4 hG hH (by decide)) (fun u15 Sc14 zSc14 => ?_)
        obtain ⟨⟨hGSc14, hHSc14, rRSc14⟩, pu15⟩ := zSc14
        have hRSc14 := Rm_trans hR0 rRSc14
        have zzSc14 := Rm_mz hGSc14 hHSc14 rRSc14 (by omega)
        have ggSc14 := rRSc14.1
        exact tot_end (QQ_fin hGSc14 hHSc14 hRSc14 (by omega))
set_option maxHeartbeats 2000000 in
theorem t_Mo_check_L7 {F B : mP} {n0 : Nat} (hn0 : big n0) : ∀ (n : Nat) (S : mS) (y1 : Int64) (y3 : Int64) (x5 : Int32), G F B S → (0 ≤ x5.toInt) → (65536 - x5.toInt).toNat < n → tot (f_Mo_check_L7 n0 n (hp S) 50 y1 y3 x5) (fun r S' => S = S') := by
  intro n
  induction n with
  | zero =>
    intro S y1 y3 x5 hG q0 hm
    exact absurd hm (Nat.not_lt_zero _)
  | succ n ih =>
    intro S y1 y3 x5 hG q0 hm
    rw [f_Mo_check_L7.eq_2]
    have L0 : (0 : Int32).toInt = 0 := rfl
    have L1 : (1 : Int32).toInt = 1 := rfl
    have L10 : (10 : Int32).toInt = 10 := rfl
    have L13 : (13 : Int32).toInt = 13 := rfl
    have L14 : (14 : Int32).toInt = 14 := rfl
    have L65521 : (65521 : Int32).toInt = 65521 := rfl
    have L65536 : (65536 : Int32).toInt = 65536 := rfl
    have nx5 := nt_b x5
    refine mgi_v (hp_50 _) rfl (fun v1 ev1 => ?_)
    have nv1 := nt_b v1
    have bv1 := b_5013 hG
    rw [← ev1] at bv1
    refine ile_t (fun c1 => ?_) (fun c1 => ?_)
    · exact tot_end rfl
    · refine mgr_t (v := 59) (hp_50 _) rfl ?_
      refine mai_v (hp_59 _) (nt_in (by omega) (by omega)) (fun v4 ev4 => ?_)
      have nv4 := nt_b v4
      refine mnm_v (fun v5 ev5 => ?_)
      skip
      refine mnm_v (fun v6 ev6 => ?_)
      skip
      refine mnm_v (fun v7 ev7 => ?_)
      have nv7 := nt_b v7
      have kv7 : v7.toInt = x5.toInt + 1 := by rw [ev7]; exact nt_inc (by omega)
      exact ih _ v5 v6 v7 hG (by omega) (by omega)
set_option maxHeartbeats 2000000 in
theorem t_Mo_check {F B : mP} {n0 : Nat} (hn0 : big n0) (S : mS)  (hG : G F B S)  : tot (f_Mo_check n0 (hp S) 50) (fun r S' => S = S') := by
  unfold f_Mo_check
  have L0 : (0 : Int32).toInt = 0 := rfl
  have L1 : (1 : Int32).toInt = 1 := rfl
  exact t_Mo_check_L7 hn0 n0 _ 1 0 0 hG (by omega) (big_lt hn0 (by omega))
set_option maxHeartbeats 2000000 in
theorem t_Mo_flate_L128 {F B : mP} {n0 : Nat} (hn0 : big n0) : ∀ (n : Nat) (S : mS) (y5 : Int64) (x7 : Int32), G F B S → Hm S → (4 - x7.toInt).toNat < n → tot (f_Mo_flate_L128 n0 n (hp S) 50 y5 x7) (fun r S' => QQ F B (0) S S') := by
  intro n
  induction n with
  | zero =>
    intro S y5 x7 hG hH hm
    exact absurd hm (Nat.not_lt_zero _)
  | succ n ih =>
    intro S y5 x7 hG hH hm
    rw [f_Mo_flate_L128.eq_2]
    have L0 : (0 : Int32).toInt = 0 := rfl
    have L1 : (1 : Int32).toInt = 1 := rfl
    have L4 : (4 : Int32).toInt = 4 := rfl
    have L9 : (9 : Int32).toInt = 9 := rfl
    have L10 : (10 : Int32).toInt = 10 := rfl
    have L256 : (256 : Int32).toInt = 256 := rfl
    have nx7 := nt_b x7
    have hR0 := Rm_refl S
    have zS0 := mz_le hG
    refine ile_t (fun c1 => ?_) (fun c1 => ?_)
    · refine mis_t (hp_50 _) ?_
      refine mcl_v (t_Mo_isGood _) (fun v15 Sc2 zSc2 => ?_)
      obtain ⟨eSc2, pv15⟩ := zSc2
      subst eSc2
      have nv15 := nt_b v15
      refine ieq_t (fun c3 => ?_) (fun c3 => ?_)
      · have tc3 := congrArg Int32.toInt c3
        exact tot_end (QQ_fin hG hH hR0 (by omega))
      · refine mis_t (hp_50 _) ?_
        refine mcl_v (t_Mo_check hn0 _ hG) (fun w18 Sc4 zSc4 => ?_)
        subst zSc4
        refine ilq_t ?_ ?_
        · exact tot_end (QQ_fin hG hH hR0 (by omega))
        · refine mis_t (hp_50 _) ?_
          refine mcl_v (t_Mo_fail _ 9 hG hH (by decide)) (fun u7 Sc6 zSc6 => ?_)
          obtain ⟨⟨hGSc6, hHSc6, rRSc6⟩, pu7⟩ := zSc6
          have hRSc6 := Rm_trans hR0 rRSc6
          have zzSc6 := Rm_mz hGSc6 hHSc6 rRSc6 (by omega)
          have ggSc6 := rRSc6.1
          exact tot_end (QQ_fin hGSc6 hHSc6 hRSc6 (by omega))
    · refine mis_t (hp_50 _) ?_
      refine mcl_v (t_Mo_next _ hG hH) (fun v27 Sc8 zSc8 => ?_)
      obtain ⟨⟨hGSc8, hHSc8, rRSc8⟩, pv27⟩ := zSc8
      have hRSc8 := Rm_trans hR0 rRSc8
      have zzSc8 := Rm_mz hGSc8 hHSc8 rRSc8 (by omega)
      have ggSc8 := rRSc8.1
      have nv27 := nt_b v27
      refine mnm_v (fun v29 ev29 => ?_)
      skip
      refine mnm_v (fun v30 ev30 => ?_)
      have nv30 := nt_b v30
      have kv30 : v30.toInt = x7.toInt + 1 := by rw [ev30]; exact nt_inc (by omega)
      exact tot_mono (ih _ v29 v30 hGSc8 hHSc8 (by omega)) (fun r S' z => QQ_tq hRSc8 (by omega) z)
set_option maxHeartbeats 2000000 in
theorem t_Mo_flate_B122 {F B : mP} {n0 : Nat} (hn0 : big n0) (S : mS)  (hG : G F B S) (hH : Hm S)  : tot (f_Mo_flate_B122 n0 (hp S) 50) (fun r S' => QQ F B (0) S S') := by
  unfold f_Mo_flate_B122
  have L0 : (0 : Int32).toInt = 0 := rfl
  have hR0 := Rm_refl S
  have zS0 := mz_le hG
  exact tot_mono (t_Mo_flate_L128 hn0 n0 _ 0 0 hG hH (big_lt hn0 (by omega))) (fun r S' z => QQ_tq hR0 (by omega) z)
set_option maxHeartbeats 2000000 in
theorem t_Mo_flate_B97 {F B : mP} {n0 : Nat} (hn0 : big n0) {M : Nat} {K73 : mH → Nat → Int32 → Option (Unit × mH)} (hK73 : ∀ (S : mS) (x4 : Int32), G F B S → Hm S → mz S < M → tot (K73 (hp S) 50 x4) (fun r S' => QQ F B (0) S S')) (S : mS) (p0 : Int32) (hG : G F B S) (hH : Hm S) (q0 : mz S < M) : tot (f_Mo_flate_B97 K73 n0 (hp S) 50 p0) (fun r S' => QQ F B (0) S S') := by
  unfold f_Mo_flate_B97
  have L0 : (0 : Int32).toInt = 0 := rfl
  have L2 : (2 : Int32).toInt = 2 := rfl
  have L10 : (10 : Int32).toInt = 10 := rfl
  have np0 := nt_b p0
  have hR0 := Rm_refl S
  have zS0 := mz_le hG
  refine mis_t (hp_50 _) ?_
  refine mcl_v (t_Mo_number hn0 _ 2 hG hH (by omega)) (fun v40 Sc1 zSc1 => ?_)
  obtain ⟨⟨hGSc1, hHSc1, rRSc1⟩, pv40⟩ := zSc1
  have hRSc1 := Rm_trans hR0 rRSc1
  have zzSc1 := Rm_mz hGSc1 hHSc1 rRSc1 (by omega)
  have ggSc1 := rRSc1.1
  have e2v40 : (2 : Int) ^ (2 : Int32).toInt.toNat = 4 := by decide
  rw [e2v40] at pv40
  have nv40 := nt_b v40
  refine mis_t (hp_50 _) ?_
  refine mcl_v (t_Mo_isGood _) (fun v43 Sc2 zSc2 => ?_)
  obtain ⟨eSc2, pv43⟩ := zSc2
  subst eSc2
  have nv43 := nt_b v43
  refine ieq_t (fun c3 => ?_) (fun c3 => ?_)
  · have tc3 := congrArg Int32.toInt c3
    exact tot_mono (hK73 _ p0 hGSc1 hHSc1 (by omega)) (fun r S' z => QQ_tq hRSc1 (by omega) z)
  · refine mis_t (hp_50 _) ?_
    refine mcl_v (t_Mo_block hn0 _ v40 hGSc1 hHSc1) (fun u5 Sc4 zSc4 => ?_)
    obtain ⟨hGSc4, hHSc4, rRSc4⟩ := zSc4
    have hRSc4 := Rm_trans hRSc1 rRSc4
    have zzSc4 := Rm_mz hGSc4 hHSc4 rRSc4 (by omega)
    have ggSc4 := rRSc4.1
    exact tot_mono (hK73 _ p0 hGSc4 hHSc4 (by omega)) (fun r S' z => QQ_tq hRSc4 (by omega) z)
set_option maxHeartbeats 2000000 in
theorem t_Mo_flate_L73 {F B : mP} {n0 : Nat} (hn0 : big n0) : ∀ (n : Nat) (S : mS) (x4 : Int32), G F B S → Hm S → mz S < n → tot (f_Mo_flate_L73 n0 n (hp S) 50 x4) (fun r S' => QQ F B (0) S S') := by
  intro n
  induction n with
  | zero =>
    intro S x4 hG hH hm
    exact absurd hm (Nat.not_lt_zero _)
  | succ n ih =>
    intro S x4 hG hH hm
    rw [f_Mo_flate_L73.eq_2]
    have L0 : (0 : Int32).toInt = 0 := rfl
    have L1 : (1 : Int32).toInt = 1 := rfl
    have L10 : (10 : Int32).toInt = 10 := rfl
    have nx4 := nt_b x4
    have hR0 := Rm_refl S
    have zS0 := mz_le hG
    refine ieq_t (fun c1 => ?_) (fun c1 => ?_)
    · have tc1 := congrArg Int32.toInt c1
      exact tot_mono (t_Mo_flate_B122 hn0 _ hG hH) (fun r S' z => QQ_tq hR0 (by omega) z)
    · refine mis_t (hp_50 _) ?_
      refine mcl_v (t_Mo_isGood _) (fun v32 Sc2 zSc2 => ?_)
      obtain ⟨eSc2, pv32⟩ := zSc2
      subst eSc2
      have nv32 := nt_b v32
      refine ieq_t (fun c3 => ?_) (fun c3 => ?_)
      · have tc3 := congrArg Int32.toInt c3
        exact tot_mono (t_Mo_flate_B122 hn0 _ hG hH) (fun r S' z => QQ_tq hR0 (by omega) z)
      · refine mis_t (hp_50 _) ?_
        refine mcl_v (t_Mo_bit _ hG hH) (fun v36 Sc4 zSc4 => ?_)
        obtain ⟨⟨hGSc4, hHSc4, rRSc4⟩, pv36⟩ := zSc4
        have hRSc4 := Rm_trans hR0 rRSc4
        have zzSc4 := Rm_mz hGSc4 hHSc4 rRSc4 (by omega)
        have ggSc4 := rRSc4.1
        have nv36 := nt_b v36
        refine ieq_t (fun c5 => ?_) (fun c5 => ?_)
        · have tc5 := congrArg Int32.toInt c5
          exact tot_mono (t_Mo_flate_B97 hn0 ih _ 1 hGSc4 hHSc4 (by omega)) (fun r S' z => QQ_tq hRSc4 (by omega) z)
        · exact tot_mono (t_Mo_flate_B97 hn0 ih _ 0 hGSc4 hHSc4 (by omega)) (fun r S' z => QQ_tq hRSc4 (by omega) z)
set_option maxHeartbeats 2000000 in
theorem t_Mo_flate_B70 {F B : mP} {n0 : Nat} (hn0 : big n0) (S : mS)  (hG : G F B S) (hH : Hm S)  : tot (f_Mo_flate_B70 n0 (hp S) 50) (fun r S' => QQ F B (0) S S') := by
  unfold f_Mo_flate_B70
  have L1 : (1 : Int32).toInt = 1 := rfl
  have hR0 := Rm_refl S
  have zS0 := mz_le hG
  exact tot_mono (t_Mo_flate_L73 hn0 n0 _ 1 hG hH (big_lt hn0 (by omega))) (fun r S' z => QQ_tq hR0 (by omega) z)
set_option maxHeartbeats 2000000 in
theorem t_Mo_flate_B53 {F B : mP} {n0 : Nat} (hn0 : big n0) (S : mS) (p0 : Int32) (hG : G F B S) (hH : Hm S)  : tot (f_Mo_flate_B53 n0 (hp S) 50 p0) (fun r S' => QQ F B (0) S S') := by
  unfold f_Mo_flate_B53
  have L0 : (0 : Int32).toInt = 0 := rfl
  have L3 : (3 : Int32).toInt = 3 := rfl
  have L10 : (10 : Int32).toInt = 10 := rfl
  have np0 := nt_b p0
  have hR0 := Rm_refl S
  have zS0 := mz_le hG
  refine mis_t (hp_50 _) ?_
  refine mcl_v (t_Mo_isGood _) (fun v9 Sc1 zSc1 => ?_)
  obtain ⟨eSc1, pv9⟩ := zSc1
  subst eSc1
  have nv9 := nt_b v9
  refine ieq_t (fun c2 => ?_) (fun c2 => ?_)
  · have tc2 := congrArg Int32.toInt c2
    exact tot_mono (t_Mo_flate_B70 hn0 _ hG hH) (fun r S' z => QQ_tq hR0 (by omega) z)
  · refine ieq_t (fun c3 => ?_) (fun c3 => ?_)
    · have tc3 := congrArg Int32.toInt c3
      refine mis_t (hp_50 _) ?_
      refine mcl_v (t_Mo_fail _ 3 hG hH (by decide)) (fun u5 Sc4 zSc4 => ?_)
      obtain ⟨⟨hGSc4, hHSc4, rRSc4⟩, pu5⟩ := zSc4
      have hRSc4 := Rm_trans hR0 rRSc4
      have zzSc4 := Rm_mz hGSc4 hHSc4 rRSc4 (by omega)
      have ggSc4 := rRSc4.1
      exact tot_mono (t_Mo_flate_B70 hn0 _ hGSc4 hHSc4) (fun r S' z => QQ_tq hRSc4 (by omega) z)
    · exact tot_mono (t_Mo_flate_B70 hn0 _ hG hH) (fun r S' z => QQ_tq hR0 (by omega) z)
set_option maxHeartbeats 2000000 in
theorem t_Mo_flate_B52 {F B : mP} {n0 : Nat} (hn0 : big n0) (S : mS)  (hG : G F B S) (hH : Hm S)  : tot (f_Mo_flate_B52 n0 (hp S) 50) (fun r S' => QQ F B (0) S S') := by
  unfold f_Mo_flate_B52
  have L0 : (0 : Int32).toInt = 0 := rfl
  have hR0 := Rm_refl S
  have zS0 := mz_le hG
  exact tot_mono (t_Mo_flate_B53 hn0 _ 0 hG hH) (fun r S' z => QQ_tq hR0 (by omega) z)
set_option maxHeartbeats 2000000 in
theorem t_Mo_flate {F B : mP} {n0 : Nat} (hn0 : big n0) (S : mS)  (hG : G F B S) (hH : Hm S)  : tot (f_Mo_flate n0 (hp S) 50) (fun r S' => QQ F B (0) S S') := by
  unfold f_Mo_flate
  have L0 : (0 : Int32).toInt = 0 := rfl
  have L1 : (1 : Int32).toInt = 1 := rfl
  have L7 : (7 : Int32).toInt = 7 := rfl
  have L8 : (8 : Int32).toInt = 8 := rfl
  have L10 : (10 : Int32).toInt = 10 := rfl
  have L15 : (15 : Int32).toInt = 15 := rfl
  have L16 : (16 : Int32).toInt = 16 := rfl
  have L31 : (31 : Int32).toInt = 31 := rfl
  have L32 : (32 : Int32).toInt = 32 := rfl
  have L256 : (256 : Int32).toInt = 256 := rfl
  have hR0 := Rm_refl S
  have zS0 := mz_le hG
  refine mis_t (hp_50 _) ?_
  refine mcl_v (t_Mo_next _ hG hH) (fun v2 Sc1 zSc1 => ?_)
  obtain ⟨⟨hGSc1, hHSc1, rRSc1⟩, pv2⟩ := zSc1
  have hRSc1 := Rm_trans hR0 rRSc1
  have zzSc1 := Rm_mz hGSc1 hHSc1 rRSc1 (by omega)
  have ggSc1 := rRSc1.1
  have nv2 := nt_b v2
  refine mis_t (hp_50 _) ?_
  refine mcl_v (t_Mo_next _ hGSc1 hHSc1) (fun v5 Sc2 zSc2 => ?_)
  obtain ⟨⟨hGSc2, hHSc2, rRSc2⟩, pv5⟩ := zSc2
  have hRSc2 := Rm_trans hRSc1 rRSc2
  have zzSc2 := Rm_mz hGSc2 hHSc2 rRSc2 (by omega)
  have ggSc2 := rRSc2.1
  have nv5 := nt_b v5
  refine ilq_t ?_ ?_
  · refine ilq_t ?_ ?_
    · exact tot_mono (t_Mo_flate_B52 hn0 _ hGSc2 hHSc2) (fun r S' z => QQ_tq hRSc2 (by omega) z)
    · refine ilq_t ?_ ?_
      · refine ilq_t ?_ ?_
        · exact tot_mono (t_Mo_flate_B53 hn0 _ 1 hGSc2 hHSc2) (fun r S' z => QQ_tq hRSc2 (by omega) z)
        · exact tot_mono (t_Mo_flate_B52 hn0 _ hGSc2 hHSc2) (fun r S' z => QQ_tq hRSc2 (by omega) z)
      · exact tot_mono (t_Mo_flate_B52 hn0 _ hGSc2 hHSc2) (fun r S' z => QQ_tq hRSc2 (by omega) z)
  · exact tot_mono (t_Mo_flate_B52 hn0 _ hGSc2 hHSc2) (fun r S' z => QQ_tq hRSc2 (by omega) z)
