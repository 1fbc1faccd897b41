theorem nt_div {x y : Int32} (hx : 0 ≤ x.toInt) (hy : 0 < y.toInt) : (x / y).toInt = x.toInt / y.toInt := by
  have hb := nt_b x
  have hc := nt_b y
  rw [Int32.toInt_div, Int.tdiv_eq_ediv_of_nonneg hx]
  have h1 : 0 ≤ x.toInt / y.toInt := Int.ediv_nonneg hx (by omega)
  have h2 : x.toInt / y.toInt ≤ x.toInt := Int.ediv_le_self _ hx
  rw [Int.bmod_def]
  omega
theorem nt_half {x : Int32} (h0 : -1 ≤ x.toInt) : 0 ≤ (x / 2).toInt ∧ 2 * (x / 2).toInt ≤ x.toInt + 1 := by
  have L2 : (2 : Int32).toInt = 2 := rfl
  by_cases c : 0 ≤ x.toInt
  · rw [nt_div c (by decide), L2]
    omega
  · have e : x = -1 := Int32.toInt_inj.mp (by have : (-1 : Int32).toInt = -1 := rfl; omega)
    subst e
    decide
theorem sh_1 {v : Int32} (h0 : 0 ≤ v.toInt) (h1 : v.toInt ≤ 13) : 1 ≤ (1 <<< (v &&& 31) : Int32).toInt ∧ (1 <<< (v &&& 31) : Int32).toInt ≤ 8192 := by
  have hi : ∃ k : Nat, k ≤ 13 ∧ v = Int32.ofNat k := by
    refine ⟨v.toInt.toNat, by omega, Int32.toInt_inj.mp ?_⟩
    have e := nI_toInt (n := v.toInt.toNat) (by omega)
    have e2 : (Int32.ofNat v.toInt.toNat).toInt = ((v.toInt.toNat : Nat) : Int) := e
    rw [e2]
    omega
  obtain ⟨k, hk, rfl⟩ := hi
  clear h0 h1
  rcases (show k = 0 ∨ k = 1 ∨ k = 2 ∨ k = 3 ∨ k = 4 ∨ k = 5 ∨ k = 6 ∨ k = 7 ∨ k = 8 ∨ k = 9 ∨ k = 10 ∨ k = 11 ∨ k = 12 ∨ k = 13 by omega) with rfl | rfl | rfl | rfl | rfl | rfl | rfl | rfl | rfl | rfl | rfl | rfl | rfl | rfl <;> decide
theorem pw_mono {a b : Nat} (h : a ≤ b) : (2 : Int) ^ a ≤ 2 ^ b := by
  have h1 : (2 : Nat) ^ a ≤ 2 ^ b := Nat.pow_le_pow_right (by decide) h
  have e1 : (2 : Int) ^ a = ((2 ^ a : Nat) : Int) := by norm_cast
  have e2 : (2 : Int) ^ b = ((2 ^ b : Nat) : Int) := by norm_cast
  rw [e1, e2]
  omega
theorem sl_1 {x : Int32} (h0 : 0 ≤ x.toInt) (h1 : x.toInt < 1073741824) : (x <<< (1 &&& 31) : Int32).toInt = 2 * x.toInt := by
  have hl := x.toBitVec.isLt
  have e : x.toInt = x.toBitVec.toInt := rfl
  have hn : x.toInt = (x.toBitVec.toNat : Int) := by
    rw [e, BitVec.toInt_eq_toNat_cond] at h0 h1 ⊢
    split
    · rfl
    · rename_i c
      rw [if_neg c] at h0
      omega
  have e3 : (x <<< (1 &&& 31) : Int32).toBitVec = x.toBitVec <<< 1 := by
    rw [Int32.toBitVec_shiftLeft]
    have : ((1 &&& 31 : Int32).toBitVec.smod 32#32) = 1#32 := by decide
    rw [show ((1 &&& 31 : Int32).toBitVec.smod 32) = 1#32 from this]
    rfl
  have e4 : (x <<< (1 &&& 31) : Int32).toBitVec.toNat = 2 * x.toBitVec.toNat := by
    rw [e3, BitVec.toNat_shiftLeft, Nat.shiftLeft_eq]
    omega
  have e0 : (x <<< (1 &&& 31) : Int32).toInt = (x <<< (1 &&& 31) : Int32).toBitVec.toInt := rfl
  rw [e0, BitVec.toInt_eq_toNat_cond, if_pos (by omega), e4]
  omega
theorem wc_step {x b : Int32} {k : Nat} (hk : k ≤ 12) (hx : 0 ≤ x.toInt ∧ x.toInt < 2 ^ k) (hb : b = 0 ∨ b = 1) : 0 ≤ ((x <<< (1 &&& 31)) ||| b).toInt ∧ ((x <<< (1 &&& 31)) ||| b).toInt < 2 ^ (k + 1) := by
  have h1 : (2 : Int) ^ k ≤ 2 ^ 12 := pw_mono hk
  have h2 : (2 : Int) ^ (k + 1) = 2 * 2 ^ k := by rw [Int.pow_succ]; omega
  have h3 := sl_1 hx.1 (by omega)
  have h4 : (1 : Int) ≤ 2 ^ k := pw_mono (Nat.zero_le k)
  refine nt_or (by omega) ⟨by omega, by omega⟩ ?_
  rcases hb with rfl | rfl
  · exact ⟨by decide, by have : (0 : Int32).toInt = 0 := rfl; omega⟩
  · exact ⟨by decide, by have : (1 : Int32).toInt = 1 := rfl; omega⟩
theorem t_Mo_orderOf {F B : mP} {n0 : Nat} (hn0 : big n0) (S : mS) (x0 : Int32) (hG : G F B S) (q0 : 0 ≤ x0.toInt ∧ x0.toInt ≤ 18) : tot (f_Mo_orderOf n0 (hp S) x0) (fun r S' => S = S' ∧ (0 ≤ r.toInt ∧ r.toInt ≤ 18)) := by
  unfold f_Mo_orderOf
  have L0 : (0 : Int32).toInt = 0 := rfl
  have L1 : (1 : Int32).toInt = 1 := rfl
  have L2 : (2 : Int32).toInt = 2 := rfl
  have L3 : (3 : Int32).toInt = 3 := rfl
  have L4 : (4 : Int32).toInt = 4 := rfl
  have L5 : (5 : Int32).toInt = 5 := rfl
  have L7 : (7 : Int32).toInt = 7 := rfl
  have L8 : (8 : Int32).toInt = 8 := rfl
  refine ieq_t (fun c => tot_end ⟨rfl, by decide⟩) (fun c0 => ?_)
  refine ieq_t (fun c => tot_end ⟨rfl, by decide⟩) (fun c1 => ?_)
  refine ieq_t (fun c => tot_end ⟨rfl, by decide⟩) (fun c2 => ?_)
  refine ieq_t (fun c => tot_end ⟨rfl, by decide⟩) (fun c3 => ?_)
  have k4 : (x0 - 4 : Int32).toInt = x0.toInt - (4 : Int32).toInt := nt_sub (by omega) (by omega)
  have k5 : (x0 - 5 : Int32).toInt = x0.toInt - (5 : Int32).toInt := nt_sub (by omega) (by omega)
  have h4 := nt_half (x := x0 - 4) (by omega)
  have h5 := nt_half (x := x0 - 5) (by omega)
  refine ilq_t (tot_end ⟨rfl, ?_⟩) (tot_end ⟨rfl, ?_⟩)
  · rw [nt_add (by omega) (by omega)]; omega
  · rw [nt_sub (by omega) (by omega)]; omega
/-! LZW's chain -/
def chn (S : mS) (m : Int) : Prop := ∀ k : Nat, 258 ≤ k → (k : Int) < m → 0 ≤ (S.2.1 62 k).toInt ∧ (S.2.1 62 k).toInt < k
theorem ch_mono {S : mS} {m m' : Int} (h : chn S m) (hm : m' ≤ m) : chn S m' := fun k h1 h2 => h k h1 (by omega)
theorem ch_eq {S S' : mS} {m : Int} (e : S'.2.1 62 = S.2.1 62) (h : chn S m) : chn S' m := fun k h1 h2 => by rw [e]; exact h k h1 h2
theorem ch_0 (S : mS) : chn S 258 := fun k h1 h2 => absurd h2 (by omega)
theorem ch_step {S : mS} {x v : Int32} (h : chn S (x.toInt + 1)) (h1 : 257 < x.toInt) (e : v = S.2.1 62 x.toNatClampNeg) : 0 ≤ v.toInt ∧ v.toInt < x.toInt := by
  have hc := nt_cl x
  have := h x.toNatClampNeg (by omega) (by omega)
  rw [← e] at this
  omega
theorem ch_up {S : mS} {x y : Int32} (h : chn S x.toInt) (h0 : 0 ≤ x.toInt) (hy : 0 ≤ y.toInt ∧ y.toInt < x.toInt) : chn (uA S 62 (upd (S.2.1 62) x.toNatClampNeg y)) (x.toInt + 1) := by
  intro k h1 h2
  have hc := nt_cl x
  show 0 ≤ (upd (S.2.1 62) x.toNatClampNeg y k).toInt ∧ (upd (S.2.1 62) x.toNatClampNeg y k).toInt < k
  unfold upd
  split
  · rename_i e; omega
  · rename_i e
    exact h k h1 (by omega)
set_option maxHeartbeats 1000000 in
theorem t_Mo_wideCode_B37 {F B : mP} {n0 : Nat} {M : Nat} {K4 : mH → Nat → Int32 → Int32 → Int32 → Option (Int32 × mH)} (hK4 : ∀ (S : mS) (x1 x2 x3 : Int32), G F B S → Hm S → (0 ≤ x3.toInt ∧ x3.toInt ≤ x1.toInt ∧ x1.toInt ≤ 12) → (0 ≤ x2.toInt ∧ x2.toInt < 2 ^ x3.toInt.toNat) → (x1.toInt - x3.toInt).toNat < M → tot (K4 (hp S) 50 x1 x2 x3) (fun r S' => QQ F B (x1.toInt - x3.toInt) S S' ∧ (0 ≤ r.toInt ∧ r.toInt ≤ 4095) ∧ S'.2.1 62 = S.2.1 62)) (S : mS) (x1 x2 x3 : Int32) (hG : G F B S) (hH : Hm S) (q0 : 0 ≤ x3.toInt ∧ x3.toInt < x1.toInt ∧ x1.toInt ≤ 12) (q1 : 0 ≤ x2.toInt ∧ x2.toInt < 2 ^ x3.toInt.toNat) (q2 : (x1.toInt - (x3.toInt + 1)).toNat < M) (q3 : 1 ≤ (S.1 5019).toInt) : tot (f_Mo_wideCode_B37 K4 n0 (hp S) 50 x1 x2 x3) (fun r S' => QQ F B (x1.toInt - x3.toInt) S S' ∧ (0 ≤ r.toInt ∧ r.toInt ≤ 4095) ∧ S'.2.1 62 = S.2.1 62) := by
  unfold f_Mo_wideCode_B37
  have L1 : (1 : Int32).toInt = 1 := rfl
  refine mgi_v (hp_50 _) rfl (fun v8 ev8 => ?_)
  have b := b_5019 hG
  have e8 : v8 = S.1 5019 := ev8
  rw [← e8] at b q3
  have k8 : (v8 - 1 : Int32).toInt = v8.toInt - (1 : Int32).toInt := nt_sub (by omega) (by omega)
  refine mpt_t (hp_50 _) (Nat.le_of_ble_eq_true rfl) (hs_50_19 _ _) ?_
  have hG2 : G F B (uV S 5019 (v8 - 1)) := g_5019 hG (by omega) (by omega)
  have hH2 : Hm (uV S 5019 (v8 - 1)) := hH
  have hR2 : Rm 1 S (uV S 5019 (v8 - 1)) := by
    refine ⟨Int.le_refl _, fun q => ⟨q, ?_⟩⟩
    show (8 * ((S.1 5011).toInt - (S.1 5016).toInt) + (v8 - 1 : Int32).toInt) + 1 ≤ 8 * ((S.1 5011).toInt - (S.1 5016).toInt) + (S.1 5019).toInt
    rw [← e8]
    omega
  refine mgi_v (hp_50 _) rfl (fun v10 ev10 => ?_)
  refine mgi_v (hp_50 _) rfl (fun v11 ev11 => ?_)
  refine mnm_v (fun v12 ev12 => ?_)
  refine mnm_v (fun v13 ev13 => ?_)
  have k13 : v13.toInt = x3.toInt + 1 := by rw [ev13]; exact nt_inc (by omega)
  have s12 := wc_step (k := x3.toInt.toNat) (by omega) q1 (nt_and1 (v10 >>> (v11 &&& 31)))
  rw [← ev12] at s12
  have t13 : v13.toInt.toNat = x3.toInt.toNat + 1 := by omega
  rw [← t13] at s12
  refine tot_mono (hK4 _ x1 v12 v13 hG2 hH2 (by omega) s12 (by omega)) (fun r S' z => ⟨QQ_tq hR2 (by omega) z.1, z.2⟩)
set_option maxHeartbeats 1000000 in
theorem t_Mo_wideCode_L4 {F B : mP} {n0 : Nat} : ∀ (n : Nat) (S : mS) (x1 x2 x3 : Int32), G F B S → Hm S → (0 ≤ x3.toInt ∧ x3.toInt ≤ x1.toInt ∧ x1.toInt ≤ 12) → (0 ≤ x2.toInt ∧ x2.toInt < 2 ^ x3.toInt.toNat) → (x1.toInt - x3.toInt).toNat < n → tot (f_Mo_wideCode_L4 n0 n (hp S) 50 x1 x2 x3) (fun r S' => QQ F B (x1.toInt - x3.toInt) S S' ∧ (0 ≤ r.toInt ∧ r.toInt ≤ 4095) ∧ S'.2.1 62 = S.2.1 62) := by
  intro n
  induction n with
  | zero =>
    intro S x1 x2 x3 hG hH q0 q1 hm
    exact absurd hm (Nat.not_lt_zero _)
  | succ n ih =>
    intro S x1 x2 x3 hG hH q0 q1 hm
    rw [f_Mo_wideCode_L4.eq_2]
    have L0 : (0 : Int32).toInt = 0 := rfl
    have hp12 : (2 : Int) ^ x3.toInt.toNat ≤ 2 ^ 12 := pw_mono (by omega)
    refine ile_t (fun c1 => ?_) (fun c1 => ?_)
    · exact tot_end ⟨QQ_fin hG hH (Rm_refl S) (Or.inr (by omega)), ⟨by omega, by omega⟩, rfl⟩
    · refine mis_t (hp_50 _) ?_
      refine mcl_v (t_Mo_isGood S) (fun v3 S1 z1 => ?_)
      obtain ⟨e1, pv3⟩ := z1
      subst e1
      refine ieq_t (fun c2 => ?_) (fun c2 => ?_)
      · have tc2 := congrArg Int32.toInt c2
        exact tot_end ⟨QQ_fin hG hH (Rm_refl S) (Or.inl (by omega)), ⟨by omega, by omega⟩, rfl⟩
      · refine mgi_v (hp_50 _) rfl (fun v6 ev6 => ?_)
        have e6 : v6 = S.1 5019 := ev6
        have b := b_5019 hG
        refine ieq_t (fun c3 => ?_) (fun c3 => ?_)
        · refine mis_t (hp_50 _) ?_
          refine mcl_v (t_Mo_next S hG hH) (fun v15 S2 z2 => ?_)
          obtain ⟨q5, w5, s5⟩ := z2
          obtain ⟨r6, g6, k6⟩ := nx_8 (v := v15) (e6.symm.trans c3) q5 s5
          refine mpt_t (hp_50 _) (Nat.le_of_ble_eq_true rfl) (hs_50_18 _ _) ?_
          refine mpt_t (hp_50 _) (Nat.le_of_ble_eq_true rfl) (hs_50_19 _ _) ?_
          refine tot_mono (t_Mo_wideCode_B37 ih _ x1 x2 x3 g6 k6 (by omega) q1 (by omega) (by show 1 ≤ (8 : Int32).toInt; decide)) (fun r S' z => ⟨QQ_tq r6.2.2 (by omega) z.1, z.2.1, z.2.2.trans w5⟩)
        · rw [e6] at c3
          exact t_Mo_wideCode_B37 ih _ x1 x2 x3 hG hH (by omega) q1 (by omega) (by omega)
theorem t_Mo_wideCode {F B : mP} {n0 : Nat} (hn0 : big n0) (S : mS) (x1 : Int32) (hG : G F B S) (hH : Hm S) (q0 : 1 ≤ x1.toInt ∧ x1.toInt ≤ 12) : tot (f_Mo_wideCode n0 (hp S) 50 x1) (fun r S' => QQ F B 1 S S' ∧ (0 ≤ r.toInt ∧ r.toInt ≤ 4095) ∧ S'.2.1 62 = S.2.1 62) := by
  unfold f_Mo_wideCode
  have L0 : (0 : Int32).toInt = 0 := rfl
  refine tot_mono (t_Mo_wideCode_L4 n0 S x1 0 0 hG hH (by omega) ⟨by decide, by decide⟩ (big_lt hn0 (by omega))) (fun r S' z => ⟨QQ_tq (Rm_refl S) (by omega) z.1, z.2⟩)
