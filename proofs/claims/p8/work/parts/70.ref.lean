/-! THE REFERENCE: what holds within a run of one filter (Hm), what never grows (mu, mz), and its smallest steps -/
def Hm (S : mS) : Prop := (S.1 5016).toInt ≤ (S.1 5011).toInt ∧ (S.1 5013).toInt + (S.1 5015).toInt ≤ 65536
def mu (S : mS) : Int := 8 * ((S.1 5011).toInt - (S.1 5016).toInt) + (S.1 5019).toInt
def mz (S : mS) : Nat := if (S.1 5017).toInt = 0 then (mu S).toNat + 1 else 0
def Rm (d : Int) (S S' : mS) : Prop := (S.1 5013).toInt ≤ (S'.1 5013).toInt ∧ ((S'.1 5017).toInt = 0 → (S.1 5017).toInt = 0 ∧ mu S' + d ≤ mu S)
def QQ (F B : mP) (d : Int) (S S' : mS) : Prop := G F B S' ∧ Hm S' ∧ Rm d S S'
section mRun
variable {F B : mP} {S S' S'' : mS} {d e f : Int}
theorem Rm_refl (S : mS) : Rm 0 S S := ⟨Int.le_refl _, fun h => ⟨h, by omega⟩⟩
theorem Rm_trans (h1 : Rm d S S') (h2 : Rm e S' S'') : Rm (d + e) S S'' := ⟨Int.le_trans h1.1 h2.1, fun h => ⟨(h1.2 (h2.2 h).1).1, by have a := (h2.2 h).2; have b := (h1.2 (h2.2 h).1).2; omega⟩⟩
theorem mz_bad (h : (S.1 5017).toInt ≠ 0) : mz S = 0 := if_neg h
theorem mz_good (h : (S.1 5017).toInt = 0) : mz S = (mu S).toNat + 1 := if_pos h
theorem mz_iff : mz S = 0 ↔ (S.1 5017).toInt ≠ 0 := by
  unfold mz
  split
  · rename_i h; constructor
    · intro q; omega
    · intro q; exact absurd h q
  · rename_i h; exact ⟨fun _ => h, fun _ => rfl⟩
theorem mu_nn (hG : G F B S) (hH : Hm S) : 0 ≤ mu S := by
  have h1 := b_5019 hG
  have h2 := hH.1
  unfold mu
  omega
theorem mz_le (hG : G F B S) : mz S ≤ 600000 := by
  have h1 := b_5019 hG
  have h2 := b_5011 hG
  have h3 := b_5016 hG
  unfold mz mu
  split <;> omega
theorem Rm_mz (hG : G F B S') (hH : Hm S') (h : Rm d S S') (hd : 0 ≤ d) : mz S' = 0 ∨ ((mz S' : Nat) : Int) + d ≤ ((mz S : Nat) : Int) := by
  by_cases c : (S'.1 5017).toInt = 0
  · right
    have h1 := mu_nn hG hH
    obtain ⟨h2, h3⟩ := h.2 c
    rw [mz_good c, mz_good h2]
    omega
  · exact Or.inl (mz_bad c)
theorem QQ_fin (hG : G F B S') (hH : Hm S') (hR : Rm d S S') (h : mz S' = 0 ∨ e ≤ d) : QQ F B e S S' := by
  refine ⟨hG, hH, hR.1, fun c => ?_⟩
  obtain ⟨h1, h2⟩ := hR.2 c
  refine ⟨h1, ?_⟩
  rcases h with h | h
  · exact absurd c (mz_iff.mp h)
  · omega
theorem QQ_tr (hR : Rm d S S') (h : QQ F B e S' S'') (hf : mz S'' = 0 ∨ f ≤ d + e) : QQ F B f S S'' := QQ_fin h.1 h.2.1 (Rm_trans hR h.2.2) hf
theorem QQ_tq (hR : Rm d S S') (hf : f ≤ d + e) (h : QQ F B e S' S'') : QQ F B f S S'' := QQ_tr hR h (Or.inr hf)
end mRun
section mPr
variable {F B : mP} {n0 : Nat}
theorem t_Mo_isGood (S : mS) : tot (f_Mo_isGood n0 (hp S) 50) (fun r S' => S = S' ∧ ((r.toInt = 1 ∧ 1 ≤ mz S) ∨ (r.toInt = 0 ∧ mz S = 0))) := by
  unfold f_Mo_isGood
  refine mgi_v (hp_50 _) rfl (fun v1 ev1 => ?_)
  refine ieq_t (fun c => ?_) (fun c => ?_)
  · have h : (S.1 5017).toInt = 0 := by rw [← ev1, c]; rfl
    refine tot_end ⟨rfl, Or.inl ⟨rfl, ?_⟩⟩
    rw [mz_good h]; omega
  · have h : (S.1 5017).toInt ≠ 0 := by rw [← ev1]; exact c
    exact tot_end ⟨rfl, Or.inr ⟨rfl, mz_bad h⟩⟩
theorem t_Mo_failG (S : mS) (x1 : Int32) (hG : G F B S) (q0 : 1 ≤ x1.toInt ∧ x1.toInt ≤ 13) : tot (f_Mo_fail n0 (hp S) 50 x1) (fun r S' => G F B S' ∧ ∃ x : Int32, x.toInt ≠ 0 ∧ S' = uV S 5017 x) := by
  unfold f_Mo_fail
  have L0 : (0 : Int32).toInt = 0 := rfl
  have b := b_5017 hG
  refine mgi_v (hp_50 _) rfl (fun v1 ev1 => ?_)
  rw [← ev1] at b
  refine ile_t (fun c => ?_) (fun c => ?_)
  · refine mpt_t (hp_50 _) (Nat.le_of_ble_eq_true rfl) (hs_50_17 _ _) ?_
    exact tot_end ⟨g_5017 hG (by omega) (by omega), x1, by omega, rfl⟩
  · refine mgi_v (hp_50 _) rfl (fun v4 ev4 => ?_)
    have e : v4 = v1 := ev4.trans ev1.symm
    subst e
    refine mpt_t (hp_50 _) (Nat.le_of_ble_eq_true rfl) (hs_50_17 _ _) ?_
    exact tot_end ⟨g_5017 hG (by omega) (by omega), v4, by omega, rfl⟩
theorem t_Mo_fail (S : mS) (x1 : Int32) (hG : G F B S) (hH : Hm S) (q0 : 1 ≤ x1.toInt ∧ x1.toInt ≤ 13) : tot (f_Mo_fail n0 (hp S) 50 x1) (fun r S' => QQ F B 0 S S' ∧ mz S' = 0 ∧ S'.2.1 62 = S.2.1 62) := by
  refine tot_mono (t_Mo_failG S x1 hG q0) (fun r S' z => ?_)
  obtain ⟨z1, x, hx, rfl⟩ := z
  have hz : mz (uV S 5017 x) = 0 := mz_bad hx
  exact ⟨⟨z1, hH, Int.le_refl _, fun c => absurd c hx⟩, hz, rfl⟩
set_option maxHeartbeats 1000000 in
theorem t_Mo_next (S : mS) (hG : G F B S) (hH : Hm S) : tot (f_Mo_next n0 (hp S) 50) (fun r S' => QQ F B 8 S S' ∧ S'.2.1 62 = S.2.1 62 ∧ S'.1 5019 = S.1 5019) := by
  unfold f_Mo_next
  have L0 : (0 : Int32).toInt = 0 := rfl
  have L1 : (1 : Int32).toInt = 1 := rfl
  refine mis_t (hp_50 _) ?_
  refine mcl_v (t_Mo_isGood S) (fun v2 S1 z1 => ?_)
  obtain ⟨e1, pv2⟩ := z1
  subst e1
  refine ieq_t (fun c => ?_) (fun c => ?_)
  · have tc := congrArg Int32.toInt c
    have hz : mz S = 0 := by omega
    exact tot_end ⟨QQ_fin hG hH (Rm_refl S) (Or.inl hz), rfl, rfl⟩
  · have hz : mz S ≠ 0 := by omega
    have hw : (S.1 5017).toInt = 0 := Decidable.byContradiction fun q => hz (mz_bad q)
    refine mgi_v (hp_50 _) rfl (fun v5 ev5 => ?_)
    refine mgi_v (hp_50 _) rfl (fun v6 ev6 => ?_)
    have b1 := b_5016 hG
    have b2 := b_5011 hG
    have b3 := hH.1
    rw [← ev5] at b1 b3
    rw [← ev6] at b2 b3
    refine ieq_t (fun c2 => ?_) (fun c2 => ?_)
    · refine mis_t (hp_50 _) ?_
      refine mcl_v (t_Mo_failG S 1 hG (by decide)) (fun u S2 z2 => ?_)
      obtain ⟨z3, x, hx, rfl⟩ := z2
      exact tot_end ⟨⟨z3, hH, Int.le_refl _, fun q => absurd q hx⟩, rfl, rfl⟩
    · refine mgi_v (hp_50 _) rfl (fun v8 ev8 => ?_)
      have e8 : v8 = v5 := ev8.trans ev5.symm
      subst e8
      have k9 : (v8 + 1).toInt = v8.toInt + 1 := nt_inc (by omega)
      refine mpt_t (hp_50 _) (Nat.le_of_ble_eq_true rfl) (hs_50_16 _ _) ?_
      have hG2 : G F B (uV S 5016 (v8 + 1)) := g_5016 hG (by omega) (by omega)
      refine mgr_t (v := 58) (hp_50 _) rfl ?_
      refine mgi_v (hp_50 _) rfl (fun v11 ev11 => ?_)
      have e11 : v11 = v8 + 1 := ev11
      have t11 := congrArg Int32.toInt e11
      have k11 : (v11 - 1 : Int32).toInt = v11.toInt - (1 : Int32).toInt := nt_sub (by omega) (by omega)
      refine mai_v (hp_58 _) (nt_in (by omega) (by omega)) (fun v12 ev12 => ?_)
      have hz6 : v6 = S.1 5011 := ev6
      have hz8 : v8 = S.1 5016 := ev8
      refine tot_end ⟨⟨hG2, ⟨?_, hH.2⟩, Int.le_refl _, fun q => ⟨hw, ?_⟩⟩, rfl, rfl⟩
      · show (v8 + 1).toInt ≤ (S.1 5011).toInt
        rw [← hz6]; omega
      · show (8 * ((S.1 5011).toInt - (v8 + 1).toInt) + (S.1 5019).toInt) + 8 ≤ 8 * ((S.1 5011).toInt - (S.1 5016).toInt) + (S.1 5019).toInt
        rw [← hz8]; omega
theorem t_Mo_give_B19 (S : mS) (x1 : Int32) (hG : G F B S) (hH : Hm S) (q0 : mz S = 0 ∨ 1 ≤ (S.1 5015).toInt) : tot (f_Mo_give_B19 n0 (hp S) 50 x1) (fun r S' => QQ F B 0 S S' ∧ S'.2.1 62 = S.2.1 62) := by
  unfold f_Mo_give_B19
  have L0 : (0 : Int32).toInt = 0 := rfl
  have L1 : (1 : Int32).toInt = 1 := rfl
  refine mis_t (hp_50 _) ?_
  refine mcl_v (t_Mo_isGood S) (fun v2 S1 z1 => ?_)
  obtain ⟨e1, pv2⟩ := z1
  subst e1
  refine ieq_t (fun c => ?_) (fun c => ?_)
  · exact tot_end ⟨QQ_fin hG hH (Rm_refl S) (Or.inr (Int.le_refl _)), rfl⟩
  · have hl : 1 ≤ (S.1 5015).toInt := by omega
    have b1 := b_5013 hG
    have b2 := b_5015 hG
    have b3 := hH.2
    refine mgr_t (v := 59) (hp_50 _) rfl ?_
    refine mgi_v (hp_50 _) rfl (fun v10 ev10 => ?_)
    rw [← ev10] at b1 b3
    refine mas_t (hp_59 _) (nt_in (by omega) (by omega)) (ha_59 _ _) ?_
    have hG1 : G F B (uA S 59 (upd (S.2.1 59) v10.toNatClampNeg (x1 &&& 255))) := G_Ai hG (nb (by decide)) (by decide)
    refine mgi_v (hp_50 _) rfl (fun v12 ev12 => ?_)
    have e12 : v12 = v10 := ev12.trans ev10.symm
    subst e12
    have k13 : (v12 + 1).toInt = v12.toInt + 1 := nt_inc (by omega)
    refine mpt_t (hp_50 _) (Nat.le_of_ble_eq_true rfl) (hs_50_13 _ _) ?_
    have hG2 : G F B (uV (uA S 59 (upd (S.2.1 59) v12.toNatClampNeg (x1 &&& 255))) 5013 (v12 + 1)) := g_5013 hG1 (by omega) (by omega)
    refine mgi_v (hp_50 _) rfl (fun v14 ev14 => ?_)
    have e14 : v14 = S.1 5015 := ev14
    rw [← e14] at hl b2 b3
    have k14 : (v14 - 1 : Int32).toInt = v14.toInt - (1 : Int32).toInt := nt_sub (by omega) (by omega)
    refine mpt_t (hp_50 _) (Nat.le_of_ble_eq_true rfl) (hs_50_15 _ _) ?_
    have hG3 : G F B (uV (uV (uA S 59 (upd (S.2.1 59) v12.toNatClampNeg (x1 &&& 255))) 5013 (v12 + 1)) 5015 (v14 - 1)) := g_5015 hG2 (by omega) (by omega)
    refine tot_end ⟨⟨hG3, ⟨hH.1, ?_⟩, ?_, fun q => ⟨q, ?_⟩⟩, rfl⟩
    · show (v12 + 1).toInt + (v14 - 1).toInt ≤ 65536
      omega
    · show (S.1 5013).toInt ≤ (v12 + 1).toInt
      have e10 : v12 = S.1 5013 := ev12
      rw [← e10]; omega
    · show mu S + 0 ≤ mu S
      omega
theorem t_Mo_give (S : mS) (x1 : Int32) (hG : G F B S) (hH : Hm S) : tot (f_Mo_give n0 (hp S) 50 x1) (fun r S' => QQ F B 0 S S' ∧ S'.2.1 62 = S.2.1 62) := by
  unfold f_Mo_give
  have L0 : (0 : Int32).toInt = 0 := rfl
  refine mis_t (hp_50 _) ?_
  refine mcl_v (t_Mo_isGood S) (fun v2 S1 z1 => ?_)
  obtain ⟨e1, pv2⟩ := z1
  subst e1
  refine ieq_t (fun c => ?_) (fun c => ?_)
  · have tc := congrArg Int32.toInt c
    exact t_Mo_give_B19 S x1 hG hH (Or.inl (by omega))
  · refine mgi_v (hp_50 _) rfl (fun v16 ev16 => ?_)
    have b2 := b_5015 hG
    refine ieq_t (fun c2 => ?_) (fun c2 => ?_)
    · refine mis_t (hp_50 _) ?_
      refine mcl_v (t_Mo_fail S 2 hG hH (by decide)) (fun u S2 z2 => ?_)
      obtain ⟨⟨g2, k2, r2⟩, m2, w2⟩ := z2
      refine tot_mono (t_Mo_give_B19 S2 x1 g2 k2 (Or.inl m2)) (fun r S' z => ⟨QQ_tq r2 (by omega) z.1, z.2.trans w2⟩)
    · have e16 : v16 = S.1 5015 := ev16
      rw [e16] at c2
      exact t_Mo_give_B19 S x1 hG hH (Or.inr (by omega))
theorem st_0 {S : mS} (hG : G F B S) (hH : Hm S) : QQ F B 0 S (uV S 5019 0) := by
  have b := b_5019 hG
  refine ⟨g_5019 hG (by decide) (by decide), hH, Int.le_refl _, fun q => ⟨q, ?_⟩⟩
  show (8 * ((S.1 5011).toInt - (S.1 5016).toInt) + (0 : Int32).toInt) + 0 ≤ 8 * ((S.1 5011).toInt - (S.1 5016).toInt) + (S.1 5019).toInt
  have L0 : (0 : Int32).toInt = 0 := rfl
  omega
theorem t_Mo_bit_B21 (S : mS) (hG : G F B S) (hH : Hm S) (q0 : 1 ≤ (S.1 5019).toInt) : tot (f_Mo_bit_B21 n0 (hp S) 50) (fun r S' => QQ F B 1 S S' ∧ (r = 0 ∨ r = 1) ∧ S'.2.1 62 = S.2.1 62) := by
  unfold f_Mo_bit_B21
  have L1 : (1 : Int32).toInt = 1 := rfl
  refine mgi_v (hp_50 _) rfl (fun v3 ev3 => ?_)
  refine mgi_v (hp_50 _) rfl (fun v4 ev4 => ?_)
  refine mnm_v (fun v5 ev5 => ?_)
  refine mgi_v (hp_50 _) rfl (fun v6 ev6 => ?_)
  have b := b_5019 hG
  have e6 : v6 = S.1 5019 := ev6
  rw [← e6] at b q0
  have k6 : (v6 - 1 : Int32).toInt = v6.toInt - (1 : Int32).toInt := nt_sub (by omega) (by omega)
  refine mpt_t (hp_50 _) (Nat.le_of_ble_eq_true rfl) (hs_50_19 _ _) ?_
  refine tot_end ⟨⟨g_5019 hG (by omega) (by omega), hH, Int.le_refl _, fun q => ⟨q, ?_⟩⟩, by rw [ev5]; exact nt_and1 _, rfl⟩
  show (8 * ((S.1 5011).toInt - (S.1 5016).toInt) + (v6 - 1 : Int32).toInt) + 1 ≤ 8 * ((S.1 5011).toInt - (S.1 5016).toInt) + (S.1 5019).toInt
  rw [← e6]
  omega
theorem nx_8 {S S1 : mS} {v : Int32} (hz : S.1 5019 = 0) (h : QQ F B 8 S S1) (hs : S1.1 5019 = S.1 5019) : QQ F B 0 S (uV (uV S1 5018 v) 5019 8) ∧ G F B (uV (uV S1 5018 v) 5019 8) ∧ Hm (uV (uV S1 5018 v) 5019 8) := by
  obtain ⟨h1, h2, h3, h4⟩ := h
  have hG : G F B (uV (uV S1 5018 v) 5019 8) := g_5019 (g_5018 h1) (by decide) (by decide)
  refine ⟨⟨hG, h2, h3, fun q => ?_⟩, hG, h2⟩
  obtain ⟨a, b⟩ := h4 q
  refine ⟨a, ?_⟩
  show (8 * ((S1.1 5011).toInt - (S1.1 5016).toInt) + (8 : Int32).toInt) + 0 ≤ mu S
  have L8 : (8 : Int32).toInt = 8 := rfl
  have L0 : (0 : Int32).toInt = 0 := rfl
  unfold mu at b ⊢
  rw [hs, hz] at b
  rw [hz]
  omega
theorem t_Mo_bit (S : mS) (hG : G F B S) (hH : Hm S) : tot (f_Mo_bit n0 (hp S) 50) (fun r S' => QQ F B 1 S S' ∧ (r = 0 ∨ r = 1) ∧ S'.2.1 62 = S.2.1 62) := by
  unfold f_Mo_bit
  have L0 : (0 : Int32).toInt = 0 := rfl
  refine mgi_v (hp_50 _) rfl (fun v1 ev1 => ?_)
  have e1 : v1 = S.1 5019 := ev1
  have b := b_5019 hG
  refine ieq_t (fun c => ?_) (fun c => ?_)
  · refine mis_t (hp_50 _) ?_
    refine mcl_v (t_Mo_next S hG hH) (fun v9 S1 z1 => ?_)
    obtain ⟨q1, w1, s1⟩ := z1
    obtain ⟨r2, g2, k2⟩ := nx_8 (v := v9) (e1.symm.trans c) q1 s1
    refine mpt_t (hp_50 _) (Nat.le_of_ble_eq_true rfl) (hs_50_18 _ _) ?_
    refine mpt_t (hp_50 _) (Nat.le_of_ble_eq_true rfl) (hs_50_19 _ _) ?_
    refine tot_mono (t_Mo_bit_B21 _ g2 k2 (by show 1 ≤ (8 : Int32).toInt; decide)) (fun r S' z => ⟨QQ_tq r2.2.2 (by omega) z.1, z.2.1, z.2.2.trans w1⟩)
  · rw [e1] at c
    exact t_Mo_bit_B21 S hG hH (by omega)
end mPr
