/-! THE REFERENCE'S CALLS THAT CHANGE the chain or the budget, with their answers -/
section mD
variable {F B : mP} {S : mS}
theorem isBy_54 : ∀ k : Nat, (54 ≤ k ∧ k ≤ 57) → ∀ b, isBy b → b + 1 ≠ k := by
  intro k hk b hb e
  rcases hb with rfl | rfl | rfl | rfl | rfl <;> omega
theorem G_54 {j : Nat} (hG : G F B S) : G F B (uA S 54 (upd (S.2.1 54) j 1)) := by
  obtain ⟨h1, h2, h6, h7, h8⟩ := hG
  refine ⟨h1, h2, h6, fun b hb i => ?_, fun i hi => ?_⟩
  · show fits .byte (.int (va_up S.2.1 54 (upd (S.2.1 54) j 1) (b + 1) i)) = true
    unfold va_up
    rw [if_neg (isBy_54 54 (by omega) b hb)]
    exact h7 b hb i
  · show (upd (S.2.1 54) j 1 i).toInt ≤ 1 ∨ okp (S.2.1 55 i) (S.2.1 56 i) (S.2.1 57 i)
    unfold upd
    split
    · left; decide
    · exact h8 i hi
theorem G_pred {j : Nat} {x1 x2 x3 x4 : Int32} (hG : G F B S) (o : okp x2 x3 x4) : G F B (uA (uA (uA (uA S 54 (upd (S.2.1 54) j x1)) 55 (upd (S.2.1 55) j x2)) 56 (upd (S.2.1 56) j x3)) 57 (upd (S.2.1 57) j x4)) := by
  obtain ⟨h1, h2, h6, h7, h8⟩ := hG
  refine ⟨h1, h2, h6, fun b hb i => ?_, fun i hi => ?_⟩
  · show fits .byte (.int (va_up (va_up (va_up (va_up S.2.1 54 (upd (S.2.1 54) j x1)) 55 (upd (S.2.1 55) j x2)) 56 (upd (S.2.1 56) j x3)) 57 (upd (S.2.1 57) j x4) (b + 1) i)) = true
    unfold va_up
    rw [if_neg (isBy_54 57 (by omega) b hb), if_neg (isBy_54 56 (by omega) b hb), if_neg (isBy_54 55 (by omega) b hb), if_neg (isBy_54 54 (by omega) b hb)]
    exact h7 b hb i
  · show (upd (S.2.1 54) j x1 i).toInt ≤ 1 ∨ okp (upd (S.2.1 55) j x2 i) (upd (S.2.1 56) j x3 i) (upd (S.2.1 57) j x4 i)
    unfold upd
    by_cases e : i = j
    · rw [if_pos e, if_pos e, if_pos e, if_pos e]
      exact Or.inr o
    · rw [if_neg e, if_neg e, if_neg e, if_neg e]
      exact h8 i hi
end mD
set_option maxHeartbeats 2000000 in
theorem t_Mo_filter_B37 {F B : mP} {n0 : Nat} (S : mS) (x1 x2 p0 : Int32) (hG : G F B S) (q0 : p0.toInt ≤ 0 → F.2.toInt < 8) : tot (f_Mo_filter_B37 n0 (hp S) 50 x1 x2 p0 50) (fun r S' => (p0.toInt ≤ 0 → r = F.2 + 1 ∧ G (F.1, F.2 + 1) B S') ∧ (¬ p0.toInt ≤ 0 → G F B S') ∧ S'.1 5000 = p0 ∧ S'.2.2.2.2 = S.2.2.2.2) := by
  unfold f_Mo_filter_B37
  have L0 : (0 : Int32).toInt = 0 := rfl
  have L1 : (1 : Int32).toInt = 1 := rfl
  refine mis_t (hp_50 _) ?_
  refine mcl_v (t_Mo_refused S p0 hG) (fun v6 S1 z1 => ?_)
  obtain ⟨e1, pv6⟩ := z1
  subst e1
  have hG1 : G F B (uV S 5000 p0) := g_5000 hG
  have hF : S.1 5003 = F.2 := hG.2.1.2.1
  have bF := b_5003 hG
  rw [hF] at bF
  refine ieq_t (fun c1 => ?_) (fun c1 => ?_)
  · have tc1 := congrArg Int32.toInt c1
    have hp0 : p0.toInt ≤ 0 := by omega
    have h8 := q0 hp0
    refine mgr_t (v := 52) (hp_50 _) rfl ?_
    refine mgi_v (hp_50 _) rfl (fun v10 ev10 => ?_)
    have e10 : v10 = F.2 := ev10.trans hF
    subst e10
    refine mas_t (hp_52 _) (nt_in (by omega) (by omega)) (ha_52 _ _) ?_
    have hG2 := G_Ai (k := 52) (f := upd ((uV S 5000 p0).2.1 52) F.2.toNatClampNeg x1) hG1 (nb (by decide)) (by decide)
    refine mgr_t (v := 53) (hp_50 _) rfl ?_
    refine mgi_v (hp_50 _) rfl (fun v13 ev13 => ?_)
    have e13 : v13 = F.2 := ev13.trans hF
    subst e13
    refine mas_t (hp_53 _) (nt_in (by omega) (by omega)) (ha_53 _ _) ?_
    have hG3 := G_Ai (k := 53) (f := upd (S.2.1 53) F.2.toNatClampNeg x2) hG2 (nb (by decide)) (by decide)
    refine mgr_t (v := 54) (hp_50 _) rfl ?_
    refine mgi_v (hp_50 _) rfl (fun v16 ev16 => ?_)
    have e16 : v16 = F.2 := ev16.trans hF
    subst e16
    refine mas_t (hp_54 _) (nt_in (by omega) (by omega)) (ha_54 _ _) ?_
    have hG4 := G_54 (j := F.2.toNatClampNeg) hG3
    refine mgi_v (hp_50 _) rfl (fun v18 ev18 => ?_)
    have e18 : v18 = F.2 := ev18.trans hF
    subst e18
    have k18 : (F.2 + 1).toInt = F.2.toInt + 1 := nt_inc (by omega)
    refine mpt_t (hp_50 _) (Nat.le_of_ble_eq_true rfl) (hs_50_3 _ _) ?_
    have hG5 := g_5003 (x := F.2 + 1) hG4 (by omega) (by omega)
    refine mgi_v (hp_50 _) rfl (fun v20 ev20 => ?_)
    have e20 : v20 = F.2 + 1 := ev20
    exact tot_end ⟨fun _ => ⟨e20, hG5⟩, fun o => absurd hp0 o, rfl, rfl⟩
  · exact tot_end ⟨fun o => absurd o (by omega), fun _ => hG1, rfl, rfl⟩
theorem t_Mo_filter {F B : mP} {n0 : Nat} (hn0 : big n0) (S : mS) (x1 x2 : Int32) (hG : G F B S) : tot (f_Mo_filter n0 (hp S) 50 x1 x2) (fun r S' => (okf x1 x2 → F.2.toInt < 8 → r = F.2 + 1 ∧ G (F.1, F.2 + 1) B S' ∧ S'.1 5000 = 0) ∧ (¬ okf x1 x2 → G F B S' ∧ S'.1 5000 = 1) ∧ (okf x1 x2 → ¬ F.2.toInt < 8 → G F B S' ∧ S'.1 5000 = 2) ∧ S'.2.2.2.2 = S.2.2.2.2) := by
  unfold f_Mo_filter f_Mo_filter_B19
  have L0 : (0 : Int32).toInt = 0 := rfl
  have L1 : (1 : Int32).toInt = 1 := rfl
  have L2 : (2 : Int32).toInt = 2 := rfl
  have L4 : (4 : Int32).toInt = 4 := rfl
  have L8 : (8 : Int32).toInt = 8 := rfl
  have hF : S.1 5003 = F.2 := hG.2.1.2.1
  have bF := b_5003 hG
  rw [hF] at bF
  have eo : okf x1 x2 = ((0 ≤ x1.toInt ∧ x1.toInt ≤ 4) ∧ (0 ≤ x2.toInt ∧ x2.toInt ≤ 1)) := rfl
  rw [eo]
  refine mcl_v (t_Mo_isIn hn0 S x1 0 4 hG) (fun v2 S1 z1 => ?_)
  obtain ⟨e1, pv2⟩ := z1
  subst e1
  refine ieq_t (fun c1 => ?_) (fun c1 => ?_)
  · have tc1 := congrArg Int32.toInt c1
    refine tot_mono (t_Mo_filter_B37 S x1 x2 1 hG (fun o => absurd o (by omega))) (fun r S' z => ?_)
    exact ⟨fun o => absurd o (by omega), fun _ => ⟨z.2.1 (by omega), z.2.2.1⟩, fun o => absurd o (by omega), z.2.2.2⟩
  refine mcl_v (t_Mo_isIn hn0 S x2 0 1 hG) (fun v22 S2 z2 => ?_)
  obtain ⟨e2, pv22⟩ := z2
  subst e2
  refine ieq_t (fun c2 => ?_) (fun c2 => ?_)
  · have tc2 := congrArg Int32.toInt c2
    refine tot_mono (t_Mo_filter_B37 S x1 x2 1 hG (fun o => absurd o (by omega))) (fun r S' z => ?_)
    exact ⟨fun o => absurd o (by omega), fun _ => ⟨z.2.1 (by omega), z.2.2.1⟩, fun o => absurd o (by omega), z.2.2.2⟩
  refine mgi_v (hp_50 _) rfl (fun v25 ev25 => ?_)
  have e25 : v25 = F.2 := ev25.trans hF
  have t25 := congrArg Int32.toInt e25
  refine ieq_t (fun c3 => ?_) (fun c3 => ?_)
  · have tc3 := congrArg Int32.toInt c3
    refine tot_mono (t_Mo_filter_B37 S x1 x2 2 hG (fun o => absurd o (by omega))) (fun r S' z => ?_)
    exact ⟨fun _ o => absurd o (by omega), fun o => absurd (by omega) o, fun _ _ => ⟨z.2.1 (by omega), z.2.2.1⟩, z.2.2.2⟩
  · refine tot_mono (t_Mo_filter_B37 S x1 x2 0 hG (fun _ => by omega)) (fun r S' z => ?_)
    exact ⟨fun _ _ => ⟨(z.1 (by omega)).1, (z.1 (by omega)).2, z.2.2.1⟩, fun o => absurd (by omega) o, fun _ o => absurd (by omega) o, z.2.2.2⟩
set_option maxHeartbeats 2000000 in
theorem t_Mo_predict_B122 {F B : mP} {n0 : Nat} (S : mS) (x1 x2 x3 x4 p0 : Int32) (hG : G F B S) (q0 : p0.toInt ≤ 0 → okp x2 x3 x4 ∧ 1 ≤ F.2.toInt) : tot (f_Mo_predict_B122 n0 (hp S) 50 x1 x2 x3 x4 p0 50) (fun r S' => G F B S' ∧ S'.1 5000 = p0) := by
  unfold f_Mo_predict_B122
  have L0 : (0 : Int32).toInt = 0 := rfl
  have L1 : (1 : Int32).toInt = 1 := rfl
  refine mis_t (hp_50 _) ?_
  refine mcl_v (t_Mo_refused S p0 hG) (fun v6 S1 z1 => ?_)
  obtain ⟨e1, pv6⟩ := z1
  subst e1
  have hG1 : G F B (uV S 5000 p0) := g_5000 hG
  have hF : S.1 5003 = F.2 := hG.2.1.2.1
  have bF := b_5003 hG
  rw [hF] at bF
  refine ieq_t (fun c1 => ?_) (fun c1 => ?_)
  · have tc1 := congrArg Int32.toInt c1
    obtain ⟨ho, h1⟩ := q0 (by omega)
    have k1 : (F.2 - 1 : Int32).toInt = F.2.toInt - (1 : Int32).toInt := nt_sub (by omega) (by omega)
    refine mgr_t (v := 54) (hp_50 _) rfl ?_
    refine mgi_v (hp_50 _) rfl (fun v15 ev15 => ?_)
    have e15 : v15 = F.2 := ev15.trans hF
    subst e15
    refine mas_t (hp_54 _) (nt_in (by omega) (by omega)) (ha_54 _ _) ?_
    refine mgr_t (v := 55) (hp_50 _) rfl ?_
    refine mgi_v (hp_50 _) rfl (fun v18 ev18 => ?_)
    have e18 : v18 = F.2 := ev18.trans hF
    subst e18
    refine mas_t (hp_55 _) (nt_in (by omega) (by omega)) (ha_55 _ _) ?_
    refine mgr_t (v := 56) (hp_50 _) rfl ?_
    refine mgi_v (hp_50 _) rfl (fun v21 ev21 => ?_)
    have e21 : v21 = F.2 := ev21.trans hF
    subst e21
    refine mas_t (hp_56 _) (nt_in (by omega) (by omega)) (ha_56 _ _) ?_
    refine mgr_t (v := 57) (hp_50 _) rfl ?_
    refine mgi_v (hp_50 _) rfl (fun v24 ev24 => ?_)
    have e24 : v24 = F.2 := ev24.trans hF
    subst e24
    refine mas_t (hp_57 _) (nt_in (by omega) (by omega)) (ha_57 _ _) ?_
    exact tot_end ⟨G_pred (S := uV S 5000 p0) hG1 ho, rfl⟩
  · exact tot_end ⟨hG1, rfl⟩
theorem t_Mo_predict_B98 {F B : mP} {n0 : Nat} (S : mS) (x1 x2 x3 x4 p0 : Int32) (hG : G F B S) (q0 : (p0.toInt = 0 ∧ ¬ okd x1 x2 x3 x4) ∨ (p0.toInt = 1 ∧ okd x1 x2 x3 x4)) : tot (f_Mo_predict_B98 n0 (hp S) 50 x1 x2 x3 x4 p0) (fun r S' => G F B S' ∧ (okd x1 x2 x3 x4 → 1 ≤ F.2.toInt → S'.1 5000 = 0) ∧ (¬ okd x1 x2 x3 x4 → S'.1 5000 = 1) ∧ (okd x1 x2 x3 x4 → ¬ 1 ≤ F.2.toInt → S'.1 5000 = 2)) := by
  unfold f_Mo_predict_B98
  have L0 : (0 : Int32).toInt = 0 := rfl
  have L1 : (1 : Int32).toInt = 1 := rfl
  have L2 : (2 : Int32).toInt = 2 := rfl
  have hF : S.1 5003 = F.2 := hG.2.1.2.1
  have bF := b_5003 hG
  rw [hF] at bF
  refine ieq_t (fun c1 => ?_) (fun c1 => ?_)
  · have tc1 := congrArg Int32.toInt c1
    have hn : ¬ okd x1 x2 x3 x4 := by
      rcases q0 with q | q
      · exact q.2
      · omega
    refine tot_mono (t_Mo_predict_B122 S x1 x2 x3 x4 1 hG (fun o => absurd o (by omega))) (fun r S' z => ⟨z.1, fun o => absurd o hn, fun _ => z.2, fun o => absurd o hn⟩)
  · have hy : okd x1 x2 x3 x4 := by
      rcases q0 with q | q
      · omega
      · exact q.2
    refine mgi_v (hp_50 _) rfl (fun v8 ev8 => ?_)
    have e8 : v8 = F.2 := ev8.trans hF
    have t8 := congrArg Int32.toInt e8
    refine ieq_t (fun c2 => ?_) (fun c2 => ?_)
    · have tc2 := congrArg Int32.toInt c2
      refine tot_mono (t_Mo_predict_B122 S x1 x2 x3 x4 2 hG (fun o => absurd o (by omega))) (fun r S' z => ⟨z.1, fun _ o => absurd o (by omega), fun o => absurd hy o, fun _ _ => z.2⟩)
    · refine tot_mono (t_Mo_predict_B122 S x1 x2 x3 x4 0 hG (fun _ => ⟨hy.2, by omega⟩)) (fun r S' z => ⟨z.1, fun _ _ => z.2, fun o => absurd hy o, fun _ o => absurd (by omega) o⟩)
theorem t_Mo_predict_B59 {F B : mP} {n0 : Nat} (hn0 : big n0) (S : mS) (x1 x2 x3 x4 x5 p0 : Int32) (hG : G F B S) (q0 : x5.toInt ≠ 0 ↔ ((1 ≤ x1.toInt ∧ x1.toInt ≤ 2) ∨ (10 ≤ x1.toInt ∧ x1.toInt ≤ 15))) (q1 : p0.toInt ≠ 0 ↔ okw x3) : tot (f_Mo_predict_B59 n0 (hp S) 50 x1 x2 x3 x4 x5 p0) (fun r S' => G F B S' ∧ (okd x1 x2 x3 x4 → 1 ≤ F.2.toInt → S'.1 5000 = 0) ∧ (¬ okd x1 x2 x3 x4 → S'.1 5000 = 1) ∧ (okd x1 x2 x3 x4 → ¬ 1 ≤ F.2.toInt → S'.1 5000 = 2)) := by
  unfold f_Mo_predict_B59 f_Mo_predict_B97
  have L0 : (0 : Int32).toInt = 0 := rfl
  have L1 : (1 : Int32).toInt = 1 := rfl
  have L8 : (8 : Int32).toInt = 8 := rfl
  have L4096 : (4096 : Int32).toInt = 4096 := rfl
  refine ieq_t (fun c1 => ?_) (fun c1 => ?_)
  · have tc1 := congrArg Int32.toInt c1
    exact t_Mo_predict_B98 S x1 x2 x3 x4 0 hG (Or.inl ⟨rfl, fun o => absurd (q0.mpr o.1) (by omega)⟩)
  refine ieq_t (fun c2 => ?_) (fun c2 => ?_)
  · have tc2 := congrArg Int32.toInt c2
    exact t_Mo_predict_B98 S x1 x2 x3 x4 0 hG (Or.inl ⟨rfl, fun o => absurd (q1.mpr o.2.2.1) (by omega)⟩)
  refine mcl_v (t_Mo_isIn hn0 S x2 1 8 hG) (fun v28 S1 z1 => ?_)
  obtain ⟨e1, pv28⟩ := z1
  subst e1
  refine ieq_t (fun c3 => ?_) (fun c3 => ?_)
  · have tc3 := congrArg Int32.toInt c3
    exact t_Mo_predict_B98 S x1 x2 x3 x4 0 hG (Or.inl ⟨rfl, fun o => absurd o.2.1 (by omega)⟩)
  refine mcl_v (t_Mo_isIn hn0 S x4 1 4096 hG) (fun v32 S2 z2 => ?_)
  obtain ⟨e2, pv32⟩ := z2
  subst e2
  refine ieq_t (fun c4 => ?_) (fun c4 => ?_)
  · have tc4 := congrArg Int32.toInt c4
    exact t_Mo_predict_B98 S x1 x2 x3 x4 0 hG (Or.inl ⟨rfl, fun o => absurd o.2.2.2 (by omega)⟩)
  · exact t_Mo_predict_B98 S x1 x2 x3 x4 1 hG (Or.inr ⟨rfl, q0.mp (by omega), ⟨by omega, by omega⟩, q1.mp (by omega), ⟨by omega, by omega⟩⟩)
theorem t_Mo_predict_B25 {F B : mP} {n0 : Nat} (hn0 : big n0) (S : mS) (x1 x2 x3 x4 p0 : Int32) (hG : G F B S) (q0 : p0.toInt ≠ 0 ↔ ((1 ≤ x1.toInt ∧ x1.toInt ≤ 2) ∨ (10 ≤ x1.toInt ∧ x1.toInt ≤ 15))) : tot (f_Mo_predict_B25 n0 (hp S) 50 x1 x2 x3 x4 p0) (fun r S' => G F B S' ∧ (okd x1 x2 x3 x4 → 1 ≤ F.2.toInt → S'.1 5000 = 0) ∧ (¬ okd x1 x2 x3 x4 → S'.1 5000 = 1) ∧ (okd x1 x2 x3 x4 → ¬ 1 ≤ F.2.toInt → S'.1 5000 = 2)) := by
  unfold f_Mo_predict_B25 f_Mo_predict_B54
  have L0 : (0 : Int32).toInt = 0 := rfl
  have L1 : (1 : Int32).toInt = 1 := rfl
  have L2 : (2 : Int32).toInt = 2 := rfl
  have L4 : (4 : Int32).toInt = 4 := rfl
  have L8 : (8 : Int32).toInt = 8 := rfl
  have L16 : (16 : Int32).toInt = 16 := rfl
  have yes : okw x3 → tot (f_Mo_predict_B59 n0 (hp S) 50 x1 x2 x3 x4 p0 1) (fun r S' => G F B S' ∧ (okd x1 x2 x3 x4 → 1 ≤ F.2.toInt → S'.1 5000 = 0) ∧ (¬ okd x1 x2 x3 x4 → S'.1 5000 = 1) ∧ (okd x1 x2 x3 x4 → ¬ 1 ≤ F.2.toInt → S'.1 5000 = 2)) := fun o => t_Mo_predict_B59 hn0 S x1 x2 x3 x4 p0 1 hG q0 ⟨fun _ => o, fun _ => by omega⟩
  have eo : okw x3 = (x3.toInt = 1 ∨ x3.toInt = 2 ∨ x3.toInt = 4 ∨ x3.toInt = 8 ∨ x3.toInt = 16) := rfl
  refine ieq_t (fun c => yes ?_) (fun c1 => ?_)
  · have := congrArg Int32.toInt c
    rw [eo]; omega
  refine ieq_t (fun c => yes ?_) (fun c2 => ?_)
  · have := congrArg Int32.toInt c
    rw [eo]; omega
  refine ieq_t (fun c => yes ?_) (fun c4 => ?_)
  · have := congrArg Int32.toInt c
    rw [eo]; omega
  refine ieq_t (fun c => yes ?_) (fun c8 => ?_)
  · have := congrArg Int32.toInt c
    rw [eo]; omega
  refine ieq_t (fun c => yes ?_) (fun c16 => ?_)
  · have := congrArg Int32.toInt c
    rw [eo]; omega
  · exact t_Mo_predict_B59 hn0 S x1 x2 x3 x4 p0 0 hG q0 ⟨fun o => absurd L0 o, fun o => by rw [eo] at o; omega⟩
theorem t_Mo_predict {F B : mP} {n0 : Nat} (hn0 : big n0) (S : mS) (x1 x2 x3 x4 : Int32) (hG : G F B S) : tot (f_Mo_predict n0 (hp S) 50 x1 x2 x3 x4) (fun r S' => G F B S' ∧ (okd x1 x2 x3 x4 → 1 ≤ F.2.toInt → S'.1 5000 = 0) ∧ (¬ okd x1 x2 x3 x4 → S'.1 5000 = 1) ∧ (okd x1 x2 x3 x4 → ¬ 1 ≤ F.2.toInt → S'.1 5000 = 2)) := by
  unfold f_Mo_predict f_Mo_predict_B20
  have L0 : (0 : Int32).toInt = 0 := rfl
  have L1 : (1 : Int32).toInt = 1 := rfl
  have L2 : (2 : Int32).toInt = 2 := rfl
  have L10 : (10 : Int32).toInt = 10 := rfl
  have L15 : (15 : Int32).toInt = 15 := rfl
  refine mcl_v (t_Mo_isIn hn0 S x1 1 2 hG) (fun v2 S1 z1 => ?_)
  obtain ⟨e1, pv2⟩ := z1
  subst e1
  refine ieq_t (fun c1 => ?_) (fun c1 => ?_)
  · have tc1 := congrArg Int32.toInt c1
    refine mcl_v (t_Mo_isIn hn0 S x1 10 15 hG) (fun v40 S2 z2 => ?_)
    obtain ⟨e2, pv40⟩ := z2
    subst e2
    refine ieq_t (fun c2 => ?_) (fun c2 => ?_)
    · have tc2 := congrArg Int32.toInt c2
      exact t_Mo_predict_B25 hn0 S x1 x2 x3 x4 0 hG ⟨fun o => absurd L0 o, fun o => by omega⟩
    · exact t_Mo_predict_B25 hn0 S x1 x2 x3 x4 1 hG ⟨fun _ => by omega, fun _ => by omega⟩
  · exact t_Mo_predict_B25 hn0 S x1 x2 x3 x4 1 hG ⟨fun _ => by omega, fun _ => by omega⟩
theorem t_Mo_drop {F B : mP} {n0 : Nat} (S : mS) (hG : G F B S) : tot (f_Mo_drop n0 (hp S) 50) (fun r S' => r = F.2 ∧ G (F.1, 0) B S') := by
  unfold f_Mo_drop
  refine mpt_t (hp_50 _) (Nat.le_of_ble_eq_true rfl) (hs_50_0 _ _) ?_
  have hG1 : G F B (uV S 5000 0) := g_5000 hG
  refine mgi_v (hp_50 _) rfl (fun v2 ev2 => ?_)
  refine mpt_t (hp_50 _) (Nat.le_of_ble_eq_true rfl) (hs_50_3 _ _) ?_
  exact tot_end ⟨ev2.trans hG1.2.1.2.1, g_5003 hG1 (by decide) (by decide)⟩
theorem t_Mo_budget_B16 {F B : mP} {n0 : Nat} (S : mS) (x1 p0 : Int32) (hG : G F B S) (q0 : p0.toInt ≤ 0 → okb x1) : tot (f_Mo_budget_B16 n0 (hp S) 50 x1 p0 50) (fun r S' => (p0.toInt ≤ 0 → r = B.2 ∧ G F (B.1, x1) S') ∧ (¬ p0.toInt ≤ 0 → G F B S') ∧ S'.1 5000 = p0 ∧ S'.2.2.2.2 = S.2.2.2.2) := by
  unfold f_Mo_budget_B16
  have L0 : (0 : Int32).toInt = 0 := rfl
  refine mis_t (hp_50 _) ?_
  refine mcl_v (t_Mo_refused S p0 hG) (fun v6 S1 z1 => ?_)
  obtain ⟨e1, pv6⟩ := z1
  subst e1
  have hG1 : G F B (uV S 5000 p0) := g_5000 hG
  refine ieq_t (fun c1 => ?_) (fun c1 => ?_)
  · have tc1 := congrArg Int32.toInt c1
    have hp0 : p0.toInt ≤ 0 := by omega
    have ho := q0 hp0
    refine mgi_v (hp_50 _) rfl (fun v9 ev9 => ?_)
    refine mpt_t (hp_50 _) (Nat.le_of_ble_eq_true rfl) (hs_50_10 _ _) ?_
    exact tot_end ⟨fun _ => ⟨ev9.trans hG1.2.1.2.2.2, g_5010 hG1 ho.1 ho.2⟩, fun o => absurd hp0 o, rfl, rfl⟩
  · exact tot_end ⟨fun o => absurd o (by omega), fun _ => hG1, rfl, rfl⟩
theorem t_Mo_budget {F B : mP} {n0 : Nat} (hn0 : big n0) (S : mS) (x1 : Int32) (hG : G F B S) : tot (f_Mo_budget n0 (hp S) 50 x1) (fun r S' => (okb x1 → r = B.2 ∧ G F (B.1, x1) S' ∧ S'.1 5000 = 0) ∧ (¬ okb x1 → G F B S' ∧ S'.1 5000 = 1) ∧ S'.2.2.2.2 = S.2.2.2.2) := by
  unfold f_Mo_budget
  have L0 : (0 : Int32).toInt = 0 := rfl
  have L1 : (1 : Int32).toInt = 1 := rfl
  have L65536 : (65536 : Int32).toInt = 65536 := rfl
  have eo : okb x1 = (0 ≤ x1.toInt ∧ x1.toInt ≤ 65536) := rfl
  refine mcl_v (t_Mo_isIn hn0 S x1 0 65536 hG) (fun v2 S1 z1 => ?_)
  obtain ⟨e1, pv2⟩ := z1
  subst e1
  refine ieq_t (fun c1 => ?_) (fun c1 => ?_)
  · have tc1 := congrArg Int32.toInt c1
    refine tot_mono (t_Mo_budget_B16 S x1 1 hG (fun o => absurd o (by omega))) (fun r S' z => ?_)
    exact ⟨fun o => by rw [eo] at o; omega, fun _ => ⟨z.2.1 (by omega), z.2.2.1⟩, z.2.2.2⟩
  · have ho : okb x1 := by rw [eo]; omega
    refine tot_mono (t_Mo_budget_B16 S x1 0 hG (fun _ => ho)) (fun r S' z => ?_)
    exact ⟨fun _ => ⟨(z.1 (by omega)).1, (z.1 (by omega)).2, z.2.2.1⟩, fun o => absurd ho o, z.2.2.2⟩

