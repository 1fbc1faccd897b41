/-! THE LAW'S HELPERS over the state -/
theorem mls_t {α : Type} {h h' : mH} {a n : Nat} {j : Int32} {x : Int64} {f : Nat → Int64} {F : mH → Option (α × mH)} {Φ : α → mS → Prop} (hi : h[a]? = some (.inl (.long, (n, .inr (.inl f))))) (hj : vp_in j n) (e : h.set a (.inl (.long, (n, .inr (.inl (vp_updL f j.toNatClampNeg x))))) = h') (hF : tot (F h') Φ) : tot (mls h a j x F) Φ := by
  rw [mls_ev hi hj, e]
  exact hF
theorem mal_v {α : Type} {h : mH} {a n : Nat} {j : Int32} {f : Nat → Int64} {F : Int64 → Option (α × mH)} {Φ : α → mS → Prop} (hi : h[a]? = some (.inl (.long, (n, .inr (.inl f))))) (hj : vp_in j n) (hF : ∀ w, w = f j.toNatClampNeg → tot (F w) Φ) : tot (mal h a j F) Φ := tot_eq (mal_ev hi hj) (hF _ rfl)
theorem lg_self (x : Int64) : lg_cmp x x = 0 := by
  unfold lg_cmp
  rw [if_neg (fun h => by rw [gt_iff_lt, Int64.lt_iff_toInt_lt] at h; omega), if_pos rfl]
theorem t_Mo_thrown {n0 : Nat} (S : mS) : tot (f_Mo_thrown n0 (hp S) 50) (fun r S' => S = S' ∧ r = S.1 5000) := by
  unfold f_Mo_thrown
  exact mgi_v (hp_50 _) rfl (fun v1 ev1 => tot_end ⟨rfl, ev1⟩)
section mLaw
variable {F B : mP} {n0 : Nat}
theorem lw_0 {S : mS} {x : Int64} : (uL S (vp_updL S.2.2.2.2 (0 : Int32).toNatClampNeg x)).2.2.2.2 0 = x := rfl
theorem t_La_put (hn0 : big n0) (S : mS) (x1 x2 : Int32) (hG : G F B S) : tot (f_La_put n0 (hp S) 0 x1 x2 66) (fun r S' => G F B S') := by
  unfold f_La_put
  refine mis_t (hp_0 _) ?_
  obtain ⟨r, S', e, hG', z⟩ := t_SF_put hn0 S x1 x2 hG
  rw [e]
  rcases z with ⟨v, rfl⟩ | rfl | rfl
  · exact mls_t (hp_66 _) (nt_in (by decide) (by decide)) (ha_66 _ _) (tot_end (G_L hG'))
  · exact tot_end hG
  · exact tot_end hG
theorem t_La_cut (hn0 : big n0) (S : mS) (x1 : Int32) (hG : G F B S) : tot (f_La_cut n0 (hp S) 0 x1 66) (fun r S' => G F B S') := by
  unfold f_La_cut
  refine mis_t (hp_0 _) ?_
  obtain ⟨r, S', e, hG', z⟩ := t_SF_cut hn0 S x1 hG
  rw [e]
  rcases z with ⟨v, rfl⟩ | rfl
  · exact mls_t (hp_66 _) (nt_in (by decide) (by decide)) (ha_66 _ _) (tot_end (G_L hG'))
  · exact tot_end hG
theorem t_La_keep (hn0 : big n0) (S : mS) (hG : G F B S) : tot (f_La_keep n0 (hp S) 0 66) (fun r S' => G F B S') := by
  unfold f_La_keep
  refine mis_t (hp_0 _) ?_
  obtain ⟨r, S', e, hG', z⟩ := t_SF_keep hn0 S hG
  rw [e]
  rcases z with ⟨v, rfl⟩ | rfl
  · exact mls_t (hp_66 _) (nt_in (by decide) (by decide)) (ha_66 _ _) (tot_end (G_L hG'))
  · exact tot_end hG
theorem t_La_filter (hn0 : big n0) (S : mS) (x1 x2 : Int32) (hG : G F B S) : tot (f_La_filter n0 (hp S) 0 x1 x2 66) (fun r S' => (okf x1 x2 → F.1.toInt < 8 → r = 0 ∧ G (F.1 + 1, F.2) B S' ∧ S'.2.2.2.2 0 = (F.1 + 1).toInt64) ∧ (¬ okf x1 x2 → r = 1 ∧ G F B S') ∧ (okf x1 x2 → ¬ F.1.toInt < 8 → r = 2 ∧ G F B S')) := by
  unfold f_La_filter
  refine mis_t (hp_0 _) ?_
  obtain ⟨r, S', e, z1, z2, z3⟩ := t_SF_filter hn0 S x1 x2 hG
  rw [e]
  by_cases o : okf x1 x2
  · by_cases c : F.1.toInt < 8
    · obtain ⟨rfl, hG'⟩ := z1 o c
      exact mls_t (hp_66 _) (nt_in (by decide) (by decide)) (ha_66 _ _) (tot_end ⟨fun _ _ => ⟨rfl, G_L hG', lw_0⟩, fun q => absurd o q, fun _ q => absurd c q⟩)
    · obtain rfl := z3 o c
      exact tot_end ⟨fun _ q => absurd q c, fun q => absurd o q, fun _ _ => ⟨rfl, hG⟩⟩
  · obtain rfl := z2 o
    exact tot_end ⟨fun q => absurd q o, fun _ => ⟨rfl, hG⟩, fun q => absurd q o⟩
theorem t_La_predict (hn0 : big n0) (S : mS) (x1 x2 x3 x4 : Int32) (hG : G F B S) : tot (f_La_predict n0 (hp S) 0 x1 x2 x3 x4) (fun r S' => G F B S' ∧ (okd x1 x2 x3 x4 → 1 ≤ F.1.toInt → r = 0) ∧ (¬ okd x1 x2 x3 x4 → r = 1) ∧ (okd x1 x2 x3 x4 → ¬ 1 ≤ F.1.toInt → r = 2)) := by
  unfold f_La_predict
  refine mis_t (hp_0 _) ?_
  obtain ⟨r, S', e, z1, z2, z3⟩ := t_SF_predict hn0 S x1 x2 x3 x4 hG
  rw [e]
  by_cases o : okd x1 x2 x3 x4
  · by_cases c : 1 ≤ F.1.toInt
    · obtain ⟨rfl, hG'⟩ := z1 o c
      exact tot_end ⟨hG', fun _ _ => rfl, fun q => absurd o q, fun _ q => absurd c q⟩
    · obtain rfl := z3 o c
      exact tot_end ⟨hG, fun _ q => absurd q c, fun q => absurd o q, fun _ _ => rfl⟩
  · obtain rfl := z2 o
    exact tot_end ⟨hG, fun q => absurd q o, fun _ => rfl, fun q => absurd q o⟩
theorem t_La_budget (hn0 : big n0) (S : mS) (x1 : Int32) (hG : G F B S) : tot (f_La_budget n0 (hp S) 0 x1 66) (fun r S' => (okb x1 → r = 0 ∧ G F (x1, B.2) S' ∧ S'.2.2.2.2 0 = B.1.toInt64) ∧ (¬ okb x1 → r = 1 ∧ G F B S')) := by
  unfold f_La_budget
  refine mis_t (hp_0 _) ?_
  obtain ⟨r, S', e, z1, z2⟩ := t_SF_budget (n0 := n0) S x1 hG
  rw [e]
  by_cases o : okb x1
  · obtain ⟨rfl, hG'⟩ := z1 o
    exact mls_t (hp_66 _) (nt_in (by decide) (by decide)) (ha_66 _ _) (tot_end ⟨fun _ => ⟨rfl, G_L hG', lw_0⟩, fun q => absurd o q⟩)
  · obtain rfl := z2 o
    exact tot_end ⟨fun q => absurd q o, fun _ => ⟨rfl, hG⟩⟩
end mLaw
def Inv (S : mS) : Prop := ∃ f b : Int32, G (f, f) (b, b) S
