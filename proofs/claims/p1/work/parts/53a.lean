/-! ONE CALL ON A FRESH OBJECT: what the law's cases are worth there -/
theorem mac_go {α : Type} {h h' : mH} {ty : FieldType} {a b n0 n1 : Nat} {sp dp n : Int32} {f g : Nat → Int32} {F : mH → Option α} {r : Option α} (e1 : h[a]? = some (.inl (ty, (n0, .inl f)))) (e2 : h[b]? = some (.inl (ty, (n1, .inl g)))) (hc : ¬ sp < 0 ∧ ¬ dp < 0 ∧ ¬ n < 0 ∧ sp.toNatClampNeg + n.toNatClampNeg ≤ n0 ∧ dp.toNatClampNeg + n.toNatClampNeg ≤ n1 ∧ ∀ i, i < n.toNatClampNeg → fits ty (.int (f (sp.toNatClampNeg + i))) = true) (e : h.set b (.inl (ty, (n1, .inl (va_cpy f g sp.toNatClampNeg dp.toNatClampNeg n.toNatClampNeg)))) = h') (hF : F h' = r) : mac h ty a sp b dp n F = r := by
  unfold mac
  rw [e1, e2]
  refine mgd_go ⟨rfl, rfl, hc⟩ ?_
  rw [e]
  exact hF
theorem mls_go {α : Type} {h h' : mH} {a n : Nat} {j : Int32} {x : Int64} {f : Nat → Int64} {F : mH → Option α} {r : Option α} (hi : h[a]? = some (.inl (.long, (n, .inr (.inl f))))) (hj : vp_in j n) (e : h.set a (.inl (.long, (n, .inr (.inl (vp_updL f j.toNatClampNeg x))))) = h') (hF : F h' = r) : mls h a j x F = r := by
  rw [mls_ev hi hj, e]
  exact hF
theorem mal_go {α : Type} {h : mH} {a n : Nat} {j : Int32} {w : Int64} {f : Nat → Int64} {F : Int64 → Option α} {r : Option α} (hi : h[a]? = some (.inl (.long, (n, .inr (.inl f))))) (hj : vp_in j n) (hv : f j.toNatClampNeg = w) (hF : F w = r) : mal h a j F = r := by
  rw [mal_ev hi hj, hv]
  exact hF
theorem pi_0 {n0 : Nat} {h : mH} {x lo hi : Int32} (hq : x < lo ∨ hi < x) : f_Mo_isIn n0 h x lo hi = some (0, h) := by
  unfold f_Mo_isIn
  by_cases h1 : x < lo
  · rw [if_pos h1]
  · rw [if_neg h1, if_pos (hq.resolve_left h1)]
theorem pi_1 {n0 : Nat} {h : mH} {x lo hi : Int32} (h1 : ¬ x < lo) (h2 : ¬ hi < x) : f_Mo_isIn n0 h x lo hi = some (1, h) := by
  unfold f_Mo_isIn
  rw [if_neg h1, if_neg h2]
