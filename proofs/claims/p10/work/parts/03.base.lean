/-! HEAPS BY NUMBERS. A cell's number is its place in the list; 'ad' tells where it lies. A method's own function (f_..) speaks of numbers alone; the rows here say that the machine does as the function says. -/
abbrev mE : Type := (FieldType × vp_A) ⊕ (Nat × List Value)
abbrev mH : Type := List mE
def mv (ad : Nat → Nat) : Value → Value
  | .ref i => .ref (ad i)
  | v => v
def mg (ad : Nat → Nat) (f : Nat → Option Nat) : Nat → Option Nat := fun k => (f k).map ad
def ma (ad : Nat → Nat) (a : vp_A) : vp_A := match a with
  | (n, .inl f) => (n, .inl f)
  | (n, .inr (.inl f)) => (n, .inr (.inl f))
  | (n, .inr (.inr (.inl f))) => (n, .inr (.inr (.inl f)))
  | (n, .inr (.inr (.inr (.inl f)))) => (n, .inr (.inr (.inr (.inl f))))
  | (n, .inr (.inr (.inr (.inr f)))) => (n, .inr (.inr (.inr (.inr (mg ad f)))))
def me (ad : Nat → Nat) (kA : FieldType → ClassId) (q : mE) : va_E := match q with
  | .inl (ty, a) => .inl (kA ty, ma ad a)
  | .inr (ci, fs) => .inr (ci, fs.map (mv ad))
def mW (ad : Nat → Nat) (kA : FieldType → ClassId) (h : mH) : va_W := h.mapIdx (fun i q => (ad i, me ad kA q))
theorem mW_get {ad : Nat → Nat} {kA : FieldType → ClassId} {h : mH} {i : Nat} {q : mE} (hi : h[i]? = some q) : (mW ad kA h)[i]? = some (ad i, me ad kA q) := by
  simp [mW, List.getElem?_mapIdx, hi]
theorem mW_set {ad : Nat → Nat} {kA : FieldType → ClassId} {h : mH} {i : Nat} {q : mE} : (mW ad kA h).set i (ad i, me ad kA q) = mW ad kA (h.set i q) := by
  apply List.ext_getElem?
  intro j
  simp only [mW, List.getElem?_mapIdx, List.getElem?_set, List.length_mapIdx]
  by_cases hij : i = j
  · subst hij
    by_cases hl : i < h.length
    · simp [hl]
    · simp [hl]
  · simp [hij]
theorem mv_cat (ad : Nat → Nat) (v : Value) : (mv ad v).category = v.category := by cases v <;> rfl
def ml (ad : Nat → Nat) (lv : List (Nat × Value)) : List (Nat × Value) := lv.map (fun q => (q.1, mv ad q.2))
theorem ml_get {ad : Nat → Nat} {lv : List (Nat × Value)} {k i : Nat} {v : Value} (h : lv[k]? = some (i, v)) : (ml ad lv)[k]? = some (i, mv ad v) := by
  simp [ml, h]
theorem ml_st1 {ad : Nat → Nat} {lv lv' : List (Nat × Value)} {i : Nat} {v : Value} (h : (i, v) :: lv.filter (fun q => !(q.1 == i) && !(q.1 + 1 == i && q.2.category == 2)) = lv') : (i, mv ad v) :: (ml ad lv).filter (fun q => !(q.1 == i) && !(q.1 + 1 == i && q.2.category == 2)) = ml ad lv' := by
  subst h
  simp only [ml, List.map_cons, List.filter_map]
  congr 2
  apply List.filter_congr
  intro q _
  simp [mv_cat]
theorem ml_st2 {ad : Nat → Nat} {lv lv' : List (Nat × Value)} {i : Nat} {v : Value} (h : (i, v) :: lv.filter (fun q => !(q.1 == i) && (!(q.1 == i + 1) && !(q.1 + 1 == i && q.2.category == 2))) = lv') : (i, mv ad v) :: (ml ad lv).filter (fun q => !(q.1 == i) && (!(q.1 == i + 1) && !(q.1 + 1 == i && q.2.category == 2))) = ml ad lv' := by
  subst h
  simp only [ml, List.map_cons, List.filter_map]
  congr 2
  apply List.filter_congr
  intro q _
  simp [mv_cat]
theorem ml_pick {ad : Nat → Nat} {lv lv' : List (Nat × Value)} {ks : List Nat} (h : lv_pick lv ks = lv') : lv_pick (ml ad lv) ks = ml ad lv' := by
  subst h
  simp only [lv_pick, ml, List.map_filterMap, List.getElem?_map]
/-! THE WORDS of the methods' functions: each reads or writes the cells, and is none where the machine would not go on so -/
def mgi {α : Type} (h : mH) (i ci k : Nat) (F : Int32 → Option α) : Option α := match h[i]? with
  | some (.inr (c, fs)) => if c = ci then (match fs[k]? with | some (.int v) => F v | _ => none) else none
  | _ => none
def mgl {α : Type} (h : mH) (i ci k : Nat) (F : Int64 → Option α) : Option α := match h[i]? with
  | some (.inr (c, fs)) => if c = ci then (match fs[k]? with | some (.long v) => F v | _ => none) else none
  | _ => none
def mgr {α : Type} (h : mH) (i ci k : Nat) (F : Nat → Option α) : Option α := match h[i]? with
  | some (.inr (c, fs)) => if c = ci then (match fs[k]? with | some (.ref v) => F v | _ => none) else none
  | _ => none
def mpt {α : Type} (h : mH) (i ci k : Nat) (v : Value) (F : mH → Option α) : Option α := match h[i]? with
  | some (.inr (c, fs)) => if c = ci ∧ k < fs.length then F (h.set i (.inr (ci, fs.set k v))) else none
  | _ => none
def mai {α : Type} (h : mH) (a : Nat) (ty : FieldType) (j : Int32) (F : Int32 → Option α) : Option α := match h[a]? with
  | some (.inl (t, (n, .inl f))) => if t = ty ∧ ¬ (j < 0 ∨ n ≤ j.toNatClampNeg) then F (f j.toNatClampNeg) else none
  | _ => none
def mas {α : Type} (h : mH) (a : Nat) (ty : FieldType) (j x : Int32) (F : mH → Option α) : Option α := match h[a]? with
  | some (.inl (t, (n, .inl f))) => if t = ty ∧ ¬ (j < 0 ∨ n ≤ j.toNatClampNeg) then F (h.set a (.inl (ty, (n, .inl (upd f j.toNatClampNeg x))))) else none
  | _ => none
def mar {α : Type} (h : mH) (a : Nat) (ty : FieldType) (j : Int32) (F : Nat → Option α) : Option α := match h[a]? with
  | some (.inl (t, (n, .inr (.inr (.inr (.inr f)))))) => if t = ty ∧ ¬ (j < 0 ∨ n ≤ j.toNatClampNeg) then (match f j.toNatClampNeg with | some r => F r | none => none) else none
  | _ => none
def mln {α : Type} (h : mH) (a : Nat) (ty : FieldType) (F : Int32 → Option α) : Option α := match h[a]? with
  | some (.inl (t, x)) => if t = ty then F (nI x.1) else none
  | _ => none
def mcl {α β : Type} (x : Option (α × mH)) (F : α → mH → Option β) : Option β := match x with
  | some (r, h) => F r h
  | none => none
def mis {α : Type} (h : mH) (i ci : Nat) (F : Option α) : Option α := match h[i]? with
  | some (.inr (c, _)) => if c = ci then F else none
  | _ => none
def mge {α : Type} (P : Prop) [Decidable P] (F : Option α) : Option α := if P then F else none
noncomputable def mgd {α : Type} (P : Prop) (F : Option α) : Option α := @ite _ P (Classical.propDecidable P) F none
def msl {α : Type} (f : Nat → Int32) (n : Nat) (j : Int32) (F : Int32 → Option α) : Option α := if ¬ (j < 0 ∨ n ≤ j.toNatClampNeg) then F (f j.toNatClampNeg) else none
def mnm {α β : Type} (x : β) (F : β → Option α) : Option α := F x
section mWords
variable {α β : Type} {h : mH} {i ci k a : Nat} {ty : FieldType} {j x : Int32} {r : α}
theorem mgi_some {F : Int32 → Option α} (hh : mgi h i ci k F = some r) : ∃ (fs : List Value) (v : Int32), h[i]? = some (.inr (ci, fs)) ∧ fs[k]? = some (.int v) ∧ F v = some r := by
  unfold mgi at hh
  split at hh
  · rename_i c fs e
    split at hh
    · rename_i hc
      subst hc
      split at hh
      · rename_i v hv
        exact ⟨fs, v, e, hv, hh⟩
      · cases hh
    · cases hh
  · cases hh
theorem mgl_some {F : Int64 → Option α} (hh : mgl h i ci k F = some r) : ∃ (fs : List Value) (v : Int64), h[i]? = some (.inr (ci, fs)) ∧ fs[k]? = some (.long v) ∧ F v = some r := by
  unfold mgl at hh
  split at hh
  · rename_i c fs e
    split at hh
    · rename_i hc
      subst hc
      split at hh
      · rename_i v hv
        exact ⟨fs, v, e, hv, hh⟩
      · cases hh
    · cases hh
  · cases hh
theorem mgr_some {F : Nat → Option α} (hh : mgr h i ci k F = some r) : ∃ (fs : List Value) (v : Nat), h[i]? = some (.inr (ci, fs)) ∧ fs[k]? = some (.ref v) ∧ F v = some r := by
  unfold mgr at hh
  split at hh
  · rename_i c fs e
    split at hh
    · rename_i hc
      subst hc
      split at hh
      · rename_i v hv
        exact ⟨fs, v, e, hv, hh⟩
      · cases hh
    · cases hh
  · cases hh
theorem mpt_some {v : Value} {F : mH → Option α} (hh : mpt h i ci k v F = some r) : ∃ (fs : List Value) (h' : mH), h[i]? = some (.inr (ci, fs)) ∧ k < fs.length ∧ h' = h.set i (.inr (ci, fs.set k v)) ∧ F h' = some r := by
  unfold mpt at hh
  split at hh
  · rename_i c fs e
    split at hh
    · rename_i hc
      obtain ⟨rfl, hk⟩ := hc
      exact ⟨fs, _, e, hk, rfl, hh⟩
    · cases hh
  · cases hh
theorem mai_some {F : Int32 → Option α} (hh : mai h a ty j F = some r) : ∃ (n : Nat) (f : Nat → Int32) (v : Int32), h[a]? = some (.inl (ty, (n, .inl f))) ∧ vp_in j n ∧ f j.toNatClampNeg = v ∧ F v = some r := by
  unfold mai at hh
  split at hh
  · rename_i t n f e
    split at hh
    · rename_i hc
      obtain ⟨rfl, hk⟩ := hc
      exact ⟨n, f, _, e, hk, rfl, hh⟩
    · cases hh
  · cases hh
theorem mas_some {F : mH → Option α} (hh : mas h a ty j x F = some r) : ∃ (n : Nat) (f : Nat → Int32) (h' : mH), h[a]? = some (.inl (ty, (n, .inl f))) ∧ vp_in j n ∧ h' = h.set a (.inl (ty, (n, .inl (upd f j.toNatClampNeg x)))) ∧ F h' = some r := by
  unfold mas at hh
  split at hh
  · rename_i t n f e
    split at hh
    · rename_i hc
      obtain ⟨rfl, hk⟩ := hc
      exact ⟨n, f, _, e, hk, rfl, hh⟩
    · cases hh
  · cases hh
theorem mar_some {F : Nat → Option α} (hh : mar h a ty j F = some r) : ∃ (n : Nat) (f : Nat → Option Nat) (v : Nat), h[a]? = some (.inl (ty, (n, .inr (.inr (.inr (.inr f)))))) ∧ vp_in j n ∧ f j.toNatClampNeg = some v ∧ F v = some r := by
  unfold mar at hh
  split at hh
  · rename_i t n f e
    split at hh
    · rename_i hc
      obtain ⟨rfl, hk⟩ := hc
      split at hh
      · rename_i v hv
        exact ⟨n, f, v, e, hk, hv, hh⟩
      · cases hh
    · cases hh
  · cases hh
theorem mln_some {F : Int32 → Option α} (hh : mln h a ty F = some r) : ∃ (x : vp_A) (v : Int32), h[a]? = some (.inl (ty, x)) ∧ nI x.1 = v ∧ F v = some r := by
  unfold mln at hh
  split at hh
  · rename_i t x e
    split at hh
    · rename_i hc
      subst hc
      exact ⟨x, _, e, rfl, hh⟩
    · cases hh
  · cases hh
theorem mcl_some {x : Option (β × mH)} {F : β → mH → Option α} (hh : mcl x F = some r) : ∃ (b : β) (h' : mH), x = some (b, h') ∧ F b h' = some r := by
  unfold mcl at hh
  split at hh
  · exact ⟨_, _, rfl, hh⟩
  · cases hh
theorem mis_some {F : Option α} (hh : mis h i ci F = some r) : ∃ fs : List Value, h[i]? = some (.inr (ci, fs)) ∧ F = some r := by
  unfold mis at hh
  split at hh
  · rename_i c fs e
    split at hh
    · rename_i hc
      subst hc
      exact ⟨fs, e, hh⟩
    · cases hh
  · cases hh
theorem mge_some {P : Prop} [Decidable P] {F : Option α} (hh : mge P F = some r) : P ∧ F = some r := by
  unfold mge at hh
  split at hh
  · rename_i hp
    exact ⟨hp, hh⟩
  · cases hh
theorem mgd_some {P : Prop} {F : Option α} (hh : mgd P F = some r) : P ∧ F = some r := by
  unfold mgd at hh
  split at hh
  · rename_i hp
    exact ⟨hp, hh⟩
  · cases hh
theorem msl_some {f : Nat → Int32} {n : Nat} {F : Int32 → Option α} (hh : msl f n j F = some r) : ∃ v : Int32, vp_in j n ∧ f j.toNatClampNeg = v ∧ F v = some r := by
  unfold msl at hh
  split at hh
  · rename_i hp
    exact ⟨_, hp, rfl, hh⟩
  · cases hh
theorem mnm_some {x : β} {F : β → Option α} (hh : mnm x F = some r) : ∃ y : β, y = x ∧ F y = some r := ⟨x, rfl, hh⟩
end mWords
/-! what the words come to, where the cells are known -/
section mEv
variable {α β : Type} {h : mH} {i ci k a b : Nat} {ty : FieldType} {j x : Int32} {fs : List Value}
theorem mgi_ev {F : Int32 → Option α} {v : Int32} (hi : h[i]? = some (.inr (ci, fs))) (hk : fs[k]? = some (.int v)) : mgi h i ci k F = F v := by simp [mgi, hi, hk]
theorem mgl_ev {F : Int64 → Option α} {v : Int64} (hi : h[i]? = some (.inr (ci, fs))) (hk : fs[k]? = some (.long v)) : mgl h i ci k F = F v := by simp [mgl, hi, hk]
theorem mgr_ev {F : Nat → Option α} {v : Nat} (hi : h[i]? = some (.inr (ci, fs))) (hk : fs[k]? = some (.ref v)) : mgr h i ci k F = F v := by simp [mgr, hi, hk]
theorem mpt_ev {F : mH → Option α} {v : Value} (hi : h[i]? = some (.inr (ci, fs))) (hk : k < fs.length) : mpt h i ci k v F = F (h.set i (.inr (ci, fs.set k v))) := by simp [mpt, hi, hk]
theorem mai_ev {F : Int32 → Option α} {n : Nat} {f : Nat → Int32} (hi : h[a]? = some (.inl (ty, (n, .inl f)))) (hj : vp_in j n) : mai h a ty j F = F (f j.toNatClampNeg) := by
  have hj' : ¬ (j < 0 ∨ n ≤ j.toNatClampNeg) := hj
  simp only [mai, hi, true_and, hj', not_false_eq_true, if_true]
theorem mas_ev {F : mH → Option α} {n : Nat} {f : Nat → Int32} (hi : h[a]? = some (.inl (ty, (n, .inl f)))) (hj : vp_in j n) : mas h a ty j x F = F (h.set a (.inl (ty, (n, .inl (upd f j.toNatClampNeg x))))) := by
  have hj' : ¬ (j < 0 ∨ n ≤ j.toNatClampNeg) := hj
  simp only [mas, hi, true_and, hj', not_false_eq_true, if_true]
theorem mar_ev {F : Nat → Option α} {n r : Nat} {f : Nat → Option Nat} (hi : h[a]? = some (.inl (ty, (n, .inr (.inr (.inr (.inr f))))))) (hj : vp_in j n) (hr : f j.toNatClampNeg = some r) : mar h a ty j F = F r := by
  have hj' : ¬ (j < 0 ∨ n ≤ j.toNatClampNeg) := hj
  simp only [mar, hi, true_and, hj', not_false_eq_true, if_true, hr]
theorem mln_ev {F : Int32 → Option α} {x : vp_A} (hi : h[a]? = some (.inl (ty, x))) : mln h a ty F = F (nI x.1) := by simp [mln, hi]
theorem mcl_ev {x : Option (β × mH)} {F : β → mH → Option α} {r : β} {h' : mH} (hx : x = some (r, h')) : mcl x F = F r h' := by simp [mcl, hx]
theorem mis_ev {F : Option α} (hi : h[i]? = some (.inr (ci, fs))) : mis h i ci F = F := by simp [mis, hi]
theorem mge_ev {P : Prop} [Decidable P] {F : Option α} (hp : P) : mge P F = F := by simp [mge, hp]
theorem mgd_ev {P : Prop} {F : Option α} (hp : P) : mgd P F = F := by simp [mgd, hp]
theorem msl_ev {f : Nat → Int32} {n : Nat} {F : Int32 → Option α} (hj : vp_in j n) : msl f n j F = F (f j.toNatClampNeg) := by
  have hj' : ¬ (j < 0 ∨ n ≤ j.toNatClampNeg) := hj
  simp only [msl, hj', not_false_eq_true, if_true]
theorem mnm_ev {x : β} {F : β → Option α} : mnm x F = F x := rfl
end mEv
