/-! NEW CELLS: the next number is the list's length -/
def mRl (n : Nat) (v : Value) : Prop := match v with
  | .ref i => i < n ∨ 10000 ≤ i
  | _ => True
def mEl (n : Nat) (q : mE) : Prop := match q with
  | .inl (_, (_, .inr (.inr (.inr (.inr f))))) => ∀ (k i : Nat), f k = some i → i < n ∨ 10000 ≤ i
  | .inl _ => True
  | .inr (_, fs) => ∀ v ∈ fs, mRl n v
def mWf (h : mH) : Prop := ∀ q ∈ h, mEl h.length q
def mAg (n : Nat) (ad ad' : Nat → Nat) : Prop := ∀ i, (i < n ∨ 10000 ≤ i) → ad' i = ad i
theorem mAg.rf {n : Nat} {ad : Nat → Nat} : mAg n ad ad := fun _ _ => rfl
theorem mAg.tr {n k : Nat} {ad ad' ad'' : Nat → Nat} (h1 : mAg n ad ad') (h2 : mAg k ad' ad'') (hk : n ≤ k) : mAg n ad ad'' := fun i hi => (h2 i (hi.elim (fun q => Or.inl (Nat.lt_of_lt_of_le q hk)) Or.inr)).trans (h1 i hi)
theorem mAg.up {n q : Nat} {ad : Nat → Nat} (hn : n < 10000) : mAg n ad (va_up ad n q) := fun i hi => by
  have : i ≠ n := by omega
  simp [va_up, this]
theorem mRl.le {n k : Nat} {v : Value} (h : mRl n v) (hk : n ≤ k) : mRl k v := by
  cases v <;> first | trivial | exact h.elim (fun q => Or.inl (Nat.lt_of_lt_of_le q hk)) Or.inr
theorem mEl.le {n k : Nat} {q : mE} (h : mEl n q) (hk : n ≤ k) : mEl k q := by
  obtain ⟨ty, m, f | f | f | f | f⟩ | ⟨ci, fs⟩ := q
  · trivial
  · trivial
  · trivial
  · trivial
  · exact fun j i hj => (h j i hj).elim (fun q => Or.inl (Nat.lt_of_lt_of_le q hk)) Or.inr
  · exact fun v hv => (h v hv).le hk
theorem mv_ag {n : Nat} {ad ad' : Nat → Nat} (hag : mAg n ad ad') {v : Value} (hv : mRl n v) : mv ad' v = mv ad v := by
  cases v <;> first | rfl | exact congrArg Value.ref (hag _ hv)
theorem me_ag {n : Nat} {ad ad' : Nat → Nat} {kA : FieldType → ClassId} (hag : mAg n ad ad') {q : mE} (hq : mEl n q) : me ad' kA q = me ad kA q := by
  obtain ⟨ty, m, f | f | f | f | f⟩ | ⟨ci, fs⟩ := q
  · rfl
  · rfl
  · rfl
  · rfl
  · have : mg ad' f = mg ad f := by
      funext k
      unfold mg
      cases hk : f k with
      | none => rfl
      | some i => exact congrArg some (hag i (hq k i hk))
    show Sum.inl (kA ty, (m, _)) = Sum.inl (kA ty, (m, _))
    rw [this]
  · show Sum.inr (ci, fs.map (mv ad')) = Sum.inr (ci, fs.map (mv ad))
    rw [List.map_congr_left (fun v hv => mv_ag hag (hq v hv))]
theorem mW_ag {ad ad' : Nat → Nat} {kA : FieldType → ClassId} {h : mH} (hag : mAg h.length ad ad') (hw : mWf h) : mW ad' kA h = mW ad kA h := by
  apply List.ext_getElem?
  intro j
  simp only [mW, List.getElem?_mapIdx]
  cases hj : h[j]? with
  | none => rfl
  | some q =>
    have hl : j < h.length := (List.getElem?_eq_some_iff.mp hj).1
    simp only [Option.map_some]
    rw [hag j (Or.inl hl), me_ag hag (hw q (List.mem_of_getElem? hj))]
theorem mW_app {ad : Nat → Nat} {kA : FieldType → ClassId} {h : mH} {q : mE} : mW ad kA (h ++ [q]) = mW ad kA h ++ [(ad h.length, me ad kA q)] := by
  simp [mW, List.mapIdx_append]
theorem ml_ag {n : Nat} {ad ad' : Nat → Nat} (hag : mAg n ad ad') {lv : List (Nat × Value)} (h : ∀ q ∈ lv, mRl n q.2) : ml ad' lv = ml ad lv := by
  unfold ml
  exact List.map_congr_left (fun q hq => by rw [mv_ag hag (h q hq)])
theorem ms_ag {n : Nat} {ad ad' : Nat → Nat} (hag : mAg n ad ad') {st : List Value} (h : ∀ v ∈ st, mRl n v) : st.map (mv ad') = st.map (mv ad) := List.map_congr_left (fun v hv => mv_ag hag (h v hv))
theorem mT_ag {n : Nat} {ad ad' : Nat → Nat} (hag : mAg n ad ad') {A : Nat → Prop} {U : State} {H : Heap} (h : mT ad A U H) : mT ad' A U H := by
  intro k q hq
  rw [hag (10000 + k) (Or.inr (Nat.le_add_right _ _))]
  exact h k q hq
theorem mO_ag {n : Nat} {ad ad' : Nat → Nat} (hag : mAg n ad ad') {X : mX} {own : String} {cc : ByteArray} {N : Nat} {Rm : Room} {ln : Launch} (O : mO X ad own cc N Rm ln) : mO X ad' own cc N Rm ln := by
  obtain ⟨p, l, e, R, s, m, args, below, meth, c, Q, A, D, kA, nL⟩ := X
  exact ⟨O.1, O.2.1, O.2.2.1, mT_ag hag O.2.2.2.1, O.2.2.2.2⟩
theorem mWf_app {h : mH} {q : mE} (hw : mWf h) (hq : mEl (h.length + 1) q) : mWf (h ++ [q]) := by
  intro z hz
  rw [List.length_append]
  rcases List.mem_append.mp hz with h1 | h1
  · exact (hw z h1).le (Nat.le_add_right _ _)
  · rw [List.mem_singleton.mp h1]; exact hq
theorem mWf_set {h : mH} {i : Nat} {q : mE} (hw : mWf h) (hq : mEl h.length q) : mWf (h.set i q) := by
  intro z hz
  rw [List.length_set]
  rcases List.mem_or_eq_of_mem_set hz with h1 | h1
  · exact hw z h1
  · rw [h1]; exact hq
def mRls (n : Nat) : List Value → Prop
  | [] => True
  | v :: vs => mRl n v ∧ mRls n vs
theorem mRls.all {n : Nat} : ∀ {vs : List Value}, mRls n vs → ∀ v ∈ vs, mRl n v
  | [], _, v, hv => by cases hv
  | a :: vs, h, v, hv => by
    rcases List.mem_cons.mp hv with e | e
    · rw [e]; exact h.1
    · exact mRls.all h.2 v e
/-- what a making asks of the cells, the locals and the stack -/
def mOkA (h0 h : mH) (vs ws : List Value) : Prop := mWf h ∧ h0.length ≤ h.length ∧ h.length < 10000 ∧ mRls h.length vs ∧ mRls h.length ws
theorem mOkA.lv {h0 h : mH} {lv : List (Nat × Value)} {ws : List Value} (hk : mOkA h0 h (lv.map Prod.snd) ws) : ∀ q ∈ lv, mRl h.length q.2 := fun q hq => hk.2.2.2.1.all q.2 (List.mem_map.mpr ⟨q, hq, rfl⟩)
def mNr (fs : List Value) : Bool := fs.all (fun v => match v with | .ref _ => false | _ => true)
theorem mNr_map {fs : List Value} (h : mNr fs = true) (ad : Nat → Nat) : fs.map (mv ad) = fs := by
  have h1 : ∀ v ∈ fs, mv ad v = id v := fun v hv => by
    have h2 := List.all_eq_true.mp h v hv
    cases v <;> first | rfl | (exact absurd h2 (by decide)) | (simp at h2)
  rw [List.map_congr_left h1, List.map_id]
def mRx (f mc ms c : Nat) : Room := { frames := f, cells := mc, slots := ms, locals := c }
def mPostx (A : Nat → Prop) (D : va_G) (kA : FieldType → ClassId) (ad : Nat → Nat) (n : Nat) (h : mH) : Array Value → State → Outcome → State → Prop := fun _ st oc t => oc = .returned none ∧ mWf h ∧ ∃ ad' : Nat → Nat, mAg n ad ad' ∧ va_P D classes (mW ad' kA h) t.heap ∧ va_D A (mW ad' kA h) ∧ va_F A st t
/-- THE CONTRACT of a constructor: mc cells of ms slots come -/
def mMetx (l : Launch) (y : MethodName) (bytes : ByteArray) (maxL : Nat) (rm : Room) (As : List Value) (h h' : mH) (mc ms : Nat) : Prop := ∀ (D : va_G) (kA : FieldType → ClassId) (ad : Nat → Nat) (sz : Nat), Met l y (Cond.code y bytes maxL none :: mGood) rm (mPre D kA ad As h sz) (mPostx (va_A (mW ad kA h) sz) D kA ad h.length h') mc ms (va_A (mW ad kA h) sz)
def mEndx (X : mX) (ad : Nat → Nat) (n : Nat) (h : mH) (mc ms : Nat) : Prop := match X with
  | (_, _, _, _, s, _, args, below, meth, _, Q, A, D, kA, _) => Q = MQ below (mPostx A D kA ad n h) args s mc ms A ∧ meth.sig.returnType = none ∧ meth.name = "<init>"
theorem mMetx_of {ln : Launch} {y : MethodName} {bytes : ByteArray} {maxL : Nat} {rm : Room} {As : List Value} {h h' : mH} {mc ms : Nat} (hy : plainName y.cls = true) (hyn : y.name = "<init>") (hlen : (lg_sl As).length ≤ maxL)
    (body : ∀ (X : mX) (ad : Nat → Nat), mO X ad y.cls bytes maxL rm ln → mEndx X ad h.length h' mc ms → mAW X ad 0 0 0 (lv_args 0 As) [] h) : mMetx ln y bytes maxL rm As h h' mc ms := by
  intro D kA ad sz
  refine Met.ofW (cc := bytes) (maxL := maxL) (ret := none) hy rfl ?_
  intro p e s m args below meth c s₁ B hml hv
  obtain ⟨hargs, hsz, hP, hK, hT, hD0⟩ := hv
  subst hsz
  subst hargs
  have hD := hD0.self (sz := s.heap.size)
  have hts := atoms_spec (ws := Cond.code y bytes maxL none :: mGood) B.pre
  have hown : s.vm.findClass y.cls = some m.cls := findClass_of_methodNamed B.named
  have hl := lv_entry (As.map (mv ad)) (n := maxL) (by rw [lg_len]; exact hlen)
  have hb := body (p, ln, e, rm, s, m, (As.map (mv ad)).toArray, below, meth, c, MQ below (mPostx (va_A (mW ad kA h) s.heap.size) D kA ad h.length h') (As.map (mv ad)).toArray s mc ms (va_A (mW ad kA h) s.heap.size), va_A (mW ad kA h) s.heap.size, D, kA, maxL) ad ⟨⟨B.exec, B.bytes, hml, hown, B.notSynchronized, rfl, rfl, rfl⟩, fun w hw => hts w (List.mem_cons_of_mem _ hw), hK, hT, fun q hq => Or.inr hq⟩ ⟨rfl, B.returns, (name_of_methodNamed B.named B.method).1.trans hyn⟩
  rw [lg_entry_eq]
  exact hb s.heap [] _ hP hD va_S.rf (by rw [ml_args]; exact hl)
def mNc (own : String) (ix ci : Nat) (fs : List Value) : Prop := ∃ (C : String) (T : u_T) (ty0 : Nat → FieldType), classes[ci]? = some (C, T, fs.length) ∧ (∀ w ∈ u_ws C T fs.length, w ∈ mGood) ∧ (∀ k, k < fs.length → parseFieldDescriptor (T k).2.2.1 = some (ty0 k)) ∧ Cond.classLink own ix C ∈ mGood ∧ Cond.instantiable C fs.length ∈ mGood ∧ Cond.initialized C ∈ mGood ∧ (∀ j, j < fs.length → defaultValue (ty0 j) = vp_V fs j) ∧ mNr fs = true
def mFq (own : String) (ix ci kf : Nat) (ty : FieldType) : Prop := ∃ (C : String) (T : u_T) (Nf : Nat) (ty0 : Nat → FieldType), classes[ci]? = some (C, T, Nf) ∧ kf < Nf ∧ (∀ w ∈ u_ws C T Nf, w ∈ mGood) ∧ Cond.fieldLink own ix (T kf).1 (T kf).2.1 (T kf).2.2.1 ∈ mGood ∧ (∀ k, k < Nf → parseFieldDescriptor (T k).2.2.1 = some (ty0 k)) ∧ (∀ a, a < Nf → ∀ b, b < Nf → a ≠ b → (T a).2.1 ≠ (T b).2.1) ∧ (T kf).2.2.2 = true ∧ ty0 kf = ty ∧ (T kf).1 = own
theorem mRA_inj {s : State} {c1 c2 : ClassId} {ty : FieldType} (h1 : va_RA s c1 ty) (h2 : va_RA s c2 ty) : c1 = c2 := by
  cases ty with
  | object C =>
    obtain ⟨_, _, _, _, _, e1⟩ := h1
    obtain ⟨_, _, _, _, _, e2⟩ := h2
    exact Option.some.inj (e1.symm.trans e2)
  | _ => exact Option.some.inj (Eq.trans (Eq.symm h1) h2)
section mMake
variable {X : mX} {ad ad0 : Nat → Nat} {own : String} {cc : ByteArray} {N cs ss pc : Nat} {lv lv' : List (Nat × Value)} {st : List Value} {h h' h0 : mH} {Rm : Room} {ln : Launch} {ix : Nat}
theorem ax_new (O : mO X ad own cc N Rm ln) {r ci : Nat} {fs : List Value} (hC : mNc own ix ci fs) (hok : mOkA h0 h (lv.map Prod.snd) st) (er : r = h.length) (eh : h' = h ++ [.inr (ci, fs)]) (hrm : cs + 1 ≤ Rm.cells ∧ ss + fs.length ≤ Rm.slots) (d : decode cc pc = .ok (.new ix, 3)) (k : ∀ ad', mAg h.length ad ad' → mAW X ad' (cs + 1) (ss + fs.length) (pc + 3) lv (.ref r :: st) h') : mAW X ad cs ss pc lv st h := by
  obtain ⟨p, l, e, R, s, m, args, below, meth, c, Q, A, D, kA, nL⟩ := X
  obtain ⟨⟨hx, hb, hml, hown, hlk0, rfl, rfl, rfl⟩, hts, hK, hT, hA⟩ := O
  obtain ⟨C, T, ty0, hc, hin, hty, w1, w2, w3, hfs, hnr⟩ := hC
  subst er
  subst eh
  intro H locs ls hP hD hS hl
  refine va_new (ci := ci) (fs := fs) hx hb hts hin ty0 hty hown (hts _ w1) (hts _ w2) (hts _ w3) (mK0 hK) hP hD hS hA hc hfs hrm.1 hrm.2 d (fun q H1 hP1 hD1 hS1 => ?_)
  have hag : mAg h.length ad (va_up ad h.length q) := mAg.up hok.2.2.1
  have e1 : mW (va_up ad h.length q) kA (h ++ [.inr (ci, fs)]) = mW ad kA h ++ [(q, .inr (ci, fs))] := by
    rw [mW_app, mW_ag hag hok.1, va_up_self]
    show _ ++ [(q, Sum.inr (ci, fs.map (mv _)))] = _
    rw [mNr_map hnr]
  have hk := k _ hag H1 locs ls (by rw [e1]; exact hP1) (by rw [e1]; exact hD1) hS1 (by rw [ml_ag hag hok.lv]; exact hl)
  have e2 : (Value.ref h.length :: st).map (mv (va_up ad h.length q)) = .ref q :: st.map (mv ad) := by
    rw [List.map_cons, ms_ag hag hok.2.2.2.2.all]
    show Value.ref (va_up ad h.length q h.length) :: _ = _
    rw [va_up_self]
  rw [e2] at hk
  exact hk
theorem ax_newa (O : mO X ad own cc N Rm ln) {ty : FieldType} {atype : ArrayType} (hat : newarray.typeOf atype = ty) (hdf : defaultValue ty = .int 0) (hmt : ty ∈ mTys) (harr : Cond.arrayClass ty ∈ mGood) {n : Int32} {r : Nat} (hn : ¬ n < 0) (hby : n.toNatClampNeg * componentBytes ty ≤ 536870912) (hok : mOkA h0 h (lv.map Prod.snd) st) (er : r = h.length) (eh : h' = h ++ [.inl (ty, (n.toNatClampNeg, .inl (fun _ => 0)))]) (hrm : cs + 1 ≤ Rm.cells ∧ ss + n.toNatClampNeg ≤ Rm.slots) (d : decode cc pc = .ok (.newarray atype, 2)) (k : ∀ ad', mAg h.length ad ad' → mAW X ad' (cs + 1) (ss + n.toNatClampNeg) (pc + 2) lv (.ref r :: st) h') : mAW X ad cs ss pc lv (.int n :: st) h := by
  obtain ⟨p, l, e, R, s, m, args, below, meth, c, Q, A, D, kA, nL⟩ := X
  obtain ⟨⟨hx, hb, hml, hown, hlk0, rfl, rfl, rfl⟩, hts, hK, hT, hA⟩ := O
  subst er
  subst eh
  intro H locs ls hP hD hS hl
  refine va_newa (a0 := (n.toNatClampNeg, .inl (fun _ => 0))) hx hb (by rw [hat]; exact hts _ harr) hat (mK0 hK) hP hD hS hA (fun cA => by rw [hdf]; rfl) hn rfl hby hrm.1 hrm.2 d (fun q cA H1 hK1 hP1 hD1 hS1 => ?_)
  have hcA : cA = kA ty := mRA_inj (hK1.2 0 (cA, ty) rfl).2 (hK.2.1 ty hmt).2
  subst hcA
  have hag : mAg h.length ad (va_up ad h.length q) := mAg.up hok.2.2.1
  have e1 : mW (va_up ad h.length q) kA (h ++ [.inl (ty, (n.toNatClampNeg, .inl (fun _ => 0)))]) = mW ad kA h ++ [(q, .inl (kA ty, (n.toNatClampNeg, .inl (fun _ => 0))))] := by
    rw [mW_app, mW_ag hag hok.1, va_up_self]
    rfl
  have hk := k _ hag H1 locs ls (by rw [e1]; exact hP1) (by rw [e1]; exact hD1) hS1 (by rw [ml_ag hag hok.lv]; exact hl)
  have e2 : (Value.ref h.length :: st).map (mv (va_up ad h.length q)) = .ref q :: st.map (mv ad) := by
    rw [List.map_cons, ms_ag hag hok.2.2.2.2.all]
    show Value.ref (va_up ad h.length q h.length) :: _ = _
    rw [va_up_self]
  rw [e2] at hk
  exact hk
theorem ax_newq (O : mO X ad own cc N Rm ln) {C : String} (hmt : .object C ∈ mTys) (hcl : Cond.classLink own ix C ∈ mGood) (hov : Cond.arrayOver (.object C) ∈ mNest) {n : Int32} {r : Nat} (hn : ¬ n < 0) (hby : n.toNatClampNeg * 4 ≤ 536870912) (hok : mOkA h0 h (lv.map Prod.snd) st) (er : r = h.length) (eh : h' = h ++ [.inl (.object C, (n.toNatClampNeg, .inr (.inr (.inr (.inr (fun _ => none))))))]) (hrm : cs + 1 ≤ Rm.cells ∧ ss + n.toNatClampNeg ≤ Rm.slots) (d : decode cc pc = .ok (.anewarray ix, 3)) (k : ∀ ad', mAg h.length ad ad' → mAW X ad' (cs + 1) (ss + n.toNatClampNeg) (pc + 3) lv (.ref r :: st) h') : mAW X ad cs ss pc lv (.int n :: st) h := by
  obtain ⟨p, l, e, R, s, m, args, below, meth, c, Q, A, D, kA, nL⟩ := X
  obtain ⟨⟨hx, hb, hml, hown, hlk0, rfl, rfl, rfl⟩, hts, hK, hT, hA⟩ := O
  subst er
  subst eh
  intro H locs ls hP hD hS hl
  refine va_newq hx hb hown (hts _ hcl) (hK.2.2 _ hov) (mK0 hK) hP hD hS hA hn rfl hby hrm.1 hrm.2 d (fun q cA H1 hK1 hP1 hD1 hS1 => ?_)
  have hcA : cA = kA (.object C) := mRA_inj (hK1.2 0 (cA, .object C) rfl).2 (hK.2.1 _ hmt).2
  subst hcA
  have hag : mAg h.length ad (va_up ad h.length q) := mAg.up hok.2.2.1
  have e1 : mW (va_up ad h.length q) kA (h ++ [.inl (.object C, (n.toNatClampNeg, .inr (.inr (.inr (.inr (fun _ => none))))))]) = mW ad kA h ++ [(q, .inl (kA (.object C), (n.toNatClampNeg, .inr (.inr (.inr (.inr (fun _ => none)))))))] := by
    rw [mW_app, mW_ag hag hok.1, va_up_self]
    rfl
  have hk := k _ hag H1 locs ls (by rw [e1]; exact hP1) (by rw [e1]; exact hD1) hS1 (by rw [ml_ag hag hok.lv]; exact hl)
  have e2 : (Value.ref h.length :: st).map (mv (va_up ad h.length q)) = .ref q :: st.map (mv ad) := by
    rw [List.map_cons, ms_ag hag hok.2.2.2.2.all]
    show Value.ref (va_up ad h.length q h.length) :: _ = _
    rw [va_up_self]
  rw [e2] at hk
  exact hk
theorem ax_putF (O : mO X ad own cc N Rm ln) {n mc ms : Nat} {hx' : mH} (hE : mEndx X ad0 n hx' mc ms) {ci kf i : Nat} {ty : FieldType} (hF : mFq own ix ci kf ty) {fs : List Value} {v : Value} (hi : h[i]? = some (.inr (ci, fs))) (hlen : kf < fs.length) (he : h' = h.set i (.inr (ci, fs.set kf v))) (hn : narrow ty (mv ad v) = mv ad v) (hfit : fits ty (mv ad v) = true) (d : decode cc pc = .ok (.putfield ix, 3)) (k : mAW X ad cs ss (pc + 3) lv st h') : mAW X ad cs ss pc lv (v :: .ref i :: st) h := by
  obtain ⟨p, l, e, R, s, m, args, below, meth, c, Q, A, D, kA, nL⟩ := X
  obtain ⟨C, T, Nf, ty0, hc, hk, hin, hw, hty, hnm, hfin, hty0, hown2⟩ := hF
  intro H locs ls hP hD hS hl
  have hK : va_K D classes [] s := mK0 O.2.2.1
  have hl' : kf < (fs.map (mv ad)).length := by simpa using hlen
  have hd : parseFieldDescriptor (T kf).2.2.1 = some ty := by rw [hty kf hk, hty0]
  have he' : (mW ad kA h).set i (ad i, .inr (ci, (fs.map (mv ad)).set kf (mv ad v))) = mW ad kA h' := mW_put he
  exact va_putF (v := mv ad v) O.1.1 O.1.2.1 O.2.1 hin ty0 hty hnm O.1.2.2.2.1 hK hP hD hS i (mW_get hi) hc kf hk (O.2.1 _ hw) (fun _ h => h) hfin hE.2.2 hown2 hd hn hfit hl' d (fun H1 locs1 hP1 hD1 hS1 => k H1 locs1 ls (he' ▸ hP1) (he' ▸ hD1) hS1 hl)
theorem ax_oinit (O : mO X ad own cc N Rm ln) (hw : Cond.methodLink own ix Lib.objectInit ∈ mGood) (hfr : 1 ≤ Rm.frames) (hlo : (st.map fun v => v.category).sum + 12 ≤ Rm.locals) {a : Nat} (d : decode cc pc = .ok (.invokespecial ix, 3)) (k : mAW X ad cs ss (pc + 3) lv st h) : mAW X ad cs ss pc lv (.ref a :: st) h := by
  obtain ⟨p, l, e, R, s, m, args, below, meth, c, Q, A, D, kA, nL⟩ := X
  obtain ⟨⟨hx, hb, hml, hown, hlk0, rfl, rfl, rfl⟩, hts, hK, hT, hA⟩ := O
  exact fun H locs ls hP hD hS hl => W.objInit hx hb hown (hts _ hw) (hts _ wobj_1) (hts _ wobj_2) rfl (hl.1.trans hml.symm) rfl d hfr (by show 2 * 0 + _ + 12 ≤ _; rw [mcats]; omega) (k H locs ls hP hD hS hl)
theorem ax_vretx (O : mO X ad own cc N Rm ln) {n mc ms : Nat} {r : Unit} (hE : mEndx X ad0 n h' mc ms) (hag : mAg n ad0 ad) (hw : mWf h) (hcs : cs ≤ mc ∧ ss ≤ ms) (hf : some ((), h) = some (r, h')) (d : decode cc pc = .ok (.return_, 1)) : mAW X ad cs ss pc lv [] h := by
  cases hf
  obtain ⟨p, l, e, R, s, m, args, below, meth, c, Q, A, D, kA, nL⟩ := X
  obtain ⟨hQ, hr, -⟩ := hE
  subst hQ
  exact fun H locs ls hP hD hS hl => W.widen hcs.1 hcs.2 (W.vret O.1.1 O.1.2.1 hr (fun t ht hW => ⟨rfl, hw, ad, hag, by rw [ht]; exact hP, hD, hS.F ht⟩) hS.2.2 d O.1.2.2.2.2.1)
theorem ax_aast (O : mO X ad own cc N Rm ln) {a nn rr ci : Nat} {q : vw_C} {f : Nat → Option Nat} {fs : List Value} {j : Int32} (hcl : classes[ci]? = some q) (hty : .object q.1 ∈ mTys) (hi : h[a]? = some (.inl (.object q.1, (nn, .inr (.inr (.inr (.inr f))))))) (hv : h[rr]? = some (.inr (ci, fs))) (hin : vp_in j nn) (he : h' = h.set a (.inl (.object q.1, (nn, .inr (.inr (.inr (.inr (va_up f j.toNatClampNeg (some rr)))))))) ) (d : decode cc pc = .ok (.aastore, 1)) (k : mAW X ad cs ss (pc + 1) lv st h') : mAW X ad cs ss pc lv (.ref rr :: .int j :: .ref a :: st) h := by
  obtain ⟨p, l, e, R, s, m, args, below, meth, c, Q, A, D, kA, nL⟩ := X
  have hm : mg ad (va_up f j.toNatClampNeg (some rr)) = va_up (mg ad f) j.toNatClampNeg (some (ad rr)) := by
    funext z
    unfold mg va_up
    by_cases hz : z = j.toNatClampNeg
    · simp [hz]
    · simp [hz]
  have he' : (mW ad kA h).set a (ad a, .inl (kA (.object q.1), (nn, .inr (.inr (.inr (.inr (va_up (mg ad f) j.toNatClampNeg (some (ad rr))))))))) = mW ad kA h' := by rw [he, ← mW_set, ← hm]; rfl
  exact fun H locs ls hP hD hS hl => va_astq O.1.1 O.1.2.1 (mKt O.2.2.1 hty) hP hD hS a 0 rr ci (mW_get hi) rfl (mW_get hv) hcl hin d (fun H1 locs1 hP1 hD1 hS1 => k H1 locs1 ls (he' ▸ hP1) (he' ▸ hD1) hS1 hl)
end mMake
section mCallI
variable {X : mX} {ad : Nat → Nat} {own : String} {cc : ByteArray} {N cs ss pc : Nat} {lv : List (Nat × Value)} {h h' h0 : mH} {Rm rm : Room} {ln : Launch} {ix n maxL mc ms b : Nat} {y : MethodName} {bytes : ByteArray} {As rest : List Value}
theorem mAfterx {p : Program} {l : Launch} {e : Env} {R : Room} {s : State} {m : MethodId} {args : Array Value} {below : List Frame} {meth : Method} {c : Code} {Q : State → Prop} {A : Nat → Prop} {D : va_G} {kA : FieldType → ClassId} {nL : Nat} {H : Heap} {locs : List Loc} {ls : Array Slot} {st0 : List Value} {a : Array Value}
    (run : va_Run p l e R s m args below meth c H locs cs ss mc ms (F0 m pc ls st0) (rest.map (mv ad)) (mPostx (va_A (mW ad kA h) H.size) D kA ad h.length h' a) (va_A (mW ad kA h) H.size)) (hF : ∀ q, va_A (mW ad kA h) H.size q → A q) (hS : va_S A s.heap H locs) (hl : lv_has ls nL (ml ad lv)) (hok : mOkA h0 h (lv.map Prod.snd) rest)
    (k : ∀ ad', mAg h.length ad ad' → mAW (p, l, e, R, s, m, args, below, meth, c, Q, A, D, kA, nL) ad' (cs + mc) (ss + ms) (pc + 3) lv rest h') : W p l e R s m args below meth c H locs cs ss Q (F0 m pc ls st0) := by
  intro T hT Xs
  obtain ⟨v', st₀, t, T', L, hh0, X', hL, e1, e2, ⟨hv, hwf, ad', hag, hP', hD', hz, hk⟩, st⟩ := run T hT Xs
  have hv' : v' = none := by injection hv
  subst hv'
  rw [hh0] at hz hk
  have hS' : va_S A s.heap T'.heap (locs ++ L) := ⟨Nat.le_trans hS.1 (by rw [e1]; exact hz), fun q h1 h2 => by rw [e1, hk q (Nat.lt_of_lt_of_le h1 hS.1) (fun z => h2 (hF q z))]; exact hS.2.1 q h1 h2, fun q hq => by
      rcases List.mem_append.mp hq with h | h
      · exact hS.2.2 q h
      · exact hF _ (hL q h)⟩
  obtain ⟨t2, a1, b1⟩ := k ad' hag T'.heap (locs ++ L) ls (by rw [e1]; exact hP') (hD'.weaken (fun _ _ _ hq => hF _ hq)) hS' (by rw [ml_ag hag hok.lv]; exact hl) T' rfl X'
  refine ⟨t2, st t2 ?_, b1⟩
  rw [ms_ag hag hok.2.2.2.2.all] at a1
  exact a1
theorem ax_callI (O : mO X ad own cc N Rm ln) (hC : mCw y bytes maxL none n) (hin : Cond.instanceMethod y ∈ mGood) (hyn : y.name = "<init>") (hlk : mLk own ix y) (hM : mMetx ln y bytes maxL rm (.ref b :: As) h h' mc ms) (hn : As.length = n) (hrm : rm.cells = mc ∧ rm.slots = ms) (hR : rm.frames + 1 ≤ Rm.frames ∧ 8 + (maxL + 11) + rm.locals ≤ Rm.locals) (hcs : cs + mc ≤ Rm.cells ∧ ss + ms ≤ Rm.slots) (hok : mOkA h0 h (lv.map Prod.snd) rest) (hrs : (rest.map fun v => v.category).sum ≤ 8) (d : decode cc pc = .ok (.invokespecial ix, 3)) (k : ∀ ad', mAg h.length ad ad' → mAW X ad' (cs + mc) (ss + ms) (pc + 3) lv rest h') : mAW X ad cs ss pc lv (As.reverse ++ .ref b :: rest) h := by
  obtain ⟨p, l, e, R, s, m, args, below, meth, c, Q, A, D, kA, nL⟩ := X
  obtain ⟨⟨hx, hb, hml, hown, hlk0, rfl, rfl, rfl⟩, hts, hK, hT, hA⟩ := O
  intro H locs ls hP hD hS hl
  obtain ⟨hc1, hc2, hc3, hc4⟩ := hC
  have hF := mFree hD hS hA
  have hstk : (As.reverse ++ .ref b :: rest).map (mv ad) = (As.map (mv ad)).reverse ++ .ref (ad b) :: rest.map (mv ad) := by simp [mv]
  have hcat : ((rest.map (mv ad)).map fun v => v.category).sum ≤ 8 := by rw [mcats]; exact hrs
  rw [hstk]
  rcases hlk with hlk | ⟨host, hlk⟩
  · exact mAfterx (va_runI (As := As.map (mv ad)) (rest := rest.map (mv ad)) ⟨hx, hb, hml, hown, hts⟩ (hM D kA ad H.size) ⟨callB_of n hts (mGoodIn y bytes maxL none hc1) rfl hrm.1 hrm.2 (hts _ hc2) (hts _ hlk) ⟨hc3.1, hc3.2, hc4⟩ hR, hyn, hts _ hin⟩ ⟨mPre_blind, fun U hU hW => mPreAt (As := .ref b :: As) hK hT hA hP hD hS U hU hW⟩ rfl (by rw [List.length_map]; exact hn) hl.1 rfl (lv_room hcat) d ⟨hcs.1, hcs.2⟩) hF hS hl hok k
  · exact mAfterx (va_runIN (As := As.map (mv ad)) (rest := rest.map (mv ad)) ⟨hx, hb, hml, hown, hts⟩ (hM D kA ad H.size) ⟨va_cnB n hts (mGoodIn y bytes maxL none hc1) rfl hrm.1 hrm.2 (hK.2.2 _ hlk) (hts _ hc2) ⟨hc3.1, hc3.2, hc4⟩ hR, hyn, hts _ hin⟩ ⟨mPre_blind, fun U hU hW => mPreAt (As := .ref b :: As) hK hT hA hP hD hS U hU hW⟩ rfl (by rw [List.length_map]; exact hn) hl.1 rfl (lv_room hcat) d ⟨hcs.1, hcs.2⟩) hF hS hl hok k
end mCallI
section mCallA
variable {X : mX} {ad : Nat → Nat} {own : String} {cc : ByteArray} {N cs ss pc : Nat} {lv : List (Nat × Value)} {h h' : mH} {Rm rm : Room} {ln : Launch} {ix n maxL : Nat} {x y : MethodName} {bytes : ByteArray} {ret : Option FieldType} {As rest : List Value} {v : Option Value}
/-- a call whose named method x is abstract: y is run -/
theorem ax_callA (O : mO X ad own cc N Rm ln) (hC : mCw y bytes maxL ret n) {ci b : Nat} {q : vw_C} {fs : List Value} (hcl : classes[ci]? = some q) (hin : Cond.instanceMethod y ∈ mGood) (hse : Cond.selects q.1 x y ∈ mGood) (hsm : Cond.sameMethod x.cls x.cls x.name x.desc ∈ mGood) (hlk : Cond.methodLink own ix x ∈ mGood) (hdc : Cond.declares x ∈ mNest) (hxd : x.cls ≠ "java/lang/invoke/MethodHandle" ∧ x.cls ≠ "java/lang/invoke/VarHandle" ∧ (parseMethodDescriptor x.desc).map (fun d => d.parameters.length) = some n) (hb' : h[b]? = some (.inr (ci, fs))) (hM : mMet ln y bytes maxL ret rm (.ref b :: As) h v h') (hn : As.length = n) (hrm : rm.cells = 0 ∧ rm.slots = 0) (hR : rm.frames + 1 ≤ Rm.frames ∧ 8 + (maxL + 11) + rm.locals ≤ Rm.locals) (hcs : cs ≤ Rm.cells ∧ ss ≤ Rm.slots) (hrs : (rest.map fun v => v.category).sum ≤ 8) (d : decode cc pc = .ok (.invokevirtual ix, 3)) (k : mAW X ad cs ss (pc + 3) lv (v.toList ++ rest) h') : mAW X ad cs ss pc lv (As.reverse ++ .ref b :: rest) h := by
  obtain ⟨p, l, e, R, s, m, args, below, meth, c, Q, A, D, kA, nL⟩ := X
  obtain ⟨⟨hx, hb, hml, hown, hlk0, rfl, rfl, rfl⟩, hts, hK, hT, hA⟩ := O
  intro H locs ls hP hD hS hl
  obtain ⟨hc1, hc2, hc3, hc4⟩ := hC
  have hF := mFree hD hS hA
  have hstk : (As.reverse ++ .ref b :: rest).map (mv ad) = (As.map (mv ad)).reverse ++ .ref (ad b) :: rest.map (mv ad) := by simp [mv]
  have hcat : ((rest.map (mv ad)).map fun v => v.category).sum ≤ 8 := by rw [mcats]; exact hrs
  rw [hstk]
  have hrecv := va_recv (mK0 hK) hP hcl (mW_get hb')
  have hlen : ∀ sig, parseMethodDescriptor x.desc = some sig → n = sig.parameters.length := by
    intro sig hs
    have h2 := hxd.2.2
    rw [hs] at h2
    exact (Option.some.inj h2).symm
  exact mAfter (va_runU (C := q.1) (owner := x.cls) (x := x) (bytes := bytes) (maxL := maxL) (ret := ret) (As := As.map (mv ad)) (rest := rest.map (mv ad)) ⟨hx, hb, hml, hown, hts⟩ (hM D kA ad H.size) ⟨⟨hrm.1, hrm.2, hR.1, hR.2, pay_in hts (mGoodIn y bytes maxL ret hc1), List.mem_cons_self⟩, hts _ hc1, hts _ hc2, ⟨hxd.1, hxd.2.1⟩, hlen, hts _ hlk, hts _ hsm, va_Decl.abs (hK.2.2 _ hdc), hts _ hse, hts _ hin⟩ ⟨mPre_blind, hrecv, fun U hU hW => mPreAt (As := .ref b :: As) hK hT hA hP hD hS U hU hW⟩ rfl (by rw [List.length_map]; exact hn) hl.1 rfl (lv_room hcat) d ⟨hcs.1, hcs.2⟩) hF hS hl k
end mCallA
def mic (h : mH) (i ci : Nat) : Bool := match h[i]? with
  | some (.inr (c, _)) => c == ci
  | _ => false
theorem mic_some {h : mH} {i ci : Nat} (hh : mic h i ci = true) : ∃ fs : List Value, h[i]? = some (.inr (ci, fs)) := by
  unfold mic at hh
  split at hh
  · rename_i c fs e
    have hc : c = ci := by simpa using hh
    subst hc
    exact ⟨fs, e⟩
  · cases hh
theorem ax_widen {X : mX} {ad : Nat → Nat} {cs ss cs' ss' pc : Nat} {lv : List (Nat × Value)} {st : List Value} {h : mH} (h1 : cs ≤ cs') (h2 : ss ≤ ss') (k : mAW X ad cs' ss' pc lv st h) : mAW X ad cs ss pc lv st h := by
  obtain ⟨p, l, e, R, s, m, args, below, meth, c, Q, A, D, kA, nL⟩ := X
  exact fun H locs ls hP hD hS hl => W.widen h1 h2 (k H locs ls hP hD hS hl)
def mrs {α : Type} (h : mH) (a : Nat) (C : String) (j : Int32) (r ci : Nat) (F : mH → Option α) : Option α := match h[a]?, h[r]? with
  | some (.inl (t, (n, .inr (.inr (.inr (.inr f)))))), some (.inr (c, _)) => if t = .object C ∧ c = ci ∧ ¬ (j < 0 ∨ n ≤ j.toNatClampNeg) then F (h.set a (.inl (.object C, (n, .inr (.inr (.inr (.inr (va_up f j.toNatClampNeg (some r))))))))) else none
  | _, _ => none
theorem mrs_some {α : Type} {h : mH} {a : Nat} {C : String} {j : Int32} {r ci : Nat} {F : mH → Option α} {z : α} (hh : mrs h a C j r ci F = some z) : ∃ (n : Nat) (f : Nat → Option Nat) (fs : List Value) (h' : mH), h[a]? = some (.inl (.object C, (n, .inr (.inr (.inr (.inr f)))))) ∧ h[r]? = some (.inr (ci, fs)) ∧ vp_in j n ∧ h' = h.set a (.inl (.object C, (n, .inr (.inr (.inr (.inr (va_up f j.toNatClampNeg (some r)))))))) ∧ F h' = some z := by
  unfold mrs at hh
  split at hh
  · rename_i t n f c fs e1 e2
    split at hh
    · rename_i hc
      obtain ⟨rfl, rfl, hj⟩ := hc
      exact ⟨n, f, fs, _, e1, e2, hj, rfl, hh⟩
    · cases hh
  · cases hh
