/-! METHODS THAT THROW, AND THE LAW'S OWN, THAT CATCH -/
/-- where a static field lies, outside A -/
def mLs (C n d : String) (A : Nat → Prop) (U : State) (H : Heap) : Prop := ∃ (c : ClassId) (k : Class) (i : Nat) (f : Field) (a : Nat) (cell : Cell), U.vm.findClass C = some c ∧ U.fieldFound? C n d = some (c, k, i, f) ∧ f.isStatic = true ∧ k.statics = some a ∧ H[a]? = some cell ∧ cell.vm.isStatics = true ∧ cell.cls = c ∧ f.slot < cell.slots.size ∧ k.staticTypes[f.slot]? = some f.type ∧ ¬ A a
theorem mLs.moved {C n d : String} {A : Nat → Prop} {u U : State} {H : Heap} (hvm : u.vm.Alike U.vm) (h : mLs C n d A u H) : mLs C n d A U H := by
  obtain ⟨c, k, i, f, a, cell, h1, h2, h3, h4, h5, h6, h7, h8, h9, h10⟩ := h
  obtain ⟨k', hi', he⟩ := State.fieldFound?_setVm hvm h2
  exact ⟨c, k', i, f, a, cell, by rw [hvm.findClass]; exact h1, hi', h3, by rw [he]; exact h4, h5, h6, h7, h8, by rw [he]; exact h9, h10⟩
theorem mLs.kept {C n d : String} {A : Nat → Prop} {U : State} {H H1 : Heap} (h : mLs C n d A U H) (hq : ∀ a : Nat, a < H.size → ¬ A a → H1[a]? = H[a]?) : mLs C n d A U H1 := by
  obtain ⟨c, k, i, f, a, cell, h1, h2, h3, h4, h5, h6, h7, h8, h9, h10⟩ := h
  exact ⟨c, k, i, f, a, cell, h1, h2, h3, h4, by rw [hq a (Array.getElem?_eq_some_iff.mp h5).1 h10]; exact h5, h6, h7, h8, h9, h10⟩
theorem mLs.narrow {C n d : String} {A B : Nat → Prop} {U : State} {H : Heap} (h : mLs C n d A U H) (hAB : ∀ q, B q → A q) : mLs C n d B U H := by
  obtain ⟨c, k, i, f, a, cell, h1, h2, h3, h4, h5, h6, h7, h8, h9, h10⟩ := h
  exact ⟨c, k, i, f, a, cell, h1, h2, h3, h4, h5, h6, h7, h8, h9, fun q => h10 (hAB a q)⟩
theorem mLs.of {C n d : String} {A : Nat → Prop} {s : State} {args : Array Value} (h : (Cond.laysStatic C n d).before args s = true) (hA : ∀ a : Nat, a < s.heap.size → ¬ A a) : mLs C n d A s s.heap := by
  obtain ⟨c, k, i, f, a, cell, h1, h2, h3, h4, h5, h6, h7, h8, h9⟩ := Cond.laysStatic_spec h
  exact ⟨c, k, i, f, a, cell, h1, h2, h3, h4, h5, h6, h7, h8, h9, hA a (Array.getElem?_eq_some_iff.mp h5).1⟩
theorem mLs.word {C n d : String} {A : Nat → Prop} {s : State} {args : Array Value} (h : mLs C n d A s s.heap) : (Cond.laysStatic C n d).before args s = true := by
  obtain ⟨c, k, i, f, a, cell, h1, h2, h3, h4, h5, h6, h7, h8, h9, h10⟩ := h
  simp [Cond.before, Cond.holds, Cond.value, h1, h2, h3, h4, h5, h6, h7, h8, h9]
theorem mZr {C n d : String} {v : Value} {A : Nat → Prop} {s : State} {args : Array Value} (h : va_Z C n d v A s s.heap) (hv : v.isRef = true) : (Cond.isRef (.static C n d)).before args s = true := by
  obtain ⟨cf, kf, fi, f, a, cell, h1, h2, h3, h4, h5, h6, h7, h8⟩ := h
  have he : (Term.static C n d).eval args s none [] s = some v := by
    simp [Term.eval, State.fieldNamed?, h1, h2, h3, h4, h5, h6, h7]
  cases v <;> first | (simp [Cond.before, Cond.holds, Cond.value, he]; done) | (simp [Value.isRef] at hv)
theorem mZqr {C n d : String} {A : Nat → Prop} {s : State} {args : Array Value} (h : va_Zq C n d A s s.heap) : (Cond.isRef (.static C n d)).before args s = true := by
  rcases h with h | ⟨t, h⟩
  · exact mZr h rfl
  · exact mZr h rfl
def mExs : List String := ["java/lang/IndexOutOfBoundsException", "java/lang/IllegalArgumentException", "java/lang/IllegalStateException"]
def mStrs : List (String × Nat × String) := [("StreamFilters", 105, "the row has no such byte"), ("StreamFilters", 112, "not a byte"), ("StreamFilters", 123, "fewer than no bytes"), ("StreamFilters", 131, "no such kind of filter"), ("StreamFilters", 133, "early is 0 or 1"), ("StreamFilters", 137, "the chain is full"), ("StreamFilters", 147, "no such predictor"), ("StreamFilters", 152, "no such colours, bits or columns"), ("StreamFilters", 154, "there is no filter"), ("StreamFilters", 160, "no such budget"), ("StreamFilters", 202, "the result is longer than a row")]
theorem mNest_use (w : Cond) (hw : w ∈ mNest) {s : State} {args : Array Value} (h : va_Nw w s) : w.before args s = true := by
  have hk := mNest_k w hw
  clear hw
  unfold mNk at hk
  split at hk
  · exact va_Nw.use rfl h
  · exact va_Nw.use rfl h
  · exact va_Nw.use rfl h
  · exact va_AO.use h
  · cases hk
theorem mCast {a b : String} {u U : State} {A A' : Array Value} (hvm : u.vm.Alike U.vm) (h : (Cond.castable a b).before A u = true) : (Cond.castable a b).before A' U = true := by
  obtain ⟨c3, c4, hc3, hc4, hasg⟩ := Cond.castable_spec h
  have h1 : U.vm.findClass a = some c3 := by rw [hvm.findClass]; exact hc3
  have h2 : U.vm.findClass b = some c4 := by rw [hvm.findClass]; exact hc4
  have h3 : U.vm.assignable c3 c4 = true := by rw [hvm.assignable]; exact hasg
  simp [Cond.before, Cond.holds, Cond.value, h1, h2, h3]
def mTx (A : Nat → Prop) (U : State) (H : Heap) : Prop := ((∀ q ∈ mStrs, ∃ a : Nat, vk_R q.1 q.2.1 q.2.2 a U) ∧ ∀ E ∈ mExs, va_Nw (.castable E E) U) ∧ (va_Zq Bundle.tN "UNASSIGNED_STACK" Bundle.steD A U H ∧ mLs Bundle.tN "UNASSIGNED_STACK" Bundle.steD A U H) ∧ (va_Zq Bundle.tN "SUPPRESSED_SENTINEL" Bundle.listD A U H ∧ mLs Bundle.tN "SUPPRESSED_SENTINEL" Bundle.listD A U H)
theorem mTx.moved {A : Nat → Prop} {u U : State} {H : Heap} (hW : u.WarmedH U.vm) (h : mTx A u H) : mTx A U H := ⟨⟨fun q hq => (h.1.1 q hq).elim fun a ha => ⟨a, ha.warm hW⟩, fun E hE => mCast hW.alike (h.1.2 E hE)⟩, ⟨h.2.1.1.moved hW.alike, h.2.1.2.moved hW.alike⟩, ⟨h.2.2.1.moved hW.alike, h.2.2.2.moved hW.alike⟩⟩
theorem mTx.same {A : Nat → Prop} {u U : State} {H : Heap} (hv : U.vm = u.vm) (h : mTx A u H) : mTx A U H :=
  have ha : u.vm.Alike U.vm := by rw [hv]; exact Vm.Alike.refl _
  ⟨⟨fun q hq => (h.1.1 q hq).elim fun a hh => ⟨a, hh.same hv⟩, fun E hE => mCast ha (h.1.2 E hE)⟩, ⟨h.2.1.1.moved ha, h.2.1.2.moved ha⟩, ⟨h.2.2.1.moved ha, h.2.2.2.moved ha⟩⟩
theorem mTx.kept {A : Nat → Prop} {U : State} {H H1 : Heap} (h : mTx A U H) (hq : ∀ a : Nat, a < H.size → ¬ A a → H1[a]? = H[a]?) : mTx A U H1 := ⟨h.1, ⟨h.2.1.1.kept hq, h.2.1.2.kept hq⟩, ⟨h.2.2.1.kept hq, h.2.2.2.kept hq⟩⟩
theorem mTx.narrow {A B : Nat → Prop} {U : State} {H : Heap} (h : mTx A U H) (hAB : ∀ q, B q → A q) : mTx B U H := ⟨h.1, ⟨h.2.1.1.narrow hAB, h.2.1.2.narrow hAB⟩, ⟨h.2.2.1.narrow hAB, h.2.2.2.narrow hAB⟩⟩
/-- the four words of a throw that speak of the heap -/
def mFour : List Cond := [.isRef (.static Bundle.tN "UNASSIGNED_STACK" Bundle.steD), .isRef (.static Bundle.tN "SUPPRESSED_SENTINEL" Bundle.listD), .laysStatic Bundle.tN "UNASSIGNED_STACK" Bundle.steD, .laysStatic Bundle.tN "SUPPRESSED_SENTINEL" Bundle.listD]
theorem mFour_ok {A : Nat → Prop} {s : State} {args : Array Value} (h : mTx A s s.heap) : ∀ w ∈ mFour, w.before args s = true := by
  intro w hw
  simp only [mFour, List.mem_cons, List.not_mem_nil, or_false] at hw
  rcases hw with rfl | rfl | rfl | rfl
  · exact mZqr h.2.1.1
  · exact mZqr h.2.2.1
  · exact h.2.1.2.word
  · exact h.2.2.2.word
def mPreT (D : va_G) (kA : FieldType → ClassId) (ad : Nat → Nat) (As : List Value) (h : mH) (sz : Nat) : Array Value → State → Prop := va_Pc (As.map (mv ad)) (fun U => U.heap.size = sz ∧ va_P D classes (mW ad kA h) U.heap ∧ mK D kA U ∧ mT ad (va_A (mW ad kA h) sz) U U.heap ∧ mTx (va_A (mW ad kA h) sz) U U.heap ∧ va_D (fun _ => True) (mW ad kA h))
/-- it threw E; of what was there nothing has changed -/
def mPostT (E : String) : State → Outcome → State → Prop := fun st oc t => ∃ (q : Nat) (ce : Cell), oc = .threw q ∧ t.heap[q]? = some ce ∧ ce.vm = .none ∧ st.vm.findClass E = some ce.cls ∧ st.heap.size ≤ q ∧ st.heap.size ≤ t.heap.size ∧ ∀ z : Nat, z < st.heap.size → t.heap[z]? = st.heap[z]?
def mTq (E : String) (st : State) (oc : Outcome) (t : State) : Prop := mPostT E st oc t ∧ st.WarmedH t.vm ∧ ∃ L : List Loc, st.sameButNew ({ t with vm := st.vm } : State) L 1 6 ∧ ∀ z ∈ L, st.heap.size ≤ z.base
/-- THE CONTRACT of a call that throws E -/
def mMetT (l : Launch) (y : MethodName) (bytes : ByteArray) (maxL : Nat) (ret : Option FieldType) (rm : Room) (As : List Value) (h : mH) (E : String) : Prop := ∀ (D : va_G) (kA : FieldType → ClassId) (ad : Nat → Nat) (sz : Nat), MetFree l y (headSpec (Cond.code y bytes maxL ret :: mGood) rm) (mPreT D kA ad As h sz) (fun _ _ _ _ _ => True) (fun _ st o t => mTq E st o t)
def mEndT (X : mX) (E : String) : Prop := match X with
  | (_, _, _, _, s, _, _, below, _, c, Q, A, _, _, _) => Q = (fun t => ∃ o, t.status = .running ∧ Ended t below o ∧ mTq E s o t) ∧ mTx A s s.heap ∧ (∀ q, A q → s.heap.size ≤ q) ∧ c.exceptionTable.isEmpty = true
def mAR (X : mX) (ad : Nat → Nat) (cs ss pc : Nat) (lv : List (Nat × Value)) (st : List Value) (h : mH) : Prop := match X with
  | (p, l, e, R, s, m, args, below, meth, c, Q, A, D, kA, nL) => ∀ (H : Heap) (locs : List Loc) (ls : Array Slot), va_P D classes (mW ad kA h) H → va_S A s.heap H locs → lv_has ls nL (ml ad lv) → W p l e R s m args below meth c H locs cs ss Q (F0 m pc ls (st.map (mv ad)))
theorem mMetT_of {ln : Launch} {y : MethodName} {bytes : ByteArray} {maxL : Nat} {ret : Option FieldType} {rm : Room} {As : List Value} {h : mH} {E : String} (hy : plainName y.cls = true) (hlen : (lg_sl As).length ≤ maxL)
    (body : ∀ (X : mX) (ad : Nat → Nat), mO X ad y.cls bytes maxL rm ln → mEndT X E → mAR X ad 0 0 0 (lv_args 0 As) [] h) : mMetT ln y bytes maxL ret rm As h E := by
  intro D kA ad sz
  refine MetFree.of_bodyS (code := bytes) (maxLocals := maxL) (ret := ret) hy ?_ ?_
  · intro args s m hh hn
    obtain ⟨meth, c, h1, h2, h3, h4, h5, h6, -, -⟩ := Cond.code_spec hn (atoms_spec (ws := Cond.code y bytes maxL ret :: mGood) hh _ List.mem_cons_self)
    exact ⟨meth, c, h1, h2, h3, h4, h5, h6⟩
  · intro p e s m args below meth c s₁ B hml hP0 _
    obtain ⟨hargs, hsz, hP, hK, hT, hX, hD0⟩ := hP0
    subst hsz
    subst hargs
    have hts := atoms_spec (ws := Cond.code y bytes maxL ret :: mGood) B.pre
    have hown : s.vm.findClass y.cls = some m.cls := findClass_of_methodNamed B.named
    have hl := lv_entry (As.map (mv ad)) (n := maxL) (by rw [lg_len]; exact hlen)
    have hno : c.exceptionTable.isEmpty = true := B.noHandlers (hts _ List.mem_cons_self)
    have hb := body (p, ln, e, rm, s, m, (As.map (mv ad)).toArray, below, meth, c, (fun t => ∃ o, t.status = .running ∧ Ended t below o ∧ mTq E s o t), (fun q => s.heap.size ≤ q), D, kA, maxL) ad ⟨⟨B.exec, B.bytes, hml, hown, B.notSynchronized, rfl, rfl, rfl⟩, fun w hw => hts w (List.mem_cons_of_mem _ hw), hK, hT.narrow (fun q hq => Or.inr hq), fun q hq => hq⟩ ⟨rfl, hX.narrow (fun q hq => Or.inr hq), fun q hq => hq, hno⟩
    have hw := hb s.heap [] _ hP va_S.rf (by rw [ml_args]; exact hl)
    have hh0 : s₁.heap = s.heap := by rw [B.state]; rfl
    have X₀ : Stand p ln e rm s m (As.map (mv ad)).toArray below meth c s₁ [] 0 0 := Stand.of_body B
    obtain ⟨t, a1, o, b1, b2, b3⟩ := hw s₁ hh0 X₀
    rw [List.map_nil, ← lg_entry_eq] at a1
    exact ⟨t, o, a1, b1, b2, b3⟩
section mReads
variable {X : mX} {ad : Nat → Nat} {own : String} {cc : ByteArray} {N cs ss pc : Nat} {lv lv' : List (Nat × Value)} {st : List Value} {h : mH} {Rm : Room} {ln : Launch}
theorem ar_iconst (O : mO X ad own cc N Rm ln) {n : Int} {v : Int32} (d : decode cc pc = .ok (.iconst n, 1)) (hv : Int32.ofInt n = v) (k : mAR X ad cs ss (pc + 1) lv (.int v :: st) h) : mAR X ad cs ss pc lv (st) h := by
  obtain ⟨p, l, e, R, s, m, args, below, meth, c, Q, A, D, kA, nL⟩ := X
  exact fun H locs ls hP hS hl => lv_iconst O.1.1 O.1.2.1 d hv (k H locs ls hP hS hl)
theorem ar_bipush (O : mO X ad own cc N Rm ln) {n : Int} {v : Int32} (d : decode cc pc = .ok (.bipush n, 2)) (hv : (Int8.ofInt n).toInt32 = v) (k : mAR X ad cs ss (pc + 2) lv (.int v :: st) h) : mAR X ad cs ss pc lv (st) h := by
  obtain ⟨p, l, e, R, s, m, args, below, meth, c, Q, A, D, kA, nL⟩ := X
  exact fun H locs ls hP hS hl => lv_bipush O.1.1 O.1.2.1 d hv (k H locs ls hP hS hl)
theorem ar_sipush (O : mO X ad own cc N Rm ln) {n : Int} {v : Int32} (d : decode cc pc = .ok (.sipush n, 3)) (hv : (Int16.ofInt n).toInt32 = v) (k : mAR X ad cs ss (pc + 3) lv (.int v :: st) h) : mAR X ad cs ss pc lv (st) h := by
  obtain ⟨p, l, e, R, s, m, args, below, meth, c, Q, A, D, kA, nL⟩ := X
  exact fun H locs ls hP hS hl => lv_sipush O.1.1 O.1.2.1 d hv (k H locs ls hP hS hl)
theorem ar_ldc (O : mO X ad own cc N Rm ln) {ix : Nat} {v : Int32} (d : decode cc pc = .ok (.ldc ix, 2)) (hw : Cond.constant own ix v ∈ mGood) (k : mAR X ad cs ss (pc + 2) lv (.int v :: st) h) : mAR X ad cs ss pc lv (st) h := by
  obtain ⟨p, l, e, R, s, m, args, below, meth, c, Q, A, D, kA, nL⟩ := X
  exact fun H locs ls hP hS hl => lv_ldc O.1.1 O.1.2.1 O.1.2.2.2.1 (O.2.1 _ hw) d (k H locs ls hP hS hl)
theorem ar_iload_n (O : mO X ad own cc N Rm ln) {n : Fin 4} {i : Nat} {x : Int32} (d : decode cc pc = .ok (.iload_n n, 1)) (hi : (n : Nat) = i) (j : Nat) (hj : lv[j]? = some (i, .int x)) (k : mAR X ad cs ss (pc + 1) lv (.int x :: st) h) : mAR X ad cs ss pc lv (st) h := by
  obtain ⟨p, l, e, R, s, m, args, below, meth, c, Q, A, D, kA, nL⟩ := X
  exact fun H locs ls hP hS hl => lv_iload_n O.1.1 O.1.2.1 d hi (lv_at hl j (ml_get hj)) (k H locs ls hP hS hl)
theorem ar_iload (O : mO X ad own cc N Rm ln) {i : Nat} {x : Int32} (d : decode cc pc = .ok (.iload i, 2)) (j : Nat) (hj : lv[j]? = some (i, .int x)) (k : mAR X ad cs ss (pc + 2) lv (.int x :: st) h) : mAR X ad cs ss pc lv (st) h := by
  obtain ⟨p, l, e, R, s, m, args, below, meth, c, Q, A, D, kA, nL⟩ := X
  exact fun H locs ls hP hS hl => lv_iload O.1.1 O.1.2.1 d (lv_at hl j (ml_get hj)) (k H locs ls hP hS hl)
theorem ar_aload_n (O : mO X ad own cc N Rm ln) {n : Fin 4} {i : Nat} {x : Nat} (d : decode cc pc = .ok (.aload_n n, 1)) (hi : (n : Nat) = i) (j : Nat) (hj : lv[j]? = some (i, .ref x)) (k : mAR X ad cs ss (pc + 1) lv (.ref x :: st) h) : mAR X ad cs ss pc lv (st) h := by
  obtain ⟨p, l, e, R, s, m, args, below, meth, c, Q, A, D, kA, nL⟩ := X
  exact fun H locs ls hP hS hl => lv_aload_n O.1.1 O.1.2.1 d hi (lv_at hl j (ml_get hj)) (k H locs ls hP hS hl)
theorem ar_aload (O : mO X ad own cc N Rm ln) {i : Nat} {x : Nat} (d : decode cc pc = .ok (.aload i, 2)) (j : Nat) (hj : lv[j]? = some (i, .ref x)) (k : mAR X ad cs ss (pc + 2) lv (.ref x :: st) h) : mAR X ad cs ss pc lv (st) h := by
  obtain ⟨p, l, e, R, s, m, args, below, meth, c, Q, A, D, kA, nL⟩ := X
  exact fun H locs ls hP hS hl => lv_aload O.1.1 O.1.2.1 d (lv_at hl j (ml_get hj)) (k H locs ls hP hS hl)
theorem ar_istore_n (O : mO X ad own cc N Rm ln) {n : Fin 4} {i : Nat} {x : Int32} (d : decode cc pc = .ok (.istore_n n, 1)) (hi : (n : Nat) = i) (hn : i < N) (he : (i, .int x) :: lv.filter (fun q => !(q.1 == i) && !(q.1 + 1 == i && q.2.category == 2)) = lv') (k : mAR X ad cs ss (pc + 1) lv' st h) : mAR X ad cs ss pc lv (.int x :: st) h := by
  obtain ⟨p, l, e, R, s, m, args, below, meth, c, Q, A, D, kA, nL⟩ := X
  obtain ⟨O1, O2⟩ := O
  obtain ⟨hx, hb, hm, ho, hk, rfl, hR, hln⟩ := O1
  exact fun H locs ls hP hS hl => lv_istore_n hx hb d hi hl hn (ml_st1 he) (fun ls hl => k H locs ls hP hS hl)
theorem ar_istore (O : mO X ad own cc N Rm ln) {i : Nat} {x : Int32} (d : decode cc pc = .ok (.istore i, 2))  (hn : i < N) (he : (i, .int x) :: lv.filter (fun q => !(q.1 == i) && !(q.1 + 1 == i && q.2.category == 2)) = lv') (k : mAR X ad cs ss (pc + 2) lv' st h) : mAR X ad cs ss pc lv (.int x :: st) h := by
  obtain ⟨p, l, e, R, s, m, args, below, meth, c, Q, A, D, kA, nL⟩ := X
  obtain ⟨O1, O2⟩ := O
  obtain ⟨hx, hb, hm, ho, hk, rfl, hR, hln⟩ := O1
  exact fun H locs ls hP hS hl => lv_istore hx hb d hl hn (ml_st1 he) (fun ls hl => k H locs ls hP hS hl)
theorem ar_astore_n (O : mO X ad own cc N Rm ln) {n : Fin 4} {i : Nat} {x : Nat} (d : decode cc pc = .ok (.astore_n n, 1)) (hi : (n : Nat) = i) (hn : i < N) (he : (i, .ref x) :: lv.filter (fun q => !(q.1 == i) && !(q.1 + 1 == i && q.2.category == 2)) = lv') (k : mAR X ad cs ss (pc + 1) lv' st h) : mAR X ad cs ss pc lv (.ref x :: st) h := by
  obtain ⟨p, l, e, R, s, m, args, below, meth, c, Q, A, D, kA, nL⟩ := X
  obtain ⟨O1, O2⟩ := O
  obtain ⟨hx, hb, hm, ho, hk, rfl, hR, hln⟩ := O1
  exact fun H locs ls hP hS hl => lv_astore_n hx hb d hi hl hn (ml_st1 he) (fun ls hl => k H locs ls hP hS hl)
theorem ar_iadd (O : mO X ad own cc N Rm ln) {x y : Int32} (d : decode cc pc = .ok (.iadd, 1))  (k : mAR X ad cs ss (pc + 1) lv (.int (x + y) :: st) h) : mAR X ad cs ss pc lv (.int y :: .int x :: st) h := by
  obtain ⟨p, l, e, R, s, m, args, below, meth, c, Q, A, D, kA, nL⟩ := X
  exact fun H locs ls hP hS hl => lv_iadd O.1.1 O.1.2.1 d (k H locs ls hP hS hl)
theorem ar_isub (O : mO X ad own cc N Rm ln) {x y : Int32} (d : decode cc pc = .ok (.isub, 1))  (k : mAR X ad cs ss (pc + 1) lv (.int (x - y) :: st) h) : mAR X ad cs ss pc lv (.int y :: .int x :: st) h := by
  obtain ⟨p, l, e, R, s, m, args, below, meth, c, Q, A, D, kA, nL⟩ := X
  exact fun H locs ls hP hS hl => lv_isub O.1.1 O.1.2.1 d (k H locs ls hP hS hl)
theorem ar_if_eq (O : mO X ad own cc N Rm ln) {x : Int32} {off : Int} {tgt : Nat} (d : decode cc pc = .ok (.ifCond .eq off, 3)) (ht : (pc : Int) + off = (tgt : Int)) (kt : x = 0 → mAR X ad cs ss tgt lv st h) (kf : ¬ x = 0 → mAR X ad cs ss (pc + 3) lv st h) : mAR X ad cs ss pc lv (.int x :: st) h := by
  obtain ⟨p, l, e, R, s, m, args, below, meth, c, Q, A, D, kA, nL⟩ := X
  exact fun H locs ls hP hS hl => lv_if_eq O.1.1 O.1.2.1 d ht (fun q => kt q H locs ls hP hS hl) (fun q => kf q H locs ls hP hS hl)
theorem ar_icmp_eq (O : mO X ad own cc N Rm ln) {x y : Int32} {off : Int} {tgt : Nat} (d : decode cc pc = .ok (.if_icmp .eq off, 3)) (ht : (pc : Int) + off = (tgt : Int)) (kt : x = y → mAR X ad cs ss tgt lv st h) (kf : ¬ x = y → mAR X ad cs ss (pc + 3) lv st h) : mAR X ad cs ss pc lv (.int y :: .int x :: st) h := by
  obtain ⟨p, l, e, R, s, m, args, below, meth, c, Q, A, D, kA, nL⟩ := X
  exact fun H locs ls hP hS hl => lv_icmp_eq O.1.1 O.1.2.1 d ht (fun q => kt q H locs ls hP hS hl) (fun q => kf q H locs ls hP hS hl)
theorem ar_if_ne (O : mO X ad own cc N Rm ln) {x : Int32} {off : Int} {tgt : Nat} (d : decode cc pc = .ok (.ifCond .ne off, 3)) (ht : (pc : Int) + off = (tgt : Int)) (kt : ¬ x = 0 → mAR X ad cs ss tgt lv st h) (kf : x = 0 → mAR X ad cs ss (pc + 3) lv st h) : mAR X ad cs ss pc lv (.int x :: st) h := by
  obtain ⟨p, l, e, R, s, m, args, below, meth, c, Q, A, D, kA, nL⟩ := X
  exact fun H locs ls hP hS hl => lv_if_ne O.1.1 O.1.2.1 d ht (fun q => kt q H locs ls hP hS hl) (fun q => kf q H locs ls hP hS hl)
theorem ar_icmp_ne (O : mO X ad own cc N Rm ln) {x y : Int32} {off : Int} {tgt : Nat} (d : decode cc pc = .ok (.if_icmp .ne off, 3)) (ht : (pc : Int) + off = (tgt : Int)) (kt : ¬ x = y → mAR X ad cs ss tgt lv st h) (kf : x = y → mAR X ad cs ss (pc + 3) lv st h) : mAR X ad cs ss pc lv (.int y :: .int x :: st) h := by
  obtain ⟨p, l, e, R, s, m, args, below, meth, c, Q, A, D, kA, nL⟩ := X
  exact fun H locs ls hP hS hl => lv_icmp_ne O.1.1 O.1.2.1 d ht (fun q => kt q H locs ls hP hS hl) (fun q => kf q H locs ls hP hS hl)
theorem ar_if_lt (O : mO X ad own cc N Rm ln) {x : Int32} {off : Int} {tgt : Nat} (d : decode cc pc = .ok (.ifCond .lt off, 3)) (ht : (pc : Int) + off = (tgt : Int)) (kt : x < 0 → mAR X ad cs ss tgt lv st h) (kf : ¬ x < 0 → mAR X ad cs ss (pc + 3) lv st h) : mAR X ad cs ss pc lv (.int x :: st) h := by
  obtain ⟨p, l, e, R, s, m, args, below, meth, c, Q, A, D, kA, nL⟩ := X
  exact fun H locs ls hP hS hl => lv_if_lt O.1.1 O.1.2.1 d ht (fun q => kt q H locs ls hP hS hl) (fun q => kf q H locs ls hP hS hl)
theorem ar_icmp_lt (O : mO X ad own cc N Rm ln) {x y : Int32} {off : Int} {tgt : Nat} (d : decode cc pc = .ok (.if_icmp .lt off, 3)) (ht : (pc : Int) + off = (tgt : Int)) (kt : x < y → mAR X ad cs ss tgt lv st h) (kf : ¬ x < y → mAR X ad cs ss (pc + 3) lv st h) : mAR X ad cs ss pc lv (.int y :: .int x :: st) h := by
  obtain ⟨p, l, e, R, s, m, args, below, meth, c, Q, A, D, kA, nL⟩ := X
  exact fun H locs ls hP hS hl => lv_icmp_lt O.1.1 O.1.2.1 d ht (fun q => kt q H locs ls hP hS hl) (fun q => kf q H locs ls hP hS hl)
theorem ar_if_ge (O : mO X ad own cc N Rm ln) {x : Int32} {off : Int} {tgt : Nat} (d : decode cc pc = .ok (.ifCond .ge off, 3)) (ht : (pc : Int) + off = (tgt : Int)) (kt : 0 ≤ x → mAR X ad cs ss tgt lv st h) (kf : ¬ 0 ≤ x → mAR X ad cs ss (pc + 3) lv st h) : mAR X ad cs ss pc lv (.int x :: st) h := by
  obtain ⟨p, l, e, R, s, m, args, below, meth, c, Q, A, D, kA, nL⟩ := X
  exact fun H locs ls hP hS hl => lv_if_ge O.1.1 O.1.2.1 d ht (fun q => kt q H locs ls hP hS hl) (fun q => kf q H locs ls hP hS hl)
theorem ar_icmp_ge (O : mO X ad own cc N Rm ln) {x y : Int32} {off : Int} {tgt : Nat} (d : decode cc pc = .ok (.if_icmp .ge off, 3)) (ht : (pc : Int) + off = (tgt : Int)) (kt : y ≤ x → mAR X ad cs ss tgt lv st h) (kf : ¬ y ≤ x → mAR X ad cs ss (pc + 3) lv st h) : mAR X ad cs ss pc lv (.int y :: .int x :: st) h := by
  obtain ⟨p, l, e, R, s, m, args, below, meth, c, Q, A, D, kA, nL⟩ := X
  exact fun H locs ls hP hS hl => lv_icmp_ge O.1.1 O.1.2.1 d ht (fun q => kt q H locs ls hP hS hl) (fun q => kf q H locs ls hP hS hl)
theorem ar_if_gt (O : mO X ad own cc N Rm ln) {x : Int32} {off : Int} {tgt : Nat} (d : decode cc pc = .ok (.ifCond .gt off, 3)) (ht : (pc : Int) + off = (tgt : Int)) (kt : 0 < x → mAR X ad cs ss tgt lv st h) (kf : ¬ 0 < x → mAR X ad cs ss (pc + 3) lv st h) : mAR X ad cs ss pc lv (.int x :: st) h := by
  obtain ⟨p, l, e, R, s, m, args, below, meth, c, Q, A, D, kA, nL⟩ := X
  exact fun H locs ls hP hS hl => lv_if_gt O.1.1 O.1.2.1 d ht (fun q => kt q H locs ls hP hS hl) (fun q => kf q H locs ls hP hS hl)
theorem ar_icmp_gt (O : mO X ad own cc N Rm ln) {x y : Int32} {off : Int} {tgt : Nat} (d : decode cc pc = .ok (.if_icmp .gt off, 3)) (ht : (pc : Int) + off = (tgt : Int)) (kt : y < x → mAR X ad cs ss tgt lv st h) (kf : ¬ y < x → mAR X ad cs ss (pc + 3) lv st h) : mAR X ad cs ss pc lv (.int y :: .int x :: st) h := by
  obtain ⟨p, l, e, R, s, m, args, below, meth, c, Q, A, D, kA, nL⟩ := X
  exact fun H locs ls hP hS hl => lv_icmp_gt O.1.1 O.1.2.1 d ht (fun q => kt q H locs ls hP hS hl) (fun q => kf q H locs ls hP hS hl)
theorem ar_if_le (O : mO X ad own cc N Rm ln) {x : Int32} {off : Int} {tgt : Nat} (d : decode cc pc = .ok (.ifCond .le off, 3)) (ht : (pc : Int) + off = (tgt : Int)) (kt : x ≤ 0 → mAR X ad cs ss tgt lv st h) (kf : ¬ x ≤ 0 → mAR X ad cs ss (pc + 3) lv st h) : mAR X ad cs ss pc lv (.int x :: st) h := by
  obtain ⟨p, l, e, R, s, m, args, below, meth, c, Q, A, D, kA, nL⟩ := X
  exact fun H locs ls hP hS hl => lv_if_le O.1.1 O.1.2.1 d ht (fun q => kt q H locs ls hP hS hl) (fun q => kf q H locs ls hP hS hl)
theorem ar_icmp_le (O : mO X ad own cc N Rm ln) {x y : Int32} {off : Int} {tgt : Nat} (d : decode cc pc = .ok (.if_icmp .le off, 3)) (ht : (pc : Int) + off = (tgt : Int)) (kt : x ≤ y → mAR X ad cs ss tgt lv st h) (kf : ¬ x ≤ y → mAR X ad cs ss (pc + 3) lv st h) : mAR X ad cs ss pc lv (.int y :: .int x :: st) h := by
  obtain ⟨p, l, e, R, s, m, args, below, meth, c, Q, A, D, kA, nL⟩ := X
  exact fun H locs ls hP hS hl => lv_icmp_le O.1.1 O.1.2.1 d ht (fun q => kt q H locs ls hP hS hl) (fun q => kf q H locs ls hP hS hl)
theorem ar_goto (O : mO X ad own cc N Rm ln) {off : Int} {tgt : Nat} (d : decode cc pc = .ok (.goto off, 3)) (ht : (pc : Int) + off = (tgt : Int)) (k : mAR X ad cs ss tgt lv st h) : mAR X ad cs ss pc lv st h := by
  obtain ⟨p, l, e, R, s, m, args, below, meth, c, Q, A, D, kA, nL⟩ := X
  exact fun H locs ls hP hS hl => lv_goto O.1.1 O.1.2.1 d ht (k H locs ls hP hS hl)
theorem ar_tableIn (O : mO X ad own cc N Rm ln) {dflt lo hi : Int} {offs : Array Int} {len : Nat} {x : Int32} {off : Int} {tgt : Nat} (d : decode cc pc = .ok (.tableswitch dflt lo hi offs, len)) (h1 : ¬ x.toInt < lo) (h2 : ¬ hi < x.toInt) (ho : offs[(x.toInt - lo).toNat]? = some off) (ht : (pc : Int) + off = (tgt : Int)) (k : mAR X ad cs ss tgt lv st h) : mAR X ad cs ss pc lv (.int x :: st) h := by
  obtain ⟨p, l, e, R, s, m, args, below, meth, c, Q, A, D, kA, nL⟩ := X
  exact fun H locs ls hP hS hl => lv_tableIn O.1.1 O.1.2.1 d h1 h2 ho ht (k H locs ls hP hS hl)
theorem ar_sub (ks : List Nat) (he : lv_pick lv ks = lv') (k : mAR X ad cs ss pc lv' st h) : mAR X ad cs ss pc lv st h := by
  obtain ⟨p, l, e, R, s, m, args, below, meth, c, Q, A, D, kA, nL⟩ := X
  exact fun H locs ls hP hS hl => k H locs ls hP hS (lv_sub hl ks (ml_pick he))
theorem ar_get (O : mO X ad own cc N Rm ln) {ix ci kf i : Nat} (hF : mFg own ix ci kf) {fs : List Value} {v : Value} (hi : h[i]? = some (.inr (ci, fs))) (hv : fs[kf]? = some v) (d : decode cc pc = .ok (.getfield ix, 3)) (k : mAR X ad cs ss (pc + 3) lv (v :: st) h) : mAR X ad cs ss pc lv (.ref i :: st) h := by
  obtain ⟨p, l, e, R, s, m, args, below, meth, c, Q, A, D, kA, nL⟩ := X
  obtain ⟨C, T, Nf, hc, hk, hin, hw⟩ := hF
  intro H locs ls hP hS hl
  have hK : va_K D classes [] s := mK0 O.2.2.1
  have hv' : (fs.map (mv ad))[kf]? = some (mv ad v) := by simp [hv]
  rcases hw with hw | ⟨host, hw⟩
  · exact va_get (v := mv ad v) O.1.1 O.1.2.1 O.2.1 hin O.1.2.2.2.1 hK hP i (mW_get hi) hc kf hk (O.2.1 _ hw) (fun _ h => h) hv' d (k H locs ls hP hS hl)
  · exact va_getN (v := mv ad v) O.1.1 O.1.2.1 O.2.1 hin O.1.2.2.2.1 hK hP i (mW_get hi) hc kf hk (va_Nw.use rfl (O.2.2.1.2.2 _ hw)) (fun _ h => h) hv' d (k H locs ls hP hS hl)
theorem ar_alen (O : mO X ad own cc N Rm ln) {a : Nat} {ty : FieldType} {x : vp_A} (hty : ty ∈ mTys) {v : Int32} (hi : h[a]? = some (.inl (ty, x))) (hv : nI x.1 = v) (d : decode cc pc = .ok (.arraylength, 1)) (k : mAR X ad cs ss (pc + 1) lv (.int v :: st) h) : mAR X ad cs ss pc lv (.ref a :: st) h := by
  obtain ⟨p, l, e, R, s, m, args, below, meth, c, Q, A, D, kA, nL⟩ := X
  subst hv
  exact fun H locs ls hP hS hl => va_alen O.1.1 O.1.2.1 (mKt O.2.2.1 hty) hP a 0 (mW_get hi) rfl (v := nI x.1) (by rw [ma_len]; rfl) d (k H locs ls hP hS hl)
theorem ar_nmi {x y : Int32} (hy : y = x) (k : mAR X ad cs ss pc lv (.int y :: st) h) : mAR X ad cs ss pc lv (.int x :: st) h := hy ▸ k
/-- a call of a static method that sees no cell -/
theorem ar_callS0 (O : mO X ad own cc N Rm ln) {y : MethodName} {bytes : ByteArray} {maxL n ix : Nat} {ret : Option FieldType} {rm : Room} {As rest : List Value} {v : Option Value} (hC : mCw y bytes maxL ret n) (hst : Cond.static y ∈ mGood) (hlk : Cond.methodLink own ix y ∈ mGood) (hM : mMet ln y bytes maxL ret rm As [] v []) (hn : As.length = n) (hrm : rm.cells = 0 ∧ rm.slots = 0) (hR : rm.frames + 1 ≤ Rm.frames ∧ 8 + (maxL + 11) + rm.locals ≤ Rm.locals) (hcs : cs ≤ Rm.cells ∧ ss ≤ Rm.slots) (hrs : (rest.map fun v => v.category).sum ≤ 8) (d : decode cc pc = .ok (.invokestatic ix, 3)) (k : mAR X ad cs ss (pc + 3) lv (v.toList ++ rest) h) : mAR X ad cs ss pc lv (As.reverse ++ rest) h := by
  obtain ⟨p, l, e, R, s, m, args, below, meth, c, Q, A, D, kA, nL⟩ := X
  obtain ⟨⟨hx, hb, hml, hown, hlk0, rfl, rfl, rfl⟩, hts, hK, hT, hA⟩ := O
  intro H locs ls hP hS hl
  obtain ⟨hc1, hc2, hc3, hc4⟩ := hC
  have hP0 : va_P D classes (mW ad kA []) H := fun k q hq => by simp [mW] at hq
  have hD0 : va_D A (mW ad kA []) := ⟨fun i j p q h => by simp [mW] at h, fun k q h => by simp [mW] at h⟩
  have hstk : (As.reverse ++ rest).map (mv ad) = (As.map (mv ad)).reverse ++ rest.map (mv ad) := by simp
  have hcat : ((rest.map (mv ad)).map fun v => v.category).sum ≤ 8 := by rw [mcats]; exact hrs
  rw [hstk]
  have run := va_runS (p := p) (l := l) (e := e) (R := R) (s := s) (m := m) (args := args) (below := below) (meth := meth) (c := c) (H := H) (locs := locs) (cells := cs) (slots := ss) (g := F0 m pc ls ((As.map (mv ad)).reverse ++ rest.map (mv ad))) (As := As.map (mv ad)) (rest := rest.map (mv ad)) ⟨hx, hb, hml, hown, hts⟩ (hM D kA ad H.size) ⟨callB_of n hts (mGoodIn y bytes maxL ret hc1) rfl hrm.1 hrm.2 (hts _ hc2) (hts _ hlk) ⟨hc3.1, hc3.2, hc4⟩ hR, hts _ hst⟩ ⟨mPre_blind, fun U hU hW => mPreAt hK hT hA hP0 hD0 hS U hU hW⟩ rfl (by rw [List.length_map]; exact hn) hl.1 rfl (lv_room hcat) d ⟨hcs.1, hcs.2⟩
  intro T hT0 Xs
  obtain ⟨v', st₀, t, T', L, h0, X', hL, e1, e2, ⟨hv, -, -, hz, hk⟩, stp⟩ := run T hT0 Xs
  have hv' : v' = v.map (mv ad) := by injection hv
  subst hv'
  rw [h0] at hz hk
  have hno : ∀ q : Nat, q < H.size → ¬ va_A (mW ad kA []) H.size q := by
    intro q hq hh
    rcases hh with ⟨i, e, hi⟩ | hh
    · simp [mW] at hi
    · omega
  have hkk : ∀ q : Nat, q < H.size → T'.heap[q]? = H[q]? := fun q hq => by rw [e1]; exact hk q hq (hno q hq)
  have hS' : va_S A s.heap T'.heap (locs ++ L) := ⟨Nat.le_trans hS.1 (by rw [e1]; exact hz), fun q h1 h2 => by rw [hkk q (Nat.lt_of_lt_of_le h1 hS.1)]; exact hS.2.1 q h1 h2, fun q hq => by
      rcases List.mem_append.mp hq with h | h
      · exact hS.2.2 q h
      · exact mFree hD0 hS hA _ (hL q h)⟩
  obtain ⟨t2, a1, b1⟩ := k T'.heap (locs ++ L) ls (hP.kept (fun i q hq => hkk q.1 ((hP i q hq).lt))) hS' hl T' rfl X'
  refine ⟨t2, stp t2 ?_, b1⟩
  have he : (v.toList ++ rest).map (mv ad) = (v.map (mv ad)).toList ++ rest.map (mv ad) := by cases v <;> simp
  rw [← he]
  exact a1
/-- throw new E("text"): new, dup, ldc, invokespecial, athrow -/
theorem ar_throw (O : mO X ad own cc N Rm ln) {E tx : String} {names : List String} {ik is ic : Nat} (hE : mEndT X E) (hln : ln.stackTraces = false) (w1 : Cond.classLink own ik E ∈ mGood) (w2 : Cond.instantiable E 6 ∈ mGood) (w3 : Cond.initialized E ∈ mGood) (hs : (own, is, tx) ∈ mStrs) (hxE : E ∈ mExs) (hat : ∀ w ∈ Bundle.ownAtoms own ic E names, w ∈ mGood ∨ w ∈ mNest ∨ w ∈ mFour ∨ w = .castable E E) (hfit : Bundle.fit E = true ∧ ∀ n ∈ names, Bundle.fit n = true) (hR : names.length + 3 < Rm.frames ∧ 1 + (st.map fun v => v.category).sum + (13 * (names.length + 1) + 42) ≤ Rm.locals ∧ 1 ≤ Rm.cells ∧ 6 ≤ Rm.slots)
    (d0 : decode cc pc = .ok (.new ik, 3)) (d3 : decode cc (pc + 3) = .ok (.dup, 1)) (d4 : decode cc (pc + 4) = .ok (.ldc is, 2)) (d6 : decode cc (pc + 6) = .ok (.invokespecial ic, 3)) (d9 : decode cc (pc + 9) = .ok (.athrow, 1)) : mAR X ad 0 0 pc lv st h := by
  obtain ⟨p, l, e, R, s, m, args, below, meth, c, Q, A, D, kA, nL⟩ := X
  obtain ⟨⟨hx, hb, hml, hown, hlk0, rfl, rfl, rfl⟩, hts, hK, hT, hA⟩ := O
  obtain ⟨hQ, hX, hA0, hno⟩ := hE
  subst hQ
  intro H locs ls hP hS hl
  obtain ⟨cE, kE, hfc, hkE, -⟩ := Cond.instantiable_spec (hts _ w2)
  obtain ⟨qs, hqs⟩ := hX.1.1 _ hs
  refine W.newcK hx hb hown (hts _ w1) (hts _ w2) (hts _ w3) (g := F0 m pc ls (st.map (mv ad))) rfl d0 (by simpa using hR.2.2.1) (by simpa using hR.2.2.2) hfc rfl (fun H1 kC hkC e1 z1 o1 => ?_)
  refine lv_dup hx hb d3 rfl ?_
  refine va_ldcS hx hb hown hqs d4 ?_
  intro T hT0 Xs
  have htr : e.platform.stackTraces = false := (show e.platform.stackTraces = l.stackTraces by rw [Xs.admits.platform]).trans hln
  have hatoms : ∀ a ∈ Bundle.ownAtoms own ic E names, a.before args s = true := by
    intro w hw
    rcases hat w hw with q | q | q | q
    · exact hts w q
    · exact mNest_use w q (hK.2.2 w q)
    · exact mFour_ok hX w q
    · rw [q]; exact mCast (Vm.Alike.refl _) (hX.1.2 E hxE)
  have hlocs : ∀ x ∈ locs, ∀ cell, s.heap[x.base]? = some cell → cell.vm.isStatics = false := fun x hx9 cell hc9 => by
    have h1 := hA0 _ (hS.2.2 x hx9)
    have h2 := (Array.getElem?_eq_some_iff.mp hc9).1
    omega
  have hcats : ((Value.ref H.size :: st.map (mv ad)).map fun v => v.category).sum = 1 + (st.map fun v => v.category).sum := by
    rw [List.map_cons, List.sum_cons, mcats]; rfl
  have hcT : T.heap[H.size]? = some (freshCell cE kC) := by rw [hT0]; exact e1
  obtain ⟨U, stp, hrun, hend, hW, hsame, ce, hce, hown9⟩ := Xs.ctorThrowS hx htr (own := own) (cls := E) (names := names) (ic := ic) hown hfit.1 hfit.2 hatoms hlocs (a := H.size) hfc hkC hcT hS.1 (msg := .ref qs) rfl (g := F0 m (pc + 6) ls (.ref qs :: .ref H.size :: .ref H.size :: st.map (mv ad))) rfl (hl.1.trans hml.symm) rfl rfl rfl (by rw [hb]; exact d6) (by rw [hb]; exact d9) (fun x hx9 => by
      have := Array.isEmpty_iff.mp hno
      rw [this] at hx9
      simp at hx9) hR.1 (by show 2 * 0 + _ + _ ≤ _; rw [hcats]; have := hR.2.1; omega) hlk0
  obtain ⟨s1, s2, s3, s4, s5, s6⟩ := id hsame
  refine ⟨U, stp, .threw H.size, hrun, hend, ⟨H.size, ce, rfl, hce, hown9.vm, hown9.cls, hS.1, s2, fun z hz => ?_⟩, hW, locs, hsame.mono (by omega) (by omega), fun z hz => hA0 _ (hS.2.2 z hz)⟩
  cases hc9 : s.heap[z]? with
  | none => exact absurd ((Array.getElem?_eq_none_iff.mp hc9)) (by omega)
  | some c9 =>
    obtain ⟨c', q1, q2, q3, q4⟩ := s6 z c9 hc9
    have hsl : c'.slots = c9.slots := by
      apply Array.ext_getElem?
      intro i
      exact q4 i (fun hm => by
        have h1 := hA0 _ (hS.2.2 _ hm)
        have h2 : s.heap.size ≤ z := h1
        omega)
    have : c' = c9 := by rw [q2, hsl]
    rw [← this]
    exact q1
end mReads
