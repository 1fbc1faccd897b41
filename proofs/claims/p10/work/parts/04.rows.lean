/-! THE JUDGEMENT mAW: the machine, at a method's frame, with the cells h, comes to X's end. -/
abbrev mX : Type := Program × Launch × Env × Room × State × MethodId × Array Value × List Frame × Method × Code × (State → Prop) × (Nat → Prop) × va_G × (FieldType → ClassId) × Nat
/-- the tables: classes, arrays, and the words that speak of nest mates -/
def mK (D : va_G) (kA : FieldType → ClassId) (U : State) : Prop := (∀ (c : Nat) (q : vw_C), classes[c]? = some q → u_Kn U q.1 q.2.1 q.2.2 (D.1 c) (D.2 c)) ∧ (∀ ty ∈ mTys, ArrOfT U (kA ty) ty ∧ va_RA U (kA ty) ty) ∧ ∀ w ∈ mNest, va_Nw w U
/-- the static arrays: class, name, descriptor, kind, length, what they hold; the k-th lies at ad (10000 + k) -/
def mT (ad : Nat → Nat) (A : Nat → Prop) (U : State) (H : Heap) : Prop := ∀ (k : Nat) (q : mSt), mSta[k]? = some q → va_Z q.1 q.2.1 q.2.2.1 (.ref (ad (10000 + k))) A U H ∧ va_T q.2.2.2.1 (ad (10000 + k)) q.2.2.2.2.1 (fun j => .int (q.2.2.2.2.2 j)) A U H
def mAW (X : mX) (ad : Nat → Nat) (cs ss pc : Nat) (lv : List (Nat × Value)) (st : List Value) (h : mH) : Prop := match X with
  | (p, l, e, R, s, m, args, below, meth, c, Q, A, D, kA, nL) => ∀ (H : Heap) (locs : List Loc) (ls : Array Slot), va_P D classes (mW ad kA h) H → va_D A (mW ad kA h) → va_S A s.heap H locs → lv_has ls nL (ml ad lv) → W p l e R s m args below meth c H locs cs ss Q (F0 m pc ls (st.map (mv ad)))
/-- what holds all through a method's body -/
def mO (X : mX) (ad : Nat → Nat) (own : String) (cc : ByteArray) (N : Nat) (Rm : Room) (ln : Launch) : Prop := match X with
  | (p, l, e, R, s, m, args, below, meth, c, Q, A, D, kA, nL) => (p.tables.exec = Jvm.exec ∧ c.code = cc ∧ c.maxLocals = nL ∧ s.vm.findClass own = some m.cls ∧ meth.locks = false ∧ nL = N ∧ R = Rm ∧ l = ln) ∧ (∀ w ∈ mGood, w.before args s = true) ∧ mK D kA s ∧ mT ad A s s.heap ∧ (∀ q, s.heap.size ≤ q → A q)
theorem mK.moved {D : va_G} {kA : FieldType → ClassId} {u U : State} (hW : u.WarmedH U.vm) (h : mK D kA u) : mK D kA U :=
  ⟨fun c q hq => u_Kn_moved hW.alike (h.1 c q hq), fun ty ht => ⟨arrOfT_moved hW.alike (h.2.1 ty ht).1, (h.2.1 ty ht).2.moved hW.alike⟩, fun w hw => mNest_warm w hw hW (h.2.2 w hw)⟩
theorem mK.same {D : va_G} {kA : FieldType → ClassId} {u U : State} (hvm : u.vm = U.vm) (h : mK D kA u) : mK D kA U :=
  have ha : u.vm.Alike U.vm := by rw [hvm]; exact Vm.Alike.refl _
  ⟨fun c q hq => u_Kn_moved ha (h.1 c q hq), fun ty ht => ⟨arrOfT_moved ha (h.2.1 ty ht).1, (h.2.1 ty ht).2.moved ha⟩, fun w hw => mNest_same w hw hvm (h.2.2 w hw)⟩
theorem mKt {D : va_G} {kA : FieldType → ClassId} {s : State} (hK : mK D kA s) {ty : FieldType} (ht : ty ∈ mTys) : va_K D classes [(kA ty, ty)] s := ⟨hK.1, fun k q hq => by
  cases k with
  | zero => cases hq; exact hK.2.1 _ ht
  | succ k => simp at hq⟩
theorem mK0 {D : va_G} {kA : FieldType → ClassId} {s : State} (hK : mK D kA s) : va_K D classes [] s := ⟨hK.1, fun k q hq => by simp at hq⟩
theorem mT.moved {ad : Nat → Nat} {A : Nat → Prop} {u U : State} {H : Heap} (hvm : u.vm.Alike U.vm) (h : mT ad A u H) : mT ad A U H := fun k q hq => ⟨(h k q hq).1.moved hvm, (h k q hq).2.moved hvm⟩
theorem mT.kept {ad : Nat → Nat} {A : Nat → Prop} {U : State} {H H1 : Heap} (h : mT ad A U H) (hq : ∀ a : Nat, a < H.size → ¬ A a → H1[a]? = H[a]?) : mT ad A U H1 := fun k q hk => ⟨(h k q hk).1.kept hq, (h k q hk).2.kept hq⟩
theorem mT.narrow {ad : Nat → Nat} {A B : Nat → Prop} {U : State} {H : Heap} (h : mT ad A U H) (hAB : ∀ q, B q → A q) : mT ad B U H := fun k q hk => ⟨(h k q hk).1.narrow hAB, (h k q hk).2.narrow hAB⟩
/-- a field that is read: by the pool's place ix of the class own; of the class number ci, its kf-th -/
def mFg (own : String) (ix ci kf : Nat) : Prop := ∃ (C : String) (T : u_T) (Nf : Nat), classes[ci]? = some (C, T, Nf) ∧ kf < Nf ∧ (∀ w ∈ u_ws C T Nf, w ∈ mGood) ∧ (Cond.fieldLink own ix (T kf).1 (T kf).2.1 (T kf).2.2.1 ∈ mGood ∨ ∃ host : String, Cond.fieldLinkNest own ix (T kf).1 (T kf).2.1 (T kf).2.2.1 host ∈ mNest)
def mFp (own : String) (ix ci kf : Nat) (ty : FieldType) (fin : Bool) : Prop := ∃ (C : String) (T : u_T) (Nf : Nat) (ty0 : Nat → FieldType), classes[ci]? = some (C, T, Nf) ∧ kf < Nf ∧ (∀ w ∈ u_ws C T Nf, w ∈ mGood) ∧ (Cond.fieldLink own ix (T kf).1 (T kf).2.1 (T kf).2.2.1 ∈ mGood ∨ ∃ host : String, Cond.fieldLinkNest own ix (T kf).1 (T kf).2.1 (T kf).2.2.1 host ∈ mNest) ∧ (∀ k, k < Nf → parseFieldDescriptor (T k).2.2.1 = some (ty0 k)) ∧ (∀ a, a < Nf → ∀ b, b < Nf → a ≠ b → (T a).2.1 ≠ (T b).2.1) ∧ (T kf).2.2.2 = fin ∧ ty0 kf = ty ∧ (fin = true → (T kf).1 = own)
/-- a method that may be called -/
def mCw (y : MethodName) (bytes : ByteArray) (maxL : Nat) (ret : Option FieldType) (n : Nat) : Prop := Cond.code y bytes maxL ret ∈ mGood ∧ Cond.initialized y.cls ∈ mGood ∧ (y.cls ≠ "java/lang/invoke/MethodHandle" ∧ y.cls ≠ "java/lang/invoke/VarHandle") ∧ (parseMethodDescriptor y.desc).map (fun d => d.parameters.length) = some n
def mLk (own : String) (ix : Nat) (y : MethodName) : Prop := Cond.methodLink own ix y ∈ mGood ∨ ∃ host : String, Cond.methodLinkNest own ix y host ∈ mNest
def mPre (D : va_G) (kA : FieldType → ClassId) (ad : Nat → Nat) (As : List Value) (h : mH) (sz : Nat) : Array Value → State → Prop := va_Pc (As.map (mv ad)) (fun U => U.heap.size = sz ∧ va_P D classes (mW ad kA h) U.heap ∧ mK D kA U ∧ mT ad (va_A (mW ad kA h) sz) U U.heap ∧ va_D (fun _ => True) (mW ad kA h))
def mPost (A : Nat → Prop) (D : va_G) (kA : FieldType → ClassId) (ad : Nat → Nat) (v : Option Value) (h : mH) : Array Value → State → Outcome → State → Prop := fun _ st oc t => oc = .returned (v.map (mv ad)) ∧ va_P D classes (mW ad kA h) t.heap ∧ va_D A (mW ad kA h) ∧ va_F A st t
/-- THE CONTRACT: from the cells h, called with As, it answers v, and the cells are h' -/
def mMet (l : Launch) (y : MethodName) (bytes : ByteArray) (maxL : Nat) (ret : Option FieldType) (rm : Room) (As : List Value) (h : mH) (v : Option Value) (h' : mH) : Prop := ∀ (D : va_G) (kA : FieldType → ClassId) (ad : Nat → Nat) (sz : Nat), Met l y (Cond.code y bytes maxL ret :: mGood) rm (mPre D kA ad As h sz) (mPost (va_A (mW ad kA h) sz) D kA ad v h') 0 0 (va_A (mW ad kA h) sz)
/-- the end of a body: what it owes -/
def mEnd (X : mX) (ad : Nat → Nat) (ret : Option FieldType) (v : Option Value) (h : mH) : Prop := match X with
  | (_, _, _, _, s, _, args, below, meth, _, Q, A, D, kA, _) => Q = MQ below (mPost A D kA ad v h) args s 0 0 A ∧ meth.sig.returnType = ret
theorem ml_args (ad : Nat → Nat) (As : List Value) : ∀ i : Nat, ml ad (lv_args i As) = lv_args i (As.map (mv ad)) := by
  induction As with
  | nil => intro i; rfl
  | cons v vs ih =>
    intro i
    simp only [lv_args, List.map_cons, mv_cat]
    rw [← ih]
    rfl
theorem lg_len (ad : Nat → Nat) (As : List Value) : (lg_sl (As.map (mv ad))).length = (lg_sl As).length := by
  induction As with
  | nil => rfl
  | cons v vs ih =>
    simp only [lg_sl, List.map_cons, List.flatMap_cons, List.length_append, mv_cat] at ih ⊢
    rw [ih]
    split <;> rfl
theorem mMet_of {ln : Launch} {y : MethodName} {bytes : ByteArray} {maxL : Nat} {ret : Option FieldType} {rm : Room} {As : List Value} {h : mH} {v : Option Value} {h' : mH} (hy : plainName y.cls = true) (hlen : (lg_sl As).length ≤ maxL)
    (body : ∀ (X : mX) (ad : Nat → Nat), mO X ad y.cls bytes maxL rm ln → mEnd X ad ret v h' → mAW X ad 0 0 0 (lv_args 0 As) [] h) : mMet ln y bytes maxL ret rm As h v h' := by
  intro D kA ad sz
  refine Met.ofW (cc := bytes) (maxL := maxL) (ret := ret) hy rfl ?_
  intro p e s m args below meth c s₁ B hml hv
  obtain ⟨hargs, hsz, hP, hK, hT, hD0⟩ := hv
  subst hsz
  subst hargs
  have hD := hD0.self (sz := s.heap.size)
  have hts := atoms_spec (ws := Cond.code y bytes maxL ret :: mGood) B.pre
  have hown : s.vm.findClass y.cls = some m.cls := findClass_of_methodNamed B.named
  have hl := lv_entry (As.map (mv ad)) (n := maxL) (by rw [lg_len]; exact hlen)
  have hb := body (p, ln, e, rm, s, m, (As.map (mv ad)).toArray, below, meth, c, MQ below (mPost (va_A (mW ad kA h) s.heap.size) D kA ad v h') (As.map (mv ad)).toArray s 0 0 (va_A (mW ad kA h) s.heap.size), va_A (mW ad kA h) s.heap.size, D, kA, maxL) ad ⟨⟨B.exec, B.bytes, hml, hown, B.notSynchronized, rfl, rfl, rfl⟩, fun w hw => hts w (List.mem_cons_of_mem _ hw), hK, hT, fun q hq => Or.inr hq⟩ ⟨rfl, B.returns⟩
  rw [lg_entry_eq]
  exact hb s.heap [] _ hP hD va_S.rf (by rw [ml_args]; exact hl)
section mRows
variable {X : mX} {ad : Nat → Nat} {own : String} {cc : ByteArray} {N cs ss pc : Nat} {lv lv' : List (Nat × Value)} {st : List Value} {h : mH} {Rm : Room} {ln : Launch}
theorem ax_iconst (O : mO X ad own cc N Rm ln) {n : Int} {v : Int32} (d : decode cc pc = .ok (.iconst n, 1)) (hv : Int32.ofInt n = v) (k : mAW X ad cs ss (pc + 1) lv (.int v :: st) h) : mAW X ad cs ss pc lv (st) h := by
  obtain ⟨p, l, e, R, s, m, args, below, meth, c, Q, A, D, kA, nL⟩ := X
  exact fun H locs ls hP hD hS hl => lv_iconst O.1.1 O.1.2.1 d hv (k H locs ls hP hD hS hl)
theorem ax_bipush (O : mO X ad own cc N Rm ln) {n : Int} {v : Int32} (d : decode cc pc = .ok (.bipush n, 2)) (hv : (Int8.ofInt n).toInt32 = v) (k : mAW X ad cs ss (pc + 2) lv (.int v :: st) h) : mAW X ad cs ss pc lv (st) h := by
  obtain ⟨p, l, e, R, s, m, args, below, meth, c, Q, A, D, kA, nL⟩ := X
  exact fun H locs ls hP hD hS hl => lv_bipush O.1.1 O.1.2.1 d hv (k H locs ls hP hD hS hl)
theorem ax_sipush (O : mO X ad own cc N Rm ln) {n : Int} {v : Int32} (d : decode cc pc = .ok (.sipush n, 3)) (hv : (Int16.ofInt n).toInt32 = v) (k : mAW X ad cs ss (pc + 3) lv (.int v :: st) h) : mAW X ad cs ss pc lv (st) h := by
  obtain ⟨p, l, e, R, s, m, args, below, meth, c, Q, A, D, kA, nL⟩ := X
  exact fun H locs ls hP hD hS hl => lv_sipush O.1.1 O.1.2.1 d hv (k H locs ls hP hD hS hl)
theorem ax_lconst (O : mO X ad own cc N Rm ln) {n : Fin 2} {v : Int64} (d : decode cc pc = .ok (.lconst n, 1)) (hv : Int64.ofNat (n : Nat) = v) (k : mAW X ad cs ss (pc + 1) lv (.long v :: st) h) : mAW X ad cs ss pc lv (st) h := by
  obtain ⟨p, l, e, R, s, m, args, below, meth, c, Q, A, D, kA, nL⟩ := X
  exact fun H locs ls hP hD hS hl => lv_lconst O.1.1 O.1.2.1 d hv (k H locs ls hP hD hS hl)
theorem ax_ldc (O : mO X ad own cc N Rm ln) {ix : Nat} {v : Int32} (d : decode cc pc = .ok (.ldc ix, 2)) (hw : Cond.constant own ix v ∈ mGood) (k : mAW X ad cs ss (pc + 2) lv (.int v :: st) h) : mAW X ad cs ss pc lv (st) h := by
  obtain ⟨p, l, e, R, s, m, args, below, meth, c, Q, A, D, kA, nL⟩ := X
  exact fun H locs ls hP hD hS hl => lv_ldc O.1.1 O.1.2.1 O.1.2.2.2.1 (O.2.1 _ hw) d (k H locs ls hP hD hS hl)
theorem ax_ldc2 (O : mO X ad own cc N Rm ln) {ix : Nat} {v : Int64} (d : decode cc pc = .ok (.ldc2_w ix, 3)) (hw : Cond.constantLong own ix v ∈ mGood) (k : mAW X ad cs ss (pc + 3) lv (.long v :: st) h) : mAW X ad cs ss pc lv (st) h := by
  obtain ⟨p, l, e, R, s, m, args, below, meth, c, Q, A, D, kA, nL⟩ := X
  exact fun H locs ls hP hD hS hl => lv_ldc2 O.1.1 O.1.2.1 O.1.2.2.2.1 (O.2.1 _ hw) d (k H locs ls hP hD hS hl)
theorem ax_iload_n (O : mO X ad own cc N Rm ln) {n : Fin 4} {i : Nat} {x : Int32} (d : decode cc pc = .ok (.iload_n n, 1)) (hi : (n : Nat) = i) (j : Nat) (hj : lv[j]? = some (i, .int x)) (k : mAW X ad cs ss (pc + 1) lv (.int x :: st) h) : mAW X ad cs ss pc lv (st) h := by
  obtain ⟨p, l, e, R, s, m, args, below, meth, c, Q, A, D, kA, nL⟩ := X
  exact fun H locs ls hP hD hS hl => lv_iload_n O.1.1 O.1.2.1 d hi (lv_at hl j (ml_get hj)) (k H locs ls hP hD hS hl)
theorem ax_iload (O : mO X ad own cc N Rm ln) {i : Nat} {x : Int32} (d : decode cc pc = .ok (.iload i, 2)) (j : Nat) (hj : lv[j]? = some (i, .int x)) (k : mAW X ad cs ss (pc + 2) lv (.int x :: st) h) : mAW X ad cs ss pc lv (st) h := by
  obtain ⟨p, l, e, R, s, m, args, below, meth, c, Q, A, D, kA, nL⟩ := X
  exact fun H locs ls hP hD hS hl => lv_iload O.1.1 O.1.2.1 d (lv_at hl j (ml_get hj)) (k H locs ls hP hD hS hl)
theorem ax_lload_n (O : mO X ad own cc N Rm ln) {n : Fin 4} {i : Nat} {x : Int64} (d : decode cc pc = .ok (.lload_n n, 1)) (hi : (n : Nat) = i) (j : Nat) (hj : lv[j]? = some (i, .long x)) (k : mAW X ad cs ss (pc + 1) lv (.long x :: st) h) : mAW X ad cs ss pc lv (st) h := by
  obtain ⟨p, l, e, R, s, m, args, below, meth, c, Q, A, D, kA, nL⟩ := X
  exact fun H locs ls hP hD hS hl => lv_lload_n O.1.1 O.1.2.1 d hi (lv_at hl j (ml_get hj)) (k H locs ls hP hD hS hl)
theorem ax_lload (O : mO X ad own cc N Rm ln) {i : Nat} {x : Int64} (d : decode cc pc = .ok (.lload i, 2)) (j : Nat) (hj : lv[j]? = some (i, .long x)) (k : mAW X ad cs ss (pc + 2) lv (.long x :: st) h) : mAW X ad cs ss pc lv (st) h := by
  obtain ⟨p, l, e, R, s, m, args, below, meth, c, Q, A, D, kA, nL⟩ := X
  exact fun H locs ls hP hD hS hl => lv_lload O.1.1 O.1.2.1 d (lv_at hl j (ml_get hj)) (k H locs ls hP hD hS hl)
theorem ax_aload_n (O : mO X ad own cc N Rm ln) {n : Fin 4} {i : Nat} {x : Nat} (d : decode cc pc = .ok (.aload_n n, 1)) (hi : (n : Nat) = i) (j : Nat) (hj : lv[j]? = some (i, .ref x)) (k : mAW X ad cs ss (pc + 1) lv (.ref x :: st) h) : mAW X ad cs ss pc lv (st) h := by
  obtain ⟨p, l, e, R, s, m, args, below, meth, c, Q, A, D, kA, nL⟩ := X
  exact fun H locs ls hP hD hS hl => lv_aload_n O.1.1 O.1.2.1 d hi (lv_at hl j (ml_get hj)) (k H locs ls hP hD hS hl)
theorem ax_aload (O : mO X ad own cc N Rm ln) {i : Nat} {x : Nat} (d : decode cc pc = .ok (.aload i, 2)) (j : Nat) (hj : lv[j]? = some (i, .ref x)) (k : mAW X ad cs ss (pc + 2) lv (.ref x :: st) h) : mAW X ad cs ss pc lv (st) h := by
  obtain ⟨p, l, e, R, s, m, args, below, meth, c, Q, A, D, kA, nL⟩ := X
  exact fun H locs ls hP hD hS hl => lv_aload O.1.1 O.1.2.1 d (lv_at hl j (ml_get hj)) (k H locs ls hP hD hS hl)
theorem ax_istore_n (O : mO X ad own cc N Rm ln) {n : Fin 4} {i : Nat} {x : Int32} (d : decode cc pc = .ok (.istore_n n, 1)) (hi : (n : Nat) = i) (hn : i < N) (he : (i, .int x) :: lv.filter (fun q => !(q.1 == i) && !(q.1 + 1 == i && q.2.category == 2)) = lv') (k : mAW X ad cs ss (pc + 1) lv' st h) : mAW X ad cs ss pc lv (.int x :: st) h := by
  obtain ⟨p, l, e, R, s, m, args, below, meth, c, Q, A, D, kA, nL⟩ := X
  obtain ⟨O1, O2⟩ := O
  obtain ⟨hx, hb, hm, ho, hk, rfl, hR, hln⟩ := O1
  exact fun H locs ls hP hD hS hl => lv_istore_n hx hb d hi hl hn (ml_st1 he) (fun ls hl => k H locs ls hP hD hS hl)
theorem ax_istore (O : mO X ad own cc N Rm ln) {i : Nat} {x : Int32} (d : decode cc pc = .ok (.istore i, 2))  (hn : i < N) (he : (i, .int x) :: lv.filter (fun q => !(q.1 == i) && !(q.1 + 1 == i && q.2.category == 2)) = lv') (k : mAW X ad cs ss (pc + 2) lv' st h) : mAW X ad cs ss pc lv (.int x :: st) h := by
  obtain ⟨p, l, e, R, s, m, args, below, meth, c, Q, A, D, kA, nL⟩ := X
  obtain ⟨O1, O2⟩ := O
  obtain ⟨hx, hb, hm, ho, hk, rfl, hR, hln⟩ := O1
  exact fun H locs ls hP hD hS hl => lv_istore hx hb d hl hn (ml_st1 he) (fun ls hl => k H locs ls hP hD hS hl)
theorem ax_astore_n (O : mO X ad own cc N Rm ln) {n : Fin 4} {i : Nat} {x : Nat} (d : decode cc pc = .ok (.astore_n n, 1)) (hi : (n : Nat) = i) (hn : i < N) (he : (i, .ref x) :: lv.filter (fun q => !(q.1 == i) && !(q.1 + 1 == i && q.2.category == 2)) = lv') (k : mAW X ad cs ss (pc + 1) lv' st h) : mAW X ad cs ss pc lv (.ref x :: st) h := by
  obtain ⟨p, l, e, R, s, m, args, below, meth, c, Q, A, D, kA, nL⟩ := X
  obtain ⟨O1, O2⟩ := O
  obtain ⟨hx, hb, hm, ho, hk, rfl, hR, hln⟩ := O1
  exact fun H locs ls hP hD hS hl => lv_astore_n hx hb d hi hl hn (ml_st1 he) (fun ls hl => k H locs ls hP hD hS hl)
theorem ax_astore (O : mO X ad own cc N Rm ln) {i : Nat} {x : Nat} (d : decode cc pc = .ok (.astore i, 2))  (hn : i < N) (he : (i, .ref x) :: lv.filter (fun q => !(q.1 == i) && !(q.1 + 1 == i && q.2.category == 2)) = lv') (k : mAW X ad cs ss (pc + 2) lv' st h) : mAW X ad cs ss pc lv (.ref x :: st) h := by
  obtain ⟨p, l, e, R, s, m, args, below, meth, c, Q, A, D, kA, nL⟩ := X
  obtain ⟨O1, O2⟩ := O
  obtain ⟨hx, hb, hm, ho, hk, rfl, hR, hln⟩ := O1
  exact fun H locs ls hP hD hS hl => lv_astore hx hb d hl hn (ml_st1 he) (fun ls hl => k H locs ls hP hD hS hl)
theorem ax_lstore_n (O : mO X ad own cc N Rm ln) {n : Fin 4} {i : Nat} {x : Int64} (d : decode cc pc = .ok (.lstore_n n, 1)) (hi : (n : Nat) = i) (hn : i + 1 < N) (he : (i, .long x) :: lv.filter (fun q => !(q.1 == i) && (!(q.1 == i + 1) && !(q.1 + 1 == i && q.2.category == 2))) = lv') (k : mAW X ad cs ss (pc + 1) lv' st h) : mAW X ad cs ss pc lv (.long x :: st) h := by
  obtain ⟨p, l, e, R, s, m, args, below, meth, c, Q, A, D, kA, nL⟩ := X
  obtain ⟨O1, O2⟩ := O
  obtain ⟨hx, hb, hm, ho, hk, rfl, hR, hln⟩ := O1
  exact fun H locs ls hP hD hS hl => lv_lstore_n hx hb d hi hl hn (ml_st2 he) (fun ls hl => k H locs ls hP hD hS hl)
theorem ax_lstore (O : mO X ad own cc N Rm ln) {i : Nat} {x : Int64} (d : decode cc pc = .ok (.lstore i, 2))  (hn : i + 1 < N) (he : (i, .long x) :: lv.filter (fun q => !(q.1 == i) && (!(q.1 == i + 1) && !(q.1 + 1 == i && q.2.category == 2))) = lv') (k : mAW X ad cs ss (pc + 2) lv' st h) : mAW X ad cs ss pc lv (.long x :: st) h := by
  obtain ⟨p, l, e, R, s, m, args, below, meth, c, Q, A, D, kA, nL⟩ := X
  obtain ⟨O1, O2⟩ := O
  obtain ⟨hx, hb, hm, ho, hk, rfl, hR, hln⟩ := O1
  exact fun H locs ls hP hD hS hl => lv_lstore hx hb d hl hn (ml_st2 he) (fun ls hl => k H locs ls hP hD hS hl)
theorem ax_iinc (O : mO X ad own cc N Rm ln) {i j : Nat} {n : Int} {x v : Int32} (d : decode cc pc = .ok (.iinc i n, 3)) (hj : lv[j]? = some (i, .int x)) (hv : x + Int32.ofInt n = v) (hn : i < N) (he : (i, Value.int v) :: lv.filter (fun q => !(q.1 == i) && !(q.1 + 1 == i && q.2.category == 2)) = lv') (k : mAW X ad cs ss (pc + 3) lv' st h) : mAW X ad cs ss pc lv st h := by
  obtain ⟨p, l, e, R, s, m, args, below, meth, c, Q, A, D, kA, nL⟩ := X
  obtain ⟨O1, O2⟩ := O
  obtain ⟨hx, hb, hm, ho, hk, rfl, hR, hln⟩ := O1
  exact fun H locs ls hP hD hS hl => lv_iinc (k := j) hx hb d hl (ml_get hj) hv hn (ml_st1 (v := .int v) he) (fun ls hl => k H locs ls hP hD hS hl)
theorem ax_iadd (O : mO X ad own cc N Rm ln) {x y : Int32} (d : decode cc pc = .ok (.iadd, 1))  (k : mAW X ad cs ss (pc + 1) lv (.int (x + y) :: st) h) : mAW X ad cs ss pc lv (.int y :: .int x :: st) h := by
  obtain ⟨p, l, e, R, s, m, args, below, meth, c, Q, A, D, kA, nL⟩ := X
  exact fun H locs ls hP hD hS hl => lv_iadd O.1.1 O.1.2.1 d (k H locs ls hP hD hS hl)
theorem ax_isub (O : mO X ad own cc N Rm ln) {x y : Int32} (d : decode cc pc = .ok (.isub, 1))  (k : mAW X ad cs ss (pc + 1) lv (.int (x - y) :: st) h) : mAW X ad cs ss pc lv (.int y :: .int x :: st) h := by
  obtain ⟨p, l, e, R, s, m, args, below, meth, c, Q, A, D, kA, nL⟩ := X
  exact fun H locs ls hP hD hS hl => lv_isub O.1.1 O.1.2.1 d (k H locs ls hP hD hS hl)
theorem ax_imul (O : mO X ad own cc N Rm ln) {x y : Int32} (d : decode cc pc = .ok (.imul, 1))  (k : mAW X ad cs ss (pc + 1) lv (.int (x * y) :: st) h) : mAW X ad cs ss pc lv (.int y :: .int x :: st) h := by
  obtain ⟨p, l, e, R, s, m, args, below, meth, c, Q, A, D, kA, nL⟩ := X
  exact fun H locs ls hP hD hS hl => lv_imul O.1.1 O.1.2.1 d (k H locs ls hP hD hS hl)
theorem ax_iand (O : mO X ad own cc N Rm ln) {x y : Int32} (d : decode cc pc = .ok (.iand, 1))  (k : mAW X ad cs ss (pc + 1) lv (.int (x &&& y) :: st) h) : mAW X ad cs ss pc lv (.int y :: .int x :: st) h := by
  obtain ⟨p, l, e, R, s, m, args, below, meth, c, Q, A, D, kA, nL⟩ := X
  exact fun H locs ls hP hD hS hl => lv_iand O.1.1 O.1.2.1 d (k H locs ls hP hD hS hl)
theorem ax_ior (O : mO X ad own cc N Rm ln) {x y : Int32} (d : decode cc pc = .ok (.ior, 1))  (k : mAW X ad cs ss (pc + 1) lv (.int (x ||| y) :: st) h) : mAW X ad cs ss pc lv (.int y :: .int x :: st) h := by
  obtain ⟨p, l, e, R, s, m, args, below, meth, c, Q, A, D, kA, nL⟩ := X
  exact fun H locs ls hP hD hS hl => lv_ior O.1.1 O.1.2.1 d (k H locs ls hP hD hS hl)
theorem ax_ixor (O : mO X ad own cc N Rm ln) {x y : Int32} (d : decode cc pc = .ok (.ixor, 1))  (k : mAW X ad cs ss (pc + 1) lv (.int (x ^^^ y) :: st) h) : mAW X ad cs ss pc lv (.int y :: .int x :: st) h := by
  obtain ⟨p, l, e, R, s, m, args, below, meth, c, Q, A, D, kA, nL⟩ := X
  exact fun H locs ls hP hD hS hl => lv_ixor O.1.1 O.1.2.1 d (k H locs ls hP hD hS hl)
theorem ax_ishl (O : mO X ad own cc N Rm ln) {x y : Int32} (d : decode cc pc = .ok (.ishl, 1))  (k : mAW X ad cs ss (pc + 1) lv (.int (x <<< (y &&& 31)) :: st) h) : mAW X ad cs ss pc lv (.int y :: .int x :: st) h := by
  obtain ⟨p, l, e, R, s, m, args, below, meth, c, Q, A, D, kA, nL⟩ := X
  exact fun H locs ls hP hD hS hl => lv_ishl O.1.1 O.1.2.1 d (k H locs ls hP hD hS hl)
theorem ax_ishr (O : mO X ad own cc N Rm ln) {x y : Int32} (d : decode cc pc = .ok (.ishr, 1))  (k : mAW X ad cs ss (pc + 1) lv (.int (x >>> (y &&& 31)) :: st) h) : mAW X ad cs ss pc lv (.int y :: .int x :: st) h := by
  obtain ⟨p, l, e, R, s, m, args, below, meth, c, Q, A, D, kA, nL⟩ := X
  exact fun H locs ls hP hD hS hl => lv_ishr O.1.1 O.1.2.1 d (k H locs ls hP hD hS hl)
theorem ax_idiv (O : mO X ad own cc N Rm ln) {x y : Int32} (d : decode cc pc = .ok (.idiv, 1)) (hne : ¬ y = 0) (k : mAW X ad cs ss (pc + 1) lv (.int (x / y) :: st) h) : mAW X ad cs ss pc lv (.int y :: .int x :: st) h := by
  obtain ⟨p, l, e, R, s, m, args, below, meth, c, Q, A, D, kA, nL⟩ := X
  exact fun H locs ls hP hD hS hl => lv_idiv O.1.1 O.1.2.1 d hne (k H locs ls hP hD hS hl)
theorem ax_irem (O : mO X ad own cc N Rm ln) {x y : Int32} (d : decode cc pc = .ok (.irem, 1)) (hne : ¬ y = 0) (k : mAW X ad cs ss (pc + 1) lv (.int (x - x / y * y) :: st) h) : mAW X ad cs ss pc lv (.int y :: .int x :: st) h := by
  obtain ⟨p, l, e, R, s, m, args, below, meth, c, Q, A, D, kA, nL⟩ := X
  exact fun H locs ls hP hD hS hl => lv_irem O.1.1 O.1.2.1 d hne (k H locs ls hP hD hS hl)
theorem ax_ineg (O : mO X ad own cc N Rm ln) {x : Int32} (d : decode cc pc = .ok (.ineg, 1))  (k : mAW X ad cs ss (pc + 1) lv (.int (-x) :: st) h) : mAW X ad cs ss pc lv (.int x :: st) h := by
  obtain ⟨p, l, e, R, s, m, args, below, meth, c, Q, A, D, kA, nL⟩ := X
  exact fun H locs ls hP hD hS hl => lv_ineg O.1.1 O.1.2.1 d (k H locs ls hP hD hS hl)
theorem ax_iushr (O : mO X ad own cc N Rm ln) {x y : Int32} (d : decode cc pc = .ok (.iushr, 1))  (k : mAW X ad cs ss (pc + 1) lv (.int (x.toUInt32 >>> (y.toUInt32 &&& Int32.toUInt32 31)).toInt32 :: st) h) : mAW X ad cs ss pc lv (.int y :: .int x :: st) h := by
  obtain ⟨p, l, e, R, s, m, args, below, meth, c, Q, A, D, kA, nL⟩ := X
  exact fun H locs ls hP hD hS hl => lv_iushr O.1.1 O.1.2.1 d rfl (k H locs ls hP hD hS hl)
theorem ax_ladd (O : mO X ad own cc N Rm ln) {x y : Int64} (d : decode cc pc = .ok (.ladd, 1))  (k : mAW X ad cs ss (pc + 1) lv (.long (x + y) :: st) h) : mAW X ad cs ss pc lv (.long y :: .long x :: st) h := by
  obtain ⟨p, l, e, R, s, m, args, below, meth, c, Q, A, D, kA, nL⟩ := X
  exact fun H locs ls hP hD hS hl => lv_ladd O.1.1 O.1.2.1 d (k H locs ls hP hD hS hl)
theorem ax_lsub (O : mO X ad own cc N Rm ln) {x y : Int64} (d : decode cc pc = .ok (.lsub, 1))  (k : mAW X ad cs ss (pc + 1) lv (.long (x - y) :: st) h) : mAW X ad cs ss pc lv (.long y :: .long x :: st) h := by
  obtain ⟨p, l, e, R, s, m, args, below, meth, c, Q, A, D, kA, nL⟩ := X
  exact fun H locs ls hP hD hS hl => lv_lsub O.1.1 O.1.2.1 d (k H locs ls hP hD hS hl)
theorem ax_lmul (O : mO X ad own cc N Rm ln) {x y : Int64} (d : decode cc pc = .ok (.lmul, 1))  (k : mAW X ad cs ss (pc + 1) lv (.long (x * y) :: st) h) : mAW X ad cs ss pc lv (.long y :: .long x :: st) h := by
  obtain ⟨p, l, e, R, s, m, args, below, meth, c, Q, A, D, kA, nL⟩ := X
  exact fun H locs ls hP hD hS hl => lv_lmul O.1.1 O.1.2.1 d (k H locs ls hP hD hS hl)
theorem ax_land (O : mO X ad own cc N Rm ln) {x y : Int64} (d : decode cc pc = .ok (.land, 1))  (k : mAW X ad cs ss (pc + 1) lv (.long (x &&& y) :: st) h) : mAW X ad cs ss pc lv (.long y :: .long x :: st) h := by
  obtain ⟨p, l, e, R, s, m, args, below, meth, c, Q, A, D, kA, nL⟩ := X
  exact fun H locs ls hP hD hS hl => lv_land O.1.1 O.1.2.1 d (k H locs ls hP hD hS hl)
theorem ax_lor (O : mO X ad own cc N Rm ln) {x y : Int64} (d : decode cc pc = .ok (.lor, 1))  (k : mAW X ad cs ss (pc + 1) lv (.long (x ||| y) :: st) h) : mAW X ad cs ss pc lv (.long y :: .long x :: st) h := by
  obtain ⟨p, l, e, R, s, m, args, below, meth, c, Q, A, D, kA, nL⟩ := X
  exact fun H locs ls hP hD hS hl => lv_lor O.1.1 O.1.2.1 d (k H locs ls hP hD hS hl)
theorem ax_lxor (O : mO X ad own cc N Rm ln) {x y : Int64} (d : decode cc pc = .ok (.lxor, 1))  (k : mAW X ad cs ss (pc + 1) lv (.long (x ^^^ y) :: st) h) : mAW X ad cs ss pc lv (.long y :: .long x :: st) h := by
  obtain ⟨p, l, e, R, s, m, args, below, meth, c, Q, A, D, kA, nL⟩ := X
  exact fun H locs ls hP hD hS hl => lv_lxor O.1.1 O.1.2.1 d (k H locs ls hP hD hS hl)
theorem ax_ldiv (O : mO X ad own cc N Rm ln) {x y : Int64} (d : decode cc pc = .ok (.ldiv, 1)) (hne : ¬ y = 0) (k : mAW X ad cs ss (pc + 1) lv (.long (x / y) :: st) h) : mAW X ad cs ss pc lv (.long y :: .long x :: st) h := by
  obtain ⟨p, l, e, R, s, m, args, below, meth, c, Q, A, D, kA, nL⟩ := X
  exact fun H locs ls hP hD hS hl => lv_ldiv O.1.1 O.1.2.1 d hne (k H locs ls hP hD hS hl)
theorem ax_lrem (O : mO X ad own cc N Rm ln) {x y : Int64} (d : decode cc pc = .ok (.lrem, 1)) (hne : ¬ y = 0) (k : mAW X ad cs ss (pc + 1) lv (.long (x - x / y * y) :: st) h) : mAW X ad cs ss pc lv (.long y :: .long x :: st) h := by
  obtain ⟨p, l, e, R, s, m, args, below, meth, c, Q, A, D, kA, nL⟩ := X
  exact fun H locs ls hP hD hS hl => lv_lrem O.1.1 O.1.2.1 d hne (k H locs ls hP hD hS hl)
theorem ax_lshr (O : mO X ad own cc N Rm ln) {x : Int64} {y : Int32} (d : decode cc pc = .ok (.lshr, 1))  (k : mAW X ad cs ss (pc + 1) lv (.long (x >>> (y.toInt64 &&& 63)) :: st) h) : mAW X ad cs ss pc lv (.int y :: .long x :: st) h := by
  obtain ⟨p, l, e, R, s, m, args, below, meth, c, Q, A, D, kA, nL⟩ := X
  exact fun H locs ls hP hD hS hl => lv_lshr O.1.1 O.1.2.1 d rfl (k H locs ls hP hD hS hl)
theorem ax_lshl (O : mO X ad own cc N Rm ln) {x : Int64} {y : Int32} (d : decode cc pc = .ok (.lshl, 1))  (k : mAW X ad cs ss (pc + 1) lv (.long (x <<< (y.toInt64 &&& 63)) :: st) h) : mAW X ad cs ss pc lv (.int y :: .long x :: st) h := by
  obtain ⟨p, l, e, R, s, m, args, below, meth, c, Q, A, D, kA, nL⟩ := X
  exact fun H locs ls hP hD hS hl => lv_lshl O.1.1 O.1.2.1 d rfl (k H locs ls hP hD hS hl)
theorem ax_lushr (O : mO X ad own cc N Rm ln) {x : Int64} {y : Int32} (d : decode cc pc = .ok (.lushr, 1))  (k : mAW X ad cs ss (pc + 1) lv (.long (x.toUInt64 >>> (y.toInt64.toUInt64 &&& Int64.toUInt64 63)).toInt64 :: st) h) : mAW X ad cs ss pc lv (.int y :: .long x :: st) h := by
  obtain ⟨p, l, e, R, s, m, args, below, meth, c, Q, A, D, kA, nL⟩ := X
  exact fun H locs ls hP hD hS hl => lv_lushr O.1.1 O.1.2.1 d rfl (k H locs ls hP hD hS hl)
theorem ax_lcmp (O : mO X ad own cc N Rm ln) {x y : Int64} (d : decode cc pc = .ok (.lcmp, 1))  (k : mAW X ad cs ss (pc + 1) lv (.int (lg_cmp x y) :: st) h) : mAW X ad cs ss pc lv (.long y :: .long x :: st) h := by
  obtain ⟨p, l, e, R, s, m, args, below, meth, c, Q, A, D, kA, nL⟩ := X
  exact fun H locs ls hP hD hS hl => W.lcmp O.1.1 O.1.2.1 d (k H locs ls hP hD hS hl)
theorem ax_i2l (O : mO X ad own cc N Rm ln) {x : Int32} (d : decode cc pc = .ok (.i2l, 1))  (k : mAW X ad cs ss (pc + 1) lv (.long x.toInt64 :: st) h) : mAW X ad cs ss pc lv (.int x :: st) h := by
  obtain ⟨p, l, e, R, s, m, args, below, meth, c, Q, A, D, kA, nL⟩ := X
  exact fun H locs ls hP hD hS hl => lv_i2l O.1.1 O.1.2.1 d rfl (k H locs ls hP hD hS hl)
theorem ax_l2i (O : mO X ad own cc N Rm ln) {x : Int64} (d : decode cc pc = .ok (.l2i, 1))  (k : mAW X ad cs ss (pc + 1) lv (.int x.toInt32 :: st) h) : mAW X ad cs ss pc lv (.long x :: st) h := by
  obtain ⟨p, l, e, R, s, m, args, below, meth, c, Q, A, D, kA, nL⟩ := X
  exact fun H locs ls hP hD hS hl => lv_l2i O.1.1 O.1.2.1 d rfl (k H locs ls hP hD hS hl)
theorem ax_i2b (O : mO X ad own cc N Rm ln) {x : Int32} (d : decode cc pc = .ok (.i2b, 1))  (k : mAW X ad cs ss (pc + 1) lv (.int x.toInt8.toInt32 :: st) h) : mAW X ad cs ss pc lv (.int x :: st) h := by
  obtain ⟨p, l, e, R, s, m, args, below, meth, c, Q, A, D, kA, nL⟩ := X
  exact fun H locs ls hP hD hS hl => lv_i2b O.1.1 O.1.2.1 d rfl (k H locs ls hP hD hS hl)
theorem ax_i2c (O : mO X ad own cc N Rm ln) {x : Int32} (d : decode cc pc = .ok (.i2c, 1))  (k : mAW X ad cs ss (pc + 1) lv (.int (x.toUInt32 % 65536).toInt32 :: st) h) : mAW X ad cs ss pc lv (.int x :: st) h := by
  obtain ⟨p, l, e, R, s, m, args, below, meth, c, Q, A, D, kA, nL⟩ := X
  exact fun H locs ls hP hD hS hl => lv_i2c O.1.1 O.1.2.1 d rfl (k H locs ls hP hD hS hl)
theorem ax_dup (O : mO X ad own cc N Rm ln) {v : Value} (d : decode cc pc = .ok (.dup, 1)) (hv : v.category = 1) (k : mAW X ad cs ss (pc + 1) lv (v :: v :: st) h) : mAW X ad cs ss pc lv (v :: st) h := by
  obtain ⟨p, l, e, R, s, m, args, below, meth, c, Q, A, D, kA, nL⟩ := X
  exact fun H locs ls hP hD hS hl => lv_dup O.1.1 O.1.2.1 d ((mv_cat ad v).trans hv) (k H locs ls hP hD hS hl)
theorem ax_pop (O : mO X ad own cc N Rm ln) {v : Value} (d : decode cc pc = .ok (.pop, 1)) (hv : v.category = 1) (k : mAW X ad cs ss (pc + 1) lv (st) h) : mAW X ad cs ss pc lv (v :: st) h := by
  obtain ⟨p, l, e, R, s, m, args, below, meth, c, Q, A, D, kA, nL⟩ := X
  exact fun H locs ls hP hD hS hl => lv_pop O.1.1 O.1.2.1 d ((mv_cat ad v).trans hv) (k H locs ls hP hD hS hl)
theorem ax_pop2 (O : mO X ad own cc N Rm ln) {v : Value} (d : decode cc pc = .ok (.pop2, 1)) (hv : v.category = 2) (k : mAW X ad cs ss (pc + 1) lv (st) h) : mAW X ad cs ss pc lv (v :: st) h := by
  obtain ⟨p, l, e, R, s, m, args, below, meth, c, Q, A, D, kA, nL⟩ := X
  exact fun H locs ls hP hD hS hl => lv_pop2_2 O.1.1 O.1.2.1 d ((mv_cat ad v).trans hv) (k H locs ls hP hD hS hl)
theorem ax_dup_x1 (O : mO X ad own cc N Rm ln) {v w : Value} (d : decode cc pc = .ok (.dup_x1, 1)) (hv : v.category = 1) (hw : w.category = 1) (k : mAW X ad cs ss (pc + 1) lv (v :: w :: v :: st) h) : mAW X ad cs ss pc lv (v :: w :: st) h := by
  obtain ⟨p, l, e, R, s, m, args, below, meth, c, Q, A, D, kA, nL⟩ := X
  exact fun H locs ls hP hD hS hl => lv_dup_x1 O.1.1 O.1.2.1 d ((mv_cat ad v).trans hv) ((mv_cat ad w).trans hw) (k H locs ls hP hD hS hl)
theorem ax_dup_x2 (O : mO X ad own cc N Rm ln) {v w z : Value} (d : decode cc pc = .ok (.dup_x2, 1)) (hv : v.category = 1) (hw : w.category = 1) (hz : z.category = 1) (k : mAW X ad cs ss (pc + 1) lv (v :: w :: z :: v :: st) h) : mAW X ad cs ss pc lv (v :: w :: z :: st) h := by
  obtain ⟨p, l, e, R, s, m, args, below, meth, c, Q, A, D, kA, nL⟩ := X
  exact fun H locs ls hP hD hS hl => lv_dup_x2 O.1.1 O.1.2.1 d ((mv_cat ad v).trans hv) ((mv_cat ad w).trans hw) ((mv_cat ad z).trans hz) (k H locs ls hP hD hS hl)
theorem ax_dup2 (O : mO X ad own cc N Rm ln) {v w : Value} (d : decode cc pc = .ok (.dup2, 1)) (hv : v.category = 1) (hw : w.category = 1) (k : mAW X ad cs ss (pc + 1) lv (v :: w :: v :: w :: st) h) : mAW X ad cs ss pc lv (v :: w :: st) h := by
  obtain ⟨p, l, e, R, s, m, args, below, meth, c, Q, A, D, kA, nL⟩ := X
  exact fun H locs ls hP hD hS hl => lv_dup2_11 O.1.1 O.1.2.1 d ((mv_cat ad v).trans hv) ((mv_cat ad w).trans hw) (k H locs ls hP hD hS hl)
theorem ax_dup2l (O : mO X ad own cc N Rm ln) {v : Value} (d : decode cc pc = .ok (.dup2, 1)) (hv : v.category = 2) (k : mAW X ad cs ss (pc + 1) lv (v :: v :: st) h) : mAW X ad cs ss pc lv (v :: st) h := by
  obtain ⟨p, l, e, R, s, m, args, below, meth, c, Q, A, D, kA, nL⟩ := X
  exact fun H locs ls hP hD hS hl => lv_dup2_2 O.1.1 O.1.2.1 d ((mv_cat ad v).trans hv) (k H locs ls hP hD hS hl)
theorem ax_dup2_x1l (O : mO X ad own cc N Rm ln) {v w : Value} (d : decode cc pc = .ok (.dup2_x1, 1)) (hv : v.category = 2) (hw : w.category = 1) (k : mAW X ad cs ss (pc + 1) lv (v :: w :: v :: st) h) : mAW X ad cs ss pc lv (v :: w :: st) h := by
  obtain ⟨p, l, e, R, s, m, args, below, meth, c, Q, A, D, kA, nL⟩ := X
  exact fun H locs ls hP hD hS hl => lv_dup2_x1_2 O.1.1 O.1.2.1 d ((mv_cat ad v).trans hv) ((mv_cat ad w).trans hw) (k H locs ls hP hD hS hl)
theorem ax_if_eq (O : mO X ad own cc N Rm ln) {x : Int32} {off : Int} {tgt : Nat} (d : decode cc pc = .ok (.ifCond .eq off, 3)) (ht : (pc : Int) + off = (tgt : Int)) (kt : x = 0 → mAW X ad cs ss tgt lv st h) (kf : ¬ x = 0 → mAW X ad cs ss (pc + 3) lv st h) : mAW X ad cs ss pc lv (.int x :: st) h := by
  obtain ⟨p, l, e, R, s, m, args, below, meth, c, Q, A, D, kA, nL⟩ := X
  exact fun H locs ls hP hD hS hl => lv_if_eq O.1.1 O.1.2.1 d ht (fun q => kt q H locs ls hP hD hS hl) (fun q => kf q H locs ls hP hD hS hl)
theorem ax_icmp_eq (O : mO X ad own cc N Rm ln) {x y : Int32} {off : Int} {tgt : Nat} (d : decode cc pc = .ok (.if_icmp .eq off, 3)) (ht : (pc : Int) + off = (tgt : Int)) (kt : x = y → mAW X ad cs ss tgt lv st h) (kf : ¬ x = y → mAW X ad cs ss (pc + 3) lv st h) : mAW X ad cs ss pc lv (.int y :: .int x :: st) h := by
  obtain ⟨p, l, e, R, s, m, args, below, meth, c, Q, A, D, kA, nL⟩ := X
  exact fun H locs ls hP hD hS hl => lv_icmp_eq O.1.1 O.1.2.1 d ht (fun q => kt q H locs ls hP hD hS hl) (fun q => kf q H locs ls hP hD hS hl)
theorem ax_if_ne (O : mO X ad own cc N Rm ln) {x : Int32} {off : Int} {tgt : Nat} (d : decode cc pc = .ok (.ifCond .ne off, 3)) (ht : (pc : Int) + off = (tgt : Int)) (kt : ¬ x = 0 → mAW X ad cs ss tgt lv st h) (kf : x = 0 → mAW X ad cs ss (pc + 3) lv st h) : mAW X ad cs ss pc lv (.int x :: st) h := by
  obtain ⟨p, l, e, R, s, m, args, below, meth, c, Q, A, D, kA, nL⟩ := X
  exact fun H locs ls hP hD hS hl => lv_if_ne O.1.1 O.1.2.1 d ht (fun q => kt q H locs ls hP hD hS hl) (fun q => kf q H locs ls hP hD hS hl)
theorem ax_icmp_ne (O : mO X ad own cc N Rm ln) {x y : Int32} {off : Int} {tgt : Nat} (d : decode cc pc = .ok (.if_icmp .ne off, 3)) (ht : (pc : Int) + off = (tgt : Int)) (kt : ¬ x = y → mAW X ad cs ss tgt lv st h) (kf : x = y → mAW X ad cs ss (pc + 3) lv st h) : mAW X ad cs ss pc lv (.int y :: .int x :: st) h := by
  obtain ⟨p, l, e, R, s, m, args, below, meth, c, Q, A, D, kA, nL⟩ := X
  exact fun H locs ls hP hD hS hl => lv_icmp_ne O.1.1 O.1.2.1 d ht (fun q => kt q H locs ls hP hD hS hl) (fun q => kf q H locs ls hP hD hS hl)
theorem ax_if_lt (O : mO X ad own cc N Rm ln) {x : Int32} {off : Int} {tgt : Nat} (d : decode cc pc = .ok (.ifCond .lt off, 3)) (ht : (pc : Int) + off = (tgt : Int)) (kt : x < 0 → mAW X ad cs ss tgt lv st h) (kf : ¬ x < 0 → mAW X ad cs ss (pc + 3) lv st h) : mAW X ad cs ss pc lv (.int x :: st) h := by
  obtain ⟨p, l, e, R, s, m, args, below, meth, c, Q, A, D, kA, nL⟩ := X
  exact fun H locs ls hP hD hS hl => lv_if_lt O.1.1 O.1.2.1 d ht (fun q => kt q H locs ls hP hD hS hl) (fun q => kf q H locs ls hP hD hS hl)
theorem ax_icmp_lt (O : mO X ad own cc N Rm ln) {x y : Int32} {off : Int} {tgt : Nat} (d : decode cc pc = .ok (.if_icmp .lt off, 3)) (ht : (pc : Int) + off = (tgt : Int)) (kt : x < y → mAW X ad cs ss tgt lv st h) (kf : ¬ x < y → mAW X ad cs ss (pc + 3) lv st h) : mAW X ad cs ss pc lv (.int y :: .int x :: st) h := by
  obtain ⟨p, l, e, R, s, m, args, below, meth, c, Q, A, D, kA, nL⟩ := X
  exact fun H locs ls hP hD hS hl => lv_icmp_lt O.1.1 O.1.2.1 d ht (fun q => kt q H locs ls hP hD hS hl) (fun q => kf q H locs ls hP hD hS hl)
theorem ax_if_ge (O : mO X ad own cc N Rm ln) {x : Int32} {off : Int} {tgt : Nat} (d : decode cc pc = .ok (.ifCond .ge off, 3)) (ht : (pc : Int) + off = (tgt : Int)) (kt : 0 ≤ x → mAW X ad cs ss tgt lv st h) (kf : ¬ 0 ≤ x → mAW X ad cs ss (pc + 3) lv st h) : mAW X ad cs ss pc lv (.int x :: st) h := by
  obtain ⟨p, l, e, R, s, m, args, below, meth, c, Q, A, D, kA, nL⟩ := X
  exact fun H locs ls hP hD hS hl => lv_if_ge O.1.1 O.1.2.1 d ht (fun q => kt q H locs ls hP hD hS hl) (fun q => kf q H locs ls hP hD hS hl)
theorem ax_icmp_ge (O : mO X ad own cc N Rm ln) {x y : Int32} {off : Int} {tgt : Nat} (d : decode cc pc = .ok (.if_icmp .ge off, 3)) (ht : (pc : Int) + off = (tgt : Int)) (kt : y ≤ x → mAW X ad cs ss tgt lv st h) (kf : ¬ y ≤ x → mAW X ad cs ss (pc + 3) lv st h) : mAW X ad cs ss pc lv (.int y :: .int x :: st) h := by
  obtain ⟨p, l, e, R, s, m, args, below, meth, c, Q, A, D, kA, nL⟩ := X
  exact fun H locs ls hP hD hS hl => lv_icmp_ge O.1.1 O.1.2.1 d ht (fun q => kt q H locs ls hP hD hS hl) (fun q => kf q H locs ls hP hD hS hl)
theorem ax_if_gt (O : mO X ad own cc N Rm ln) {x : Int32} {off : Int} {tgt : Nat} (d : decode cc pc = .ok (.ifCond .gt off, 3)) (ht : (pc : Int) + off = (tgt : Int)) (kt : 0 < x → mAW X ad cs ss tgt lv st h) (kf : ¬ 0 < x → mAW X ad cs ss (pc + 3) lv st h) : mAW X ad cs ss pc lv (.int x :: st) h := by
  obtain ⟨p, l, e, R, s, m, args, below, meth, c, Q, A, D, kA, nL⟩ := X
  exact fun H locs ls hP hD hS hl => lv_if_gt O.1.1 O.1.2.1 d ht (fun q => kt q H locs ls hP hD hS hl) (fun q => kf q H locs ls hP hD hS hl)
theorem ax_icmp_gt (O : mO X ad own cc N Rm ln) {x y : Int32} {off : Int} {tgt : Nat} (d : decode cc pc = .ok (.if_icmp .gt off, 3)) (ht : (pc : Int) + off = (tgt : Int)) (kt : y < x → mAW X ad cs ss tgt lv st h) (kf : ¬ y < x → mAW X ad cs ss (pc + 3) lv st h) : mAW X ad cs ss pc lv (.int y :: .int x :: st) h := by
  obtain ⟨p, l, e, R, s, m, args, below, meth, c, Q, A, D, kA, nL⟩ := X
  exact fun H locs ls hP hD hS hl => lv_icmp_gt O.1.1 O.1.2.1 d ht (fun q => kt q H locs ls hP hD hS hl) (fun q => kf q H locs ls hP hD hS hl)
theorem ax_if_le (O : mO X ad own cc N Rm ln) {x : Int32} {off : Int} {tgt : Nat} (d : decode cc pc = .ok (.ifCond .le off, 3)) (ht : (pc : Int) + off = (tgt : Int)) (kt : x ≤ 0 → mAW X ad cs ss tgt lv st h) (kf : ¬ x ≤ 0 → mAW X ad cs ss (pc + 3) lv st h) : mAW X ad cs ss pc lv (.int x :: st) h := by
  obtain ⟨p, l, e, R, s, m, args, below, meth, c, Q, A, D, kA, nL⟩ := X
  exact fun H locs ls hP hD hS hl => lv_if_le O.1.1 O.1.2.1 d ht (fun q => kt q H locs ls hP hD hS hl) (fun q => kf q H locs ls hP hD hS hl)
theorem ax_icmp_le (O : mO X ad own cc N Rm ln) {x y : Int32} {off : Int} {tgt : Nat} (d : decode cc pc = .ok (.if_icmp .le off, 3)) (ht : (pc : Int) + off = (tgt : Int)) (kt : x ≤ y → mAW X ad cs ss tgt lv st h) (kf : ¬ x ≤ y → mAW X ad cs ss (pc + 3) lv st h) : mAW X ad cs ss pc lv (.int y :: .int x :: st) h := by
  obtain ⟨p, l, e, R, s, m, args, below, meth, c, Q, A, D, kA, nL⟩ := X
  exact fun H locs ls hP hD hS hl => lv_icmp_le O.1.1 O.1.2.1 d ht (fun q => kt q H locs ls hP hD hS hl) (fun q => kf q H locs ls hP hD hS hl)
theorem ax_goto (O : mO X ad own cc N Rm ln) {off : Int} {tgt : Nat} (d : decode cc pc = .ok (.goto off, 3)) (ht : (pc : Int) + off = (tgt : Int)) (k : mAW X ad cs ss tgt lv st h) : mAW X ad cs ss pc lv st h := by
  obtain ⟨p, l, e, R, s, m, args, below, meth, c, Q, A, D, kA, nL⟩ := X
  exact fun H locs ls hP hD hS hl => lv_goto O.1.1 O.1.2.1 d ht (k H locs ls hP hD hS hl)
theorem ax_tableOut (O : mO X ad own cc N Rm ln) {dflt lo hi : Int} {offs : Array Int} {len : Nat} {x : Int32} {tgt : Nat} (d : decode cc pc = .ok (.tableswitch dflt lo hi offs, len)) (hq : x.toInt < lo ∨ hi < x.toInt) (ht : (pc : Int) + dflt = (tgt : Int)) (k : mAW X ad cs ss tgt lv st h) : mAW X ad cs ss pc lv (.int x :: st) h := by
  obtain ⟨p, l, e, R, s, m, args, below, meth, c, Q, A, D, kA, nL⟩ := X
  exact fun H locs ls hP hD hS hl => lv_tableOut O.1.1 O.1.2.1 d hq ht (k H locs ls hP hD hS hl)
theorem ax_tableIn (O : mO X ad own cc N Rm ln) {dflt lo hi : Int} {offs : Array Int} {len : Nat} {x : Int32} {off : Int} {tgt : Nat} (d : decode cc pc = .ok (.tableswitch dflt lo hi offs, len)) (h1 : ¬ x.toInt < lo) (h2 : ¬ hi < x.toInt) (ho : offs[(x.toInt - lo).toNat]? = some off) (ht : (pc : Int) + off = (tgt : Int)) (k : mAW X ad cs ss tgt lv st h) : mAW X ad cs ss pc lv (.int x :: st) h := by
  obtain ⟨p, l, e, R, s, m, args, below, meth, c, Q, A, D, kA, nL⟩ := X
  exact fun H locs ls hP hD hS hl => lv_tableIn O.1.1 O.1.2.1 d h1 h2 ho ht (k H locs ls hP hD hS hl)
theorem ax_lookup (O : mO X ad own cc N Rm ln) {dflt : Int} {ps : Array (Int × Int)} {len : Nat} {x : Int32} {off : Int} {tgt : Nat} (d : decode cc pc = .ok (.lookupswitch dflt ps, len)) (hp : (ps.toList.zip (ps.toList.drop 1)).all (fun (a, next) => a.1 < next.1) = true) (ho : Op.lookupswitch.offset ps.toList dflt x.toInt = off) (ht : (pc : Int) + off = (tgt : Int)) (k : mAW X ad cs ss tgt lv st h) : mAW X ad cs ss pc lv (.int x :: st) h := by
  obtain ⟨p, l, e, R, s, m, args, below, meth, c, Q, A, D, kA, nL⟩ := X
  exact fun H locs ls hP hD hS hl => lv_lookup O.1.1 O.1.2.1 d hp ho ht (k H locs ls hP hD hS hl)
theorem ax_sub (ks : List Nat) (he : lv_pick lv ks = lv') (k : mAW X ad cs ss pc lv' st h) : mAW X ad cs ss pc lv st h := by
  obtain ⟨p, l, e, R, s, m, args, below, meth, c, Q, A, D, kA, nL⟩ := X
  exact fun H locs ls hP hD hS hl => k H locs ls hP hD hS (lv_sub hl ks (ml_pick he))
theorem ax_get (O : mO X ad own cc N Rm ln) {ix ci kf i : Nat} (hF : mFg own ix ci kf) {fs : List Value} {v : Value} (hi : h[i]? = some (.inr (ci, fs))) (hv : fs[kf]? = some v) (d : decode cc pc = .ok (.getfield ix, 3)) (k : mAW X ad cs ss (pc + 3) lv (v :: st) h) : mAW X ad cs ss pc lv (.ref i :: st) h := by
  obtain ⟨p, l, e, R, s, m, args, below, meth, c, Q, A, D, kA, nL⟩ := X
  obtain ⟨C, T, Nf, hc, hk, hin, hw⟩ := hF
  intro H locs ls hP hD hS hl
  have hK : va_K D classes [] s := mK0 O.2.2.1
  have hv' : (fs.map (mv ad))[kf]? = some (mv ad v) := by simp [hv]
  rcases hw with hw | ⟨host, hw⟩
  · exact va_get (v := mv ad v) O.1.1 O.1.2.1 O.2.1 hin O.1.2.2.2.1 hK hP i (mW_get hi) hc kf hk (O.2.1 _ hw) (fun _ h => h) hv' d (k H locs ls hP hD hS hl)
  · exact va_getN (v := mv ad v) O.1.1 O.1.2.1 O.2.1 hin O.1.2.2.2.1 hK hP i (mW_get hi) hc kf hk (va_Nw.use rfl (O.2.2.1.2.2 _ hw)) (fun _ h => h) hv' d (k H locs ls hP hD hS hl)
theorem mW_put {ad : Nat → Nat} {kA : FieldType → ClassId} {h h' : mH} {i ci kf : Nat} {fs : List Value} {v : Value} (he : h' = h.set i (.inr (ci, fs.set kf v))) : (mW ad kA h).set i (ad i, .inr (ci, (fs.map (mv ad)).set kf (mv ad v))) = mW ad kA h' := by
  subst he
  rw [← mW_set]
  simp only [me, List.map_set]
theorem ax_put (O : mO X ad own cc N Rm ln) {ix ci kf i : Nat} {ty : FieldType} (hF : mFp own ix ci kf ty false) {fs : List Value} {v : Value} {h' : mH} (hi : h[i]? = some (.inr (ci, fs))) (hlen : kf < fs.length) (he : h' = h.set i (.inr (ci, fs.set kf v))) (hn : narrow ty (mv ad v) = mv ad v) (hfit : fits ty (mv ad v) = true) (d : decode cc pc = .ok (.putfield ix, 3)) (k : mAW X ad cs ss (pc + 3) lv st h') : mAW X ad cs ss pc lv (v :: .ref i :: st) h := by
  obtain ⟨p, l, e, R, s, m, args, below, meth, c, Q, A, D, kA, nL⟩ := X
  obtain ⟨C, T, Nf, ty0, hc, hk, hin, hw, hty, hnm, hfin, hty0, -⟩ := hF
  intro H locs ls hP hD hS hl
  have hK : va_K D classes [] s := mK0 O.2.2.1
  have hl' : kf < (fs.map (mv ad)).length := by simpa using hlen
  have hd : parseFieldDescriptor (T kf).2.2.1 = some ty := by rw [hty kf hk, hty0]
  have he' : (mW ad kA h).set i (ad i, .inr (ci, (fs.map (mv ad)).set kf (mv ad v))) = mW ad kA h' := mW_put he
  rcases hw with hw | ⟨host, hw⟩
  · exact va_put (v := mv ad v) O.1.1 O.1.2.1 O.2.1 hin ty0 hty hnm O.1.2.2.2.1 hK hP hD hS i (mW_get hi) hc kf hk (O.2.1 _ hw) (fun _ h => h) hfin hd hn hfit hl' d (fun H1 locs1 hP1 hD1 hS1 => k H1 locs1 ls (he' ▸ hP1) (he' ▸ hD1) hS1 hl)
  · exact va_putN (v := mv ad v) O.1.1 O.1.2.1 O.2.1 hin ty0 hty hnm O.1.2.2.2.1 hK hP hD hS i (mW_get hi) hc kf hk (va_Nw.use rfl (O.2.2.1.2.2 _ hw)) (fun _ h => h) hfin hd hn hfit hl' d (fun H1 locs1 hP1 hD1 hS1 => k H1 locs1 ls (he' ▸ hP1) (he' ▸ hD1) hS1 hl)
theorem ax_iald (O : mO X ad own cc N Rm ln) {a n : Nat} {f : Nat → Int32} {j v : Int32} (hi : h[a]? = some (.inl (.int, (n, .inl f)))) (hin : vp_in j n) (hv : f j.toNatClampNeg = v) (d : decode cc pc = .ok (.iaload, 1)) (k : mAW X ad cs ss (pc + 1) lv (.int v :: st) h) : mAW X ad cs ss pc lv (.int j :: .ref a :: st) h := by
  obtain ⟨p, l, e, R, s, m, args, below, meth, c, Q, A, D, kA, nL⟩ := X
  subst hv
  exact fun H locs ls hP hD hS hl => va_iald O.1.1 O.1.2.1 (mKt O.2.2.1 (ty := .int) (by decide)) hP a 0 (mW_get hi) rfl hin d (k H locs ls hP hD hS hl)
theorem ax_bald (O : mO X ad own cc N Rm ln) {a n : Nat} {f : Nat → Int32} {j v : Int32} (hi : h[a]? = some (.inl (.byte, (n, .inl f)))) (hin : vp_in j n) (hv : f j.toNatClampNeg = v) (d : decode cc pc = .ok (.baload, 1)) (k : mAW X ad cs ss (pc + 1) lv (.int v :: st) h) : mAW X ad cs ss pc lv (.int j :: .ref a :: st) h := by
  obtain ⟨p, l, e, R, s, m, args, below, meth, c, Q, A, D, kA, nL⟩ := X
  subst hv
  exact fun H locs ls hP hD hS hl => va_bald O.1.1 O.1.2.1 (mKt O.2.2.1 (ty := .byte) (by decide)) hP a 0 (mW_get hi) rfl hin d (k H locs ls hP hD hS hl)
theorem ax_iast (O : mO X ad own cc N Rm ln) {a n : Nat} {f : Nat → Int32} {j x : Int32} {h' : mH} (hi : h[a]? = some (.inl (.int, (n, .inl f)))) (hin : vp_in j n) (he : h' = h.set a (.inl (.int, (n, .inl (upd f j.toNatClampNeg x))))) (d : decode cc pc = .ok (.iastore, 1)) (k : mAW X ad cs ss (pc + 1) lv st h') : mAW X ad cs ss pc lv (.int x :: .int j :: .ref a :: st) h := by
  obtain ⟨p, l, e, R, s, m, args, below, meth, c, Q, A, D, kA, nL⟩ := X
  have he' : (mW ad kA h).set a (ad a, .inl (kA .int, (n, .inl (upd f j.toNatClampNeg x)))) = mW ad kA h' := by rw [he, ← mW_set]; rfl
  exact fun H locs ls hP hD hS hl => va_iast O.1.1 O.1.2.1 (mKt O.2.2.1 (ty := .int) (by decide)) hP hD hS a 0 (mW_get hi) rfl hin d (fun H1 locs1 hP1 hD1 hS1 => k H1 locs1 ls (he' ▸ hP1) (he' ▸ hD1) hS1 hl)
theorem ax_bast (O : mO X ad own cc N Rm ln) {a n : Nat} {f : Nat → Int32} {j x : Int32} {h' : mH} (hi : h[a]? = some (.inl (.byte, (n, .inl f)))) (hin : vp_in j n) (he : h' = h.set a (.inl (.byte, (n, .inl (upd f j.toNatClampNeg x.toInt8.toInt32))))) (d : decode cc pc = .ok (.bastore, 1)) (k : mAW X ad cs ss (pc + 1) lv st h') : mAW X ad cs ss pc lv (.int x :: .int j :: .ref a :: st) h := by
  obtain ⟨p, l, e, R, s, m, args, below, meth, c, Q, A, D, kA, nL⟩ := X
  have he' : (mW ad kA h).set a (ad a, .inl (kA .byte, (n, .inl (upd f j.toNatClampNeg (vp_nar .byte x))))) = mW ad kA h' := by rw [vp_nar_byte, he, ← mW_set]; rfl
  exact fun H locs ls hP hD hS hl => va_bast O.1.1 O.1.2.1 (mKt O.2.2.1 (ty := .byte) (by decide)) hP hD hS a 0 (mW_get hi) rfl hin d (fun H1 locs1 hP1 hD1 hS1 => k H1 locs1 ls (he' ▸ hP1) (he' ▸ hD1) hS1 hl)
theorem ma_len (ad : Nat → Nat) (x : vp_A) : (ma ad x).1 = x.1 := by
  obtain ⟨n, f | f | f | f | f⟩ := x <;> rfl
theorem ax_alen (O : mO X ad own cc N Rm ln) {a : Nat} {ty : FieldType} {x : vp_A} (hty : ty ∈ mTys) {v : Int32} (hi : h[a]? = some (.inl (ty, x))) (hv : nI x.1 = v) (d : decode cc pc = .ok (.arraylength, 1)) (k : mAW X ad cs ss (pc + 1) lv (.int v :: st) h) : mAW X ad cs ss pc lv (.ref a :: st) h := by
  obtain ⟨p, l, e, R, s, m, args, below, meth, c, Q, A, D, kA, nL⟩ := X
  subst hv
  exact fun H locs ls hP hD hS hl => va_alen O.1.1 O.1.2.1 (mKt O.2.2.1 hty) hP a 0 (mW_get hi) rfl (v := nI x.1) (by rw [ma_len]; rfl) d (k H locs ls hP hD hS hl)
theorem ax_aald (O : mO X ad own cc N Rm ln) {a n r : Nat} {C : String} {f : Nat → Option Nat} {j : Int32} (hty : .object C ∈ mTys) (hi : h[a]? = some (.inl (.object C, (n, .inr (.inr (.inr (.inr f))))))) (hin : vp_in j n) (hr : f j.toNatClampNeg = some r) (d : decode cc pc = .ok (.aaload, 1)) (k : mAW X ad cs ss (pc + 1) lv (.ref r :: st) h) : mAW X ad cs ss pc lv (.int j :: .ref a :: st) h := by
  obtain ⟨p, l, e, R, s, m, args, below, meth, c, Q, A, D, kA, nL⟩ := X
  intro H locs ls hP hD hS hl
  refine va_aldq (f := mg ad f) O.1.1 O.1.2.1 (mKt O.2.2.1 hty) hP a 0 (mW_get hi) rfl hin d ?_
  rw [show mg ad f j.toNatClampNeg = some (ad r) by simp [mg, hr]]
  exact k H locs ls hP hD hS hl
/-- a static array's reference is the number 10000 + k -/
theorem ax_gets (O : mO X ad own cc N Rm ln) {ix : Nat} (k : Nat) {q : mSt} (hq : mSta[k]? = some q) (hw : Cond.fieldLink own ix q.1 q.2.1 q.2.2.1 ∈ mGood) (d : decode cc pc = .ok (.getstatic ix, 3)) (kk : mAW X ad cs ss (pc + 3) lv (.ref (10000 + k) :: st) h) : mAW X ad cs ss pc lv st h := by
  obtain ⟨p, l, e, R, s, m, args, below, meth, c, Q, A, D, kA, nL⟩ := X
  exact fun H locs ls hP hD hS hl => va_gets O.1.1 O.1.2.1 (O.2.2.2.1 k q hq).1 hS O.1.2.2.2.1 (O.2.1 _ hw) (fun _ h => h) d (kk H locs ls hP hD hS hl)
theorem ax_sti (O : mO X ad own cc N Rm ln) (k : Nat) {q : mSt} (hq : mSta[k]? = some q) (hty : q.2.2.2.1 = .int) {j v : Int32} (hin : vp_in j q.2.2.2.2.1) (hv : q.2.2.2.2.2 j.toNatClampNeg = v) (d : decode cc pc = .ok (.iaload, 1)) (kk : mAW X ad cs ss (pc + 1) lv (.int v :: st) h) : mAW X ad cs ss pc lv (.int j :: .ref (10000 + k) :: st) h := by
  obtain ⟨p, l, e, R, s, m, args, below, meth, c, Q, A, D, kA, nL⟩ := X
  subst hv
  have hT := (O.2.2.2.1 k q hq).2
  rw [hty] at hT
  exact fun H locs ls hP hD hS hl => va_ti O.1.1 O.1.2.1 hT hS hin rfl d (kk H locs ls hP hD hS hl)
theorem ax_stl (O : mO X ad own cc N Rm ln) (k : Nat) {q : mSt} (hq : mSta[k]? = some q) (d : decode cc pc = .ok (.arraylength, 1)) (kk : mAW X ad cs ss (pc + 1) lv (.int (nI q.2.2.2.2.1) :: st) h) : mAW X ad cs ss pc lv (.ref (10000 + k) :: st) h := by
  obtain ⟨p, l, e, R, s, m, args, below, meth, c, Q, A, D, kA, nL⟩ := X
  exact fun H locs ls hP hD hS hl => va_tlen O.1.1 O.1.2.1 (O.2.2.2.1 k q hq).2 hS rfl d (kk H locs ls hP hD hS hl)
theorem ax_ret (O : mO X ad own cc N Rm ln) {ty : FieldType} {v : Int32} (hE : mEnd X ad (some ty) (some (.int v)) h) (hn : narrow ty (.int v) = .int v) (d : decode cc pc = .ok (.ireturn, 1)) : mAW X ad 0 0 pc lv [.int v] h := by
  obtain ⟨p, l, e, R, s, m, args, below, meth, c, Q, A, D, kA, nL⟩ := X
  obtain ⟨hQ, hr⟩ := hE
  subst hQ
  exact fun H locs ls hP hD hS hl => W.zret O.1.1 O.1.2.1 hr hn (fun t ht hW => ⟨rfl, by rw [ht]; exact hP, hD, hS.F ht⟩) hS.2.2 d O.1.2.2.2.2.1
theorem ax_vret (O : mO X ad own cc N Rm ln) (hE : mEnd X ad none none h) (d : decode cc pc = .ok (.return_, 1)) : mAW X ad 0 0 pc lv [] h := by
  obtain ⟨p, l, e, R, s, m, args, below, meth, c, Q, A, D, kA, nL⟩ := X
  obtain ⟨hQ, hr⟩ := hE
  subst hQ
  exact fun H locs ls hP hD hS hl => W.vret O.1.1 O.1.2.1 hr (fun t ht hW => ⟨rfl, by rw [ht]; exact hP, hD, hS.F ht⟩) hS.2.2 d O.1.2.2.2.2.1
theorem ax_lret (O : mO X ad own cc N Rm ln) {v : Int64} (hE : mEnd X ad (some .long) (some (.long v)) h) (d : decode cc pc = .ok (.lreturn, 1)) : mAW X ad 0 0 pc lv [.long v] h := by
  obtain ⟨p, l, e, R, s, m, args, below, meth, c, Q, A, D, kA, nL⟩ := X
  obtain ⟨hQ, hr⟩ := hE
  subst hQ
  exact fun H locs ls hP hD hS hl => W.lret O.1.1 O.1.2.1 hr (fun t ht hW => ⟨rfl, by rw [ht]; exact hP, hD, hS.F ht⟩) hS.2.2 d O.1.2.2.2.2.1
theorem ax_aret (O : mO X ad own cc N Rm ln) {ty : FieldType} {v : Nat} (hty : (∃ n, ty = .object n) ∨ ∃ t, ty = .array t) (hE : mEnd X ad (some ty) (some (.ref v)) h) (d : decode cc pc = .ok (.areturn, 1)) : mAW X ad 0 0 pc lv [.ref v] h := by
  obtain ⟨p, l, e, R, s, m, args, below, meth, c, Q, A, D, kA, nL⟩ := X
  obtain ⟨hQ, hr⟩ := hE
  subst hQ
  exact fun H locs ls hP hD hS hl => W.aret (v := .ref (ad v)) O.1.1 O.1.2.1 hr hty (Or.inr ⟨_, rfl⟩) (fun t ht hW => ⟨rfl, by rw [ht]; exact hP, hD, hS.F ht⟩) hS.2.2 d O.1.2.2.2.2.1
end mRows
theorem mGoodIn (y : MethodName) (bytes : ByteArray) (maxL : Nat) (ret : Option FieldType) (h : Cond.code y bytes maxL ret ∈ mGood) : GoodIn mGood (Cond.code y bytes maxL ret :: mGood) := by
  intro w hw
  have hm : w ∈ mGood := by
    rcases List.mem_cons.mp hw with e | e
    · rw [e]; exact h
    · exact e
  exact ⟨hm, good_of_word (mGood_good w hm)⟩
theorem mPre_blind {D : va_G} {kA : FieldType → ClassId} {ad : Nat → Nat} {As : List Value} {h : mH} {sz : Nat} : FrameBlind (mPre D kA ad As h sz) := by
  intro a U g mk q
  obtain ⟨q0, q1, qP, qK, qT, qD⟩ := q
  exact ⟨q0, q1, qP, mK.same (u := U) (U := U.calling g mk a) rfl qK, mT.moved (u := U) (U := U.calling g mk a) (Vm.Alike.refl U.vm) qT, qD⟩
section mCalls
variable {X : mX} {ad : Nat → Nat} {own : String} {cc : ByteArray} {N cs ss pc : Nat} {lv lv' : List (Nat × Value)} {h h' : mH} {Rm rm : Room} {ln : Launch} {ix n maxL : Nat} {y : MethodName} {bytes : ByteArray} {ret : Option FieldType} {As rest : List Value} {v : Option Value}
/-- behind a call -/
theorem mAfter {p : Program} {l : Launch} {e : Env} {R : Room} {s : State} {m : MethodId} {args : Array Value} {below : List Frame} {meth : Method} {c : Code} {Q : State → Prop} {A : Nat → Prop} {D : va_G} {kA : FieldType → ClassId} {nL : Nat} {H : Heap} {locs : List Loc} {ls : Array Slot} {st0 : List Value} {a : Array Value}
    (run : va_Run p l e R s m args below meth c H locs cs ss 0 0 (F0 m pc ls st0) (rest.map (mv ad)) (mPost (va_A (mW ad kA h) H.size) D kA ad v h' a) (va_A (mW ad kA h) H.size)) (hF : ∀ q, va_A (mW ad kA h) H.size q → A q) (hS : va_S A s.heap H locs) (hl : lv_has ls nL (ml ad lv))
    (k : mAW (p, l, e, R, s, m, args, below, meth, c, Q, A, D, kA, nL) ad cs ss (pc + 3) lv (v.toList ++ rest) h') : W p l e R s m args below meth c H locs cs ss Q (F0 m pc ls st0) := by
  intro T hT Xs
  obtain ⟨v', st₀, t, T', L, h0, X', hL, e1, e2, ⟨hv, hP', hD', hz, hk⟩, st⟩ := run T hT Xs
  have hv' : v' = v.map (mv ad) := by injection hv
  subst hv'
  rw [h0] at hz hk
  have hS' : va_S A s.heap T'.heap (locs ++ L) := ⟨Nat.le_trans hS.1 (by rw [e1]; exact hz), fun q h1 h2 => by rw [e1, hk q (Nat.lt_of_lt_of_le h1 hS.1) (fun z => h2 (hF q z))]; exact hS.2.1 q h1 h2, fun q hq => by
      rcases List.mem_append.mp hq with h | h
      · exact hS.2.2 q h
      · exact hF _ (hL q h)⟩
  obtain ⟨t2, a1, b1⟩ := k T'.heap (locs ++ L) ls (by rw [e1]; exact hP') (hD'.weaken (fun _ _ _ hq => hF _ hq)) hS' hl T' rfl X'
  refine ⟨t2, st t2 ?_, b1⟩
  have he : (v.toList ++ rest).map (mv ad) = (v.map (mv ad)).toList ++ rest.map (mv ad) := by cases v <;> simp
  rw [← he]
  exact a1
theorem mFree {A : Nat → Prop} {ws : va_W} {H0 H : Heap} {locs : List Loc} (hD : va_D A ws) (hS : va_S A H0 H locs) (hA : ∀ q, H0.size ≤ q → A q) : ∀ q, va_A ws H.size q → A q := by
  intro q hq
  rcases hq with ⟨k, e, hk⟩ | hq
  · exact hD.2 k (q, e) hk
  · exact hA q (Nat.le_trans hS.1 hq)
theorem mPreAt {s : State} {A : Nat → Prop} {D : va_G} {kA : FieldType → ClassId} {H : Heap} {locs : List Loc} (hK : mK D kA s) (hT : mT ad A s s.heap) (hA : ∀ q, s.heap.size ≤ q → A q) (hP : va_P D classes (mW ad kA h) H) (hD : va_D A (mW ad kA h)) (hS : va_S A s.heap H locs) (U : State) (hU : U.heap = H) (hW : s.WarmedH U.vm) : mPre D kA ad As h H.size (As.map (mv ad)).toArray U := by
  refine ⟨rfl, by rw [hU], by rw [hU]; exact hP, hK.moved hW, ?_, hD.weaken (fun _ _ _ _ => trivial)⟩
  rw [hU]
  have h1 : mT ad A s H := hT.kept (fun a ha hn => hS.2.1 a ha hn)
  exact (h1.narrow (mFree hD hS hA)).moved hW.alike
theorem ax_callS (O : mO X ad own cc N Rm ln) (hC : mCw y bytes maxL ret n) (hst : Cond.static y ∈ mGood) (hlk : mLk own ix y) (hM : mMet ln y bytes maxL ret rm As h v h') (hn : As.length = n) (hrm : rm.cells = 0 ∧ rm.slots = 0) (hR : rm.frames + 1 ≤ Rm.frames ∧ 8 + (maxL + 11) + rm.locals ≤ Rm.locals) (hcs : cs ≤ Rm.cells ∧ ss ≤ Rm.slots) (hrs : (rest.map fun v => v.category).sum ≤ 8) (d : decode cc pc = .ok (.invokestatic ix, 3)) (k : mAW X ad cs ss (pc + 3) lv (v.toList ++ rest) h') : mAW X ad cs ss pc lv (As.reverse ++ rest) h := by
  obtain ⟨p, l, e, R, s, m, args, below, meth, c, Q, A, D, kA, nL⟩ := X
  obtain ⟨⟨hx, hb, hml, hown, hlk0, rfl, rfl, rfl⟩, hts, hK, hT, hA⟩ := O
  intro H locs ls hP hD hS hl
  obtain ⟨hc1, hc2, hc3, hc4⟩ := hC
  have hF := mFree hD hS hA
  have hstk : (As.reverse ++ rest).map (mv ad) = (As.map (mv ad)).reverse ++ rest.map (mv ad) := by simp
  have hcat : ((rest.map (mv ad)).map fun v => v.category).sum ≤ 8 := by
    rw [List.map_map, show ((fun v : Value => v.category) ∘ mv ad) = (fun v => v.category) from funext (fun v => mv_cat ad v)]; exact hrs
  rw [hstk]
  rcases hlk with hlk | ⟨host, hlk⟩
  · exact mAfter (va_runS (As := As.map (mv ad)) (rest := rest.map (mv ad)) ⟨hx, hb, hml, hown, hts⟩ (hM D kA ad H.size) ⟨callB_of n hts (mGoodIn y bytes maxL ret hc1) rfl hrm.1 hrm.2 (hts _ hc2) (hts _ hlk) ⟨hc3.1, hc3.2, hc4⟩ hR, hts _ hst⟩ ⟨mPre_blind, fun U hU hW => mPreAt hK hT hA hP hD hS U hU hW⟩ rfl (by rw [List.length_map]; exact hn) hl.1 rfl (lv_room hcat) d ⟨hcs.1, hcs.2⟩) hF hS hl k
  · exact mAfter (va_runSN (As := As.map (mv ad)) (rest := rest.map (mv ad)) ⟨hx, hb, hml, hown, hts⟩ (hM D kA ad H.size) ⟨va_cnB n hts (mGoodIn y bytes maxL ret hc1) rfl hrm.1 hrm.2 (hK.2.2 _ hlk) (hts _ hc2) ⟨hc3.1, hc3.2, hc4⟩ hR, hts _ hst, trivial⟩ ⟨mPre_blind, fun U hU hW => mPreAt hK hT hA hP hD hS U hU hW⟩ rfl (by rw [List.length_map]; exact hn) hl.1 rfl (lv_room hcat) d ⟨hcs.1, hcs.2⟩) hF hS hl k
theorem ax_callV (O : mO X ad own cc N Rm ln) (hC : mCw y bytes maxL ret n) {ci b : Nat} {q : vw_C} {fs : List Value} (hcl : classes[ci]? = some q) (hyc : y.cls = q.1) (hin : Cond.instanceMethod y ∈ mGood) (hse : Cond.selects q.1 y y ∈ mGood) (hlk : mLk own ix y) (hb' : h[b]? = some (.inr (ci, fs))) (hM : mMet ln y bytes maxL ret rm (.ref b :: As) h v h') (hn : As.length = n) (hrm : rm.cells = 0 ∧ rm.slots = 0) (hR : rm.frames + 1 ≤ Rm.frames ∧ 8 + (maxL + 11) + rm.locals ≤ Rm.locals) (hcs : cs ≤ Rm.cells ∧ ss ≤ Rm.slots) (hrs : (rest.map fun v => v.category).sum ≤ 8) (d : decode cc pc = .ok (.invokevirtual ix, 3)) (k : mAW X ad cs ss (pc + 3) lv (v.toList ++ rest) h') : mAW X ad cs ss pc lv (As.reverse ++ .ref b :: rest) h := by
  obtain ⟨p, l, e, R, s, m, args, below, meth, c, Q, A, D, kA, nL⟩ := X
  obtain ⟨⟨hx, hb, hml, hown, hlk0, rfl, rfl, rfl⟩, hts, hK, hT, hA⟩ := O
  intro H locs ls hP hD hS hl
  obtain ⟨hc1, hc2, hc3, hc4⟩ := hC
  have hF := mFree hD hS hA
  have hstk : (As.reverse ++ .ref b :: rest).map (mv ad) = (As.map (mv ad)).reverse ++ .ref (ad b) :: rest.map (mv ad) := by simp [mv]
  have hcat : ((rest.map (mv ad)).map fun v => v.category).sum ≤ 8 := by
    rw [List.map_map, show ((fun v : Value => v.category) ∘ mv ad) = (fun v => v.category) from funext (fun v => mv_cat ad v)]; exact hrs
  rw [hstk]
  have hrecv := va_recv (mK0 hK) hP hcl (mW_get hb')
  rcases hlk with hlk | ⟨host, hlk⟩
  · exact mAfter (va_runV (C := q.1) (As := As.map (mv ad)) (rest := rest.map (mv ad)) ⟨hx, hb, hml, hown, hts⟩ (hM D kA ad H.size) ⟨callB_of n hts (mGoodIn y bytes maxL ret hc1) rfl hrm.1 hrm.2 (hts _ hc2) (hts _ hlk) ⟨hc3.1, hc3.2, hc4⟩ hR, hts _ hin, hts _ hse⟩ ⟨mPre_blind, hrecv, fun U hU hW => mPreAt (As := .ref b :: As) hK hT hA hP hD hS U hU hW⟩ rfl (by rw [List.length_map]; exact hn) hl.1 rfl (lv_room hcat) d ⟨hcs.1, hcs.2⟩) hF hS hl k
  · exact mAfter (va_runVN (C := q.1) (As := As.map (mv ad)) (rest := rest.map (mv ad)) ⟨hx, hb, hml, hown, hts⟩ (hM D kA ad H.size) ⟨va_cnB n hts (mGoodIn y bytes maxL ret hc1) rfl hrm.1 hrm.2 (hK.2.2 _ hlk) (hts _ hc2) ⟨hc3.1, hc3.2, hc4⟩ hR, hts _ hin, hts _ hse⟩ ⟨mPre_blind, hrecv, fun U hU hW => mPreAt (As := .ref b :: As) hK hT hA hP hD hS U hU hW⟩ rfl (by rw [List.length_map]; exact hn) hl.1 rfl (lv_room hcat) d ⟨hcs.1, hcs.2⟩) hF hS hl k
end mCalls
noncomputable def mac {α : Type} (h : mH) (ty : FieldType) (a : Nat) (sp : Int32) (b : Nat) (dp n : Int32) (F : mH → Option α) : Option α := match h[a]?, h[b]? with
  | some (.inl (t0, (n0, .inl f))), some (.inl (t1, (n1, .inl g))) => mge (t0 = ty ∧ t1 = ty ∧ ¬ sp < 0 ∧ ¬ dp < 0 ∧ ¬ n < 0 ∧ sp.toNatClampNeg + n.toNatClampNeg ≤ n0 ∧ dp.toNatClampNeg + n.toNatClampNeg ≤ n1 ∧ ∀ i, i < n.toNatClampNeg → fits ty (.int (f (sp.toNatClampNeg + i))) = true) (F (h.set b (.inl (ty, (n1, .inl (va_cpy f g sp.toNatClampNeg dp.toNatClampNeg n.toNatClampNeg))))))
  | _, _ => none
def mCp (h : mH) (ty : FieldType) (a : Nat) (sp : Int32) (b : Nat) (dp n : Int32) (h' : mH) : Prop := ∃ (n0 n1 : Nat) (f g : Nat → Int32), h[a]? = some (.inl (ty, (n0, .inl f))) ∧ h[b]? = some (.inl (ty, (n1, .inl g))) ∧ ¬ sp < 0 ∧ ¬ dp < 0 ∧ ¬ n < 0 ∧ sp.toNatClampNeg + n.toNatClampNeg ≤ n0 ∧ dp.toNatClampNeg + n.toNatClampNeg ≤ n1 ∧ (∀ i, i < n.toNatClampNeg → fits ty (.int (f (sp.toNatClampNeg + i))) = true) ∧ h' = h.set b (.inl (ty, (n1, .inl (va_cpy f g sp.toNatClampNeg dp.toNatClampNeg n.toNatClampNeg))))
theorem mac_some {α : Type} {h : mH} {ty : FieldType} {a b : Nat} {sp dp n : Int32} {F : mH → Option α} {r : α} (hh : mac h ty a sp b dp n F = some r) : ∃ h' : mH, mCp h ty a sp b dp n h' ∧ F h' = some r := by
  unfold mac at hh
  split at hh
  · rename_i t0 n0 f t1 n1 g e1 e2
    obtain ⟨⟨rfl, rfl, q1, q2, q3, q4, q5, q6⟩, hh⟩ := mge_some hh
    exact ⟨_, ⟨n0, n1, f, g, e1, e2, q1, q2, q3, q4, q5, q6, rfl⟩, hh⟩
  · cases hh
section mMore
variable {X : mX} {ad : Nat → Nat} {own : String} {cc : ByteArray} {N cs ss pc : Nat} {lv lv' : List (Nat × Value)} {st : List Value} {h h' : mH} {Rm : Room} {ln : Launch} {ix : Nat}
theorem ax_nmi {x y : Int32} (hy : y = x) (k : mAW X ad cs ss pc lv (.int y :: st) h) : mAW X ad cs ss pc lv (.int x :: st) h := hy ▸ k
theorem ax_nml {x y : Int64} (hy : y = x) (k : mAW X ad cs ss pc lv (.long y :: st) h) : mAW X ad cs ss pc lv (.long x :: st) h := hy ▸ k
theorem mcats (ad : Nat → Nat) (st : List Value) : ((st.map (mv ad)).map fun v => v.category).sum = (st.map fun v => v.category).sum := by
  rw [List.map_map, show ((fun v : Value => v.category) ∘ mv ad) = (fun v => v.category) from funext (fun v => mv_cat ad v)]
theorem ax_mmax (O : mO X ad own cc N Rm ln) (hw : Cond.methodLink own ix Lib.Math.max.name ∈ mGood) (hfr : 1 ≤ Rm.frames ∧ cs ≤ Rm.cells ∧ ss ≤ Rm.slots) (hlo : (st.map fun v => v.category).sum + 13 ≤ Rm.locals) {x y : Int32} (d : decode cc pc = .ok (.invokestatic ix, 3)) (k : mAW X ad cs ss (pc + 3) lv (.int (if x < y then y else x) :: st) h) : mAW X ad cs ss pc lv (.int y :: .int x :: st) h := by
  obtain ⟨p, l, e, R, s, m, args, below, meth, c, Q, A, D, kA, nL⟩ := X
  obtain ⟨⟨hx, hb, hml, hown, hlk0, rfl, rfl, rfl⟩, hts, hK, hT, hA⟩ := O
  exact fun H locs ls hP hD hS hl => va_mmax hx hb (hml.trans hl.1.symm) hown (hts _ hw) (hts _ wmax_1) (hts _ wmath) (hts _ wmax_2) hfr.1 (by rw [mcats]; exact hlo) hfr.2.1 hfr.2.2 d (k H locs ls hP hD hS hl)
theorem ax_mmin (O : mO X ad own cc N Rm ln) (hw : Cond.methodLink own ix Lib.Math.min.name ∈ mGood) (hfr : 1 ≤ Rm.frames ∧ cs ≤ Rm.cells ∧ ss ≤ Rm.slots) (hlo : (st.map fun v => v.category).sum + 13 ≤ Rm.locals) {x y : Int32} (d : decode cc pc = .ok (.invokestatic ix, 3)) (k : mAW X ad cs ss (pc + 3) lv (.int (if y < x then y else x) :: st) h) : mAW X ad cs ss pc lv (.int y :: .int x :: st) h := by
  obtain ⟨p, l, e, R, s, m, args, below, meth, c, Q, A, D, kA, nL⟩ := X
  obtain ⟨⟨hx, hb, hml, hown, hlk0, rfl, rfl, rfl⟩, hts, hK, hT, hA⟩ := O
  exact fun H locs ls hP hD hS hl => va_mmin hx hb (hml.trans hl.1.symm) hown (hts _ hw) (hts _ wmin_1) (hts _ wmath) (hts _ wmin_2) hfr.1 (by rw [mcats]; exact hlo) hfr.2.1 hfr.2.2 d (k H locs ls hP hD hS hl)
theorem ax_mabs (O : mO X ad own cc N Rm ln) (hw : Cond.methodLink own ix Lib.Math.abs.name ∈ mGood) (hfr : 1 ≤ Rm.frames ∧ cs ≤ Rm.cells ∧ ss ≤ Rm.slots) (hlo : (st.map fun v => v.category).sum + 13 ≤ Rm.locals) {x : Int32} (d : decode cc pc = .ok (.invokestatic ix, 3)) (k : mAW X ad cs ss (pc + 3) lv (.int (if 0 ≤ x then x else 0 - x) :: st) h) : mAW X ad cs ss pc lv (.int x :: st) h := by
  obtain ⟨p, l, e, R, s, m, args, below, meth, c, Q, A, D, kA, nL⟩ := X
  obtain ⟨⟨hx, hb, hml, hown, hlk0, rfl, rfl, rfl⟩, hts, hK, hT, hA⟩ := O
  exact fun H locs ls hP hD hS hl => va_mabs hx hb (hml.trans hl.1.symm) hown (hts _ hw) (hts _ wabs_1) (hts _ wmath) (hts _ wabs_2) hfr.1 (by rw [mcats]; exact hlo) hfr.2.1 hfr.2.2 d (k H locs ls hP hD hS hl)
theorem ax_copy (O : mO X ad own cc N Rm ln) (hw : Cond.methodLink own ix arraycopyName ∈ mGood) {ty : FieldType} (hty : ty ∈ mTys ∧ refKind ty = false) (hfr : 1 ≤ Rm.frames) (hlo : (st.map fun v => v.category).sum + (nativeFrameWords "java/lang/System" "arraycopy" 5 + 11) ≤ Rm.locals) {a b : Nat} {sp dp n : Int32} (hc : mCp h ty a sp b dp n h') (d : decode cc pc = .ok (.invokestatic ix, 3)) (k : mAW X ad cs ss (pc + 3) lv st h') : mAW X ad cs ss pc lv (.int n :: .int dp :: .ref b :: .int sp :: .ref a :: st) h := by
  obtain ⟨p, l, e, R, s, m, args, below, meth, c, Q, A, D, kA, nL⟩ := X
  obtain ⟨⟨hx, hb, hml, hown, hlk0, rfl, rfl, rfl⟩, hts, hK, hT, hA⟩ := O
  obtain ⟨n0, n1, f, g, e1, e2, q1, q2, q3, q4, q5, q6, he⟩ := hc
  have he' : (mW ad kA h).set b (ad b, .inl (kA ty, (n1, .inl (va_cpy f g sp.toNatClampNeg dp.toNatClampNeg n.toNatClampNeg)))) = mW ad kA h' := by rw [he, ← mW_set]; rfl
  exact fun H locs ls hP hD hS hl => va_copyi hx hb (hml.trans hl.1.symm) hown (hts _ hw) (hts _ wcopy_1) (hts _ wcopy_2) (hts _ wsystem) (mKt hK hty.1) hP hD hS a b 0 0 (mW_get e1) (mW_get e2) rfl rfl hty.2 q1 q2 q3 q4 q5 q6 hfr (by rw [mcats]; exact hlo) d (fun H1 locs1 hP1 hD1 hS1 => k H1 locs1 ls (he' ▸ hP1) (he' ▸ hD1) hS1 hl)
end mMore
