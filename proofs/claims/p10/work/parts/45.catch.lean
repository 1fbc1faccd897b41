/-! CALLS THAT THROW, AND THE HANDLERS THAT TAKE THEM; methods with handlers -/
def mSeek (e : Env) (s : State) (f : JFrame) (a : Addr) (h : Handler) (vm' : Vm) : Prop := ∀ (Q : Handler → Pre) (E : CtlPost) (d : Bool) (acts : List Action), wp (findHandler f a) Q E e d acts s ↔ Q h d acts (s.setVm vm')
theorem mGoRow {e : Env} {s u : State} {f : JFrame} {a : Addr} {x : ExceptionTableEntry} {t : List ExceptionTableEntry} {k : ClassId} {cell : Cell} {Q : Handler → Pre} {E : CtlPost} {d : Bool} {acts : List Action} (hW : u.WarmedH s.vm) (hl : u.vm.ClassLinks e.platform f.method.cls x.catchType k) (hx : covers x f.pc = true) (h0 : x.catchType ≠ 0) (hcell : s.heap[a]? = some cell) (hobj : ∀ q, cell.vm ≠ .statics q) (hk : ∃ z, u.vm.classes[cell.cls]? = some z) : u.WarmedH (s.vm.noted f.method.cls x.catchType (.cls k)) ∧ (wp (findHandler.go f a (x :: t)) Q E e d acts s ↔ if u.vm.assignable cell.cls k = true then Q (.found x.handlerPc) d acts (s.setVm (s.vm.noted f.method.cls x.catchType (.cls k))) else wp (findHandler.go f a t) Q E e d acts (s.setVm (s.vm.noted f.method.cls x.catchType (.cls k)))) := by
  obtain ⟨dk, _, _, kt, hd, _, _, _, _, hkt, _, hopen⟩ := hl.here
  have hW' := hW.noted hd hopen (State.rightAt_cls hl)
  refine ⟨hW', ?_⟩
  have hl' := hW.classLinks hl
  obtain ⟨z, hz⟩ := hk
  obtain ⟨z', hz', -⟩ := hW'.alike.2.2 _ _ hz
  obtain ⟨kt', hkt', -⟩ := hW'.alike.2.2 _ _ hkt
  obtain ⟨ha, ht⟩ := (resolveClass_links e.toSetting hl').op (op := VmOp.resolveClass f.method.cls x.catchType) rfl
  have hs := VmOp.lands_eq (s := s) ht (by no_record)
  simp only [covers] at hx
  cases hfit : u.vm.assignable cell.cls k <;> simp [findHandler.go, hx, h0, ha, hs, hcell, hobj, hz', hkt', hW'.alike.assignable, hfit, VmOp.dirties, VmOp.acts]
theorem mStepCatch {e : Env} {s : State} {a : Addr} {f : JFrame} {r : List Frame} {pc : Nat} {vm' : Vm} (hfind : mSeek e s f a (.found pc) vm') : (stepThrowing e s a (.java f :: r)).1 = (s.setVm vm').setFrames (.java { f with pc := pc, stack := [.ref a] } :: r) := by
  simp only [stepThrowing, searchFrame, vmDo]
  generalize hr : Sem.go _ e false [] s = res
  obtain ⟨as, rfl, ha⟩ := Sem.eq_ok_of hr (a := Handler.found pc) (s' := s.setVm vm') (acts' := []) (by simp [hfind _ _ _ _])
  rfl
theorem mCaught {tb : Tables} {e : Env} {s target : State} {g : JFrame} {c : Code} {below : List Frame} {a : Addr} (h : At s g.method c below) {pc : Nat} {vm' : Vm} (hfind : mSeek e ((s.setTop g).pushFrame (.throwing a)) g a (.found pc) vm') (hrest : Steps tb e below ((s.setVm vm').setTop { g with pc := pc, stack := [.ref a] }) target) : Steps tb e below ((s.setTop g).pushFrame (.throwing a)) target := by
  obtain ⟨hgo, hw⟩ := h.throwing a
  refine Steps.head hgo hw ?_
  rw [stepThread_throwing (frames_entered h.top _), mStepCatch hfind]
  obtain ⟨g₀, hg⟩ := Option.isSome_iff_exists.mp h.top
  obtain ⟨r, hr⟩ := State.topJava?_eq_some.mp hg
  have hr' : (s.setVm vm').frames = .java g₀ :: r := hr
  rw [State.setTop_of_frames _ hr'] at hrest
  have e1 : (((s.setTop g).pushFrame (.throwing a)).setVm vm').setFrames (.java { g with pc := pc, stack := [.ref a] } :: s.frames.tail) = (s.setVm vm').setFrames (.java { g with pc := pc, stack := [.ref a] } :: r) := by
    rw [State.pushFrame, State.setTop_of_frames _ hr, State.setFrames_setFrames]
    show (State.setFrames (s.setVm vm') _).setFrames _ = _
    rw [State.setFrames_setFrames, hr]
    rfl
  rw [e1]
  exact hrest
section mThrownCall
variable {p : Program} {l : Launch} {e : Env} {R : Room} {s : State} {m : MethodId} {args : Array Value} {below : List Frame} {meth : Method} {c : Code} {T : State} {locs : List Loc} {cells slots : Nat}
/-- the callee throws E: the note lies over the caller's frame, one cell of six slots is new -/
theorem mThrows (X : Stand p l e R s m args below meth c T locs cells slots) {y : MethodName} {ws : List Cond} {rm : Room} {P : Array Value → State → Prop} {E : String} {bytes : ByteArray} {maxL : Nat} {ret : Option FieldType} {len W : Nat} {ig : Instr}
    (hM : MetFree l y (headSpec ws rm) P (fun _ _ _ _ _ => True) (fun _ st o t => mTq E st o t)) (hfr0 : rm.frames + 1 ≤ R.frames) (hlo0 : W + (maxL + 11) + rm.locals ≤ R.locals)
    {g : JFrame} {mk : MethodId} {a : Array Value} (hg : g.method = m) (hsize : g.locals.size = c.maxLocals) (hW : 2 * g.monitorRoom + (g.stack.map fun v => v.category).sum ≤ W) (hdg : decode c.code g.pc = .ok (ig, len)) (hn : T.methodNamed? y = some mk)
    (h1 : (headSpec ws rm).pre.before a T = true) (h2 : (Cond.code y bytes maxL ret).before a T = true) (h3 : (Cond.initialized y.cls).before a T = true) (h4 : cells + rm.cells ≤ R.cells) (h5 : slots + rm.slots ≤ R.slots) (hP : P a (T.calling g mk a)) :
    ∃ (q : Addr) (t T' : State) (L : List Loc), mTq E (T.calling g mk a) (.threw q) t ∧ T'.heap = t.heap ∧ T.WarmedH T'.vm ∧ (∀ z ∈ L, T.heap.size ≤ z.base) ∧ Stand p l e R s m args below meth c T' (locs ++ L) (cells + 1) (slots + 6) ∧ ∀ target, Steps p.tables e below ((T'.setTop g).pushFrame (.throwing q)) target → ∀ acts, Steps p.tables e below (doInvoke e (T.setTop g) acts mk a).1 target := by
  obtain ⟨methY, cY, hmY, hcY, -, hlY, -, -, -, -⟩ := Cond.code_spec hn h2
  obtain ⟨kY, hkY, -⟩ := className_of_methodNamed hn
  have hi := Cond.initialized_spec (findClass_of_methodNamed hn) hkY h3
  have h : At T g.method c below := by rw [hg]; exact X.here
  have happ : (headSpec ws rm).appliesLoose y e.platform (T.calling g mk a) = true := Spec.appliesLoose_calling (g := g) h hdg hn hkY hi (X.room_calling (g := g) (R' := rm) hsize hmY hcY hfr0 (by rw [hlY]; omega) h4 h5) h1
  obtain ⟨g₀, hg0⟩ := Option.isSome_iff_exists.mp h.top
  obtain ⟨r, hr⟩ := State.topJava?_eq_some.mp hg0
  obtain ⟨mid, hmid⟩ := h.above
  have hfr : (T.setTop g).frames = (.java g :: mid) ++ below := by rw [State.frames_setTop' g h.top, hmid]; rfl
  obtain ⟨o, s₂, hsteps, -, hend, hq⟩ := Steps.callFree hM p X.admits X.cas X.clock (acts := []) hfr happ hP trivial
  have hq2 : mTq E (T.calling g mk a) o s₂ := hq
  obtain ⟨⟨q, ce, ho, -⟩, hW2, L, hsame, hL⟩ := hq2
  subst ho
  have hq2' : mTq E (T.calling g mk a) (.threw q) s₂ := hq
  have hf2 : s₂.frames = .throwing q :: (T.setTop g).frames := hend
  have hWT : T.WarmedH s₂.vm := hW2
  obtain ⟨e2, q2, q3, q4, q5, q6⟩ := id hsame
  have e3 : s₂ = ({ (T.calling g mk a).setFrames s₂.frames with heap := s₂.heap, slotsUsed := s₂.slotsUsed } : State).setVm s₂.vm := by
    have : s₂ = ({ s₂ with vm := (T.calling g mk a).vm } : State).setVm s₂.vm := rfl
    rw [e2] at this
    exact this
  have hfe : ((({ T with heap := s₂.heap, slotsUsed := s₂.slotsUsed } : State).setVm s₂.vm).setTop g).frames = (T.setTop g).frames := rfl
  have hs₂ : s₂ = ((({ T with heap := s₂.heap, slotsUsed := s₂.slotsUsed } : State).setVm s₂.vm).setTop g).pushFrame (.throwing q) := by
    have hr' : (({ T with heap := s₂.heap, slotsUsed := s₂.slotsUsed } : State).setVm s₂.vm).frames = .java g₀ :: r := hr
    refine e3.trans ?_
    rw [hf2, State.calling_eq h.top, State.setFrames_setFrames, State.pushFrame, hfe, State.setTop_of_frames _ hr', State.setFrames_setFrames]
    rfl
  have hsame' : T.sameButNew ({ T with heap := s₂.heap, slotsUsed := s₂.slotsUsed } : State) L 1 6 := by
    refine ⟨?_, q2, q3, q4, q5, q6⟩
    obtain ⟨t, ht, -⟩ := State.frames_cons hr
    show ({ T with heap := s₂.heap, slotsUsed := s₂.slotsUsed } : State) = { T.setFrames T.frames with heap := s₂.heap, slotsUsed := s₂.slotsUsed }
    rw [State.setFrames_self ht]
  subst hg
  refine ⟨q, s₂, (({ T with heap := s₂.heap, slotsUsed := s₂.slotsUsed } : State).setVm s₂.vm), L, hq2', rfl, hWT, hL, ⟨X.admits, X.cas, X.clock, X.frames, X.room, X.hears, X.method, X.code, (X.here.setHeapUsed s₂.heap s₂.slotsUsed).setVm hWT.alike, X.tail, State.WarmedH.trans X.warmed hWT, X.limits, X.bytes, X.same.trans (hsame'.setVm s.vm)⟩, fun target hst acts => ?_⟩
  rw [← hs₂] at hst
  rw [doInvoke_state]
  exact hsteps.trans hst
end mThrownCall
def mNcs : List (String × String) := [("java/lang/IllegalArgumentException", "java/lang/IndexOutOfBoundsException"), ("java/lang/IllegalStateException", "java/lang/IllegalArgumentException")]
def mTw (A : Nat → Prop) (U : State) (H : Heap) : Prop := mTx A U H ∧ ∀ q ∈ mNcs, va_Nc q.1 q.2 U
theorem mTw.moved {A : Nat → Prop} {u U : State} {H : Heap} (hW : u.WarmedH U.vm) (h : mTw A u H) : mTw A U H := ⟨h.1.moved hW, fun q hq => (h.2 q hq).moved hW.alike⟩
theorem mTw.same {A : Nat → Prop} {u U : State} {H : Heap} (hv : U.vm = u.vm) (h : mTw A u H) : mTw A U H := ⟨h.1.same hv, fun q hq => (h.2 q hq).moved (by rw [hv]; exact Vm.Alike.refl _)⟩
theorem mTw.kept {A : Nat → Prop} {U : State} {H H1 : Heap} (h : mTw A U H) (hq : ∀ a : Nat, a < H.size → ¬ A a → H1[a]? = H[a]?) : mTw A U H1 := ⟨h.1.kept hq, h.2⟩
theorem mTw.narrow {A B : Nat → Prop} {U : State} {H : Heap} (h : mTw A U H) (hAB : ∀ q, B q → A q) : mTw B U H := ⟨h.1.narrow hAB, h.2⟩
def mPreW (D : va_G) (kA : FieldType → ClassId) (ad : Nat → Nat) (As : List Value) (h : mH) (sz : Nat) : Array Value → State → Prop := va_Pc (As.map (mv ad)) (fun U => U.heap.size = sz ∧ va_P D classes (mW ad kA h) U.heap ∧ mK D kA U ∧ mT ad (va_A (mW ad kA h) sz) U U.heap ∧ mTw (va_A (mW ad kA h) sz) U U.heap ∧ va_D (fun _ => True) (mW ad kA h))
theorem mPreW_blind {D : va_G} {kA : FieldType → ClassId} {ad : Nat → Nat} {As : List Value} {h : mH} {sz : Nat} : FrameBlind (mPreW D kA ad As h sz) := by
  intro a U g mk q
  obtain ⟨q0, q1, qP, qK, qT, qX, qD⟩ := q
  exact ⟨q0, q1, qP, mK.same (u := U) (U := U.calling g mk a) rfl qK, mT.moved (u := U) (U := U.calling g mk a) (Vm.Alike.refl U.vm) qT, mTw.same (u := U) (U := U.calling g mk a) rfl qX, qD⟩
theorem mPreT_blind {D : va_G} {kA : FieldType → ClassId} {ad : Nat → Nat} {As : List Value} {h : mH} {sz : Nat} : FrameBlind (mPreT D kA ad As h sz) := by
  intro a U g mk q
  obtain ⟨q0, q1, qP, qK, qT, qX, qD⟩ := q
  exact ⟨q0, q1, qP, mK.same (u := U) (U := U.calling g mk a) rfl qK, mT.moved (u := U) (U := U.calling g mk a) (Vm.Alike.refl U.vm) qT, mTx.same (u := U) (U := U.calling g mk a) rfl qX, qD⟩
/-- THE CONTRACT of a method with handlers: it answers v, the cells are h'; one cell of six slots may be new -/
def mMetW (l : Launch) (y : MethodName) (bytes : ByteArray) (maxL : Nat) (ret : Option FieldType) (hh : List (Nat × Nat × Nat × Nat)) (rm : Room) (As : List Value) (h : mH) (v : Option Value) (h' : mH) : Prop := ∀ (D : va_G) (kA : FieldType → ClassId) (ad : Nat → Nat) (sz : Nat), Met l y (Cond.codeWith y bytes maxL ret hh :: mGood) rm (mPreW D kA ad As h sz) (mPost (va_A (mW ad kA h) sz) D kA ad v h') 1 6 (va_A (mW ad kA h) sz)
def mEndW (X : mX) (ad : Nat → Nat) (ret : Option FieldType) (v : Option Value) (h : mH) (hh : List (Nat × Nat × Nat × Nat)) : Prop := match X with
  | (_, _, _, _, s, _, args, below, meth, c, Q, A, D, kA, _) => (Q = MQ below (mPost A D kA ad v h) args s 1 6 A ∧ meth.sig.returnType = ret) ∧ c.exceptionTable.toList.map (fun h => (h.startPc, h.endPc, h.handlerPc, h.catchType)) = hh ∧ mTw A s s.heap
theorem mMetW_of {ln : Launch} {y : MethodName} {bytes : ByteArray} {maxL : Nat} {ret : Option FieldType} {hh : List (Nat × Nat × Nat × Nat)} {rm : Room} {As : List Value} {h : mH} {v : Option Value} {h' : mH} (hy : plainName y.cls = true) (hlen : (lg_sl As).length ≤ maxL)
    (body : ∀ (X : mX) (ad : Nat → Nat), mO X ad y.cls bytes maxL rm ln → mEndW X ad ret v h' hh → mAW X ad 0 0 0 (lv_args 0 As) [] h) : mMetW ln y bytes maxL ret hh rm As h v h' := by
  intro D kA ad sz
  refine va_MetW (cc := bytes) (maxL := maxL) (ret := ret) (hh := hh) hy rfl ?_
  intro p e s m args below meth c s₁ B hml hv
  obtain ⟨hargs, hsz, hP, hK, hT, hX, hD0⟩ := hv
  subst hsz
  subst hargs
  have hD := hD0.self (sz := s.heap.size)
  have hts := atoms_spec (ws := Cond.codeWith y bytes maxL ret hh :: mGood) B.pre
  have hown : s.vm.findClass y.cls = some m.cls := findClass_of_methodNamed B.named
  have X₀ : Stand p ln e rm s m (As.map (mv ad)).toArray below meth c s₁ [] 0 0 := Stand.of_body B
  obtain ⟨m9, meth9, c9, hn9, h1, h2, -, -, htab, -, -, -⟩ := Cond.codeWith_spec (hts _ List.mem_cons_self)
  cases B.named.symm.trans hn9
  cases B.method.symm.trans h1
  cases X₀.code.symm.trans h2
  have hl := lv_entry (As.map (mv ad)) (n := maxL) (by rw [lg_len]; exact hlen)
  have hb := body (p, ln, e, rm, s, m, (As.map (mv ad)).toArray, below, meth, c, MQ below (mPost (va_A (mW ad kA h) s.heap.size) D kA ad v h') (As.map (mv ad)).toArray s 1 6 (va_A (mW ad kA h) s.heap.size), va_A (mW ad kA h) s.heap.size, D, kA, maxL) ad ⟨⟨B.exec, B.bytes, hml, hown, B.notSynchronized, rfl, rfl, rfl⟩, fun w hw => hts w (List.mem_cons_of_mem _ hw), hK, hT, fun q hq => Or.inr hq⟩ ⟨⟨rfl, B.returns⟩, htab, hX⟩
  rw [lg_entry_eq]
  exact hb s.heap [] _ hP hD va_S.rf (by rw [ml_args]; exact hl)
/-- where the search for a handler ends: at the first row, or behind one row that it passes -/
def mCat (own E : String) (pc : Nat) (hh : List (Nat × Nat × Nat × Nat)) (ph : Nat) : Prop := (∃ (a z ct : Nat) (tl : List (Nat × Nat × Nat × Nat)), hh = (a, z, ph, ct) :: tl ∧ (a ≤ pc ∧ pc < z ∧ ct ≠ 0) ∧ Cond.classLink own ct E ∈ mGood ∧ E ∈ mExs) ∨ (∃ (a z p0 c0 a1 z1 ct : Nat) (E0 : String) (tl : List (Nat × Nat × Nat × Nat)), hh = (a, z, p0, c0) :: (a1, z1, ph, ct) :: tl ∧ (a ≤ pc ∧ pc < z ∧ c0 ≠ 0) ∧ (a1 ≤ pc ∧ pc < z1 ∧ ct ≠ 0) ∧ Cond.classLink own c0 E0 ∈ mGood ∧ (E, E0) ∈ mNcs ∧ Cond.classLink own ct E ∈ mGood ∧ E ∈ mExs)
section mCatchRow
variable {p : Program} {l : Launch} {e : Env} {R : Room} {s : State} {m : MethodId} {args : Array Value} {below : List Frame} {meth : Method} {c : Code} {T : State} {locs : List Loc} {cells slots : Nat}
theorem mFound (X : Stand p l e R s m args below meth c T locs cells slots) {own E : String} {pc ph : Nat} {hh : List (Nat × Nat × Nat × Nat)} (hown : s.vm.findClass own = some m.cls) (hts : ∀ w ∈ mGood, w.before args s = true) (htab : c.exceptionTable.toList.map (fun h => (h.startPc, h.endPc, h.handlerPc, h.catchType)) = hh) {A : Nat → Prop} (hTw : mTw A s s.heap) (hcat : mCat own E pc hh ph) {g : JFrame} (hg : g.method = m) (hpc : g.pc = pc) {q : Addr} {ce : Cell} (hce : T.heap[q]? = some ce) (hcv : ce.vm = .none) (hcE : s.vm.findClass E = some ce.cls) : ∃ vm' : Vm, s.WarmedH vm' ∧ mSeek e ((T.setTop g).pushFrame (.throwing q)) g q (.found ph) vm' := by
  have hpl : e.platform.magicAccessors = ({} : Platform).magicAccessors := by rw [X.admits.platform]
  have hm' : ((T.setTop g).pushFrame (.throwing q)).vm.method? g.method = some meth := by rw [Stand.throwing_vm, hg]; exact X.method'
  have hcell : ((T.setTop g).pushFrame (.throwing q)).heap[q]? = some ce := by rw [Stand.throwing_heap]; exact hce
  have hobj : ∀ z, ce.vm ≠ .statics z := fun z h => by rw [hcv] at h; cases h
  have hk := Vm.classAt_of_findClass hcE
  have hW0 : s.WarmedH ((T.setTop g).pushFrame (.throwing q)).vm := by rw [Stand.throwing_vm]; exact X.warmed
  generalize (T.setTop g).pushFrame (.throwing q) = S at hm' hcell hW0
  have hEE : E ∈ mExs → ∀ k, s.vm.findClass E = some k → s.vm.assignable ce.cls k = true := by
    intro hE k hk
    obtain ⟨c3, c4, r3, r4, r5⟩ := Cond.castable_spec (args := args) (first := s) (o := none) (idx := []) (hTw.1.1.2 E hE)
    cases r3.symm.trans r4
    cases hcE.symm.trans r3
    cases hk.symm.trans hcE
    exact r5
  rcases hcat with ⟨a, z, ct, tl, h1, ⟨h2, h3, h4⟩, h5, h6⟩ | ⟨a, z, p0, c0, a1, z1, ct, E0, tl, h1, ⟨h2, h3, h4⟩, ⟨h2', h3', h4'⟩, h5, h6, h7, h8⟩
  · rw [h1] at htab
    cases htl : c.exceptionTable.toList with
    | nil => rw [htl] at htab; cases htab
    | cons x t =>
      rw [htl] at htab
      injection htab with hx ht
      injection hx with x1 hx
      injection hx with x2 hx
      injection hx with x3 x4
      obtain ⟨k, hk1, hlk⟩ := Cond.classLink_spec hown (hts _ h5) e.platform hpl
      have hcov : covers x g.pc = true := by simp [covers, x1, x2, hpc, h2, h3]
      refine ⟨S.vm.noted g.method.cls x.catchType (.cls k), (mGoRow (Q := fun _ _ _ _ => True) (E := fun _ _ _ => True) (d := false) (acts := []) (t := []) hW0 (by rw [hg, x4]; exact hlk) hcov (by rw [x4]; exact h4) hcell hobj hk).1, ?_⟩
      intro Q E' d acts
      rw [W.findHandler_eq hm' X.code, htl, (mGoRow hW0 (by rw [hg, x4]; exact hlk) hcov (by rw [x4]; exact h4) hcell hobj hk).2, if_pos (hEE h6 k hk1), x3]
  · rw [h1] at htab
    cases htl : c.exceptionTable.toList with
    | nil => rw [htl] at htab; cases htab
    | cons x t0 =>
      rw [htl] at htab
      injection htab with hx ht
      cases ht0 : t0 with
      | nil => rw [ht0] at ht; cases ht
      | cons y t =>
        rw [ht0] at ht
        injection ht with hy ht
        injection hx with x1 hx
        injection hx with x2 hx
        injection hx with x3 x4
        injection hy with y1 hy
        injection hy with y2 hy
        injection hy with y3 y4
        obtain ⟨k0, hk0, hlk0⟩ := Cond.classLink_spec hown (hts _ h5) e.platform hpl
        obtain ⟨k, hk1, hlk⟩ := Cond.classLink_spec hown (hts _ h7) e.platform hpl
        have hcov0 : covers x g.pc = true := by simp [covers, x1, x2, hpc, h2, h3]
        have hcov : covers y g.pc = true := by simp [covers, y1, y2, hpc, h2', h3']
        have hno : ¬ s.vm.assignable ce.cls k0 = true := by
          obtain ⟨c3, c4, r3, r4, r5⟩ := hTw.2 _ h6
          cases hcE.symm.trans r3
          cases hk0.symm.trans r4
          rw [r5]
          decide
        have hW1 := (mGoRow (Q := fun _ _ _ _ => True) (E := fun _ _ _ => True) (d := false) (acts := []) (t := []) hW0 (by rw [hg, x4]; exact hlk0) hcov0 (by rw [x4]; exact h4) hcell hobj hk).1
        have hcell1 : (S.setVm (S.vm.noted g.method.cls x.catchType (.cls k0))).heap[q]? = some ce := hcell
        refine ⟨(S.vm.noted g.method.cls x.catchType (.cls k0)).noted g.method.cls y.catchType (.cls k), (mGoRow (s := S.setVm (S.vm.noted g.method.cls x.catchType (.cls k0))) (Q := fun _ _ _ _ => True) (E := fun _ _ _ => True) (d := false) (acts := []) (t := []) hW1 (by rw [hg, y4]; exact hlk) hcov (by rw [y4]; exact h4') hcell1 hobj hk).1, ?_⟩
        intro Q E' d acts
        rw [W.findHandler_eq hm' X.code, htl, ht0, (mGoRow hW0 (by rw [hg, x4]; exact hlk0) hcov0 (by rw [x4]; exact h4) hcell hobj hk).2, if_neg hno, (mGoRow (s := S.setVm (S.vm.noted g.method.cls x.catchType (.cls k0))) hW1 (by rw [hg, y4]; exact hlk) hcov (by rw [y4]; exact h4') hcell1 hobj hk).2, if_pos (hEE h8 k hk1), y3]
        exact Iff.rfl
end mCatchRow
/-- a handler's rows: the reference is put away, a number is answered -/
def mHnd (cc : ByteArray) (N ph : Nat) (v : Int32) : Prop := ∃ nv : Int, Int32.ofInt nv = v ∧ ((∃ i : Nat, i < N ∧ decode cc ph = .ok (.astore i, 2) ∧ decode cc (ph + 2) = .ok (.iconst nv, 1) ∧ decode cc (ph + 3) = .ok (.ireturn, 1)) ∨ (∃ i : Fin 4, (i : Nat) < N ∧ decode cc ph = .ok (.astore_n i, 1) ∧ decode cc (ph + 1) = .ok (.iconst nv, 1) ∧ decode cc (ph + 2) = .ok (.ireturn, 1)))
section mCatches
variable {X : mX} {ad : Nat → Nat} {own : String} {cc : ByteArray} {N cs ss pc : Nat} {lv lv' : List (Nat × Value)} {st : List Value} {h h' : mH} {Rm rm : Room} {ln : Launch} {ix n maxL : Nat} {y : MethodName} {bytes : ByteArray} {ret : Option FieldType} {As rest : List Value} {v : Int32} {hh : List (Nat × Nat × Nat × Nat)}
theorem ax_retW (O : mO X ad own cc N Rm ln) (hE : mEndW X ad (some .int) (some (.int v)) h hh) (d : decode cc pc = .ok (.ireturn, 1)) : mAW X ad 1 6 pc lv [.int v] h := by
  obtain ⟨p, l, e, R, s, m, args, below, meth, c, Q, A, D, kA, nL⟩ := X
  obtain ⟨⟨hQ, hr⟩, -, -⟩ := hE
  subst hQ
  exact fun H locs ls hP hD hS hl => W.zret O.1.1 O.1.2.1 hr rfl (fun t ht hW => ⟨rfl, by rw [ht]; exact hP, hD, hS.F ht⟩) hS.2.2 d O.1.2.2.2.2.1
theorem mPreTAt {s : State} {A : Nat → Prop} {D : va_G} {kA : FieldType → ClassId} {H : Heap} {locs : List Loc} (hK : mK D kA s) (hT : mT ad A s s.heap) (hX : mTx A s s.heap) (hA : ∀ q, s.heap.size ≤ q → A q) (hP : va_P D classes (mW ad kA h) H) (hD : va_D A (mW ad kA h)) (hS : va_S A s.heap H locs) (U : State) (hU : U.heap = H) (hW : s.WarmedH U.vm) : mPreT D kA ad As h H.size (As.map (mv ad)).toArray U := by
  have hF := mFree hD hS hA
  refine ⟨rfl, by rw [hU], by rw [hU]; exact hP, hK.moved hW, ?_, ?_, hD.weaken (fun _ _ _ _ => trivial)⟩
  · rw [hU]
    have h1 : mT ad A s H := hT.kept (fun a ha hn => hS.2.1 a ha hn)
    exact (h1.narrow hF).moved hW.alike
  · rw [hU]
    have h1 : mTx A s H := hX.kept (fun a ha hn => hS.2.1 a ha hn)
    exact (h1.narrow hF).moved hW
theorem mPreWAt {s : State} {A : Nat → Prop} {D : va_G} {kA : FieldType → ClassId} {H : Heap} {locs : List Loc} (hK : mK D kA s) (hT : mT ad A s s.heap) (hX : mTw A s s.heap) (hA : ∀ q, s.heap.size ≤ q → A q) (hP : va_P D classes (mW ad kA h) H) (hD : va_D A (mW ad kA h)) (hS : va_S A s.heap H locs) (U : State) (hU : U.heap = H) (hW : s.WarmedH U.vm) : mPreW D kA ad As h H.size (As.map (mv ad)).toArray U := by
  have hF := mFree hD hS hA
  refine ⟨rfl, by rw [hU], by rw [hU]; exact hP, hK.moved hW, ?_, ?_, hD.weaken (fun _ _ _ _ => trivial)⟩
  · rw [hU]
    have h1 : mT ad A s H := hT.kept (fun a ha hn => hS.2.1 a ha hn)
    exact (h1.narrow hF).moved hW.alike
  · rw [hU]
    have h1 : mTw A s H := hX.kept (fun a ha hn => hS.2.1 a ha hn)
    exact (h1.narrow hF).moved hW
set_option maxHeartbeats 4000000 in
theorem ax_catch (O : mO X ad own cc N Rm ln) (hE : mEndW X ad (some .int) (some (.int v)) h hh) (hC : mCw y bytes maxL ret n) {ci b : Nat} {q : vw_C} {fs : List Value} (hcl : classes[ci]? = some q) (hin : Cond.instanceMethod y ∈ mGood) (hse : Cond.selects q.1 y y ∈ mGood) (hlk : Cond.methodLink own ix y ∈ mGood) (hb' : h[b]? = some (.inr (ci, fs))) {E : String} (hM : mMetT ln y bytes maxL ret rm (.ref b :: As) h E) (hn : As.length = n) (hrm : rm.cells = 1 ∧ rm.slots = 6) (hR : rm.frames + 1 ≤ Rm.frames ∧ 8 + (maxL + 11) + rm.locals ≤ Rm.locals) (hcs : 1 ≤ Rm.cells ∧ 6 ≤ Rm.slots) (hrs : (rest.map fun v => v.category).sum ≤ 8) (d : decode cc pc = .ok (.invokevirtual ix, 3)) {ph : Nat} (hcat : mCat own E pc hh ph) (hh0 : mHnd cc N ph v) : mAW X ad 0 0 pc lv (As.reverse ++ .ref b :: rest) h := by
  obtain ⟨p, l, e, R, s, m, args, below, meth, c, Q, A, D, kA, nL⟩ := X
  obtain ⟨⟨hx, hb, hml, hown, hlk0, rfl, rfl, rfl⟩, hts, hK, hT, hA⟩ := O
  obtain ⟨⟨hQ, hr⟩, htab, hTw⟩ := hE
  subst hQ
  intro H locs ls hP hD hS hl
  obtain ⟨hc1, hc2, hc3, hc4⟩ := hC
  have hF := mFree hD hS hA
  have hstk : (As.reverse ++ .ref b :: rest).map (mv ad) = (As.map (mv ad)).reverse ++ .ref (ad b) :: rest.map (mv ad) := by simp [mv]
  have hcat8 : ((rest.map (mv ad)).map fun v => v.category).sum ≤ 8 := by rw [mcats]; exact hrs
  rw [hstk]
  obtain ⟨cellB, hcB, hoB, hclB⟩ := va_recv (mK0 hK) hP hcl (mW_get hb')
  intro T hT0 Xs
  obtain ⟨mk, methM, hnamed, hmethM, hstM, habM⟩ := Cond.instanceMethod_spec (hts _ hin)
  obtain ⟨methM', cM, hmethM', -, -, -, -, -, -, hsigM⟩ := Cond.code_spec hnamed (hts _ hc1)
  cases hmethM.symm.trans hmethM'
  obtain ⟨c2, r2, m2, q1, q2, q3, q4, kP, hkP, hkPi⟩ := Cond.selects_spec (hts _ hse)
  cases hclB.symm.trans q1
  cases (State.methodFound?_of_named hnamed hc3).symm.trans q2
  cases hnamed.symm.trans q3
  have hselP : selectMethod e.platform s.vm cellB.cls mk = .method mk := by rw [Launch.admits_selectMethod Xs.admits]; exact q4
  have hlen : (As.map (mv ad)).length = methM.sig.parameters.length := by
    rw [hsigM] at hc4
    rw [List.length_map, hn]
    exact (Option.some.inj hc4).symm
  obtain ⟨vm₁, X₁, hstep₁⟩ := Xs.invokevirtual hx hown (hts _ hlk) hnamed hmethM hstM hkP hkPi hc3 (a := ad b) (cell := cellB) (by rw [hT0]; exact hcB)
    (fun z h => by rw [h] at hoB; cases hoB) hselP hmethM habM hkP hkPi (g := F0 m pc ls ((As.map (mv ad)).reverse ++ .ref (ad b) :: rest.map (mv ad))) rfl (argsL := As.map (mv ad)) (rest := rest.map (mv ad)) hlen rfl (by rw [hb]; exact d)
  have hpay := pay_in hts (mGoodIn y bytes maxL ret hc1)
  have hU : (T.setVm vm₁).heap = H := hT0
  have hpre := mPreTAt (As := .ref b :: As) hK hT hTw.1 hA hP hD hS (T.setVm vm₁) hU X₁.warmed
  obtain ⟨qa, t, T', L, hq, hh1, hWT, hL, X₂, hgo⟩ := mThrows X₁ (bytes := bytes) (maxL := maxL) (ret := ret) (W := 8) (hM D kA ad H.size) hR.1 hR.2 (g := F0 m pc ls (rest.map (mv ad))) (mk := mk) (a := ((Value.ref b :: As).map (mv ad)).toArray) rfl (hl.1.trans hml.symm) (lv_room hcat8) (by rw [hb]; exact d) (X₁.named hnamed) (atoms_intro fun w hw => hpay w hw _ _ X₁.warmed) (hpay _ List.mem_cons_self _ _ X₁.warmed) (word_at X₁.warmed (good_of_word (mGood_good _ hc2)) (hts _ hc2)) (by rw [hrm.1]; omega) (by rw [hrm.2]; omega) (mPreT_blind _ _ _ _ hpre)
  obtain ⟨⟨qa', ce, ho, hce, hcv, hcE, hqs, hsz, hkeep⟩, -, -⟩ := hq
  cases ho
  have hcE' : s.vm.findClass E = some ce.cls := by rw [← X₁.warmed.alike.findClass]; exact hcE
  obtain ⟨vm', hWv, hseek⟩ := mFound X₂ (g := F0 m pc ls (rest.map (mv ad))) hown hts htab hTw hcat rfl rfl (by rw [hh1]; exact hce) hcv hcE'
  have X₃ := X₂.noted hWv
  have hkk : ∀ z : Nat, z < H.size → T'.heap[z]? = H[z]? := fun z hz => by
    rw [hh1, hkeep z (by rw [show ((T.setVm vm₁).calling (F0 m pc ls (rest.map (mv ad))) mk ((Value.ref b :: As).map (mv ad)).toArray).heap = H from hT0]; exact hz), show ((T.setVm vm₁).calling (F0 m pc ls (rest.map (mv ad))) mk ((Value.ref b :: As).map (mv ad)).toArray).heap = H from hT0]
  have hsz' : H.size ≤ T'.heap.size := by
    rw [hh1]
    rw [show ((T.setVm vm₁).calling (F0 m pc ls (rest.map (mv ad))) mk ((Value.ref b :: As).map (mv ad)).toArray).heap = H from hT0] at hsz
    exact hsz
  have hS' : va_S A s.heap T'.heap (locs ++ L) := ⟨Nat.le_trans hS.1 hsz', fun z h1 h2 => by rw [hkk z (Nat.lt_of_lt_of_le h1 hS.1)]; exact hS.2.1 z h1 h2, fun z hz => by
      rcases List.mem_append.mp hz with h | h
      · exact hS.2.2 z h
      · exact hA _ (Nat.le_trans hS.1 (by have := hL z h; rw [hU] at this; exact this))⟩
  have hP' : va_P D classes (mW ad kA h) T'.heap := hP.kept (fun i z hz => hkk z.1 ((hP i z hz).lt))
  have hfin : W p l e R s m args below meth c T'.heap (locs ++ L) 1 6 (MQ below (mPost A D kA ad (some (.int v)) h) args s 1 6 A) (F0 m ph ls [.ref qa]) := by
    obtain ⟨nv, hv, ⟨i, hi, d1, d2, d3⟩ | ⟨i, hi, d1, d2, d3⟩⟩ := hh0
    · refine lv_astore hx hb d1 hl hi rfl (fun ls hl => ?_)
      refine lv_iconst hx hb d2 hv ?_
      exact W.zret hx hb hr rfl (fun t ht hW => ⟨rfl, by rw [ht]; exact hP', hD, hS'.F ht⟩) hS'.2.2 d3 hlk0
    · refine lv_astore_n hx hb d1 rfl hl hi rfl (fun ls hl => ?_)
      refine lv_iconst hx hb d2 hv ?_
      exact W.zret hx hb hr rfl (fun t ht hW => ⟨rfl, by rw [ht]; exact hP', hD, hS'.F ht⟩) hS'.2.2 d3 hlk0
  obtain ⟨t2, a1, b1⟩ := hfin (T'.setVm vm') rfl (by simpa using X₃)
  exact ⟨t2, hstep₁ _ (hgo _ (mCaught X₂.here hseek a1)), b1⟩
theorem mAfterW {p : Program} {l : Launch} {e : Env} {R : Room} {s : State} {m : MethodId} {args : Array Value} {below : List Frame} {meth : Method} {c : Code} {Q : State → Prop} {A : Nat → Prop} {D : va_G} {kA : FieldType → ClassId} {nL mc ms : Nat} {H : Heap} {locs : List Loc} {ls : Array Slot} {st0 : List Value} {a : Array Value} {v : Option Value}
    (run : va_Run p l e R s m args below meth c H locs cs ss mc ms (F0 m pc ls st0) (rest.map (mv ad)) (mPost (va_A (mW ad kA h) H.size) D kA ad v h' a) (va_A (mW ad kA h) H.size)) (hF : ∀ q, va_A (mW ad kA h) H.size q → A q) (hS : va_S A s.heap H locs) (hl : lv_has ls nL (ml ad lv))
    (k : mAW (p, l, e, R, s, m, args, below, meth, c, Q, A, D, kA, nL) ad (cs + mc) (ss + ms) (pc + 3) lv (v.toList ++ rest) h') : W p l e R s m args below meth c H locs cs ss Q (F0 m pc ls st0) := by
  intro T hT Xs
  obtain ⟨v', st₀, t, T', L, h0, X', hL, e1, e2, ⟨hv, hP', hD', hz, hk⟩, st⟩ := run T hT Xs
  have hv' : v' = v.map (mv ad) := by injection hv
  subst hv'
  rw [h0] at hz hk
  have hS' : va_S A s.heap T'.heap (locs ++ L) := ⟨Nat.le_trans hS.1 (by rw [e1]; exact hz), fun q h1 h2 => by rw [e1, hk q (Nat.lt_of_lt_of_le h1 hS.1) (fun z => h2 (hF q z))]; exact hS.2.1 q h1 h2, fun q hq => by
      rcases List.mem_append.mp hq with h | h
      · exact hS.2.2 q h
      · exact hF _ (hL q h)⟩
  obtain ⟨t2, a1, b1⟩ := k T'.heap (locs ++ L) ls (by rw [e1]; exact hP') (hD'.weaken (fun _ _ _ hq => hF _ hq)) hS' hl T' rfl X'
  refine ⟨t2, st t2 ?_, b1⟩
  have he : (v.toList ++ rest).map (mv ad) = (v.map (mv ad)).toList ++ rest.map (mv ad) := by cases v <;> simp
  rw [← he]
  exact a1
/-- what the law knows of throws, all through -/
def mTX (X : mX) : Prop := match X with
  | (_, _, _, _, s, _, _, _, _, _, _, A, _, _, _) => mTw A s s.heap
def mCwW (y : MethodName) (bytes : ByteArray) (maxL : Nat) (ret : Option FieldType) (hh : List (Nat × Nat × Nat × Nat)) (n : Nat) : Prop := Cond.codeWith y bytes maxL ret hh ∈ mGood ∧ Cond.initialized y.cls ∈ mGood ∧ (y.cls ≠ "java/lang/invoke/MethodHandle" ∧ y.cls ≠ "java/lang/invoke/VarHandle") ∧ (parseMethodDescriptor y.desc).map (fun d => d.parameters.length) = some n
set_option maxHeartbeats 4000000 in
/-- a call of a static method with handlers -/
theorem ax_callW (O : mO X ad own cc N Rm ln) (hTX : mTX X) (hC : mCwW y bytes maxL ret hh n) (hst : Cond.static y ∈ mGood) (hlk : Cond.methodLink own ix y ∈ mGood) {v : Option Value} (hM : mMetW ln y bytes maxL ret hh rm As h v h') (hn : As.length = n) (hrm : rm.cells = 1 ∧ rm.slots = 6) (hR : rm.frames + 1 ≤ Rm.frames ∧ 8 + (maxL + 11) + rm.locals ≤ Rm.locals) (hcs : cs + 1 ≤ Rm.cells ∧ ss + 6 ≤ Rm.slots) (hrs : (rest.map fun v => v.category).sum ≤ 8) (d : decode cc pc = .ok (.invokestatic ix, 3)) (k : mAW X ad (cs + 1) (ss + 6) (pc + 3) lv (v.toList ++ rest) h') : mAW X ad cs ss pc lv (As.reverse ++ rest) h := by
  obtain ⟨p, l, e, R, s, m, args, below, meth, c, Q, A, D, kA, nL⟩ := X
  obtain ⟨⟨hx, hb, hml, hown, hlk0, rfl, rfl, rfl⟩, hts, hK, hT, hA⟩ := O
  intro H locs ls hP hD hS hl
  obtain ⟨hc1, hc2, hc3, hc4⟩ := hC
  have hF := mFree hD hS hA
  have hstk : (As.reverse ++ rest).map (mv ad) = (As.map (mv ad)).reverse ++ rest.map (mv ad) := by simp
  have hcat8 : ((rest.map (mv ad)).map fun v => v.category).sum ≤ 8 := by rw [mcats]; exact hrs
  rw [hstk]
  have hG : GoodIn mGood (Cond.codeWith y bytes maxL ret hh :: mGood) := by
    intro w hw
    have hm : w ∈ mGood := by
      rcases List.mem_cons.mp hw with e | e
      · rw [e]; exact hc1
      · exact e
    exact ⟨hm, good_of_word (mGood_good w hm)⟩
  have hB : Back l R p e below s args y 3 8 (PreOf R 1 6 (mPreW D kA ad As h H.size)) (PostOf (mPost (va_A (mW ad kA h) H.size) D kA ad v h') 1 6 (va_A (mW ad kA h) H.size)) := va_backW (hh := hh) (bytes := bytes) (maxL := maxL) (ret := ret) (hM D kA ad H.size) mPreW_blind hrm.1 hrm.2 hR.1 hR.2 (pay_in hts hG) List.mem_cons_self (fun a' U hW => word_at hW (good_of_word (mGood_good _ hc2)) (hts _ hc2))
  obtain ⟨mk, methM, cM, hnamed, hmethM, -, -, -, -, -, -, hsigM⟩ := Cond.codeWith_spec (hts _ hc1)
  have hlen : ∀ sig, parseMethodDescriptor y.desc = some sig → (As.map (mv ad)).length = sig.parameters.length := by
    intro sig hsg
    rw [hsg] at hc4
    rw [List.length_map, hn]
    exact (Option.some.inj hc4).symm
  refine mAfterW (mc := 1) (ms := 6) (a := (As.map (mv ad)).toArray) ?_ hF hS hl k
  intro T hT0 Xs
  obtain ⟨v', vm₁, ⟨U', l2, c2, s2⟩, hW₁, X', ⟨g', mk', t, L, e1, e2, hq, h1, hL, h2, h3⟩, st⟩ := Xs.staticBack hx hown (hts _ hlk) (hts _ hst) (hts _ hc2) hnamed hmethM hsigM hc3 hB (g := F0 m pc ls ((As.map (mv ad)).reverse ++ rest.map (mv ad))) rfl (hl.1.trans hml.symm) (Steps.refl _) (argsL := As.map (mv ad)) (rest := rest.map (mv ad)) hlen rfl (lv_room hcat8) (by rw [hb]; exact d) (fun vm₁ hW₁ => ⟨hcs.1, hcs.2, mPreWAt hK hT hTX hA hP hD hS (T.setVm vm₁) hT0 hW₁⟩)
  dsimp only [Pt.U, Pt.locs, Pt.cells, Pt.slots] at X' e1 e2 h1 h2 h3 st
  subst h1; subst h2; subst h3
  exact ⟨v', (T.setVm vm₁).calling g' mk' (As.map (mv ad)).toArray, t, U', L, hT0, X', hL, e1, e2, hq, fun target h => st.trans h⟩
theorem ax_last (O : mO X ad own cc N Rm ln) {a k0 : Nat} {f : Nat → Int64} {j : Int32} {x : Int64} (hi : h[a]? = some (.inl (.long, (k0, .inr (.inl f))))) (hin : vp_in j k0) (he : h' = h.set a (.inl (.long, (k0, .inr (.inl (vp_updL f j.toNatClampNeg x)))))) (d : decode cc pc = .ok (.lastore, 1)) (k : mAW X ad cs ss (pc + 1) lv st h') : mAW X ad cs ss pc lv (.long x :: .int j :: .ref a :: st) h := by
  obtain ⟨p, l, e, R, s, m, args, below, meth, c, Q, A, D, kA, nL⟩ := X
  have he' : (mW ad kA h).set a (ad a, .inl (kA .long, (k0, .inr (.inl (vp_updL f j.toNatClampNeg x))))) = mW ad kA h' := by rw [he, ← mW_set]; rfl
  exact fun H locs ls hP hD hS hl => va_last O.1.1 O.1.2.1 (mKt O.2.2.1 (show FieldType.long ∈ mTys by decide)) hP hD hS a 0 (mW_get hi) rfl hin d (fun H1 locs1 hP1 hD1 hS1 => k H1 locs1 ls (he' ▸ hP1) (he' ▸ hD1) hS1 hl)
theorem ax_lald (O : mO X ad own cc N Rm ln) {a k0 : Nat} {f : Nat → Int64} {j : Int32} {w : Int64} (hi : h[a]? = some (.inl (.long, (k0, .inr (.inl f))))) (hin : vp_in j k0) (hv : f j.toNatClampNeg = w) (d : decode cc pc = .ok (.laload, 1)) (k : mAW X ad cs ss (pc + 1) lv (.long w :: st) h) : mAW X ad cs ss pc lv (.int j :: .ref a :: st) h := by
  obtain ⟨p, l, e, R, s, m, args, below, meth, c, Q, A, D, kA, nL⟩ := X
  subst hv
  exact fun H locs ls hP hD hS hl => va_lald O.1.1 O.1.2.1 (mKt O.2.2.1 (show FieldType.long ∈ mTys by decide)) hP a 0 (mW_get hi) rfl hin d (k H locs ls hP hD hS hl)
theorem ax_newl (O : mO X ad own cc N Rm ln) (harr : Cond.arrayClass .long ∈ mGood) {h0 : mH} {n : Int32} {r : Nat} (hn : ¬ n < 0) (hby : n.toNatClampNeg * componentBytes .long ≤ 536870912) (hok : mOkA h0 h (lv.map Prod.snd) st) (er : r = h.length) (eh : h' = h ++ [.inl (.long, (n.toNatClampNeg, .inr (.inl (fun _ => 0))))]) (hrm : cs + 1 ≤ Rm.cells ∧ ss + n.toNatClampNeg ≤ Rm.slots) (d : decode cc pc = .ok (.newarray .long, 2)) (k : ∀ ad', mAg h.length ad ad' → mAW X ad' (cs + 1) (ss + n.toNatClampNeg) (pc + 2) lv (.ref r :: st) h') : mAW X ad cs ss pc lv (.int n :: st) h := by
  obtain ⟨p, l, e, R, s, m, args, below, meth, c, Q, A, D, kA, nL⟩ := X
  obtain ⟨⟨hx, hb, hml, hown, hlk0, rfl, rfl, rfl⟩, hts, hK, hT, hA⟩ := O
  subst er
  subst eh
  intro H locs ls hP hD hS hl
  refine va_newa (atype := .long) (ty := .long) (a0 := (n.toNatClampNeg, .inr (.inl (fun _ => 0)))) hx hb (hts _ harr) rfl (mK0 hK) hP hD hS hA (fun cA => rfl) hn rfl hby hrm.1 hrm.2 d (fun q cA H1 hK1 hP1 hD1 hS1 => ?_)
  have hcA : cA = kA .long := mRA_inj (hK1.2 0 (cA, .long) rfl).2 (hK.2.1 .long (by decide)).2
  subst hcA
  have hag : mAg h.length ad (va_up ad h.length q) := mAg.up hok.2.2.1
  have e1 : mW (va_up ad h.length q) kA (h ++ [.inl (.long, (n.toNatClampNeg, .inr (.inl (fun _ => 0))))]) = mW ad kA h ++ [(q, .inl (kA .long, (n.toNatClampNeg, .inr (.inl (fun _ => 0)))))] := by
    rw [mW_app, mW_ag hag hok.1, va_up_self]
    rfl
  have hk := k _ hag H1 locs ls (by rw [e1]; exact hP1) (by rw [e1]; exact hD1) hS1 (by rw [ml_ag hag hok.lv]; exact hl)
  have e2 : (Value.ref h.length :: st).map (mv (va_up ad h.length q)) = .ref q :: st.map (mv ad) := by
    rw [List.map_cons, ms_ag hag hok.2.2.2.2.all]
    show Value.ref (va_up ad h.length q h.length) :: _ = _
    rw [va_up_self]
  rw [e2] at hk
  exact hk
/-- the script is the number 20000 -/
def mScr (X : mX) (ad : Nat → Nat) (L : Nat) (xs : Nat → Int32) : Prop := match X with
  | (_, _, _, _, s, _, _, _, _, _, _, A, _, _, _) => va_X (ad 20000) L xs s s.heap ∧ ad 20000 < s.heap.size ∧ ¬ A (ad 20000)
theorem mScr_ag {k0 : Nat} {ad' : Nat → Nat} {L : Nat} {xs : Nat → Int32} (hag : mAg k0 ad ad') (hX : mScr X ad L xs) : mScr X ad' L xs := by
  obtain ⟨p, l, e, R, s, m, args, below, meth, c, Q, A, D, kA, nL⟩ := X
  have e0 : ad' 20000 = ad 20000 := hag 20000 (Or.inr (by decide))
  unfold mScr at hX ⊢
  rw [e0]
  exact hX
theorem ax_sld (O : mO X ad own cc N Rm ln) {L : Nat} {xs : Nat → Int32} (hX : mScr X ad L xs) {j w : Int32} (hin : vp_in j L) (hv : xs j.toNatClampNeg = w) (d : decode cc pc = .ok (.iaload, 1)) (k : mAW X ad cs ss (pc + 1) lv (.int w :: st) h) : mAW X ad cs ss pc lv (.int j :: .ref 20000 :: st) h := by
  obtain ⟨p, l, e, R, s, m, args, below, meth, c, Q, A, D, kA, nL⟩ := X
  subst hv
  exact fun H locs ls hP hD hS hl => va_sld O.1.1 O.1.2.1 hX.1 hX.2.1 hX.2.2 hS hin d (k H locs ls hP hD hS hl)
theorem ax_slen (O : mO X ad own cc N Rm ln) {L : Nat} {xs : Nat → Int32} (hX : mScr X ad L xs) (d : decode cc pc = .ok (.arraylength, 1)) (k : mAW X ad cs ss (pc + 1) lv (.int (Int32.ofNat L) :: st) h) : mAW X ad cs ss pc lv (.ref 20000 :: st) h := by
  obtain ⟨p, l, e, R, s, m, args, below, meth, c, Q, A, D, kA, nL⟩ := X
  exact fun H locs ls hP hD hS hl => va_slen O.1.1 O.1.2.1 hX.1 hX.2.1 hX.2.2 hS d (k H locs ls hP hD hS hl)
end mCatches
/-! words for rows of longs -/
def mls {α : Type} (h : mH) (a : Nat) (j : Int32) (x : Int64) (F : mH → Option α) : Option α := match h[a]? with
  | some (.inl (t, (n, .inr (.inl f)))) => if t = .long ∧ ¬ (j < 0 ∨ n ≤ j.toNatClampNeg) then F (h.set a (.inl (.long, (n, .inr (.inl (vp_updL f j.toNatClampNeg x)))))) else none
  | _ => none
def mal {α : Type} (h : mH) (a : Nat) (j : Int32) (F : Int64 → Option α) : Option α := match h[a]? with
  | some (.inl (t, (n, .inr (.inl f)))) => if t = .long ∧ ¬ (j < 0 ∨ n ≤ j.toNatClampNeg) then F (f j.toNatClampNeg) else none
  | _ => none
theorem mls_some {α : Type} {h : mH} {a : Nat} {j : Int32} {x : Int64} {r : α} {F : mH → Option α} (hh : mls h a j x F = some r) : ∃ (n : Nat) (f : Nat → Int64) (h' : mH), h[a]? = some (.inl (.long, (n, .inr (.inl f)))) ∧ vp_in j n ∧ h' = h.set a (.inl (.long, (n, .inr (.inl (vp_updL f j.toNatClampNeg x))))) ∧ F h' = some r := by
  unfold mls at hh
  split at hh
  · rename_i t n f e
    split at hh
    · rename_i hc
      obtain ⟨rfl, hk⟩ := hc
      exact ⟨n, f, _, e, hk, rfl, hh⟩
    · cases hh
  · cases hh
theorem mal_some {α : Type} {h : mH} {a : Nat} {j : Int32} {r : α} {F : Int64 → Option α} (hh : mal h a j F = some r) : ∃ (n : Nat) (f : Nat → Int64) (v : Int64), h[a]? = some (.inl (.long, (n, .inr (.inl f)))) ∧ vp_in j n ∧ f j.toNatClampNeg = v ∧ F v = some r := by
  unfold mal at hh
  split at hh
  · rename_i t n f e
    split at hh
    · rename_i hc
      obtain ⟨rfl, hk⟩ := hc
      exact ⟨n, f, _, e, hk, rfl, hh⟩
    · cases hh
  · cases hh
theorem mls_ev {α : Type} {h : mH} {a n : Nat} {j : Int32} {x : Int64} {f : Nat → Int64} {F : mH → Option α} (hi : h[a]? = some (.inl (.long, (n, .inr (.inl f))))) (hj : vp_in j n) : mls h a j x F = F (h.set a (.inl (.long, (n, .inr (.inl (vp_updL f j.toNatClampNeg x)))))) := by
  have hj' : ¬ (j < 0 ∨ n ≤ j.toNatClampNeg) := hj
  simp only [mls, hi, true_and, hj', not_false_eq_true, if_true]
theorem mal_ev {α : Type} {h : mH} {a n : Nat} {j : Int32} {f : Nat → Int64} {F : Int64 → Option α} (hi : h[a]? = some (.inl (.long, (n, .inr (.inl f))))) (hj : vp_in j n) : mal h a j F = F (f j.toNatClampNeg) := by
  have hj' : ¬ (j < 0 ∨ n ≤ j.toNatClampNeg) := hj
  simp only [mal, hi, true_and, hj', not_false_eq_true, if_true]
