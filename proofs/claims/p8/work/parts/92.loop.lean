/-! THE CLAIM OUT OF ONE WALK OF THE LAW'S BODY. Your part is whole_start (and what it stands on); all else here is the same for every law, but numbers. -/
def R_law : String := "StreamFiltersLaw"
def lw_P (b : Addr) (xs : List Int32) (args : Array Value) (s : State) : Prop := args = #[.ref b] ∧ s.IntsAt b xs ∧ xs.length ≤ 3072 ∧ (Jvm.Cond.and given_1 narrow_1).before args s = true
def lw_Q (_ : Array Value) (s : State) (o : Outcome) (t : State) : Prop := o = .returned (some (.int 1)) ∧ Framed s o t [] 601024 7293034
def lw_Z (below : List Frame) (a : Array Value) (s : State) : State → Prop := fun t => ∃ o, t.status = .running ∧ Ended t below o ∧ lw_Q a s o t
/-- the law's own end, with 1 on the stack, nothing written that was there before, its room as the claim has it -/
theorem lw_ret {p : Program} {l : Launch} {e : Env} {s : State} {m : MethodId} {below : List Frame} {meth : Method} {c : Code} {b : Nat} (hx : p.tables.exec = Jvm.exec) (hb : c.code = code) (hr : meth.sig.returnType = ret) (hlocks : meth.locks = false) {pc : Nat} {H : Heap} {ls : Array Slot} (hdg : decode code pc = .ok (.ireturn, 1)) : W p l e room_1 s m #[Value.ref b] below meth c H [] 601024 7293034 (lw_Z below #[Value.ref b] s) (F0 m pc ls [.int 1]) := by
  intro T hT X
  obtain ⟨fs, hret, hrun, hended, hW, hframe⟩ := X.leave (v := some (.int 1)) (hlocks := hlocks) (fun h => by rw [hr] at h; cases h)
  have hmeth' : T.vm.method? m = some meth := X.method'
  refine ⟨T.setFrames fs, ?_, .returned (some (.int 1)), hrun, hended, rfl, ⟨_, rfl⟩, hW, hframe⟩
  jvm_step X.here [X.here.top, hx, hb, hdg, hmeth', hr, ret, narrow_b1]
  (try refine ⟨rfl, ?_⟩); (try refine ⟨rfl, ?_⟩)
  first | (intro acts; rw [hret _ acts rfl rfl rfl]) | rw [hret _ _ rfl rfl rfl]
  exact Steps.refl _
/-- what holds at the law's entry: the machine, the code, the tables' words (any of lw_tbl by 'hts w (by decide +kernel)'), the script of L ints xs at the cell b, what the Statement gives of the start (any of its parts by flat_of_before) -/
def lw_At (p : Program) (s : State) (m : MethodId) (meth : Method) (c : Code) (b L : Nat) (xs : Nat → Int32) : Prop :=
  p.tables.exec = Jvm.exec ∧ c.code = code ∧ meth.sig.returnType = ret ∧ c.maxLocals = 7 ∧ s.vm.findClass R_law = some m.cls ∧ (∀ w ∈ lw_tbl, w.before #[Value.ref b] s = true) ∧ va_X b L xs s s.heap ∧ b < s.heap.size ∧ meth.locks = false ∧ (Jvm.Cond.and given_1 narrow_1).before #[Value.ref b] s = true
def mEndL (X : mX) (b : Nat) : Prop := match X with
  | (_, _, _, _, s, _, args, below, meth, _, Q, A, _, _, _) => args = #[Value.ref b] ∧ Q = lw_Z below #[Value.ref b] s ∧ meth.sig.returnType = ret ∧ (∀ q, A q → s.heap.size ≤ q)
theorem law_end {X : mX} {ad : Nat → Nat} {ln : Launch} {cs ss b : Nat} {lv : List (Nat × Value)} {h : mH} (O : mO X ad R_La b_La_law 7 room_1 ln) (hE : mEndL X b) (hc : cs ≤ 601024) (hs : ss ≤ 7293034) : mAW X ad cs ss 496 lv [] h := by
  obtain ⟨p, l, e, R, s, m, args, below, meth, c, Q, A, D, kA, nL⟩ := X
  obtain ⟨⟨hx, hb, hml, hown, hlk0, rfl, rfl, rfl⟩, hts, hK, hT, hA⟩ := O
  obtain ⟨hargs, hQ, hr, hA0⟩ := hE
  subst hargs
  subst hQ
  intro H locs ls hP hD hS hl
  refine lv_iconst (v := 1) hx hb d_La_law_496 (by decide) ?_
  refine va_forget (fun q hq => hA0 _ (hS.2.2 q hq)) ?_
  refine W.widen (k := 601024) (n := 7293034) hc hs ?_
  exact lw_ret hx hb hr hlk0 d_La_law_497
noncomputable def f_La_loop (n0 : Nat) (xs : Nat → Int32) (L a3 a2 a1 : Nat) : Nat → mH → Int32 → Option (Unit × mH)
  | 0, _, _ => none
  | n + 1, h0, x4 => if Int32.ofNat L - 6 < x4 then some ((), h0) else mcl (f_La_step n0 xs L h0 x4 a3 a2 a1) fun _ h1 => mnm (x4 + 6) fun v => f_La_loop n0 xs L a3 a2 a1 n h1 v
set_option maxHeartbeats 4000000 in
theorem lb_loop {X : mX} {ad : Nat → Nat} {ln : Launch} {b L : Nat} {xs : Nat → Int32} (hln : ln.stackTraces = false) (O : mO X ad R_La b_La_law 7 room_1 ln) (hXs : mScr X ad L xs) (hTX : mTX X) (hE : mEndL X b) (n0 a3 a2 a1 : Nat) (u : Unit) (h' : mH) : ∀ (n : Nat) (h0 : mH) (x4 : Int32) (cs ss : Nat), cs + n ≤ 601024 → ss + 6 * n ≤ 7293034 → f_La_loop n0 xs L a3 a2 a1 n h0 x4 = some (u, h') → mAW X ad cs ss 23 [(4, .int x4), (3, .ref a3), (2, .ref a2), (1, .ref a1), (0, .ref 20000)] [] h0 := by
  intro n
  induction n with
  | zero =>
    intro h0 x4 cs ss _ _ hf
    rw [f_La_loop.eq_1] at hf
    cases hf
  | succ n ih =>
    intro h0 x4 cs ss hc hs hf
    rw [f_La_loop.eq_2] at hf
    refine ax_iload O d_La_law_23 0 rfl ?_
    refine ax_aload_n O d_La_law_25 rfl 4 rfl ?_
    refine ax_slen O hXs d_La_law_26 ?_
    refine ax_bipush (v := 6) O d_La_law_27 (by decide) ?_
    refine ax_isub O d_La_law_29 ?_
    refine ax_icmp_gt (tgt := 496) O d_La_law_30 (by decide) (fun q => ?_) (fun q => ?_)
    · exact law_end O hE (by omega) (by omega)
    · rw [if_neg q] at hf
      obtain ⟨w, h1, m1, hf⟩ := mcl_some hf
      obtain ⟨v, ev, hf⟩ := mnm_some hf
      have hrc : room_1.cells = 601024 := rfl
      have hrs : room_1.slots = 7293034 := rfl
      refine lc_step hln O hXs hTX ⟨by omega, by omega⟩ ⟨by omega, by omega⟩ n0 h0 x4 a3 a2 a1 w h1 m1 ?_
      refine ax_iinc (j := 0) (v := v) (lv' := [(4, .int v), (3, .ref a3), (2, .ref a2), (1, .ref a1), (0, .ref 20000)]) O d_La_law_490 rfl (by rw [ev]; rfl) (by decide) rfl ?_
      refine ax_goto (tgt := 23) O d_La_law_493 (by decide) ?_
      exact ih h1 v (cs + 1) (ss + 6) (by omega) (by omega) hf
