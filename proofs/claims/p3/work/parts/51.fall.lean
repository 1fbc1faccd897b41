def R_law : String := "StreamFiltersLaw"
def lw_P (b : Addr) (xs : List Int32) (args : Array Value) (s : State) : Prop := args = #[.ref b] ∧ s.IntsAt b xs ∧ xs.length ≤ 3072 ∧ (Jvm.Cond.and given_1 narrow_1).before args s = true
def lw_At (p : Program) (s : State) (m : MethodId) (meth : Method) (c : Code) (b L : Nat) (xs : Nat → Int32) : Prop :=
  p.tables.exec = Jvm.exec ∧ c.code = code ∧ meth.sig.returnType = ret ∧ c.maxLocals = 7 ∧ s.vm.findClass R_law = some m.cls ∧ (∀ w ∈ lw_tbl, w.before #[Value.ref b] s = true) ∧ va_X b L xs s s.heap ∧ b < s.heap.size ∧ meth.locks = false ∧ (Jvm.Cond.and given_1 narrow_1).before #[Value.ref b] s = true
def lq_Q (_ : Array Value) (s : State) (o : Outcome) (t : State) : Prop := o = .returned (some (.int 0)) ∧ Framed s o t [] 601024 7293034
def lq_Z (below : List Frame) (a : Array Value) (s : State) : State → Prop := fun t => ∃ o, t.status = .running ∧ Ended t below o ∧ lq_Q a s o t
theorem nb_0 : narrow .boolean (.int 0) = .int 0 := rfl
theorem lq_ret {p : Program} {l : Launch} {e : Env} {s : State} {m : MethodId} {below : List Frame} {meth : Method} {c : Code} {b : Nat} (hx : p.tables.exec = Jvm.exec) (hb : c.code = code) (hr : meth.sig.returnType = ret) (hlocks : meth.locks = false) {pc : Nat} {H : Heap} {ls : Array Slot} (hdg : decode code pc = .ok (.ireturn, 1)) : W p l e room_1 s m #[Value.ref b] below meth c H [] 601024 7293034 (lq_Z below #[Value.ref b] s) (F0 m pc ls [.int 0]) := by
  intro T hT X
  obtain ⟨fs, hret, hrun, hended, hW, hframe⟩ := X.leave (v := some (.int 0)) (hlocks := hlocks) (fun h => by rw [hr] at h; cases h)
  have hmeth' : T.vm.method? m = some meth := X.method'
  refine ⟨T.setFrames fs, ?_, .returned (some (.int 0)), hrun, hended, rfl, ⟨_, rfl⟩, hW, hframe⟩
  jvm_step X.here [X.here.top, hx, hb, hdg, hmeth', hr, ret, nb_0]
  (try refine ⟨rfl, ?_⟩); (try refine ⟨rfl, ?_⟩)
  first | (intro acts; rw [hret _ acts rfl rfl rfl]) | rw [hret _ _ rfl rfl rfl]
  exact Steps.refl _
def mEndF (X : mX) (b : Nat) : Prop := match X with
  | (_, _, _, _, s, _, args, below, meth, _, Q, A, _, _, _) => args = #[Value.ref b] ∧ Q = lq_Z below #[Value.ref b] s ∧ meth.sig.returnType = ret ∧ (∀ q, A q → s.heap.size ≤ q)
theorem law_endF {X : mX} {ad : Nat → Nat} {ln : Launch} {cs ss b : Nat} {lv : List (Nat × Value)} {h : mH} (O : mO X ad R_La b_La_law 7 room_1 ln) (hE : mEndF X b) (hc : cs ≤ 601024) (hs : ss ≤ 7293034) {pc : Nat} (d : decode b_La_law pc = .ok (.ireturn, 1)) : mAW X ad cs ss pc lv [.int 0] h := by
  obtain ⟨p, l, e, R, s, m, args, below, meth, c, Q, A, D, kA, nL⟩ := X
  obtain ⟨⟨hx, hb, hml, hown, hlk0, rfl, rfl, rfl⟩, hts, hK, hT, hA⟩ := O
  obtain ⟨hargs, hQ, hr, hA0⟩ := hE
  subst hargs
  subst hQ
  intro H locs ls hP hD hS hl
  refine va_forget (fun q hq => hA0 _ (hS.2.2 q hq)) ?_
  refine W.widen (k := 601024) (n := 7293034) hc hs ?_
  exact lq_ret hx hb hr hlk0 d
noncomputable def g_La_c1 (n0 : Nat) (xs : Nat → Int32) (L : Nat) (h0 : mH) (x4 : Int32) (a3 a2 a1 : Nat) : Option Unit :=
  msl xs L (x4 + 1) fun v1 =>
  msl xs L (x4 + 2) fun v2 =>
  mcl (f_La_put n0 h0 a1 v1 v2 a3) fun v3 h4 =>
  msl xs L (x4 + 1) fun v5 =>
  msl xs L (x4 + 2) fun v6 =>
  mis h4 a2 10 <|
  mcl (f_Mo_put n0 h4 a2 v5 v6) fun v8 h9 =>
  mis h9 a2 10 <|
  mcl (f_Mo_thrown n0 h9 a2) fun v11 h12 =>
  if v11 = v3 then
    if v3 = 0 then
      mal h12 a3 0 fun w15 =>
      if (lg_cmp w15 (v8.toInt64)) = 0 then
        none
      else
        some ()
    else
      none
  else
    some ()
set_option maxHeartbeats 4000000 in
set_option maxRecDepth 100000 in
theorem lg_1 {X : mX} {ad : Nat → Nat} {ln : Launch} (hln : ln.stackTraces = false) (O : mO X ad R_La b_La_law 7 room_1 ln) {L : Nat} {xs : Nat → Int32} (hXs : mScr X ad L xs) (hTX : mTX X) {cs ss : Nat} (hq0 : cs ≤ room_1.cells ∧ ss ≤ room_1.slots) (hq1 : cs + 1 ≤ room_1.cells ∧ ss + 6 ≤ room_1.slots) (n0 : Nat) (h0 : mH) (x4 : Int32) (a3 a2 a1 : Nat) {b : Nat} (hE : mEndF X b) (hf : g_La_c1 n0 xs L h0 x4 a3 a2 a1 = some ()) : mAW X ad cs ss 173 [(4, .int x4), (3, .ref a3), (2, .ref a2), (1, .ref a1), (0, .ref 20000)] [] h0 := by
  unfold g_La_c1 at hf
  refine ax_aload_n O d_La_law_173 rfl 3 rfl ?_
  refine ax_aload_n O d_La_law_174 rfl 4 rfl ?_
  refine ax_iload O d_La_law_175 0 rfl ?_
  refine ax_iconst (v := 1) O d_La_law_177 (by decide) ?_
  refine ax_iadd O d_La_law_178 ?_
  obtain ⟨v1, iv1, kv1, hf⟩ := msl_some hf
  refine ax_sld O hXs iv1 kv1 d_La_law_179 ?_
  refine ax_aload_n O d_La_law_180 rfl 4 rfl ?_
  refine ax_iload O d_La_law_181 0 rfl ?_
  refine ax_iconst (v := 2) O d_La_law_183 (by decide) ?_
  refine ax_iadd O d_La_law_184 ?_
  obtain ⟨v2, iv2, kv2, hf⟩ := msl_some hf
  refine ax_sld O hXs iv2 kv2 d_La_law_185 ?_
  refine ax_aload_n O d_La_law_186 rfl 1 rfl ?_
  obtain ⟨v3, h4, mh4, hf⟩ := mcl_some hf
  refine ax_callW (As := [.ref a1, .int v1, .int v2, .ref a3]) (rest := []) O hTX cw_La_put st_La_put wd_68 (c_La_put hln mh4) rfl ⟨rfl, rfl⟩ ⟨Nat.le_of_ble_eq_true rfl, Nat.le_of_ble_eq_true rfl⟩ hq1 (Nat.le_of_ble_eq_true rfl) d_La_law_187 ?_
  refine ax_istore (lv' := [(5, .int v3), (4, .int x4), (3, .ref a3), (2, .ref a2), (1, .ref a1), (0, .ref 20000)]) O d_La_law_190 (by decide) rfl ?_
  refine ax_aload_n O d_La_law_192 rfl 3 rfl ?_
  refine ax_aload_n O d_La_law_193 rfl 5 rfl ?_
  refine ax_iload O d_La_law_194 1 rfl ?_
  refine ax_iconst (v := 1) O d_La_law_196 (by decide) ?_
  refine ax_iadd O d_La_law_197 ?_
  obtain ⟨v5, iv5, kv5, hf⟩ := msl_some hf
  refine ax_sld O hXs iv5 kv5 d_La_law_198 ?_
  refine ax_aload_n O d_La_law_199 rfl 5 rfl ?_
  refine ax_iload O d_La_law_200 1 rfl ?_
  refine ax_iconst (v := 2) O d_La_law_202 (by decide) ?_
  refine ax_iadd O d_La_law_203 ?_
  obtain ⟨v6, iv6, kv6, hf⟩ := msl_some hf
  refine ax_sld O hXs iv6 kv6 d_La_law_204 ?_
  obtain ⟨fh9, ch9, hf⟩ := mis_some hf
  obtain ⟨v8, h9, mh9, hf⟩ := mcl_some hf
  refine ax_callV (As := [.int v5, .int v6]) (rest := []) O cw_Mo_put (q := (R_Mo, T_Mo, 31)) rfl rfl in_Mo_put se_Mo_put lk_La_51 ch9 (c_Mo_put mh9) rfl ⟨rfl, rfl⟩ ⟨Nat.le_of_ble_eq_true rfl, Nat.le_of_ble_eq_true rfl⟩ hq1 (Nat.le_of_ble_eq_true rfl) d_La_law_205 ?_
  refine ax_istore (lv' := [(6, .int v8), (5, .int v3), (4, .int x4), (3, .ref a3), (2, .ref a2), (1, .ref a1), (0, .ref 20000)]) O d_La_law_208 (by decide) rfl ?_
  refine ax_aload_n O d_La_law_210 rfl 4 rfl ?_
  obtain ⟨fh12, ch12, hf⟩ := mis_some hf
  obtain ⟨v11, h12, mh12, hf⟩ := mcl_some hf
  refine ax_callV (As := []) (rest := []) O cw_Mo_thrown (q := (R_Mo, T_Mo, 31)) rfl rfl in_Mo_thrown se_Mo_thrown lk_La_52 ch12 (c_Mo_thrown mh12) rfl ⟨rfl, rfl⟩ ⟨Nat.le_of_ble_eq_true rfl, Nat.le_of_ble_eq_true rfl⟩ hq1 (Nat.le_of_ble_eq_true rfl) d_La_law_211 ?_
  refine ax_iload O d_La_law_214 1 rfl ?_
  refine ax_icmp_eq (tgt := 221) O d_La_law_216 (by decide) (fun q13 => ?_) (fun q13 => ?_)
  · rw [if_pos q13] at hf
    refine ax_iload O d_La_law_221 1 rfl ?_
    refine ax_if_ne (tgt := 238) O d_La_law_223 (by decide) (fun q14 => ?_) (fun q14 => ?_)
    · rw [if_neg q14] at hf
      refine ax_goto (tgt := 490) O d_La_law_238 (by decide) ?_
      cases hf
    · rw [if_pos q14] at hf
      refine ax_aload_n O d_La_law_226 rfl 3 rfl ?_
      refine ax_iconst (v := 0) O d_La_law_227 (by decide) ?_
      obtain ⟨nw15, fw15, w15, cw15, iw15, kw15, hf⟩ := mal_some hf
      refine ax_lald O cw15 iw15 kw15 d_La_law_228 ?_
      refine ax_iload O d_La_law_229 0 rfl ?_
      refine ax_i2l O d_La_law_231 ?_
      refine ax_lcmp O d_La_law_232 ?_
      refine ax_if_eq (tgt := 238) O d_La_law_233 (by decide) (fun q16 => ?_) (fun q16 => ?_)
      · rw [if_pos q16] at hf
        refine ax_goto (tgt := 490) O d_La_law_238 (by decide) ?_
        cases hf
      · rw [if_neg q16] at hf
        refine ax_iconst (v := 0) O d_La_law_236 (by decide) ?_
        first | exact law_endF O hE hq0.1 hq0.2 d_La_law_237 | exact law_endF O hE hq1.1 hq1.2 d_La_law_237
  · rw [if_neg q13] at hf
    refine ax_iconst (v := 0) O d_La_law_219 (by decide) ?_
    first | exact law_endF O hE hq0.1 hq0.2 d_La_law_220 | exact law_endF O hE hq1.1 hq1.2 d_La_law_220
noncomputable def g_La_step (n0 : Nat) (xs : Nat → Int32) (L : Nat) (h0 : mH) (x4 : Int32) (a3 a2 a1 : Nat) : Option Unit :=
  msl xs L x4 fun v1 =>
  mnm (v1 &&& 15) fun v2 =>
  if v2 = 1 then
    g_La_c1 n0 xs L h0 x4 a3 a2 a1
  else
    none
set_option maxHeartbeats 4000000 in
set_option maxRecDepth 100000 in
theorem lg_step {X : mX} {ad : Nat → Nat} {ln : Launch} (hln : ln.stackTraces = false) (O : mO X ad R_La b_La_law 7 room_1 ln) {L : Nat} {xs : Nat → Int32} (hXs : mScr X ad L xs) (hTX : mTX X) {cs ss : Nat} (hq0 : cs ≤ room_1.cells ∧ ss ≤ room_1.slots) (hq1 : cs + 1 ≤ room_1.cells ∧ ss + 6 ≤ room_1.slots) (n0 : Nat) (h0 : mH) (x4 : Int32) (a3 a2 a1 : Nat) {b : Nat} (hE : mEndF X b) (hf : g_La_step n0 xs L h0 x4 a3 a2 a1 = some ()) : mAW X ad cs ss 33 [(4, .int x4), (3, .ref a3), (2, .ref a2), (1, .ref a1), (0, .ref 20000)] [] h0 := by
  unfold g_La_step at hf
  refine ax_aload_n O d_La_law_33 rfl 4 rfl ?_
  refine ax_iload O d_La_law_34 0 rfl ?_
  obtain ⟨v1, iv1, kv1, hf⟩ := msl_some hf
  refine ax_sld O hXs iv1 kv1 d_La_law_36 ?_
  refine ax_bipush (v := 15) O d_La_law_37 (by decide) ?_
  refine ax_iand O d_La_law_39 ?_
  obtain ⟨v2, ev2, hf⟩ := mnm_some hf
  refine ax_nmi ev2 ?_
  by_cases q3 : v2 = 1
  · rw [if_pos q3] at hf
    refine ax_tableIn (tgt := 173) O d_La_law_40 (by rw [q3]; decide) (by rw [q3]; decide) (by rw [q3]; rfl) (by decide) ?_
    exact lg_1 hln O hXs hTX hq0 hq1 n0 _ _ _ _ _ hE hf
  · rw [if_neg q3] at hf
    cases hf
noncomputable def g_La_loop (n0 : Nat) (xs : Nat → Int32) (L a3 a2 a1 : Nat) : Nat → mH → Int32 → Option Unit
  | 0, h0, x4 => if Int32.ofNat L - 6 < x4 then none else g_La_step n0 xs L h0 x4 a3 a2 a1
  | n + 1, h0, x4 => if Int32.ofNat L - 6 < x4 then none else mcl (f_La_step n0 xs L h0 x4 a3 a2 a1) fun _ h1 => mnm (x4 + 6) fun v => g_La_loop n0 xs L a3 a2 a1 n h1 v
set_option maxHeartbeats 4000000 in
theorem lg_loop {X : mX} {ad : Nat → Nat} {ln : Launch} {b L : Nat} {xs : Nat → Int32} (hln : ln.stackTraces = false) (O : mO X ad R_La b_La_law 7 room_1 ln) (hXs : mScr X ad L xs) (hTX : mTX X) (hE : mEndF X b) (n0 a3 a2 a1 : Nat) : ∀ (n : Nat) (h0 : mH) (x4 : Int32) (cs ss : Nat), cs + n + 1 ≤ 601024 → ss + 6 * n + 6 ≤ 7293034 → g_La_loop n0 xs L a3 a2 a1 n h0 x4 = some () → mAW X ad cs ss 23 [(4, .int x4), (3, .ref a3), (2, .ref a2), (1, .ref a1), (0, .ref 20000)] [] h0 := by
  have hrc : room_1.cells = 601024 := rfl
  have hrs : room_1.slots = 7293034 := rfl
  intro n
  induction n with
  | zero =>
    intro h0 x4 cs ss hc hs hf
    rw [g_La_loop.eq_1] at hf
    refine ax_iload O d_La_law_23 0 rfl ?_
    refine ax_aload_n O d_La_law_25 rfl 4 rfl ?_
    refine ax_slen O hXs d_La_law_26 ?_
    refine ax_bipush (v := 6) O d_La_law_27 (by decide) ?_
    refine ax_isub O d_La_law_29 ?_
    refine ax_icmp_gt (tgt := 496) O d_La_law_30 (by decide) (fun q => ?_) (fun q => ?_)
    · rw [if_pos q] at hf
      cases hf
    · rw [if_neg q] at hf
      exact lg_step hln O hXs hTX ⟨by omega, by omega⟩ ⟨by omega, by omega⟩ n0 h0 x4 a3 a2 a1 hE hf
  | succ n ih =>
    intro h0 x4 cs ss hc hs hf
    rw [g_La_loop.eq_2] at hf
    refine ax_iload O d_La_law_23 0 rfl ?_
    refine ax_aload_n O d_La_law_25 rfl 4 rfl ?_
    refine ax_slen O hXs d_La_law_26 ?_
    refine ax_bipush (v := 6) O d_La_law_27 (by decide) ?_
    refine ax_isub O d_La_law_29 ?_
    refine ax_icmp_gt (tgt := 496) O d_La_law_30 (by decide) (fun q => ?_) (fun q => ?_)
    · rw [if_pos q] at hf
      cases hf
    · rw [if_neg q] at hf
      obtain ⟨w, h1, m1, hf⟩ := mcl_some hf
      obtain ⟨v, ev, hf⟩ := mnm_some hf
      refine lc_step hln O hXs hTX ⟨by omega, by omega⟩ ⟨by omega, by omega⟩ n0 h0 x4 a3 a2 a1 w h1 m1 ?_
      refine ax_iinc (j := 0) (v := v) (lv' := [(4, .int v), (3, .ref a3), (2, .ref a2), (1, .ref a1), (0, .ref 20000)]) O d_La_law_490 rfl (by rw [ev]; rfl) (by decide) rfl ?_
      refine ax_goto (tgt := 23) O d_La_law_493 (by decide) ?_
      exact ih h1 v (cs + 1) (ss + 6) (by omega) (by omega) hf
def scrF : List Int32 := [0, 50397442, 58720256, 0, 0, 0, 3, 4, 0, 0, 0, 0, 4, 10, 3, 4, 2, 0, 7, 0, 0, 0, 0, 0, 10, 0, 0, 0, 0, 0, 1, 1, 0, 0, 0, 0]
