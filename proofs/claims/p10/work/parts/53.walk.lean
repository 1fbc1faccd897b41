set_option maxHeartbeats 4000000 in
set_option maxRecDepth 100000 in
theorem pure_fall : ∃ (n0 : Nat) (h1 h2 : mH), f_SF_init 157224 400 [.inr (0, [.null, .null, .int 0, .int 0, .null, .null, .null, .null, .null, .null, .null, .null, .null, .int 0, .int 0, .int 0, .int 0])] 0 = some ((), h1) ∧ 50 = h1.length ∧ mOkA [] h1 [.ref 0, .ref 20000] [] ∧ mOkA [] (h1 ++ [.inr (10, [.int 0, .int 0, .null, .int 0, .null, .null, .null, .null, .null, .null, .int 0, .int 0, .null, .int 0, .null, .int 0, .int 0, .int 0, .int 0, .int 0, .null, .null, .null, .null, .null, .int 0, .int 0, .null, .int 0, .int 0, .int 0])]) [.ref 0, .ref 20000] [.ref 50] ∧ f_Mo_init 226006 400 (h1 ++ [.inr (10, [.int 0, .int 0, .null, .int 0, .null, .null, .null, .null, .null, .null, .int 0, .int 0, .null, .int 0, .null, .int 0, .int 0, .int 0, .int 0, .int 0, .null, .null, .null, .null, .null, .int 0, .int 0, .null, .int 0, .int 0, .int 0])]) 50 = some ((), h2) ∧ 66 = h2.length ∧ mOkA [] h2 [.ref 50, .ref 0, .ref 20000] [] ∧ g_La_loop n0 (fun j => scrF.getD j 0) scrF.length 66 50 0 4 (h2 ++ [.inl (.long, ((1 : Int32).toNatClampNeg, .inr (.inl (fun _ => 0))))]) 0 = some () := by
  have hSF := ev_tF
  have hlp := ev_fall
  exact ⟨70000, _, _, hSF, rfl, mOk_of3 rfl rfl rfl rfl rfl rfl rfl, mOk_of3 rfl rfl rfl rfl rfl rfl rfl, ev_Mo tF.1 tF.2.1 tF.2.2.1 tF.2.2.2.1 tF.2.2.2.2.1 tF.2.2.2.2.2.1 tF.2.2.2.2.2.2.1 tF.2.2.2.2.2.2.2.1 tF.2.2.2.2.2.2.2.2.1 tF.2.2.2.2.2.2.2.2.2.1 tF.2.2.2.2.2.2.2.2.2.2, rfl, mOk_of3 rfl rfl rfl rfl rfl rfl rfl, hlp⟩

set_option maxHeartbeats 4000000 in
set_option maxRecDepth 100000 in
theorem law_walkF {X : mX} {ad : Nat → Nat} {ln : Launch} {b L : Nat} {xs : Nat → Int32} (hln : ln.stackTraces = false) (O : mO X ad R_La b_La_law 7 room_1 ln) (hXs : mScr X ad L xs) (hTX : mTX X) (hE : mEndF X b) {n0 : Nat} {h1 h2 : mH} (hSF : f_SF_init 157224 400 [.inr (0, [.null, .null, .int 0, .int 0, .null, .null, .null, .null, .null, .null, .null, .null, .null, .int 0, .int 0, .int 0, .int 0])] 0 = some ((), h1)) (n1 : 50 = h1.length) (k1 : mOkA [] h1 [.ref 0, .ref 20000] []) (k2 : mOkA [] (h1 ++ [.inr (10, [.int 0, .int 0, .null, .int 0, .null, .null, .null, .null, .null, .null, .int 0, .int 0, .null, .int 0, .null, .int 0, .int 0, .int 0, .int 0, .int 0, .null, .null, .null, .null, .null, .int 0, .int 0, .null, .int 0, .int 0, .int 0])]) [.ref 0, .ref 20000] [.ref 50]) (hMo : f_Mo_init 226006 400 (h1 ++ [.inr (10, [.int 0, .int 0, .null, .int 0, .null, .null, .null, .null, .null, .null, .int 0, .int 0, .null, .int 0, .null, .int 0, .int 0, .int 0, .int 0, .int 0, .null, .null, .null, .null, .null, .int 0, .int 0, .null, .int 0, .int 0, .int 0])]) 50 = some ((), h2)) (n2 : 66 = h2.length) (k3 : mOkA [] h2 [.ref 50, .ref 0, .ref 20000] []) (hlp : g_La_loop n0 xs L 66 50 0 4 (h2 ++ [.inl (.long, ((1 : Int32).toNatClampNeg, .inr (.inl (fun _ => 0))))]) 0 = some ()) : mAW X ad 0 0 0 [(0, .ref 20000)] [] [] := by
  refine ax_new (h0 := []) (r := 0) O nc_La_8 (mOk_of rfl rfl rfl rfl rfl) rfl rfl ⟨Nat.le_of_ble_eq_true rfl, Nat.le_of_ble_eq_true rfl⟩ d_La_law_0 (fun ad a1 => ?_)
  replace O := mO_ag a1 O
  replace hXs := mScr_ag a1 hXs
  refine ax_dup O d_La_law_3 rfl ?_
  refine ax_callI (h0 := []) (As := []) (rest := [.ref 0]) O cw_SF_init in_SF_init rfl lk_La_37 (c_SF_init hSF) rfl ⟨rfl, rfl⟩ ⟨Nat.le_of_ble_eq_true rfl, Nat.le_of_ble_eq_true rfl⟩ ⟨Nat.le_of_ble_eq_true rfl, Nat.le_of_ble_eq_true rfl⟩ (mOk_of rfl rfl rfl rfl rfl) (Nat.le_of_ble_eq_true rfl) d_La_law_4 (fun ad a2 => ?_)
  replace O := mO_ag a2 O
  replace hXs := mScr_ag a2 hXs
  refine ax_astore_n (lv' := [(1, .ref 0), (0, .ref 20000)]) O d_La_law_7 rfl (by decide) rfl ?_
  refine ax_new (h0 := []) (r := 50) O nc_La_38 k1 n1 rfl ⟨Nat.le_of_ble_eq_true rfl, Nat.le_of_ble_eq_true rfl⟩ d_La_law_8 (fun ad a3 => ?_)
  replace O := mO_ag a3 O
  replace hXs := mScr_ag a3 hXs
  refine ax_dup O d_La_law_11 rfl ?_
  refine ax_callI (h0 := []) (As := []) (rest := [.ref 50]) O cw_Mo_init in_Mo_init rfl lk_La_40 (c_Mo_init hMo) rfl ⟨rfl, rfl⟩ ⟨Nat.le_of_ble_eq_true rfl, Nat.le_of_ble_eq_true rfl⟩ ⟨Nat.le_of_ble_eq_true rfl, Nat.le_of_ble_eq_true rfl⟩ k2 (Nat.le_of_ble_eq_true rfl) d_La_law_12 (fun ad a4 => ?_)
  replace O := mO_ag a4 O
  replace hXs := mScr_ag a4 hXs
  refine ax_astore_n (lv' := [(2, .ref 50), (1, .ref 0), (0, .ref 20000)]) O d_La_law_15 rfl (by decide) rfl ?_
  refine ax_iconst (v := 1) O d_La_law_16 (by decide) ?_
  refine ax_newl (h0 := []) (r := 66) O wd_85 (by decide) (by decide) k3 n2 rfl ⟨Nat.le_of_ble_eq_true rfl, Nat.le_of_ble_eq_true rfl⟩ d_La_law_17 (fun ad a5 => ?_)
  replace O := mO_ag a5 O
  replace hXs := mScr_ag a5 hXs
  refine ax_astore_n (lv' := [(3, .ref 66), (2, .ref 50), (1, .ref 0), (0, .ref 20000)]) O d_La_law_19 rfl (by decide) rfl ?_
  refine ax_iconst (v := 0) O d_La_law_20 (by decide) ?_
  refine ax_istore (lv' := [(4, .int 0), (3, .ref 66), (2, .ref 50), (1, .ref 0), (0, .ref 20000)]) O d_La_law_21 (by decide) rfl ?_
  exact lg_loop hln O hXs hTX hE n0 66 50 0 4 _ 0 _ _ (Nat.le_of_ble_eq_true rfl) (Nat.le_of_ble_eq_true rfl) hlp

set_option maxHeartbeats 4000000 in
set_option maxRecDepth 100000 in
theorem start_fall {p : Program} {e : Env} {s : State} {m : MethodId} {below : List Frame} {meth : Method} {c : Code} (l : Launch) (hln : l.stackTraces = false) {b : Nat} (C0 : lw_At p s m meth c b scrF.length (fun j => scrF.getD j 0)) : W p l e room_1 s m #[Value.ref b] below meth c s.heap [] 0 0 (lq_Z below #[Value.ref b] s) (entryFrame m ([Value.ref b] : List Value).toArray 7) := by
  obtain ⟨hx, hb, hr, hml, hown, hts, hX, hbl, hlocks, hgv⟩ := id C0
  have hfl := flat_of_before _ hgv
  have hA : ∀ a : Nat, a < s.heap.size → ¬ (fun q : Nat => s.heap.size ≤ q) a := fun a ha hq => absurd ha (Nat.not_lt.mpr hq)
  obtain ⟨D, kA, hK⟩ := st_K hts
  obtain ⟨ad, hT, hb0⟩ := st_T (A := fun q : Nat => s.heap.size ≤ q) b hts hfl hA
  have hTw : mTw (fun q : Nat => s.heap.size ≤ q) s s.heap := st_X hts hfl hA
  have hP : va_P D classes (mW ad kA []) s.heap := fun k q h => by simp [mW] at h
  have hD : va_D (fun q : Nat => s.heap.size ≤ q) (mW ad kA []) := ⟨fun i j p q h => by simp [mW] at h, fun k q h => by simp [mW] at h⟩
  have hl := lv_entry ([.ref b]) (n := 7) (Nat.le_of_ble_eq_true rfl)
  rw [lg_entry_eq]
  generalize (lg_sl ([.ref b]) ++ List.replicate (7 - (lg_sl ([.ref b])).length) Slot.unset).toArray = ls at hl ⊢
  have hl : lv_has ls 7 (ml ad [(0, .ref 20000)]) := by
    show lv_has ls 7 [(0, .ref (ad 20000))]
    rw [hb0]
    exact hl
  suffices hmain : mAW (p, l, e, room_1, s, m, #[Value.ref b], below, meth, c, lq_Z below #[Value.ref b] s, (fun q : Nat => s.heap.size ≤ q), D, kA, 7) ad 0 0 0 [(0, .ref 20000)] [] [] from hmain s.heap [] ls hP hD va_S.rf hl
  have O : mO (p, l, e, room_1, s, m, #[Value.ref b], below, meth, c, lq_Z below #[Value.ref b] s, (fun q : Nat => s.heap.size ≤ q), D, kA, 7) ad R_La b_La_law 7 room_1 l := ⟨⟨hx, hb, hml, hown, hlocks, rfl, rfl, rfl⟩, fun w hw => hts w (List.mem_filter.mp hw).1, hK, hT, fun q h => h⟩
  have hXs : mScr (p, l, e, room_1, s, m, #[Value.ref b], below, meth, c, lq_Z below #[Value.ref b] s, (fun q : Nat => s.heap.size ≤ q), D, kA, 7) ad scrF.length (fun j => scrF.getD j 0) := ⟨by rw [hb0]; exact hX, by rw [hb0]; exact hbl, by rw [hb0]; exact hA b hbl⟩
  have hTX : mTX (p, l, e, room_1, s, m, #[Value.ref b], below, meth, c, lq_Z below #[Value.ref b] s, (fun q : Nat => s.heap.size ≤ q), D, kA, 7) := hTw
  have hE : mEndF (p, l, e, room_1, s, m, #[Value.ref b], below, meth, c, lq_Z below #[Value.ref b] s, (fun q : Nat => s.heap.size ≤ q), D, kA, 7) b := ⟨rfl, rfl, hr, fun q h => h⟩
  clear hP hD hl
  generalize (p, l, e, room_1, s, m, #[Value.ref b], below, meth, c, lq_Z below #[Value.ref b] s, (fun q : Nat => s.heap.size ≤ q), D, kA, 7) = X at O hXs hTX hE ⊢
  obtain ⟨n0, h1, h2, e1, e2, e3, e4, e5, e6, e7, e8⟩ := pure_fall
  exact law_walkF hln O hXs hTX hE e1 e2 e3 e4 e5 e6 e7 e8
set_option maxHeartbeats 4000000 in
theorem walk_fall (l : Launch) (hln : l.stackTraces = false) (b : Addr) : MetFree l x (headSpec (Jvm.Cond.code x code maxLocals ret :: tables_1) room_1) (lw_P b scrF) (fun _ _ _ _ _ => True) lq_Q := by
  refine MetFree.of_bodyS (code := code) (maxLocals := maxLocals) (ret := ret) (by decide) ?_ ?_
  · intro args s m h hn
    obtain ⟨meth, c, h1, h2, h3, h4, h5, h6, -, -⟩ := Cond.code_spec hn (atoms_spec (ws := Jvm.Cond.code x code maxLocals ret :: tables_1) h _ List.mem_cons_self)
    exact ⟨meth, c, h1, h2, h3, h4, h5, h6⟩
  · intro p e s m args below meth c s₁ B hml0 hP _
    obtain ⟨rfl, hx, hbd, hgv⟩ := hP
    obtain ⟨scr, harrAt, hlist, hof, hsmall⟩ := hx
    obtain ⟨hcb, hkn, -, -⟩ := State.arrayAt?_spec harrAt
    have hown : s.vm.findClass R_law = some m.cls := findClass_of_methodNamed B.named
    have hts0 : ∀ c ∈ (Jvm.Cond.code x code maxLocals ret :: tables_1), c.before #[Value.ref b] s = true := atoms_spec (ws := Jvm.Cond.code x code maxLocals ret :: tables_1) B.pre
    have hts : ∀ w ∈ lw_tbl, w.before #[Value.ref b] s = true := k2_hts_sels lw_privs (fun w hw => hts0 w (List.mem_cons_of_mem _ hw)) lw_privs_ok
    have hml : c.maxLocals = 7 := B.maxLocals_eq (hts0 _ List.mem_cons_self)
    have X₀ : Stand p l e room_1 s m #[Value.ref b] below meth c s₁ [] 0 0 := Stand.of_body B
    have hh0 : s₁.heap = s.heap := by rw [B.state]; rfl
    have hsz : scr.slots.size = scrF.length := by rw [← Array.length_toList, hlist, List.length_map]
    have hval : ∀ j : Nat, j < scrF.length → scr.slots[j]? = some (.int (scrF.getD j 0)) := fun j hj => by
      rw [← Array.getElem?_toList, hlist]
      simp [hj]
    have hbl : b < s.heap.size := (Array.getElem?_eq_some_iff.mp hcb).1
    have hX : va_X b scrF.length (fun j => scrF.getD j 0) s s.heap := ⟨scr, hcb, hof, hkn, hsz, hval⟩
    have K : W p l e room_1 s m #[Value.ref b] below meth c s₁.heap [] 0 0 (lq_Z below #[Value.ref b] s) (entryFrame m ([Value.ref b] : List Value).toArray 7) := by
      rw [hh0]
      exact start_fall l hln ⟨B.exec, B.bytes, B.returns, hml, hown, hts, hX, hbl, B.notSynchronized, hgv⟩
    obtain ⟨t, a1, o, b1, b2, b3⟩ := K s₁ rfl X₀
    exact ⟨t, o, a1, b1, b2, b3⟩
