/-! ===== StreamFilters$Pass.lowNumber(I)I ===== -/
theorem d_Pa_lowNumber_0 : decode b_Pa_lowNumber 0 = .ok (.iconst 0, 1) := by decide +kernel
theorem d_Pa_lowNumber_1 : decode b_Pa_lowNumber 1 = .ok (.istore_n 2, 1) := by decide +kernel
theorem d_Pa_lowNumber_2 : decode b_Pa_lowNumber 2 = .ok (.iconst 0, 1) := by decide +kernel
theorem d_Pa_lowNumber_3 : decode b_Pa_lowNumber 3 = .ok (.istore_n 3, 1) := by decide +kernel
theorem d_Pa_lowNumber_4 : decode b_Pa_lowNumber 4 = .ok (.iload_n 3, 1) := by decide +kernel
theorem d_Pa_lowNumber_5 : decode b_Pa_lowNumber 5 = .ok (.iload_n 1, 1) := by decide +kernel
theorem d_Pa_lowNumber_6 : decode b_Pa_lowNumber 6 = .ok (.if_icmp .ge 31, 3) := by decide +kernel
theorem d_Pa_lowNumber_9 : decode b_Pa_lowNumber 9 = .ok (.aload_n 0, 1) := by decide +kernel
theorem d_Pa_lowNumber_10 : decode b_Pa_lowNumber 10 = .ok (.iconst 1, 1) := by decide +kernel
theorem d_Pa_lowNumber_11 : decode b_Pa_lowNumber 11 = .ok (.invokevirtual 55, 3) := by decide +kernel
theorem d_Pa_lowNumber_14 : decode b_Pa_lowNumber 14 = .ok (.istore 4, 2) := by decide +kernel
theorem d_Pa_lowNumber_16 : decode b_Pa_lowNumber 16 = .ok (.iload 4, 2) := by decide +kernel
theorem d_Pa_lowNumber_18 : decode b_Pa_lowNumber 18 = .ok (.iconst (-1), 1) := by decide +kernel
theorem d_Pa_lowNumber_19 : decode b_Pa_lowNumber 19 = .ok (.if_icmp .ne 5, 3) := by decide +kernel
theorem d_Pa_lowNumber_22 : decode b_Pa_lowNumber 22 = .ok (.iconst (-1), 1) := by decide +kernel
theorem d_Pa_lowNumber_23 : decode b_Pa_lowNumber 23 = .ok (.ireturn, 1) := by decide +kernel
theorem d_Pa_lowNumber_24 : decode b_Pa_lowNumber 24 = .ok (.iload_n 2, 1) := by decide +kernel
theorem d_Pa_lowNumber_25 : decode b_Pa_lowNumber 25 = .ok (.iload 4, 2) := by decide +kernel
theorem d_Pa_lowNumber_27 : decode b_Pa_lowNumber 27 = .ok (.iload_n 3, 1) := by decide +kernel
theorem d_Pa_lowNumber_28 : decode b_Pa_lowNumber 28 = .ok (.ishl, 1) := by decide +kernel
theorem d_Pa_lowNumber_29 : decode b_Pa_lowNumber 29 = .ok (.ior, 1) := by decide +kernel
theorem d_Pa_lowNumber_30 : decode b_Pa_lowNumber 30 = .ok (.istore_n 2, 1) := by decide +kernel
theorem d_Pa_lowNumber_31 : decode b_Pa_lowNumber 31 = .ok (.iinc 3 1, 3) := by decide +kernel
theorem d_Pa_lowNumber_34 : decode b_Pa_lowNumber 34 = .ok (.goto (-30), 3) := by decide +kernel
theorem d_Pa_lowNumber_37 : decode b_Pa_lowNumber 37 = .ok (.iload_n 2, 1) := by decide +kernel
theorem d_Pa_lowNumber_38 : decode b_Pa_lowNumber 38 = .ok (.ireturn, 1) := by decide +kernel
noncomputable def f_Pa_lowNumber_L4  (n0 : Nat) : Nat → mH → Nat → Int32 → Int32 → Int32 → Option (Int32 × mH)
  | 0, _, _, _, _, _ => none
  | n + 1, h0, a0, x1, x2, x3 =>
    if x1 ≤ x3 then
      some (x2, h0)
    else
      mis h0 a0 8 <|
      mcl (f_Pa_nextBit n0 h0 a0 1) fun v3 h4 =>
      if v3 = (-1) then
        some ((-1), h4)
      else
        mnm (x2 ||| (v3 <<< (x3 &&& 31))) fun v6 =>
        mnm (x3 + 1) fun v7 =>
        (f_Pa_lowNumber_L4 n0 n) h4 a0 x1 v6 v7
noncomputable def f_Pa_lowNumber  (n0 : Nat) (h0 : mH) (a0 : Nat) (x1 : Int32) : Option (Int32 × mH) :=
  f_Pa_lowNumber_L4 n0 n0 h0 a0 x1 0 0
set_option maxHeartbeats 4000000 in
set_option maxRecDepth 100000 in
theorem cb_Pa_lowNumber_L4 {X : mX} {ad : Nat → Nat} {ln : Launch} (O : mO X ad R_Pa b_Pa_lowNumber 5 (mR 2 41) ln) (r' : Int32) (h' : mH) (hE : mEnd X ad (some .int) (some (.int r')) h') (n0 : Nat) : ∀ (n : Nat) (h0 : mH) (a0 : Nat) (x1 : Int32) (x2 : Int32) (x3 : Int32), f_Pa_lowNumber_L4 n0 n h0 a0 x1 x2 x3 = some (r', h') → mAW X ad 0 0 4 [(0, .ref a0), (1, .int x1), (2, .int x2), (3, .int x3)] [] h0 := by
  intro n
  induction n with
  | zero =>
    intro h0 a0 x1 x2 x3 hf
    rw [f_Pa_lowNumber_L4.eq_1] at hf
    cases hf
  | succ n ih =>
    intro h0 a0 x1 x2 x3 hf
    rw [f_Pa_lowNumber_L4.eq_2] at hf
    refine ax_iload_n O d_Pa_lowNumber_4 rfl 3 rfl ?_
    refine ax_iload_n O d_Pa_lowNumber_5 rfl 1 rfl ?_
    refine ax_icmp_ge (tgt := 37) O d_Pa_lowNumber_6 (by decide) (fun q1 => ?_) (fun q1 => ?_)
    · rw [if_pos q1] at hf
      refine ax_iload_n O d_Pa_lowNumber_37 rfl 2 rfl ?_
      exact ax_retE O hE hf rfl d_Pa_lowNumber_38
    · rw [if_neg q1] at hf
      refine ax_aload_n O d_Pa_lowNumber_9 rfl 0 rfl ?_
      refine ax_iconst (v := 1) O d_Pa_lowNumber_10 (by decide) ?_
      obtain ⟨fh4, ch4, hf⟩ := mis_some hf
      obtain ⟨v3, h4, mh4, hf⟩ := mcl_some hf
      refine ax_callV (As := [.int 1]) (rest := []) O cw_Pa_nextBit (q := (R_Pa, T_Pa, 7)) rfl rfl in_Pa_nextBit se_Pa_nextBit lk_Pa_55 ch4 (c_Pa_nextBit mh4) rfl ⟨rfl, rfl⟩ (by decide) (by decide) (Nat.le_of_ble_eq_true rfl) d_Pa_lowNumber_11 ?_
      refine ax_istore (lv' := [(4, .int v3), (0, .ref a0), (1, .int x1), (2, .int x2), (3, .int x3)]) O d_Pa_lowNumber_14 (by decide) rfl ?_
      refine ax_iload O d_Pa_lowNumber_16 0 rfl ?_
      refine ax_iconst (v := (-1)) O d_Pa_lowNumber_18 (by decide) ?_
      refine ax_icmp_ne (tgt := 24) O d_Pa_lowNumber_19 (by decide) (fun q5 => ?_) (fun q5 => ?_)
      · rw [if_neg q5] at hf
        refine ax_iload_n O d_Pa_lowNumber_24 rfl 3 rfl ?_
        refine ax_iload O d_Pa_lowNumber_25 0 rfl ?_
        refine ax_iload_n O d_Pa_lowNumber_27 rfl 4 rfl ?_
        refine ax_ishl O d_Pa_lowNumber_28 ?_
        refine ax_ior O d_Pa_lowNumber_29 ?_
        obtain ⟨v6, ev6, hf⟩ := mnm_some hf
        refine ax_nmi ev6 ?_
        refine ax_istore_n (lv' := [(2, .int v6), (4, .int v3), (0, .ref a0), (1, .int x1), (3, .int x3)]) O d_Pa_lowNumber_30 rfl (by decide) rfl ?_
        obtain ⟨v7, ev7, hf⟩ := mnm_some hf
        refine ax_iinc (j := 4) (v := v7) (lv' := [(3, .int v7), (2, .int v6), (4, .int v3), (0, .ref a0), (1, .int x1)]) O d_Pa_lowNumber_31 rfl (by rw [ev7]; rfl) (by decide) rfl ?_
        refine ax_goto (tgt := 4) O d_Pa_lowNumber_34 (by decide) ?_
        refine ax_sub [3, 4, 1, 0] rfl ?_
        exact ih _ _ _ _ _ hf
      · rw [if_pos q5] at hf
        refine ax_iconst (v := (-1)) O d_Pa_lowNumber_22 (by decide) ?_
        exact ax_retE O hE hf rfl d_Pa_lowNumber_23
set_option maxHeartbeats 4000000 in
set_option maxRecDepth 100000 in
theorem cb_Pa_lowNumber {X : mX} {ad : Nat → Nat} {ln : Launch} (O : mO X ad R_Pa b_Pa_lowNumber 5 (mR 2 41) ln) (r' : Int32) (h' : mH) (hE : mEnd X ad (some .int) (some (.int r')) h') (n0 : Nat) (h0 : mH) (a0 : Nat) (x1 : Int32) (hf : f_Pa_lowNumber n0 h0 a0 x1 = some (r', h')) : mAW X ad 0 0 0 [(0, .ref a0), (1, .int x1)] [] h0 := by
  unfold f_Pa_lowNumber at hf
  refine ax_iconst (v := 0) O d_Pa_lowNumber_0 (by decide) ?_
  refine ax_istore_n (lv' := [(2, .int 0), (0, .ref a0), (1, .int x1)]) O d_Pa_lowNumber_1 rfl (by decide) rfl ?_
  refine ax_iconst (v := 0) O d_Pa_lowNumber_2 (by decide) ?_
  refine ax_istore_n (lv' := [(3, .int 0), (2, .int 0), (0, .ref a0), (1, .int x1)]) O d_Pa_lowNumber_3 rfl (by decide) rfl ?_
  refine ax_sub [2, 3, 1, 0] rfl ?_
  exact cb_Pa_lowNumber_L4 O _ _ hE n0 n0 _ _ _ _ _ hf
theorem c_Pa_lowNumber {ln : Launch} {n0 : Nat} {h0 h' : mH} {a0 : Nat} {x1 : Int32} {r' : Int32} (hf : f_Pa_lowNumber n0 h0 a0 x1 = some (r', h')) : mMet ln y_Pa_lowNumber b_Pa_lowNumber 5 (some .int) (mR 2 41) [.ref a0, .int x1] h0 (some (.int r')) h' := mMet_of (by decide +kernel) (Nat.le_of_ble_eq_true rfl) (fun X ad O hE => cb_Pa_lowNumber O r' h' hE n0 h0 a0 x1 hf)
/-! ===== StreamFilters$Flate.readShort(LStreamFilters$Pass;)I ===== -/
theorem d_Fl_readShort_0 : decode b_Fl_readShort 0 = .ok (.aload_n 0, 1) := by decide +kernel
theorem d_Fl_readShort_1 : decode b_Fl_readShort 1 = .ok (.invokevirtual 72, 3) := by decide +kernel
theorem d_Fl_readShort_4 : decode b_Fl_readShort 4 = .ok (.istore_n 1, 1) := by decide +kernel
theorem d_Fl_readShort_5 : decode b_Fl_readShort 5 = .ok (.aload_n 0, 1) := by decide +kernel
theorem d_Fl_readShort_6 : decode b_Fl_readShort 6 = .ok (.invokevirtual 72, 3) := by decide +kernel
theorem d_Fl_readShort_9 : decode b_Fl_readShort 9 = .ok (.istore_n 2, 1) := by decide +kernel
theorem d_Fl_readShort_10 : decode b_Fl_readShort 10 = .ok (.iload_n 1, 1) := by decide +kernel
theorem d_Fl_readShort_11 : decode b_Fl_readShort 11 = .ok (.iconst (-1), 1) := by decide +kernel
theorem d_Fl_readShort_12 : decode b_Fl_readShort 12 = .ok (.if_icmp .eq 8, 3) := by decide +kernel
theorem d_Fl_readShort_15 : decode b_Fl_readShort 15 = .ok (.iload_n 2, 1) := by decide +kernel
theorem d_Fl_readShort_16 : decode b_Fl_readShort 16 = .ok (.iconst (-1), 1) := by decide +kernel
theorem d_Fl_readShort_17 : decode b_Fl_readShort 17 = .ok (.if_icmp .ne 7, 3) := by decide +kernel
theorem d_Fl_readShort_20 : decode b_Fl_readShort 20 = .ok (.iconst (-1), 1) := by decide +kernel
theorem d_Fl_readShort_21 : decode b_Fl_readShort 21 = .ok (.goto 10, 3) := by decide +kernel
theorem d_Fl_readShort_24 : decode b_Fl_readShort 24 = .ok (.iload_n 2, 1) := by decide +kernel
theorem d_Fl_readShort_25 : decode b_Fl_readShort 25 = .ok (.sipush 256, 3) := by decide +kernel
theorem d_Fl_readShort_28 : decode b_Fl_readShort 28 = .ok (.imul, 1) := by decide +kernel
theorem d_Fl_readShort_29 : decode b_Fl_readShort 29 = .ok (.iload_n 1, 1) := by decide +kernel
theorem d_Fl_readShort_30 : decode b_Fl_readShort 30 = .ok (.iadd, 1) := by decide +kernel
theorem d_Fl_readShort_31 : decode b_Fl_readShort 31 = .ok (.ireturn, 1) := by decide +kernel
noncomputable def f_Fl_readShort  (n0 : Nat) (h0 : mH) (a0 : Nat) : Option (Int32 × mH) :=
  mis h0 a0 8 <|
  mcl (f_Pa_nextByte n0 h0 a0) fun v2 h3 =>
  mis h3 a0 8 <|
  mcl (f_Pa_nextByte n0 h3 a0) fun v5 h6 =>
  if v2 = (-1) then
    some ((-1), h6)
  else
    if v5 = (-1) then
      some ((-1), h6)
    else
      some ((v5 * 256) + v2, h6)
set_option maxHeartbeats 4000000 in
set_option maxRecDepth 100000 in
theorem cb_Fl_readShort {X : mX} {ad : Nat → Nat} {ln : Launch} (O : mO X ad R_Fl b_Fl_readShort 3 (mR 1 20) ln) (r' : Int32) (h' : mH) (hE : mEnd X ad (some .int) (some (.int r')) h') (n0 : Nat) (h0 : mH) (a0 : Nat) (hf : f_Fl_readShort n0 h0 a0 = some (r', h')) : mAW X ad 0 0 0 [(0, .ref a0)] [] h0 := by
  unfold f_Fl_readShort at hf
  refine ax_aload_n O d_Fl_readShort_0 rfl 0 rfl ?_
  obtain ⟨fh3, ch3, hf⟩ := mis_some hf
  obtain ⟨v2, h3, mh3, hf⟩ := mcl_some hf
  refine ax_callV (As := []) (rest := []) O cw_Pa_nextByte (q := (R_Pa, T_Pa, 7)) rfl rfl in_Pa_nextByte se_Pa_nextByte lk_Fl_72 ch3 (c_Pa_nextByte mh3) rfl ⟨rfl, rfl⟩ (by decide) (by decide) (Nat.le_of_ble_eq_true rfl) d_Fl_readShort_1 ?_
  refine ax_istore_n (lv' := [(1, .int v2), (0, .ref a0)]) O d_Fl_readShort_4 rfl (by decide) rfl ?_
  refine ax_aload_n O d_Fl_readShort_5 rfl 1 rfl ?_
  obtain ⟨fh6, ch6, hf⟩ := mis_some hf
  obtain ⟨v5, h6, mh6, hf⟩ := mcl_some hf
  refine ax_callV (As := []) (rest := []) O cw_Pa_nextByte (q := (R_Pa, T_Pa, 7)) rfl rfl in_Pa_nextByte se_Pa_nextByte lk_Fl_72 ch6 (c_Pa_nextByte mh6) rfl ⟨rfl, rfl⟩ (by decide) (by decide) (Nat.le_of_ble_eq_true rfl) d_Fl_readShort_6 ?_
  refine ax_istore_n (lv' := [(2, .int v5), (1, .int v2), (0, .ref a0)]) O d_Fl_readShort_9 rfl (by decide) rfl ?_
  refine ax_iload_n O d_Fl_readShort_10 rfl 1 rfl ?_
  refine ax_iconst (v := (-1)) O d_Fl_readShort_11 (by decide) ?_
  refine ax_icmp_eq (tgt := 20) O d_Fl_readShort_12 (by decide) (fun q7 => ?_) (fun q7 => ?_)
  · rw [if_pos q7] at hf
    refine ax_iconst (v := (-1)) O d_Fl_readShort_20 (by decide) ?_
    refine ax_goto (tgt := 31) O d_Fl_readShort_21 (by decide) ?_
    exact ax_retE O hE hf rfl d_Fl_readShort_31
  · rw [if_neg q7] at hf
    refine ax_iload_n O d_Fl_readShort_15 rfl 0 rfl ?_
    refine ax_iconst (v := (-1)) O d_Fl_readShort_16 (by decide) ?_
    refine ax_icmp_ne (tgt := 24) O d_Fl_readShort_17 (by decide) (fun q8 => ?_) (fun q8 => ?_)
    · rw [if_neg q8] at hf
      refine ax_iload_n O d_Fl_readShort_24 rfl 0 rfl ?_
      refine ax_sipush (v := 256) O d_Fl_readShort_25 (by decide) ?_
      refine ax_imul O d_Fl_readShort_28 ?_
      refine ax_iload_n O d_Fl_readShort_29 rfl 1 rfl ?_
      refine ax_iadd O d_Fl_readShort_30 ?_
      exact ax_retE O hE hf rfl d_Fl_readShort_31
    · rw [if_pos q8] at hf
      refine ax_iconst (v := (-1)) O d_Fl_readShort_20 (by decide) ?_
      refine ax_goto (tgt := 31) O d_Fl_readShort_21 (by decide) ?_
      exact ax_retE O hE hf rfl d_Fl_readShort_31
theorem c_Fl_readShort {ln : Launch} {n0 : Nat} {h0 h' : mH} {a0 : Nat} {r' : Int32} (hf : f_Fl_readShort n0 h0 a0 = some (r', h')) : mMet ln y_Fl_readShort b_Fl_readShort 3 (some .int) (mR 1 20) [.ref a0] h0 (some (.int r')) h' := mMet_of (by decide +kernel) (Nat.le_of_ble_eq_true rfl) (fun X ad O hE => cb_Fl_readShort O r' h' hE n0 h0 a0 hf)
/-! ===== StreamFilters$Pass.give(I)Z ===== -/
theorem d_Pa_give_0 : decode b_Pa_give 0 = .ok (.aload_n 0, 1) := by decide +kernel
theorem d_Pa_give_1 : decode b_Pa_give 1 = .ok (.getfield 36, 3) := by decide +kernel
theorem d_Pa_give_4 : decode b_Pa_give 4 = .ok (.ifCond .gt 9, 3) := by decide +kernel
theorem d_Pa_give_7 : decode b_Pa_give 7 = .ok (.aload_n 0, 1) := by decide +kernel
theorem d_Pa_give_8 : decode b_Pa_give 8 = .ok (.iconst 2, 1) := by decide +kernel
theorem d_Pa_give_9 : decode b_Pa_give 9 = .ok (.invokevirtual 59, 3) := by decide +kernel
theorem d_Pa_give_12 : decode b_Pa_give 12 = .ok (.ireturn, 1) := by decide +kernel
theorem d_Pa_give_13 : decode b_Pa_give 13 = .ok (.aload_n 0, 1) := by decide +kernel
theorem d_Pa_give_14 : decode b_Pa_give 14 = .ok (.dup, 1) := by decide +kernel
theorem d_Pa_give_15 : decode b_Pa_give 15 = .ok (.getfield 36, 3) := by decide +kernel
theorem d_Pa_give_18 : decode b_Pa_give 18 = .ok (.iconst 1, 1) := by decide +kernel
theorem d_Pa_give_19 : decode b_Pa_give 19 = .ok (.isub, 1) := by decide +kernel
theorem d_Pa_give_20 : decode b_Pa_give 20 = .ok (.putfield 36, 3) := by decide +kernel
theorem d_Pa_give_23 : decode b_Pa_give 23 = .ok (.aload_n 0, 1) := by decide +kernel
theorem d_Pa_give_24 : decode b_Pa_give 24 = .ok (.getfield 20, 3) := by decide +kernel
theorem d_Pa_give_27 : decode b_Pa_give 27 = .ok (.iload_n 1, 1) := by decide +kernel
theorem d_Pa_give_28 : decode b_Pa_give 28 = .ok (.invokevirtual 62, 3) := by decide +kernel
theorem d_Pa_give_31 : decode b_Pa_give 31 = .ok (.iconst 1, 1) := by decide +kernel
theorem d_Pa_give_32 : decode b_Pa_give 32 = .ok (.ireturn, 1) := by decide +kernel
noncomputable def f_Pa_give  (n0 : Nat) (h0 : mH) (a0 : Nat) (x1 : Int32) : Option (Int32 × mH) :=
  mgi h0 a0 8 6 fun v1 =>
  if 0 < v1 then
    mgi h0 a0 8 6 fun v3 =>
    mpt h0 a0 8 6 (.int (v3 - 1)) fun h4 =>
    mgr h4 a0 8 1 fun r5 =>
    mis h4 r5 1 <|
    mcl (f_By_add n0 h4 r5 x1) fun _ h8 =>
    some (1, h8)
  else
    mis h0 a0 8 <|
    mcl (f_Pa_fail n0 h0 a0 2) fun v11 h12 =>
    mge (narrow .boolean (.int v11) = .int v11) <|
    some (v11, h12)
set_option maxHeartbeats 4000000 in
set_option maxRecDepth 100000 in
theorem cb_Pa_give {X : mX} {ad : Nat → Nat} {ln : Launch} (O : mO X ad R_Pa b_Pa_give 2 (mR 1 21) ln) (r' : Int32) (h' : mH) (hE : mEnd X ad (some .boolean) (some (.int r')) h') (n0 : Nat) (h0 : mH) (a0 : Nat) (x1 : Int32) (hf : f_Pa_give n0 h0 a0 x1 = some (r', h')) : mAW X ad 0 0 0 [(0, .ref a0), (1, .int x1)] [] h0 := by
  unfold f_Pa_give at hf
  refine ax_aload_n O d_Pa_give_0 rfl 0 rfl ?_
  obtain ⟨fv1, v1, cv1, kv1, hf⟩ := mgi_some hf
  refine ax_get O fg_Pa_36 cv1 kv1 d_Pa_give_1 ?_
  refine ax_if_gt (tgt := 13) O d_Pa_give_4 (by decide) (fun q2 => ?_) (fun q2 => ?_)
  · rw [if_pos q2] at hf
    refine ax_aload_n O d_Pa_give_13 rfl 0 rfl ?_
    refine ax_dup O d_Pa_give_14 rfl ?_
    obtain ⟨fv3, v3, cv3, kv3, hf⟩ := mgi_some hf
    refine ax_get O fg_Pa_36 cv3 kv3 d_Pa_give_15 ?_
    refine ax_iconst (v := 1) O d_Pa_give_18 (by decide) ?_
    refine ax_isub O d_Pa_give_19 ?_
    obtain ⟨fh4, h4, ch4, kh4, eh4, hf⟩ := mpt_some hf
    refine ax_put (v := .int (v3 - 1)) O fp_Pa_36 ch4 kh4 eh4 rfl rfl d_Pa_give_20 ?_
    refine ax_aload_n O d_Pa_give_23 rfl 0 rfl ?_
    obtain ⟨fr5, r5, cr5, kr5, hf⟩ := mgr_some hf
    refine ax_get O fg_Pa_20 cr5 kr5 d_Pa_give_24 ?_
    refine ax_iload_n O d_Pa_give_27 rfl 1 rfl ?_
    obtain ⟨fh8, ch8, hf⟩ := mis_some hf
    obtain ⟨u9, h8, mh8, hf⟩ := mcl_some hf
    refine ax_callV (As := [.int x1]) (rest := []) O cw_By_add (q := (R_By, T_By, 2)) rfl rfl in_By_add se_By_add lk_Pa_62 ch8 (c_By_add mh8) rfl ⟨rfl, rfl⟩ (by decide) (by decide) (Nat.le_of_ble_eq_true rfl) d_Pa_give_28 ?_
    refine ax_iconst (v := 1) O d_Pa_give_31 (by decide) ?_
    exact ax_retE O hE hf rfl d_Pa_give_32
  · rw [if_neg q2] at hf
    refine ax_aload_n O d_Pa_give_7 rfl 0 rfl ?_
    refine ax_iconst (v := 2) O d_Pa_give_8 (by decide) ?_
    obtain ⟨fh12, ch12, hf⟩ := mis_some hf
    obtain ⟨v11, h12, mh12, hf⟩ := mcl_some hf
    refine ax_callV (As := [.int 2]) (rest := []) O cw_Pa_fail (q := (R_Pa, T_Pa, 7)) rfl rfl in_Pa_fail se_Pa_fail lk_Pa_59 ch12 (c_Pa_fail mh12) rfl ⟨rfl, rfl⟩ (by decide) (by decide) (Nat.le_of_ble_eq_true rfl) d_Pa_give_9 ?_
    obtain ⟨q13, hf⟩ := mge_some hf
    exact ax_retE O hE hf q13 d_Pa_give_12
theorem c_Pa_give {ln : Launch} {n0 : Nat} {h0 h' : mH} {a0 : Nat} {x1 : Int32} {r' : Int32} (hf : f_Pa_give n0 h0 a0 x1 = some (r', h')) : mMet ln y_Pa_give b_Pa_give 2 (some .boolean) (mR 1 21) [.ref a0, .int x1] h0 (some (.int r')) h' := mMet_of (by decide +kernel) (Nat.le_of_ble_eq_true rfl) (fun X ad O hE => cb_Pa_give O r' h' hE n0 h0 a0 x1 hf)
/-! ===== StreamFilters$Pass.giveAsTheyAre(I)Z ===== -/
theorem d_Pa_giveAsTheyAre_0 : decode b_Pa_giveAsTheyAre 0 = .ok (.iconst 0, 1) := by decide +kernel
theorem d_Pa_giveAsTheyAre_1 : decode b_Pa_giveAsTheyAre 1 = .ok (.istore_n 2, 1) := by decide +kernel
theorem d_Pa_giveAsTheyAre_2 : decode b_Pa_giveAsTheyAre 2 = .ok (.iload_n 2, 1) := by decide +kernel
theorem d_Pa_giveAsTheyAre_3 : decode b_Pa_giveAsTheyAre 3 = .ok (.iload_n 1, 1) := by decide +kernel
theorem d_Pa_giveAsTheyAre_4 : decode b_Pa_giveAsTheyAre 4 = .ok (.if_icmp .ge 29, 3) := by decide +kernel
theorem d_Pa_giveAsTheyAre_7 : decode b_Pa_giveAsTheyAre 7 = .ok (.aload_n 0, 1) := by decide +kernel
theorem d_Pa_giveAsTheyAre_8 : decode b_Pa_giveAsTheyAre 8 = .ok (.invokevirtual 47, 3) := by decide +kernel
theorem d_Pa_giveAsTheyAre_11 : decode b_Pa_giveAsTheyAre 11 = .ok (.istore_n 3, 1) := by decide +kernel
theorem d_Pa_giveAsTheyAre_12 : decode b_Pa_giveAsTheyAre 12 = .ok (.iload_n 3, 1) := by decide +kernel
theorem d_Pa_giveAsTheyAre_13 : decode b_Pa_giveAsTheyAre 13 = .ok (.iconst (-1), 1) := by decide +kernel
theorem d_Pa_giveAsTheyAre_14 : decode b_Pa_giveAsTheyAre 14 = .ok (.if_icmp .eq 11, 3) := by decide +kernel
theorem d_Pa_giveAsTheyAre_17 : decode b_Pa_giveAsTheyAre 17 = .ok (.aload_n 0, 1) := by decide +kernel
theorem d_Pa_giveAsTheyAre_18 : decode b_Pa_giveAsTheyAre 18 = .ok (.iload_n 3, 1) := by decide +kernel
theorem d_Pa_giveAsTheyAre_19 : decode b_Pa_giveAsTheyAre 19 = .ok (.invokevirtual 65, 3) := by decide +kernel
theorem d_Pa_giveAsTheyAre_22 : decode b_Pa_giveAsTheyAre 22 = .ok (.ifCond .ne 5, 3) := by decide +kernel
theorem d_Pa_giveAsTheyAre_25 : decode b_Pa_giveAsTheyAre 25 = .ok (.iconst 0, 1) := by decide +kernel
theorem d_Pa_giveAsTheyAre_26 : decode b_Pa_giveAsTheyAre 26 = .ok (.ireturn, 1) := by decide +kernel
theorem d_Pa_giveAsTheyAre_27 : decode b_Pa_giveAsTheyAre 27 = .ok (.iinc 2 1, 3) := by decide +kernel
theorem d_Pa_giveAsTheyAre_30 : decode b_Pa_giveAsTheyAre 30 = .ok (.goto (-28), 3) := by decide +kernel
theorem d_Pa_giveAsTheyAre_33 : decode b_Pa_giveAsTheyAre 33 = .ok (.iconst 1, 1) := by decide +kernel
theorem d_Pa_giveAsTheyAre_34 : decode b_Pa_giveAsTheyAre 34 = .ok (.ireturn, 1) := by decide +kernel
noncomputable def f_Pa_giveAsTheyAre_L2  (n0 : Nat) : Nat → mH → Nat → Int32 → Int32 → Option (Int32 × mH)
  | 0, _, _, _, _ => none
  | n + 1, h0, a0, x1, x2 =>
    if x1 ≤ x2 then
      some (1, h0)
    else
      mis h0 a0 8 <|
      mcl (f_Pa_nextByte n0 h0 a0) fun v3 h4 =>
      if v3 = (-1) then
        some (0, h4)
      else
        mis h4 a0 8 <|
        mcl (f_Pa_give n0 h4 a0 v3) fun v7 h8 =>
        if v7 = 0 then
          some (0, h8)
        else
          mnm (x2 + 1) fun v10 =>
          (f_Pa_giveAsTheyAre_L2 n0 n) h8 a0 x1 v10
noncomputable def f_Pa_giveAsTheyAre  (n0 : Nat) (h0 : mH) (a0 : Nat) (x1 : Int32) : Option (Int32 × mH) :=
  f_Pa_giveAsTheyAre_L2 n0 n0 h0 a0 x1 0
set_option maxHeartbeats 4000000 in
set_option maxRecDepth 100000 in
theorem cb_Pa_giveAsTheyAre_L2 {X : mX} {ad : Nat → Nat} {ln : Launch} (O : mO X ad R_Pa b_Pa_giveAsTheyAre 4 (mR 2 42) ln) (r' : Int32) (h' : mH) (hE : mEnd X ad (some .boolean) (some (.int r')) h') (n0 : Nat) : ∀ (n : Nat) (h0 : mH) (a0 : Nat) (x1 : Int32) (x2 : Int32), f_Pa_giveAsTheyAre_L2 n0 n h0 a0 x1 x2 = some (r', h') → mAW X ad 0 0 2 [(0, .ref a0), (1, .int x1), (2, .int x2)] [] h0 := by
  intro n
  induction n with
  | zero =>
    intro h0 a0 x1 x2 hf
    rw [f_Pa_giveAsTheyAre_L2.eq_1] at hf
    cases hf
  | succ n ih =>
    intro h0 a0 x1 x2 hf
    rw [f_Pa_giveAsTheyAre_L2.eq_2] at hf
    refine ax_iload_n O d_Pa_giveAsTheyAre_2 rfl 2 rfl ?_
    refine ax_iload_n O d_Pa_giveAsTheyAre_3 rfl 1 rfl ?_
    refine ax_icmp_ge (tgt := 33) O d_Pa_giveAsTheyAre_4 (by decide) (fun q1 => ?_) (fun q1 => ?_)
    · rw [if_pos q1] at hf
      refine ax_iconst (v := 1) O d_Pa_giveAsTheyAre_33 (by decide) ?_
      exact ax_retE O hE hf rfl d_Pa_giveAsTheyAre_34
    · rw [if_neg q1] at hf
      refine ax_aload_n O d_Pa_giveAsTheyAre_7 rfl 0 rfl ?_
      obtain ⟨fh4, ch4, hf⟩ := mis_some hf
      obtain ⟨v3, h4, mh4, hf⟩ := mcl_some hf
      refine ax_callV (As := []) (rest := []) O cw_Pa_nextByte (q := (R_Pa, T_Pa, 7)) rfl rfl in_Pa_nextByte se_Pa_nextByte lk_Pa_47 ch4 (c_Pa_nextByte mh4) rfl ⟨rfl, rfl⟩ (by decide) (by decide) (Nat.le_of_ble_eq_true rfl) d_Pa_giveAsTheyAre_8 ?_
      refine ax_istore_n (lv' := [(3, .int v3), (0, .ref a0), (1, .int x1), (2, .int x2)]) O d_Pa_giveAsTheyAre_11 rfl (by decide) rfl ?_
      refine ax_iload_n O d_Pa_giveAsTheyAre_12 rfl 0 rfl ?_
      refine ax_iconst (v := (-1)) O d_Pa_giveAsTheyAre_13 (by decide) ?_
      refine ax_icmp_eq (tgt := 25) O d_Pa_giveAsTheyAre_14 (by decide) (fun q5 => ?_) (fun q5 => ?_)
      · rw [if_pos q5] at hf
        refine ax_iconst (v := 0) O d_Pa_giveAsTheyAre_25 (by decide) ?_
        exact ax_retE O hE hf rfl d_Pa_giveAsTheyAre_26
      · rw [if_neg q5] at hf
        refine ax_aload_n O d_Pa_giveAsTheyAre_17 rfl 1 rfl ?_
        refine ax_iload_n O d_Pa_giveAsTheyAre_18 rfl 0 rfl ?_
        obtain ⟨fh8, ch8, hf⟩ := mis_some hf
        obtain ⟨v7, h8, mh8, hf⟩ := mcl_some hf
        refine ax_callV (As := [.int v3]) (rest := []) O cw_Pa_give (q := (R_Pa, T_Pa, 7)) rfl rfl in_Pa_give se_Pa_give lk_Pa_65 ch8 (c_Pa_give mh8) rfl ⟨rfl, rfl⟩ (by decide) (by decide) (Nat.le_of_ble_eq_true rfl) d_Pa_giveAsTheyAre_19 ?_
        refine ax_if_ne (tgt := 27) O d_Pa_giveAsTheyAre_22 (by decide) (fun q9 => ?_) (fun q9 => ?_)
        · rw [if_neg q9] at hf
          obtain ⟨v10, ev10, hf⟩ := mnm_some hf
          refine ax_iinc (j := 3) (v := v10) (lv' := [(2, .int v10), (3, .int v3), (0, .ref a0), (1, .int x1)]) O d_Pa_giveAsTheyAre_27 rfl (by rw [ev10]; rfl) (by decide) rfl ?_
          refine ax_goto (tgt := 2) O d_Pa_giveAsTheyAre_30 (by decide) ?_
          refine ax_sub [2, 3, 0] rfl ?_
          exact ih _ _ _ _ hf
        · rw [if_pos q9] at hf
          refine ax_iconst (v := 0) O d_Pa_giveAsTheyAre_25 (by decide) ?_
          exact ax_retE O hE hf rfl d_Pa_giveAsTheyAre_26
set_option maxHeartbeats 4000000 in
set_option maxRecDepth 100000 in
theorem cb_Pa_giveAsTheyAre {X : mX} {ad : Nat → Nat} {ln : Launch} (O : mO X ad R_Pa b_Pa_giveAsTheyAre 4 (mR 2 42) ln) (r' : Int32) (h' : mH) (hE : mEnd X ad (some .boolean) (some (.int r')) h') (n0 : Nat) (h0 : mH) (a0 : Nat) (x1 : Int32) (hf : f_Pa_giveAsTheyAre n0 h0 a0 x1 = some (r', h')) : mAW X ad 0 0 0 [(0, .ref a0), (1, .int x1)] [] h0 := by
  unfold f_Pa_giveAsTheyAre at hf
  refine ax_iconst (v := 0) O d_Pa_giveAsTheyAre_0 (by decide) ?_
  refine ax_istore_n (lv' := [(2, .int 0), (0, .ref a0), (1, .int x1)]) O d_Pa_giveAsTheyAre_1 rfl (by decide) rfl ?_
  refine ax_sub [1, 2, 0] rfl ?_
  exact cb_Pa_giveAsTheyAre_L2 O _ _ hE n0 n0 _ _ _ _ hf
theorem c_Pa_giveAsTheyAre {ln : Launch} {n0 : Nat} {h0 h' : mH} {a0 : Nat} {x1 : Int32} {r' : Int32} (hf : f_Pa_giveAsTheyAre n0 h0 a0 x1 = some (r', h')) : mMet ln y_Pa_giveAsTheyAre b_Pa_giveAsTheyAre 4 (some .boolean) (mR 2 42) [.ref a0, .int x1] h0 (some (.int r')) h' := mMet_of (by decide +kernel) (Nat.le_of_ble_eq_true rfl) (fun X ad O hE => cb_Pa_giveAsTheyAre O r' h' hE n0 h0 a0 x1 hf)
/-! ===== StreamFilters$Flate.unpackStored(LStreamFilters$Pass;)Z ===== -/
theorem d_Fl_unpackStored_0 : decode b_Fl_unpackStored 0 = .ok (.aload_n 0, 1) := by decide +kernel
theorem d_Fl_unpackStored_1 : decode b_Fl_unpackStored 1 = .ok (.invokestatic 76, 3) := by decide +kernel
theorem d_Fl_unpackStored_4 : decode b_Fl_unpackStored 4 = .ok (.istore_n 1, 1) := by decide +kernel
theorem d_Fl_unpackStored_5 : decode b_Fl_unpackStored 5 = .ok (.aload_n 0, 1) := by decide +kernel
theorem d_Fl_unpackStored_6 : decode b_Fl_unpackStored 6 = .ok (.invokestatic 76, 3) := by decide +kernel
theorem d_Fl_unpackStored_9 : decode b_Fl_unpackStored 9 = .ok (.istore_n 2, 1) := by decide +kernel
theorem d_Fl_unpackStored_10 : decode b_Fl_unpackStored 10 = .ok (.iload_n 1, 1) := by decide +kernel
theorem d_Fl_unpackStored_11 : decode b_Fl_unpackStored 11 = .ok (.iconst (-1), 1) := by decide +kernel
theorem d_Fl_unpackStored_12 : decode b_Fl_unpackStored 12 = .ok (.if_icmp .eq 8, 3) := by decide +kernel
theorem d_Fl_unpackStored_15 : decode b_Fl_unpackStored 15 = .ok (.iload_n 2, 1) := by decide +kernel
theorem d_Fl_unpackStored_16 : decode b_Fl_unpackStored 16 = .ok (.iconst (-1), 1) := by decide +kernel
theorem d_Fl_unpackStored_17 : decode b_Fl_unpackStored 17 = .ok (.if_icmp .ne 5, 3) := by decide +kernel
theorem d_Fl_unpackStored_20 : decode b_Fl_unpackStored 20 = .ok (.iconst 0, 1) := by decide +kernel
theorem d_Fl_unpackStored_21 : decode b_Fl_unpackStored 21 = .ok (.ireturn, 1) := by decide +kernel
theorem d_Fl_unpackStored_22 : decode b_Fl_unpackStored 22 = .ok (.iload_n 2, 1) := by decide +kernel
theorem d_Fl_unpackStored_23 : decode b_Fl_unpackStored 23 = .ok (.ldc 80, 2) := by decide +kernel
theorem d_Fl_unpackStored_25 : decode b_Fl_unpackStored 25 = .ok (.iload_n 1, 1) := by decide +kernel
theorem d_Fl_unpackStored_26 : decode b_Fl_unpackStored 26 = .ok (.isub, 1) := by decide +kernel
theorem d_Fl_unpackStored_27 : decode b_Fl_unpackStored 27 = .ok (.if_icmp .eq 9, 3) := by decide +kernel
theorem d_Fl_unpackStored_30 : decode b_Fl_unpackStored 30 = .ok (.aload_n 0, 1) := by decide +kernel
theorem d_Fl_unpackStored_31 : decode b_Fl_unpackStored 31 = .ok (.iconst 5, 1) := by decide +kernel
theorem d_Fl_unpackStored_32 : decode b_Fl_unpackStored 32 = .ok (.invokevirtual 64, 3) := by decide +kernel
theorem d_Fl_unpackStored_35 : decode b_Fl_unpackStored 35 = .ok (.ireturn, 1) := by decide +kernel
theorem d_Fl_unpackStored_36 : decode b_Fl_unpackStored 36 = .ok (.aload_n 0, 1) := by decide +kernel
theorem d_Fl_unpackStored_37 : decode b_Fl_unpackStored 37 = .ok (.iload_n 1, 1) := by decide +kernel
theorem d_Fl_unpackStored_38 : decode b_Fl_unpackStored 38 = .ok (.invokevirtual 81, 3) := by decide +kernel
theorem d_Fl_unpackStored_41 : decode b_Fl_unpackStored 41 = .ok (.ireturn, 1) := by decide +kernel
noncomputable def f_Fl_unpackStored  (n0 : Nat) (h0 : mH) (a0 : Nat) : Option (Int32 × mH) :=
  mcl (f_Fl_readShort n0 h0 a0) fun v2 h3 =>
  mcl (f_Fl_readShort n0 h3 a0) fun v5 h6 =>
  if v2 = (-1) then
    some (0, h6)
  else
    if v5 = (-1) then
      some (0, h6)
    else
      if v5 = (65535 - v2) then
        mis h6 a0 8 <|
        mcl (f_Pa_giveAsTheyAre n0 h6 a0 v2) fun v11 h12 =>
        mge (narrow .boolean (.int v11) = .int v11) <|
        some (v11, h12)
      else
        mis h6 a0 8 <|
        mcl (f_Pa_fail n0 h6 a0 5) fun v15 h16 =>
        mge (narrow .boolean (.int v15) = .int v15) <|
        some (v15, h16)
set_option maxHeartbeats 4000000 in
set_option maxRecDepth 100000 in
theorem cb_Fl_unpackStored {X : mX} {ad : Nat → Nat} {ln : Launch} (O : mO X ad R_Fl b_Fl_unpackStored 3 (mR 3 65) ln) (r' : Int32) (h' : mH) (hE : mEnd X ad (some .boolean) (some (.int r')) h') (n0 : Nat) (h0 : mH) (a0 : Nat) (hf : f_Fl_unpackStored n0 h0 a0 = some (r', h')) : mAW X ad 0 0 0 [(0, .ref a0)] [] h0 := by
  unfold f_Fl_unpackStored at hf
  refine ax_aload_n O d_Fl_unpackStored_0 rfl 0 rfl ?_
  obtain ⟨v2, h3, mh3, hf⟩ := mcl_some hf
  refine ax_callS (As := [.ref a0]) (rest := []) O cw_Fl_readShort st_Fl_readShort lk_Fl_76 (c_Fl_readShort mh3) rfl ⟨rfl, rfl⟩ (by decide) (by decide) (Nat.le_of_ble_eq_true rfl) d_Fl_unpackStored_1 ?_
  refine ax_istore_n (lv' := [(1, .int v2), (0, .ref a0)]) O d_Fl_unpackStored_4 rfl (by decide) rfl ?_
  refine ax_aload_n O d_Fl_unpackStored_5 rfl 1 rfl ?_
  obtain ⟨v5, h6, mh6, hf⟩ := mcl_some hf
  refine ax_callS (As := [.ref a0]) (rest := []) O cw_Fl_readShort st_Fl_readShort lk_Fl_76 (c_Fl_readShort mh6) rfl ⟨rfl, rfl⟩ (by decide) (by decide) (Nat.le_of_ble_eq_true rfl) d_Fl_unpackStored_6 ?_
  refine ax_istore_n (lv' := [(2, .int v5), (1, .int v2), (0, .ref a0)]) O d_Fl_unpackStored_9 rfl (by decide) rfl ?_
  refine ax_iload_n O d_Fl_unpackStored_10 rfl 1 rfl ?_
  refine ax_iconst (v := (-1)) O d_Fl_unpackStored_11 (by decide) ?_
  refine ax_icmp_eq (tgt := 20) O d_Fl_unpackStored_12 (by decide) (fun q7 => ?_) (fun q7 => ?_)
  · rw [if_pos q7] at hf
    refine ax_iconst (v := 0) O d_Fl_unpackStored_20 (by decide) ?_
    exact ax_retE O hE hf rfl d_Fl_unpackStored_21
  · rw [if_neg q7] at hf
    refine ax_iload_n O d_Fl_unpackStored_15 rfl 0 rfl ?_
    refine ax_iconst (v := (-1)) O d_Fl_unpackStored_16 (by decide) ?_
    refine ax_icmp_ne (tgt := 22) O d_Fl_unpackStored_17 (by decide) (fun q8 => ?_) (fun q8 => ?_)
    · rw [if_neg q8] at hf
      refine ax_iload_n O d_Fl_unpackStored_22 rfl 0 rfl ?_
      refine ax_ldc (v := 65535) O d_Fl_unpackStored_23 wd_19 ?_
      refine ax_iload_n O d_Fl_unpackStored_25 rfl 1 rfl ?_
      refine ax_isub O d_Fl_unpackStored_26 ?_
      refine ax_icmp_eq (tgt := 36) O d_Fl_unpackStored_27 (by decide) (fun q9 => ?_) (fun q9 => ?_)
      · rw [if_pos q9] at hf
        refine ax_aload_n O d_Fl_unpackStored_36 rfl 2 rfl ?_
        refine ax_iload_n O d_Fl_unpackStored_37 rfl 1 rfl ?_
        obtain ⟨fh12, ch12, hf⟩ := mis_some hf
        obtain ⟨v11, h12, mh12, hf⟩ := mcl_some hf
        refine ax_callV (As := [.int v2]) (rest := []) O cw_Pa_giveAsTheyAre (q := (R_Pa, T_Pa, 7)) rfl rfl in_Pa_giveAsTheyAre se_Pa_giveAsTheyAre lk_Fl_81 ch12 (c_Pa_giveAsTheyAre mh12) rfl ⟨rfl, rfl⟩ (by decide) (by decide) (Nat.le_of_ble_eq_true rfl) d_Fl_unpackStored_38 ?_
        obtain ⟨q13, hf⟩ := mge_some hf
        exact ax_retE O hE hf q13 d_Fl_unpackStored_41
      · rw [if_neg q9] at hf
        refine ax_aload_n O d_Fl_unpackStored_30 rfl 2 rfl ?_
        refine ax_iconst (v := 5) O d_Fl_unpackStored_31 (by decide) ?_
        obtain ⟨fh16, ch16, hf⟩ := mis_some hf
        obtain ⟨v15, h16, mh16, hf⟩ := mcl_some hf
        refine ax_callV (As := [.int 5]) (rest := []) O cw_Pa_fail (q := (R_Pa, T_Pa, 7)) rfl rfl in_Pa_fail se_Pa_fail lk_Fl_64 ch16 (c_Pa_fail mh16) rfl ⟨rfl, rfl⟩ (by decide) (by decide) (Nat.le_of_ble_eq_true rfl) d_Fl_unpackStored_32 ?_
        obtain ⟨q17, hf⟩ := mge_some hf
        exact ax_retE O hE hf q17 d_Fl_unpackStored_35
    · rw [if_pos q8] at hf
      refine ax_iconst (v := 0) O d_Fl_unpackStored_20 (by decide) ?_
      exact ax_retE O hE hf rfl d_Fl_unpackStored_21
theorem c_Fl_unpackStored {ln : Launch} {n0 : Nat} {h0 h' : mH} {a0 : Nat} {r' : Int32} (hf : f_Fl_unpackStored n0 h0 a0 = some (r', h')) : mMet ln y_Fl_unpackStored b_Fl_unpackStored 3 (some .boolean) (mR 3 65) [.ref a0] h0 (some (.int r')) h' := mMet_of (by decide +kernel) (Nat.le_of_ble_eq_true rfl) (fun X ad O hE => cb_Fl_unpackStored O r' h' hE n0 h0 a0 hf)
/-! ===== StreamFilters$Flate.readDistance(LStreamFilters$Pass;LStreamFilters$Codes;)I ===== -/
theorem d_Fl_readDistance_0 : decode b_Fl_readDistance 0 = .ok (.aload_n 1, 1) := by decide +kernel
theorem d_Fl_readDistance_1 : decode b_Fl_readDistance 1 = .ok (.aload_n 0, 1) := by decide +kernel
theorem d_Fl_readDistance_2 : decode b_Fl_readDistance 2 = .ok (.invokevirtual 98, 3) := by decide +kernel
theorem d_Fl_readDistance_5 : decode b_Fl_readDistance 5 = .ok (.istore_n 2, 1) := by decide +kernel
theorem d_Fl_readDistance_6 : decode b_Fl_readDistance 6 = .ok (.iload_n 2, 1) := by decide +kernel
theorem d_Fl_readDistance_7 : decode b_Fl_readDistance 7 = .ok (.iconst (-1), 1) := by decide +kernel
theorem d_Fl_readDistance_8 : decode b_Fl_readDistance 8 = .ok (.if_icmp .ne 5, 3) := by decide +kernel
theorem d_Fl_readDistance_11 : decode b_Fl_readDistance 11 = .ok (.iconst (-1), 1) := by decide +kernel
theorem d_Fl_readDistance_12 : decode b_Fl_readDistance 12 = .ok (.ireturn, 1) := by decide +kernel
theorem d_Fl_readDistance_13 : decode b_Fl_readDistance 13 = .ok (.iload_n 2, 1) := by decide +kernel
theorem d_Fl_readDistance_14 : decode b_Fl_readDistance 14 = .ok (.ifCond .lt 19, 3) := by decide +kernel
theorem d_Fl_readDistance_17 : decode b_Fl_readDistance 17 = .ok (.iload_n 2, 1) := by decide +kernel
theorem d_Fl_readDistance_18 : decode b_Fl_readDistance 18 = .ok (.getstatic 136, 3) := by decide +kernel
theorem d_Fl_readDistance_21 : decode b_Fl_readDistance 21 = .ok (.arraylength, 1) := by decide +kernel
theorem d_Fl_readDistance_22 : decode b_Fl_readDistance 22 = .ok (.if_icmp .ge 11, 3) := by decide +kernel
theorem d_Fl_readDistance_25 : decode b_Fl_readDistance 25 = .ok (.iload_n 2, 1) := by decide +kernel
theorem d_Fl_readDistance_26 : decode b_Fl_readDistance 26 = .ok (.getstatic 139, 3) := by decide +kernel
theorem d_Fl_readDistance_29 : decode b_Fl_readDistance 29 = .ok (.arraylength, 1) := by decide +kernel
theorem d_Fl_readDistance_30 : decode b_Fl_readDistance 30 = .ok (.if_icmp .lt 12, 3) := by decide +kernel
theorem d_Fl_readDistance_33 : decode b_Fl_readDistance 33 = .ok (.aload_n 0, 1) := by decide +kernel
theorem d_Fl_readDistance_34 : decode b_Fl_readDistance 34 = .ok (.bipush 7, 2) := by decide +kernel
theorem d_Fl_readDistance_36 : decode b_Fl_readDistance 36 = .ok (.invokevirtual 64, 3) := by decide +kernel
theorem d_Fl_readDistance_39 : decode b_Fl_readDistance 39 = .ok (.pop, 1) := by decide +kernel
theorem d_Fl_readDistance_40 : decode b_Fl_readDistance 40 = .ok (.iconst (-1), 1) := by decide +kernel
theorem d_Fl_readDistance_41 : decode b_Fl_readDistance 41 = .ok (.ireturn, 1) := by decide +kernel
theorem d_Fl_readDistance_42 : decode b_Fl_readDistance 42 = .ok (.aload_n 0, 1) := by decide +kernel
theorem d_Fl_readDistance_43 : decode b_Fl_readDistance 43 = .ok (.getstatic 139, 3) := by decide +kernel
theorem d_Fl_readDistance_46 : decode b_Fl_readDistance 46 = .ok (.iload_n 2, 1) := by decide +kernel
theorem d_Fl_readDistance_47 : decode b_Fl_readDistance 47 = .ok (.iaload, 1) := by decide +kernel
theorem d_Fl_readDistance_48 : decode b_Fl_readDistance 48 = .ok (.invokevirtual 48, 3) := by decide +kernel
theorem d_Fl_readDistance_51 : decode b_Fl_readDistance 51 = .ok (.istore_n 3, 1) := by decide +kernel
theorem d_Fl_readDistance_52 : decode b_Fl_readDistance 52 = .ok (.iload_n 3, 1) := by decide +kernel
theorem d_Fl_readDistance_53 : decode b_Fl_readDistance 53 = .ok (.iconst (-1), 1) := by decide +kernel
theorem d_Fl_readDistance_54 : decode b_Fl_readDistance 54 = .ok (.if_icmp .ne 7, 3) := by decide +kernel
theorem d_Fl_readDistance_57 : decode b_Fl_readDistance 57 = .ok (.iconst (-1), 1) := by decide +kernel
theorem d_Fl_readDistance_58 : decode b_Fl_readDistance 58 = .ok (.goto 10, 3) := by decide +kernel
theorem d_Fl_readDistance_61 : decode b_Fl_readDistance 61 = .ok (.getstatic 136, 3) := by decide +kernel
theorem d_Fl_readDistance_64 : decode b_Fl_readDistance 64 = .ok (.iload_n 2, 1) := by decide +kernel
theorem d_Fl_readDistance_65 : decode b_Fl_readDistance 65 = .ok (.iaload, 1) := by decide +kernel
theorem d_Fl_readDistance_66 : decode b_Fl_readDistance 66 = .ok (.iload_n 3, 1) := by decide +kernel
theorem d_Fl_readDistance_67 : decode b_Fl_readDistance 67 = .ok (.iadd, 1) := by decide +kernel
theorem d_Fl_readDistance_68 : decode b_Fl_readDistance 68 = .ok (.ireturn, 1) := by decide +kernel
noncomputable def f_Fl_readDistance_B33  (n0 : Nat) (h0 : mH) (a0 : Nat) : Option (Int32 × mH) :=
  mis h0 a0 8 <|
  mcl (f_Pa_fail n0 h0 a0 7) fun v7 h8 =>
  some ((-1), h8)
noncomputable def f_Fl_readDistance  (n0 : Nat) (h0 : mH) (a0 : Nat) (a1 : Nat) : Option (Int32 × mH) :=
  mis h0 a1 2 <|
  mcl (f_Co_read n0 h0 a1 a0) fun v2 h3 =>
  if v2 = (-1) then
    some ((-1), h3)
  else
    if v2 < 0 then
      f_Fl_readDistance_B33 n0 h3 a0
    else
      if (nI 30) ≤ v2 then
        f_Fl_readDistance_B33 n0 h3 a0
      else
        if v2 < (nI 30) then
          msl mS4 30 v2 fun v13 =>
          mis h3 a0 8 <|
          mcl (f_Pa_lowNumber n0 h3 a0 v13) fun v15 h16 =>
          if v15 = (-1) then
            some ((-1), h16)
          else
            msl mS3 30 v2 fun v18 =>
            some (v18 + v15, h16)
        else
          f_Fl_readDistance_B33 n0 h3 a0
set_option maxHeartbeats 4000000 in
set_option maxRecDepth 100000 in
theorem cb_Fl_readDistance_B33 {X : mX} {ad : Nat → Nat} {ln : Launch} (O : mO X ad R_Fl b_Fl_readDistance 4 (mR 3 68) ln) (r' : Int32) (h' : mH) (hE : mEnd X ad (some .int) (some (.int r')) h') (n0 : Nat) (h0 : mH) (a0 : Nat) (hf : f_Fl_readDistance_B33 n0 h0 a0 = some (r', h')) : mAW X ad 0 0 33 [(0, .ref a0)] [] h0 := by
  unfold f_Fl_readDistance_B33 at hf
  refine ax_aload_n O d_Fl_readDistance_33 rfl 0 rfl ?_
  refine ax_bipush (v := 7) O d_Fl_readDistance_34 (by decide) ?_
  obtain ⟨fh8, ch8, hf⟩ := mis_some hf
  obtain ⟨v7, h8, mh8, hf⟩ := mcl_some hf
  refine ax_callV (As := [.int 7]) (rest := []) O cw_Pa_fail (q := (R_Pa, T_Pa, 7)) rfl rfl in_Pa_fail se_Pa_fail lk_Fl_64 ch8 (c_Pa_fail mh8) rfl ⟨rfl, rfl⟩ (by decide) (by decide) (Nat.le_of_ble_eq_true rfl) d_Fl_readDistance_36 ?_
  refine ax_pop O d_Fl_readDistance_39 rfl ?_
  refine ax_iconst (v := (-1)) O d_Fl_readDistance_40 (by decide) ?_
  exact ax_retE O hE hf rfl d_Fl_readDistance_41
set_option maxHeartbeats 4000000 in
set_option maxRecDepth 100000 in
theorem cb_Fl_readDistance {X : mX} {ad : Nat → Nat} {ln : Launch} (O : mO X ad R_Fl b_Fl_readDistance 4 (mR 3 68) ln) (r' : Int32) (h' : mH) (hE : mEnd X ad (some .int) (some (.int r')) h') (n0 : Nat) (h0 : mH) (a0 : Nat) (a1 : Nat) (hf : f_Fl_readDistance n0 h0 a0 a1 = some (r', h')) : mAW X ad 0 0 0 [(0, .ref a0), (1, .ref a1)] [] h0 := by
  unfold f_Fl_readDistance at hf
  refine ax_aload_n O d_Fl_readDistance_0 rfl 1 rfl ?_
  refine ax_aload_n O d_Fl_readDistance_1 rfl 0 rfl ?_
  obtain ⟨fh3, ch3, hf⟩ := mis_some hf
  obtain ⟨v2, h3, mh3, hf⟩ := mcl_some hf
  refine ax_callV (As := [.ref a0]) (rest := []) O cw_Co_read (q := (R_Co, T_Co, 5)) rfl rfl in_Co_read se_Co_read lk_Fl_98 ch3 (c_Co_read mh3) rfl ⟨rfl, rfl⟩ (by decide) (by decide) (Nat.le_of_ble_eq_true rfl) d_Fl_readDistance_2 ?_
  refine ax_istore_n (lv' := [(2, .int v2), (0, .ref a0), (1, .ref a1)]) O d_Fl_readDistance_5 rfl (by decide) rfl ?_
  refine ax_iload_n O d_Fl_readDistance_6 rfl 0 rfl ?_
  refine ax_iconst (v := (-1)) O d_Fl_readDistance_7 (by decide) ?_
  refine ax_icmp_ne (tgt := 13) O d_Fl_readDistance_8 (by decide) (fun q4 => ?_) (fun q4 => ?_)
  · rw [if_neg q4] at hf
    refine ax_iload_n O d_Fl_readDistance_13 rfl 0 rfl ?_
    refine ax_if_lt (tgt := 33) O d_Fl_readDistance_14 (by decide) (fun q5 => ?_) (fun q5 => ?_)
    · rw [if_pos q5] at hf
      refine ax_sub [1] rfl ?_
      exact cb_Fl_readDistance_B33 O _ _ hE n0 _ _ hf
    · rw [if_neg q5] at hf
      refine ax_iload_n O d_Fl_readDistance_17 rfl 0 rfl ?_
      refine ax_gets O 3 rfl wd_20 d_Fl_readDistance_18 ?_
      refine ax_stl O 3 rfl d_Fl_readDistance_21 ?_
      refine ax_icmp_ge (tgt := 33) O d_Fl_readDistance_22 (by decide) (fun q10 => ?_) (fun q10 => ?_)
      · rw [if_pos q10] at hf
        refine ax_sub [1] rfl ?_
        exact cb_Fl_readDistance_B33 O _ _ hE n0 _ _ hf
      · rw [if_neg q10] at hf
        refine ax_iload_n O d_Fl_readDistance_25 rfl 0 rfl ?_
        refine ax_gets O 4 rfl wd_21 d_Fl_readDistance_26 ?_
        refine ax_stl O 4 rfl d_Fl_readDistance_29 ?_
        refine ax_icmp_lt (tgt := 42) O d_Fl_readDistance_30 (by decide) (fun q12 => ?_) (fun q12 => ?_)
        · rw [if_pos q12] at hf
          refine ax_aload_n O d_Fl_readDistance_42 rfl 1 rfl ?_
          refine ax_gets O 4 rfl wd_21 d_Fl_readDistance_43 ?_
          refine ax_iload_n O d_Fl_readDistance_46 rfl 0 rfl ?_
          obtain ⟨v13, iv13, kv13, hf⟩ := msl_some hf
          refine ax_sti O 4 rfl rfl iv13 kv13 d_Fl_readDistance_47 ?_
          obtain ⟨fh16, ch16, hf⟩ := mis_some hf
          obtain ⟨v15, h16, mh16, hf⟩ := mcl_some hf
          refine ax_callV (As := [.int v13]) (rest := []) O cw_Pa_lowNumber (q := (R_Pa, T_Pa, 7)) rfl rfl in_Pa_lowNumber se_Pa_lowNumber lk_Fl_48 ch16 (c_Pa_lowNumber mh16) rfl ⟨rfl, rfl⟩ (by decide) (by decide) (Nat.le_of_ble_eq_true rfl) d_Fl_readDistance_48 ?_
          refine ax_istore_n (lv' := [(3, .int v15), (2, .int v2), (0, .ref a0), (1, .ref a1)]) O d_Fl_readDistance_51 rfl (by decide) rfl ?_
          refine ax_iload_n O d_Fl_readDistance_52 rfl 0 rfl ?_
          refine ax_iconst (v := (-1)) O d_Fl_readDistance_53 (by decide) ?_
          refine ax_icmp_ne (tgt := 61) O d_Fl_readDistance_54 (by decide) (fun q17 => ?_) (fun q17 => ?_)
          · rw [if_neg q17] at hf
            refine ax_gets O 3 rfl wd_20 d_Fl_readDistance_61 ?_
            refine ax_iload_n O d_Fl_readDistance_64 rfl 1 rfl ?_
            obtain ⟨v18, iv18, kv18, hf⟩ := msl_some hf
            refine ax_sti O 3 rfl rfl iv18 kv18 d_Fl_readDistance_65 ?_
            refine ax_iload_n O d_Fl_readDistance_66 rfl 0 rfl ?_
            refine ax_iadd O d_Fl_readDistance_67 ?_
            exact ax_retE O hE hf rfl d_Fl_readDistance_68
          · rw [if_pos q17] at hf
            refine ax_iconst (v := (-1)) O d_Fl_readDistance_57 (by decide) ?_
            refine ax_goto (tgt := 68) O d_Fl_readDistance_58 (by decide) ?_
            exact ax_retE O hE hf rfl d_Fl_readDistance_68
        · rw [if_neg q12] at hf
          refine ax_sub [1] rfl ?_
          exact cb_Fl_readDistance_B33 O _ _ hE n0 _ _ hf
  · rw [if_pos q4] at hf
    refine ax_iconst (v := (-1)) O d_Fl_readDistance_11 (by decide) ?_
    exact ax_retE O hE hf rfl d_Fl_readDistance_12
theorem c_Fl_readDistance {ln : Launch} {n0 : Nat} {h0 h' : mH} {a0 : Nat} {a1 : Nat} {r' : Int32} (hf : f_Fl_readDistance n0 h0 a0 a1 = some (r', h')) : mMet ln y_Fl_readDistance b_Fl_readDistance 4 (some .int) (mR 3 68) [.ref a0, .ref a1] h0 (some (.int r')) h' := mMet_of (by decide +kernel) (Nat.le_of_ble_eq_true rfl) (fun X ad O hE => cb_Fl_readDistance O r' h' hE n0 h0 a0 a1 hf)
/-! ===== StreamFilters$Pass.giveAgain(II)Z ===== -/
theorem d_Pa_giveAgain_0 : decode b_Pa_giveAgain 0 = .ok (.iconst 0, 1) := by decide +kernel
theorem d_Pa_giveAgain_1 : decode b_Pa_giveAgain 1 = .ok (.istore_n 3, 1) := by decide +kernel
theorem d_Pa_giveAgain_2 : decode b_Pa_giveAgain 2 = .ok (.iload_n 3, 1) := by decide +kernel
theorem d_Pa_giveAgain_3 : decode b_Pa_giveAgain 3 = .ok (.iload_n 2, 1) := by decide +kernel
theorem d_Pa_giveAgain_4 : decode b_Pa_giveAgain 4 = .ok (.if_icmp .ge 28, 3) := by decide +kernel
theorem d_Pa_giveAgain_7 : decode b_Pa_giveAgain 7 = .ok (.aload_n 0, 1) := by decide +kernel
theorem d_Pa_giveAgain_8 : decode b_Pa_giveAgain 8 = .ok (.aload_n 0, 1) := by decide +kernel
theorem d_Pa_giveAgain_9 : decode b_Pa_giveAgain 9 = .ok (.getfield 20, 3) := by decide +kernel
theorem d_Pa_giveAgain_12 : decode b_Pa_giveAgain 12 = .ok (.iload_n 1, 1) := by decide +kernel
theorem d_Pa_giveAgain_13 : decode b_Pa_giveAgain 13 = .ok (.iload_n 3, 1) := by decide +kernel
theorem d_Pa_giveAgain_14 : decode b_Pa_giveAgain 14 = .ok (.iadd, 1) := by decide +kernel
theorem d_Pa_giveAgain_15 : decode b_Pa_giveAgain 15 = .ok (.invokevirtual 68, 3) := by decide +kernel
theorem d_Pa_giveAgain_18 : decode b_Pa_giveAgain 18 = .ok (.invokevirtual 65, 3) := by decide +kernel
theorem d_Pa_giveAgain_21 : decode b_Pa_giveAgain 21 = .ok (.ifCond .ne 5, 3) := by decide +kernel
theorem d_Pa_giveAgain_24 : decode b_Pa_giveAgain 24 = .ok (.iconst 0, 1) := by decide +kernel
theorem d_Pa_giveAgain_25 : decode b_Pa_giveAgain 25 = .ok (.ireturn, 1) := by decide +kernel
theorem d_Pa_giveAgain_26 : decode b_Pa_giveAgain 26 = .ok (.iinc 3 1, 3) := by decide +kernel
theorem d_Pa_giveAgain_29 : decode b_Pa_giveAgain 29 = .ok (.goto (-27), 3) := by decide +kernel
theorem d_Pa_giveAgain_32 : decode b_Pa_giveAgain 32 = .ok (.iconst 1, 1) := by decide +kernel
theorem d_Pa_giveAgain_33 : decode b_Pa_giveAgain 33 = .ok (.ireturn, 1) := by decide +kernel
noncomputable def f_Pa_giveAgain_L2  (n0 : Nat) : Nat → mH → Nat → Int32 → Int32 → Int32 → Option (Int32 × mH)
  | 0, _, _, _, _, _ => none
  | n + 1, h0, a0, x1, x2, x3 =>
    if x2 ≤ x3 then
      some (1, h0)
    else
      mgr h0 a0 8 1 fun r2 =>
      mis h0 r2 1 <|
      mcl (f_By_byteAt n0 h0 r2 (x1 + x3)) fun v4 h5 =>
      mis h5 a0 8 <|
      mcl (f_Pa_give n0 h5 a0 v4) fun v7 h8 =>
      if v7 = 0 then
        some (0, h8)
      else
        mnm (x3 + 1) fun v10 =>
        (f_Pa_giveAgain_L2 n0 n) h8 a0 x1 x2 v10
noncomputable def f_Pa_giveAgain  (n0 : Nat) (h0 : mH) (a0 : Nat) (x1 : Int32) (x2 : Int32) : Option (Int32 × mH) :=
  f_Pa_giveAgain_L2 n0 n0 h0 a0 x1 x2 0
set_option maxHeartbeats 4000000 in
set_option maxRecDepth 100000 in
theorem cb_Pa_giveAgain_L2 {X : mX} {ad : Nat → Nat} {ln : Launch} (O : mO X ad R_Pa b_Pa_giveAgain 4 (mR 2 42) ln) (r' : Int32) (h' : mH) (hE : mEnd X ad (some .boolean) (some (.int r')) h') (n0 : Nat) : ∀ (n : Nat) (h0 : mH) (a0 : Nat) (x1 : Int32) (x2 : Int32) (x3 : Int32), f_Pa_giveAgain_L2 n0 n h0 a0 x1 x2 x3 = some (r', h') → mAW X ad 0 0 2 [(0, .ref a0), (1, .int x1), (2, .int x2), (3, .int x3)] [] h0 := by
  intro n
  induction n with
  | zero =>
    intro h0 a0 x1 x2 x3 hf
    rw [f_Pa_giveAgain_L2.eq_1] at hf
    cases hf
  | succ n ih =>
    intro h0 a0 x1 x2 x3 hf
    rw [f_Pa_giveAgain_L2.eq_2] at hf
    refine ax_iload_n O d_Pa_giveAgain_2 rfl 3 rfl ?_
    refine ax_iload_n O d_Pa_giveAgain_3 rfl 2 rfl ?_
    refine ax_icmp_ge (tgt := 32) O d_Pa_giveAgain_4 (by decide) (fun q1 => ?_) (fun q1 => ?_)
    · rw [if_pos q1] at hf
      refine ax_iconst (v := 1) O d_Pa_giveAgain_32 (by decide) ?_
      exact ax_retE O hE hf rfl d_Pa_giveAgain_33
    · rw [if_neg q1] at hf
      refine ax_aload_n O d_Pa_giveAgain_7 rfl 0 rfl ?_
      refine ax_aload_n O d_Pa_giveAgain_8 rfl 0 rfl ?_
      obtain ⟨fr2, r2, cr2, kr2, hf⟩ := mgr_some hf
      refine ax_get O fg_Pa_20 cr2 kr2 d_Pa_giveAgain_9 ?_
      refine ax_iload_n O d_Pa_giveAgain_12 rfl 1 rfl ?_
      refine ax_iload_n O d_Pa_giveAgain_13 rfl 3 rfl ?_
      refine ax_iadd O d_Pa_giveAgain_14 ?_
      obtain ⟨fh5, ch5, hf⟩ := mis_some hf
      obtain ⟨v4, h5, mh5, hf⟩ := mcl_some hf
      refine ax_callV (As := [.int (x1 + x3)]) (rest := [.ref a0]) O cw_By_byteAt (q := (R_By, T_By, 2)) rfl rfl in_By_byteAt se_By_byteAt lk_Pa_68 ch5 (c_By_byteAt mh5) rfl ⟨rfl, rfl⟩ (by decide) (by decide) (Nat.le_of_ble_eq_true rfl) d_Pa_giveAgain_15 ?_
      obtain ⟨fh8, ch8, hf⟩ := mis_some hf
      obtain ⟨v7, h8, mh8, hf⟩ := mcl_some hf
      refine ax_callV (As := [.int v4]) (rest := []) O cw_Pa_give (q := (R_Pa, T_Pa, 7)) rfl rfl in_Pa_give se_Pa_give lk_Pa_65 ch8 (c_Pa_give mh8) rfl ⟨rfl, rfl⟩ (by decide) (by decide) (Nat.le_of_ble_eq_true rfl) d_Pa_giveAgain_18 ?_
      refine ax_if_ne (tgt := 26) O d_Pa_giveAgain_21 (by decide) (fun q9 => ?_) (fun q9 => ?_)
      · rw [if_neg q9] at hf
        obtain ⟨v10, ev10, hf⟩ := mnm_some hf
        refine ax_iinc (j := 3) (v := v10) (lv' := [(3, .int v10), (0, .ref a0), (1, .int x1), (2, .int x2)]) O d_Pa_giveAgain_26 rfl (by rw [ev10]; rfl) (by decide) rfl ?_
        refine ax_goto (tgt := 2) O d_Pa_giveAgain_29 (by decide) ?_
        refine ax_sub [1, 2, 3, 0] rfl ?_
        exact ih _ _ _ _ _ hf
      · rw [if_pos q9] at hf
        refine ax_iconst (v := 0) O d_Pa_giveAgain_24 (by decide) ?_
        exact ax_retE O hE hf rfl d_Pa_giveAgain_25
set_option maxHeartbeats 4000000 in
set_option maxRecDepth 100000 in
theorem cb_Pa_giveAgain {X : mX} {ad : Nat → Nat} {ln : Launch} (O : mO X ad R_Pa b_Pa_giveAgain 4 (mR 2 42) ln) (r' : Int32) (h' : mH) (hE : mEnd X ad (some .boolean) (some (.int r')) h') (n0 : Nat) (h0 : mH) (a0 : Nat) (x1 : Int32) (x2 : Int32) (hf : f_Pa_giveAgain n0 h0 a0 x1 x2 = some (r', h')) : mAW X ad 0 0 0 [(0, .ref a0), (1, .int x1), (2, .int x2)] [] h0 := by
  unfold f_Pa_giveAgain at hf
  refine ax_iconst (v := 0) O d_Pa_giveAgain_0 (by decide) ?_
  refine ax_istore_n (lv' := [(3, .int 0), (0, .ref a0), (1, .int x1), (2, .int x2)]) O d_Pa_giveAgain_1 rfl (by decide) rfl ?_
  refine ax_sub [1, 2, 3, 0] rfl ?_
  exact cb_Pa_giveAgain_L2 O _ _ hE n0 n0 _ _ _ _ _ hf
theorem c_Pa_giveAgain {ln : Launch} {n0 : Nat} {h0 h' : mH} {a0 : Nat} {x1 : Int32} {x2 : Int32} {r' : Int32} (hf : f_Pa_giveAgain n0 h0 a0 x1 x2 = some (r', h')) : mMet ln y_Pa_giveAgain b_Pa_giveAgain 4 (some .boolean) (mR 2 42) [.ref a0, .int x1, .int x2] h0 (some (.int r')) h' := mMet_of (by decide +kernel) (Nat.le_of_ble_eq_true rfl) (fun X ad O hE => cb_Pa_giveAgain O r' h' hE n0 h0 a0 x1 x2 hf)
/-! ===== StreamFilters$Flate.copy(LStreamFilters$Pass;ILStreamFilters$Codes;)Z ===== -/
theorem d_Fl_copy_0 : decode b_Fl_copy 0 = .ok (.iload_n 1, 1) := by decide +kernel
theorem d_Fl_copy_1 : decode b_Fl_copy 1 = .ok (.sipush 256, 3) := by decide +kernel
theorem d_Fl_copy_4 : decode b_Fl_copy 4 = .ok (.isub, 1) := by decide +kernel
theorem d_Fl_copy_5 : decode b_Fl_copy 5 = .ok (.iconst 1, 1) := by decide +kernel
theorem d_Fl_copy_6 : decode b_Fl_copy 6 = .ok (.isub, 1) := by decide +kernel
theorem d_Fl_copy_7 : decode b_Fl_copy 7 = .ok (.istore_n 3, 1) := by decide +kernel
theorem d_Fl_copy_8 : decode b_Fl_copy 8 = .ok (.iload_n 3, 1) := by decide +kernel
theorem d_Fl_copy_9 : decode b_Fl_copy 9 = .ok (.ifCond .lt 19, 3) := by decide +kernel
theorem d_Fl_copy_12 : decode b_Fl_copy 12 = .ok (.iload_n 3, 1) := by decide +kernel
theorem d_Fl_copy_13 : decode b_Fl_copy 13 = .ok (.getstatic 112, 3) := by decide +kernel
theorem d_Fl_copy_16 : decode b_Fl_copy 16 = .ok (.arraylength, 1) := by decide +kernel
theorem d_Fl_copy_17 : decode b_Fl_copy 17 = .ok (.if_icmp .ge 11, 3) := by decide +kernel
theorem d_Fl_copy_20 : decode b_Fl_copy 20 = .ok (.iload_n 3, 1) := by decide +kernel
theorem d_Fl_copy_21 : decode b_Fl_copy 21 = .ok (.getstatic 115, 3) := by decide +kernel
theorem d_Fl_copy_24 : decode b_Fl_copy 24 = .ok (.arraylength, 1) := by decide +kernel
theorem d_Fl_copy_25 : decode b_Fl_copy 25 = .ok (.if_icmp .lt 10, 3) := by decide +kernel
theorem d_Fl_copy_28 : decode b_Fl_copy 28 = .ok (.aload_n 0, 1) := by decide +kernel
theorem d_Fl_copy_29 : decode b_Fl_copy 29 = .ok (.bipush 7, 2) := by decide +kernel
theorem d_Fl_copy_31 : decode b_Fl_copy 31 = .ok (.invokevirtual 64, 3) := by decide +kernel
theorem d_Fl_copy_34 : decode b_Fl_copy 34 = .ok (.ireturn, 1) := by decide +kernel
theorem d_Fl_copy_35 : decode b_Fl_copy 35 = .ok (.aload_n 0, 1) := by decide +kernel
theorem d_Fl_copy_36 : decode b_Fl_copy 36 = .ok (.getstatic 115, 3) := by decide +kernel
theorem d_Fl_copy_39 : decode b_Fl_copy 39 = .ok (.iload_n 3, 1) := by decide +kernel
theorem d_Fl_copy_40 : decode b_Fl_copy 40 = .ok (.iaload, 1) := by decide +kernel
theorem d_Fl_copy_41 : decode b_Fl_copy 41 = .ok (.invokevirtual 48, 3) := by decide +kernel
theorem d_Fl_copy_44 : decode b_Fl_copy 44 = .ok (.istore 4, 2) := by decide +kernel
theorem d_Fl_copy_46 : decode b_Fl_copy 46 = .ok (.iload 4, 2) := by decide +kernel
theorem d_Fl_copy_48 : decode b_Fl_copy 48 = .ok (.iconst (-1), 1) := by decide +kernel
theorem d_Fl_copy_49 : decode b_Fl_copy 49 = .ok (.if_icmp .ne 5, 3) := by decide +kernel
theorem d_Fl_copy_52 : decode b_Fl_copy 52 = .ok (.iconst 0, 1) := by decide +kernel
theorem d_Fl_copy_53 : decode b_Fl_copy 53 = .ok (.ireturn, 1) := by decide +kernel
theorem d_Fl_copy_54 : decode b_Fl_copy 54 = .ok (.aload_n 0, 1) := by decide +kernel
theorem d_Fl_copy_55 : decode b_Fl_copy 55 = .ok (.aload_n 2, 1) := by decide +kernel
theorem d_Fl_copy_56 : decode b_Fl_copy 56 = .ok (.invokestatic 118, 3) := by decide +kernel
theorem d_Fl_copy_59 : decode b_Fl_copy 59 = .ok (.istore 5, 2) := by decide +kernel
theorem d_Fl_copy_61 : decode b_Fl_copy 61 = .ok (.iload 5, 2) := by decide +kernel
theorem d_Fl_copy_63 : decode b_Fl_copy 63 = .ok (.iconst (-1), 1) := by decide +kernel
theorem d_Fl_copy_64 : decode b_Fl_copy 64 = .ok (.if_icmp .ne 5, 3) := by decide +kernel
theorem d_Fl_copy_67 : decode b_Fl_copy 67 = .ok (.iconst 0, 1) := by decide +kernel
theorem d_Fl_copy_68 : decode b_Fl_copy 68 = .ok (.ireturn, 1) := by decide +kernel
theorem d_Fl_copy_69 : decode b_Fl_copy 69 = .ok (.aload_n 0, 1) := by decide +kernel
theorem d_Fl_copy_70 : decode b_Fl_copy 70 = .ok (.getfield 122, 3) := by decide +kernel
theorem d_Fl_copy_73 : decode b_Fl_copy 73 = .ok (.getfield 126, 3) := by decide +kernel
theorem d_Fl_copy_76 : decode b_Fl_copy 76 = .ok (.istore 6, 2) := by decide +kernel
theorem d_Fl_copy_78 : decode b_Fl_copy 78 = .ok (.iload 5, 2) := by decide +kernel
theorem d_Fl_copy_80 : decode b_Fl_copy 80 = .ok (.iload 6, 2) := by decide +kernel
theorem d_Fl_copy_82 : decode b_Fl_copy 82 = .ok (.if_icmp .le 10, 3) := by decide +kernel
theorem d_Fl_copy_85 : decode b_Fl_copy 85 = .ok (.aload_n 0, 1) := by decide +kernel
theorem d_Fl_copy_86 : decode b_Fl_copy 86 = .ok (.bipush 8, 2) := by decide +kernel
theorem d_Fl_copy_88 : decode b_Fl_copy 88 = .ok (.invokevirtual 64, 3) := by decide +kernel
theorem d_Fl_copy_91 : decode b_Fl_copy 91 = .ok (.ireturn, 1) := by decide +kernel
theorem d_Fl_copy_92 : decode b_Fl_copy 92 = .ok (.aload_n 0, 1) := by decide +kernel
theorem d_Fl_copy_93 : decode b_Fl_copy 93 = .ok (.iload 6, 2) := by decide +kernel
theorem d_Fl_copy_95 : decode b_Fl_copy 95 = .ok (.iload 5, 2) := by decide +kernel
theorem d_Fl_copy_97 : decode b_Fl_copy 97 = .ok (.isub, 1) := by decide +kernel
theorem d_Fl_copy_98 : decode b_Fl_copy 98 = .ok (.getstatic 112, 3) := by decide +kernel
theorem d_Fl_copy_101 : decode b_Fl_copy 101 = .ok (.iload_n 3, 1) := by decide +kernel
theorem d_Fl_copy_102 : decode b_Fl_copy 102 = .ok (.iaload, 1) := by decide +kernel
theorem d_Fl_copy_103 : decode b_Fl_copy 103 = .ok (.iload 4, 2) := by decide +kernel
theorem d_Fl_copy_105 : decode b_Fl_copy 105 = .ok (.iadd, 1) := by decide +kernel
theorem d_Fl_copy_106 : decode b_Fl_copy 106 = .ok (.invokevirtual 132, 3) := by decide +kernel
theorem d_Fl_copy_109 : decode b_Fl_copy 109 = .ok (.ireturn, 1) := by decide +kernel
noncomputable def f_Fl_copy_B28  (n0 : Nat) (h0 : mH) (a0 : Nat) : Option (Int32 × mH) :=
  mis h0 a0 8 <|
  mcl (f_Pa_fail n0 h0 a0 7) fun v4 h5 =>
  mge (narrow .boolean (.int v4) = .int v4) <|
  some (v4, h5)
noncomputable def f_Fl_copy  (n0 : Nat) (h0 : mH) (a0 : Nat) (x1 : Int32) (a2 : Nat) : Option (Int32 × mH) :=
  mnm ((x1 - 256) - 1) fun v1 =>
  if v1 < 0 then
    f_Fl_copy_B28 n0 h0 a0
  else
    if (nI 29) ≤ v1 then
      f_Fl_copy_B28 n0 h0 a0
    else
      if v1 < (nI 29) then
        msl mS2 29 v1 fun v11 =>
        mis h0 a0 8 <|
        mcl (f_Pa_lowNumber n0 h0 a0 v11) fun v13 h14 =>
        if v13 = (-1) then
          some (0, h14)
        else
          mcl (f_Fl_readDistance n0 h14 a0 a2) fun v17 h18 =>
          if v17 = (-1) then
            some (0, h18)
          else
            mgr h18 a0 8 1 fun r20 =>
            mgi h18 r20 1 1 fun v21 =>
            if v17 ≤ v21 then
              msl mS1 29 v1 fun v23 =>
              mis h18 a0 8 <|
              mcl (f_Pa_giveAgain n0 h18 a0 (v21 - v17) (v23 + v13)) fun v25 h26 =>
              mge (narrow .boolean (.int v25) = .int v25) <|
              some (v25, h26)
            else
              mis h18 a0 8 <|
              mcl (f_Pa_fail n0 h18 a0 8) fun v29 h30 =>
              mge (narrow .boolean (.int v29) = .int v29) <|
              some (v29, h30)
      else
        f_Fl_copy_B28 n0 h0 a0
set_option maxHeartbeats 4000000 in
set_option maxRecDepth 100000 in
theorem cb_Fl_copy_B28 {X : mX} {ad : Nat → Nat} {ln : Launch} (O : mO X ad R_Fl b_Fl_copy 7 (mR 4 91) ln) (r' : Int32) (h' : mH) (hE : mEnd X ad (some .boolean) (some (.int r')) h') (n0 : Nat) (h0 : mH) (a0 : Nat) (hf : f_Fl_copy_B28 n0 h0 a0 = some (r', h')) : mAW X ad 0 0 28 [(0, .ref a0)] [] h0 := by
  unfold f_Fl_copy_B28 at hf
  refine ax_aload_n O d_Fl_copy_28 rfl 0 rfl ?_
  refine ax_bipush (v := 7) O d_Fl_copy_29 (by decide) ?_
  obtain ⟨fh5, ch5, hf⟩ := mis_some hf
  obtain ⟨v4, h5, mh5, hf⟩ := mcl_some hf
  refine ax_callV (As := [.int 7]) (rest := []) O cw_Pa_fail (q := (R_Pa, T_Pa, 7)) rfl rfl in_Pa_fail se_Pa_fail lk_Fl_64 ch5 (c_Pa_fail mh5) rfl ⟨rfl, rfl⟩ (by decide) (by decide) (Nat.le_of_ble_eq_true rfl) d_Fl_copy_31 ?_
  obtain ⟨q6, hf⟩ := mge_some hf
  exact ax_retE O hE hf q6 d_Fl_copy_34
set_option maxHeartbeats 4000000 in
set_option maxRecDepth 100000 in
theorem cb_Fl_copy {X : mX} {ad : Nat → Nat} {ln : Launch} (O : mO X ad R_Fl b_Fl_copy 7 (mR 4 91) ln) (r' : Int32) (h' : mH) (hE : mEnd X ad (some .boolean) (some (.int r')) h') (n0 : Nat) (h0 : mH) (a0 : Nat) (x1 : Int32) (a2 : Nat) (hf : f_Fl_copy n0 h0 a0 x1 a2 = some (r', h')) : mAW X ad 0 0 0 [(0, .ref a0), (1, .int x1), (2, .ref a2)] [] h0 := by
  unfold f_Fl_copy at hf
  refine ax_iload_n O d_Fl_copy_0 rfl 1 rfl ?_
  refine ax_sipush (v := 256) O d_Fl_copy_1 (by decide) ?_
  refine ax_isub O d_Fl_copy_4 ?_
  refine ax_iconst (v := 1) O d_Fl_copy_5 (by decide) ?_
  refine ax_isub O d_Fl_copy_6 ?_
  obtain ⟨v1, ev1, hf⟩ := mnm_some hf
  refine ax_nmi ev1 ?_
  refine ax_istore_n (lv' := [(3, .int v1), (0, .ref a0), (1, .int x1), (2, .ref a2)]) O d_Fl_copy_7 rfl (by decide) rfl ?_
  refine ax_iload_n O d_Fl_copy_8 rfl 0 rfl ?_
  refine ax_if_lt (tgt := 28) O d_Fl_copy_9 (by decide) (fun q2 => ?_) (fun q2 => ?_)
  · rw [if_pos q2] at hf
    refine ax_sub [1] rfl ?_
    exact cb_Fl_copy_B28 O _ _ hE n0 _ _ hf
  · rw [if_neg q2] at hf
    refine ax_iload_n O d_Fl_copy_12 rfl 0 rfl ?_
    refine ax_gets O 1 rfl wd_22 d_Fl_copy_13 ?_
    refine ax_stl O 1 rfl d_Fl_copy_16 ?_
    refine ax_icmp_ge (tgt := 28) O d_Fl_copy_17 (by decide) (fun q8 => ?_) (fun q8 => ?_)
    · rw [if_pos q8] at hf
      refine ax_sub [1] rfl ?_
      exact cb_Fl_copy_B28 O _ _ hE n0 _ _ hf
    · rw [if_neg q8] at hf
      refine ax_iload_n O d_Fl_copy_20 rfl 0 rfl ?_
      refine ax_gets O 2 rfl wd_23 d_Fl_copy_21 ?_
      refine ax_stl O 2 rfl d_Fl_copy_24 ?_
      refine ax_icmp_lt (tgt := 35) O d_Fl_copy_25 (by decide) (fun q10 => ?_) (fun q10 => ?_)
      · rw [if_pos q10] at hf
        refine ax_aload_n O d_Fl_copy_35 rfl 1 rfl ?_
        refine ax_gets O 2 rfl wd_23 d_Fl_copy_36 ?_
        refine ax_iload_n O d_Fl_copy_39 rfl 0 rfl ?_
        obtain ⟨v11, iv11, kv11, hf⟩ := msl_some hf
        refine ax_sti O 2 rfl rfl iv11 kv11 d_Fl_copy_40 ?_
        obtain ⟨fh14, ch14, hf⟩ := mis_some hf
        obtain ⟨v13, h14, mh14, hf⟩ := mcl_some hf
        refine ax_callV (As := [.int v11]) (rest := []) O cw_Pa_lowNumber (q := (R_Pa, T_Pa, 7)) rfl rfl in_Pa_lowNumber se_Pa_lowNumber lk_Fl_48 ch14 (c_Pa_lowNumber mh14) rfl ⟨rfl, rfl⟩ (by decide) (by decide) (Nat.le_of_ble_eq_true rfl) d_Fl_copy_41 ?_
        refine ax_istore (lv' := [(4, .int v13), (3, .int v1), (0, .ref a0), (1, .int x1), (2, .ref a2)]) O d_Fl_copy_44 (by decide) rfl ?_
        refine ax_iload O d_Fl_copy_46 0 rfl ?_
        refine ax_iconst (v := (-1)) O d_Fl_copy_48 (by decide) ?_
        refine ax_icmp_ne (tgt := 54) O d_Fl_copy_49 (by decide) (fun q15 => ?_) (fun q15 => ?_)
        · rw [if_neg q15] at hf
          refine ax_aload_n O d_Fl_copy_54 rfl 2 rfl ?_
          refine ax_aload_n O d_Fl_copy_55 rfl 4 rfl ?_
          obtain ⟨v17, h18, mh18, hf⟩ := mcl_some hf
          refine ax_callS (As := [.ref a0, .ref a2]) (rest := []) O cw_Fl_readDistance st_Fl_readDistance lk_Fl_118 (c_Fl_readDistance mh18) rfl ⟨rfl, rfl⟩ (by decide) (by decide) (Nat.le_of_ble_eq_true rfl) d_Fl_copy_56 ?_
          refine ax_istore (lv' := [(5, .int v17), (4, .int v13), (3, .int v1), (0, .ref a0), (1, .int x1), (2, .ref a2)]) O d_Fl_copy_59 (by decide) rfl ?_
          refine ax_iload O d_Fl_copy_61 0 rfl ?_
          refine ax_iconst (v := (-1)) O d_Fl_copy_63 (by decide) ?_
          refine ax_icmp_ne (tgt := 69) O d_Fl_copy_64 (by decide) (fun q19 => ?_) (fun q19 => ?_)
          · rw [if_neg q19] at hf
            refine ax_aload_n O d_Fl_copy_69 rfl 3 rfl ?_
            obtain ⟨fr20, r20, cr20, kr20, hf⟩ := mgr_some hf
            refine ax_get O fg_Fl_122 cr20 kr20 d_Fl_copy_70 ?_
            obtain ⟨fv21, v21, cv21, kv21, hf⟩ := mgi_some hf
            refine ax_get O fg_Fl_126 cv21 kv21 d_Fl_copy_73 ?_
            refine ax_istore (lv' := [(6, .int v21), (5, .int v17), (4, .int v13), (3, .int v1), (0, .ref a0), (1, .int x1), (2, .ref a2)]) O d_Fl_copy_76 (by decide) rfl ?_
            refine ax_iload O d_Fl_copy_78 1 rfl ?_
            refine ax_iload O d_Fl_copy_80 0 rfl ?_
            refine ax_icmp_le (tgt := 92) O d_Fl_copy_82 (by decide) (fun q22 => ?_) (fun q22 => ?_)
            · rw [if_pos q22] at hf
              refine ax_aload_n O d_Fl_copy_92 rfl 4 rfl ?_
              refine ax_iload O d_Fl_copy_93 0 rfl ?_
              refine ax_iload O d_Fl_copy_95 1 rfl ?_
              refine ax_isub O d_Fl_copy_97 ?_
              refine ax_gets O 1 rfl wd_22 d_Fl_copy_98 ?_
              refine ax_iload_n O d_Fl_copy_101 rfl 3 rfl ?_
              obtain ⟨v23, iv23, kv23, hf⟩ := msl_some hf
              refine ax_sti O 1 rfl rfl iv23 kv23 d_Fl_copy_102 ?_
              refine ax_iload O d_Fl_copy_103 2 rfl ?_
              refine ax_iadd O d_Fl_copy_105 ?_
              obtain ⟨fh26, ch26, hf⟩ := mis_some hf
              obtain ⟨v25, h26, mh26, hf⟩ := mcl_some hf
              refine ax_callV (As := [.int (v21 - v17), .int (v23 + v13)]) (rest := []) O cw_Pa_giveAgain (q := (R_Pa, T_Pa, 7)) rfl rfl in_Pa_giveAgain se_Pa_giveAgain lk_Fl_132 ch26 (c_Pa_giveAgain mh26) rfl ⟨rfl, rfl⟩ (by decide) (by decide) (Nat.le_of_ble_eq_true rfl) d_Fl_copy_106 ?_
              obtain ⟨q27, hf⟩ := mge_some hf
              exact ax_retE O hE hf q27 d_Fl_copy_109
            · rw [if_neg q22] at hf
              refine ax_aload_n O d_Fl_copy_85 rfl 4 rfl ?_
              refine ax_bipush (v := 8) O d_Fl_copy_86 (by decide) ?_
              obtain ⟨fh30, ch30, hf⟩ := mis_some hf
              obtain ⟨v29, h30, mh30, hf⟩ := mcl_some hf
              refine ax_callV (As := [.int 8]) (rest := []) O cw_Pa_fail (q := (R_Pa, T_Pa, 7)) rfl rfl in_Pa_fail se_Pa_fail lk_Fl_64 ch30 (c_Pa_fail mh30) rfl ⟨rfl, rfl⟩ (by decide) (by decide) (Nat.le_of_ble_eq_true rfl) d_Fl_copy_88 ?_
              obtain ⟨q31, hf⟩ := mge_some hf
              exact ax_retE O hE hf q31 d_Fl_copy_91
          · rw [if_pos q19] at hf
            refine ax_iconst (v := 0) O d_Fl_copy_67 (by decide) ?_
            exact ax_retE O hE hf rfl d_Fl_copy_68
        · rw [if_pos q15] at hf
          refine ax_iconst (v := 0) O d_Fl_copy_52 (by decide) ?_
          exact ax_retE O hE hf rfl d_Fl_copy_53
      · rw [if_neg q10] at hf
        refine ax_sub [1] rfl ?_
        exact cb_Fl_copy_B28 O _ _ hE n0 _ _ hf
theorem c_Fl_copy {ln : Launch} {n0 : Nat} {h0 h' : mH} {a0 : Nat} {x1 : Int32} {a2 : Nat} {r' : Int32} (hf : f_Fl_copy n0 h0 a0 x1 a2 = some (r', h')) : mMet ln y_Fl_copy b_Fl_copy 7 (some .boolean) (mR 4 91) [.ref a0, .int x1, .ref a2] h0 (some (.int r')) h' := mMet_of (by decide +kernel) (Nat.le_of_ble_eq_true rfl) (fun X ad O hE => cb_Fl_copy O r' h' hE n0 h0 a0 x1 a2 hf)
