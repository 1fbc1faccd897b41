/-! ===== StreamFiltersModel.next()I ===== -/
theorem d_Mo_next_0 : decode b_Mo_next 0 = .ok (.aload_n 0, 1) := by decide +kernel
theorem d_Mo_next_1 : decode b_Mo_next 1 = .ok (.invokevirtual 89, 3) := by decide +kernel
theorem d_Mo_next_4 : decode b_Mo_next 4 = .ok (.ifCond .ne 5, 3) := by decide +kernel
theorem d_Mo_next_7 : decode b_Mo_next 7 = .ok (.iconst 0, 1) := by decide +kernel
theorem d_Mo_next_8 : decode b_Mo_next 8 = .ok (.ireturn, 1) := by decide +kernel
theorem d_Mo_next_9 : decode b_Mo_next 9 = .ok (.aload_n 0, 1) := by decide +kernel
theorem d_Mo_next_10 : decode b_Mo_next 10 = .ok (.getfield 93, 3) := by decide +kernel
theorem d_Mo_next_13 : decode b_Mo_next 13 = .ok (.aload_n 0, 1) := by decide +kernel
theorem d_Mo_next_14 : decode b_Mo_next 14 = .ok (.getfield 96, 3) := by decide +kernel
theorem d_Mo_next_17 : decode b_Mo_next 17 = .ok (.if_icmp .ne 10, 3) := by decide +kernel
theorem d_Mo_next_20 : decode b_Mo_next 20 = .ok (.aload_n 0, 1) := by decide +kernel
theorem d_Mo_next_21 : decode b_Mo_next 21 = .ok (.iconst 1, 1) := by decide +kernel
theorem d_Mo_next_22 : decode b_Mo_next 22 = .ok (.invokevirtual 99, 3) := by decide +kernel
theorem d_Mo_next_25 : decode b_Mo_next 25 = .ok (.iconst 0, 1) := by decide +kernel
theorem d_Mo_next_26 : decode b_Mo_next 26 = .ok (.ireturn, 1) := by decide +kernel
theorem d_Mo_next_27 : decode b_Mo_next 27 = .ok (.aload_n 0, 1) := by decide +kernel
theorem d_Mo_next_28 : decode b_Mo_next 28 = .ok (.dup, 1) := by decide +kernel
theorem d_Mo_next_29 : decode b_Mo_next 29 = .ok (.getfield 93, 3) := by decide +kernel
theorem d_Mo_next_32 : decode b_Mo_next 32 = .ok (.iconst 1, 1) := by decide +kernel
theorem d_Mo_next_33 : decode b_Mo_next 33 = .ok (.iadd, 1) := by decide +kernel
theorem d_Mo_next_34 : decode b_Mo_next 34 = .ok (.putfield 93, 3) := by decide +kernel
theorem d_Mo_next_37 : decode b_Mo_next 37 = .ok (.aload_n 0, 1) := by decide +kernel
theorem d_Mo_next_38 : decode b_Mo_next 38 = .ok (.getfield 36, 3) := by decide +kernel
theorem d_Mo_next_41 : decode b_Mo_next 41 = .ok (.aload_n 0, 1) := by decide +kernel
theorem d_Mo_next_42 : decode b_Mo_next 42 = .ok (.getfield 93, 3) := by decide +kernel
theorem d_Mo_next_45 : decode b_Mo_next 45 = .ok (.iconst 1, 1) := by decide +kernel
theorem d_Mo_next_46 : decode b_Mo_next 46 = .ok (.isub, 1) := by decide +kernel
theorem d_Mo_next_47 : decode b_Mo_next 47 = .ok (.iaload, 1) := by decide +kernel
theorem d_Mo_next_48 : decode b_Mo_next 48 = .ok (.ireturn, 1) := by decide +kernel
noncomputable def f_Mo_next  (n0 : Nat) (h0 : mH) (a0 : Nat) : Option (Int32 × mH) :=
  mis h0 a0 10 <|
  mcl (f_Mo_isGood n0 h0 a0) fun v2 h3 =>
  if v2 = 0 then
    some (0, h3)
  else
    mgi h3 a0 10 16 fun v5 =>
    mgi h3 a0 10 11 fun v6 =>
    if v5 = v6 then
      mis h3 a0 10 <|
      mcl (f_Mo_fail n0 h3 a0 1) fun _ h15 =>
      some (0, h15)
    else
      mgi h3 a0 10 16 fun v8 =>
      mpt h3 a0 10 16 (.int (v8 + 1)) fun h9 =>
      mgr h9 a0 10 12 fun r10 =>
      mgi h9 a0 10 16 fun v11 =>
      mai h9 r10 .int (v11 - 1) fun v12 =>
      some (v12, h9)
set_option maxHeartbeats 4000000 in
set_option maxRecDepth 100000 in
theorem cb_Mo_next {X : mX} {ad : Nat → Nat} {ln : Launch} (O : mO X ad R_Mo b_Mo_next 1 (mR 1 21) ln) (r' : Int32) (h' : mH) (hE : mEnd X ad (some .int) (some (.int r')) h') (n0 : Nat) (h0 : mH) (a0 : Nat) (hf : f_Mo_next n0 h0 a0 = some (r', h')) : mAW X ad 0 0 0 [(0, .ref a0)] [] h0 := by
  unfold f_Mo_next at hf
  refine ax_aload_n O d_Mo_next_0 rfl 0 rfl ?_
  obtain ⟨fh3, ch3, hf⟩ := mis_some hf
  obtain ⟨v2, h3, mh3, hf⟩ := mcl_some hf
  refine ax_callV (As := []) (rest := []) O cw_Mo_isGood (q := (R_Mo, T_Mo, 31)) rfl rfl in_Mo_isGood se_Mo_isGood lk_Mo_89 ch3 (c_Mo_isGood mh3) rfl ⟨rfl, rfl⟩ (by decide) (by decide) (Nat.le_of_ble_eq_true rfl) d_Mo_next_1 ?_
  refine ax_if_ne (tgt := 9) O d_Mo_next_4 (by decide) (fun q4 => ?_) (fun q4 => ?_)
  · rw [if_neg q4] at hf
    refine ax_aload_n O d_Mo_next_9 rfl 0 rfl ?_
    obtain ⟨fv5, v5, cv5, kv5, hf⟩ := mgi_some hf
    refine ax_get O fg_Mo_93 cv5 kv5 d_Mo_next_10 ?_
    refine ax_aload_n O d_Mo_next_13 rfl 0 rfl ?_
    obtain ⟨fv6, v6, cv6, kv6, hf⟩ := mgi_some hf
    refine ax_get O fg_Mo_96 cv6 kv6 d_Mo_next_14 ?_
    refine ax_icmp_ne (tgt := 27) O d_Mo_next_17 (by decide) (fun q7 => ?_) (fun q7 => ?_)
    · rw [if_neg q7] at hf
      refine ax_aload_n O d_Mo_next_27 rfl 0 rfl ?_
      refine ax_dup O d_Mo_next_28 rfl ?_
      obtain ⟨fv8, v8, cv8, kv8, hf⟩ := mgi_some hf
      refine ax_get O fg_Mo_93 cv8 kv8 d_Mo_next_29 ?_
      refine ax_iconst (v := 1) O d_Mo_next_32 (by decide) ?_
      refine ax_iadd O d_Mo_next_33 ?_
      obtain ⟨fh9, h9, ch9, kh9, eh9, hf⟩ := mpt_some hf
      refine ax_put (v := .int (v8 + 1)) O fp_Mo_93 ch9 kh9 eh9 rfl rfl d_Mo_next_34 ?_
      refine ax_aload_n O d_Mo_next_37 rfl 0 rfl ?_
      obtain ⟨fr10, r10, cr10, kr10, hf⟩ := mgr_some hf
      refine ax_get O fg_Mo_36 cr10 kr10 d_Mo_next_38 ?_
      refine ax_aload_n O d_Mo_next_41 rfl 0 rfl ?_
      obtain ⟨fv11, v11, cv11, kv11, hf⟩ := mgi_some hf
      refine ax_get O fg_Mo_93 cv11 kv11 d_Mo_next_42 ?_
      refine ax_iconst (v := 1) O d_Mo_next_45 (by decide) ?_
      refine ax_isub O d_Mo_next_46 ?_
      obtain ⟨nv12, fv12, v12, cv12, iv12, kv12, hf⟩ := mai_some hf
      refine ax_iald O cv12 iv12 kv12 d_Mo_next_47 ?_
      exact ax_retE O hE hf rfl d_Mo_next_48
    · rw [if_pos q7] at hf
      refine ax_aload_n O d_Mo_next_20 rfl 0 rfl ?_
      refine ax_iconst (v := 1) O d_Mo_next_21 (by decide) ?_
      obtain ⟨fh15, ch15, hf⟩ := mis_some hf
      obtain ⟨u16, h15, mh15, hf⟩ := mcl_some hf
      refine ax_callV (As := [.int 1]) (rest := []) O cw_Mo_fail (q := (R_Mo, T_Mo, 31)) rfl rfl in_Mo_fail se_Mo_fail lk_Mo_99 ch15 (c_Mo_fail mh15) rfl ⟨rfl, rfl⟩ (by decide) (by decide) (Nat.le_of_ble_eq_true rfl) d_Mo_next_22 ?_
      refine ax_iconst (v := 0) O d_Mo_next_25 (by decide) ?_
      exact ax_retE O hE hf rfl d_Mo_next_26
  · rw [if_pos q4] at hf
    refine ax_iconst (v := 0) O d_Mo_next_7 (by decide) ?_
    exact ax_retE O hE hf rfl d_Mo_next_8
theorem c_Mo_next {ln : Launch} {n0 : Nat} {h0 h' : mH} {a0 : Nat} {r' : Int32} (hf : f_Mo_next n0 h0 a0 = some (r', h')) : mMet ln y_Mo_next b_Mo_next 1 (some .int) (mR 1 21) [.ref a0] h0 (some (.int r')) h' := mMet_of (by decide +kernel) (Nat.le_of_ble_eq_true rfl) (fun X ad O hE => cb_Mo_next O r' h' hE n0 h0 a0 hf)
/-! ===== StreamFiltersModel.give(I)V ===== -/
theorem d_Mo_give_0 : decode b_Mo_give 0 = .ok (.aload_n 0, 1) := by decide +kernel
theorem d_Mo_give_1 : decode b_Mo_give 1 = .ok (.invokevirtual 89, 3) := by decide +kernel
theorem d_Mo_give_4 : decode b_Mo_give 4 = .ok (.ifCond .eq 15, 3) := by decide +kernel
theorem d_Mo_give_7 : decode b_Mo_give 7 = .ok (.aload_n 0, 1) := by decide +kernel
theorem d_Mo_give_8 : decode b_Mo_give 8 = .ok (.getfield 103, 3) := by decide +kernel
theorem d_Mo_give_11 : decode b_Mo_give 11 = .ok (.ifCond .ne 8, 3) := by decide +kernel
theorem d_Mo_give_14 : decode b_Mo_give 14 = .ok (.aload_n 0, 1) := by decide +kernel
theorem d_Mo_give_15 : decode b_Mo_give 15 = .ok (.iconst 2, 1) := by decide +kernel
theorem d_Mo_give_16 : decode b_Mo_give 16 = .ok (.invokevirtual 99, 3) := by decide +kernel
theorem d_Mo_give_19 : decode b_Mo_give 19 = .ok (.aload_n 0, 1) := by decide +kernel
theorem d_Mo_give_20 : decode b_Mo_give 20 = .ok (.invokevirtual 89, 3) := by decide +kernel
theorem d_Mo_give_23 : decode b_Mo_give 23 = .ok (.ifCond .eq 37, 3) := by decide +kernel
theorem d_Mo_give_26 : decode b_Mo_give 26 = .ok (.aload_n 0, 1) := by decide +kernel
theorem d_Mo_give_27 : decode b_Mo_give 27 = .ok (.getfield 39, 3) := by decide +kernel
theorem d_Mo_give_30 : decode b_Mo_give 30 = .ok (.aload_n 0, 1) := by decide +kernel
theorem d_Mo_give_31 : decode b_Mo_give 31 = .ok (.getfield 106, 3) := by decide +kernel
theorem d_Mo_give_34 : decode b_Mo_give 34 = .ok (.iload_n 1, 1) := by decide +kernel
theorem d_Mo_give_35 : decode b_Mo_give 35 = .ok (.sipush 255, 3) := by decide +kernel
theorem d_Mo_give_38 : decode b_Mo_give 38 = .ok (.iand, 1) := by decide +kernel
theorem d_Mo_give_39 : decode b_Mo_give 39 = .ok (.iastore, 1) := by decide +kernel
theorem d_Mo_give_40 : decode b_Mo_give 40 = .ok (.aload_n 0, 1) := by decide +kernel
theorem d_Mo_give_41 : decode b_Mo_give 41 = .ok (.dup, 1) := by decide +kernel
theorem d_Mo_give_42 : decode b_Mo_give 42 = .ok (.getfield 106, 3) := by decide +kernel
theorem d_Mo_give_45 : decode b_Mo_give 45 = .ok (.iconst 1, 1) := by decide +kernel
theorem d_Mo_give_46 : decode b_Mo_give 46 = .ok (.iadd, 1) := by decide +kernel
theorem d_Mo_give_47 : decode b_Mo_give 47 = .ok (.putfield 106, 3) := by decide +kernel
theorem d_Mo_give_50 : decode b_Mo_give 50 = .ok (.aload_n 0, 1) := by decide +kernel
theorem d_Mo_give_51 : decode b_Mo_give 51 = .ok (.dup, 1) := by decide +kernel
theorem d_Mo_give_52 : decode b_Mo_give 52 = .ok (.getfield 103, 3) := by decide +kernel
theorem d_Mo_give_55 : decode b_Mo_give 55 = .ok (.iconst 1, 1) := by decide +kernel
theorem d_Mo_give_56 : decode b_Mo_give 56 = .ok (.isub, 1) := by decide +kernel
theorem d_Mo_give_57 : decode b_Mo_give 57 = .ok (.putfield 103, 3) := by decide +kernel
theorem d_Mo_give_60 : decode b_Mo_give 60 = .ok (.return_, 1) := by decide +kernel
noncomputable def f_Mo_give_B19  (n0 : Nat) (h0 : mH) (a0 : Nat) (x1 : Int32) : Option (Unit × mH) :=
  mis h0 a0 10 <|
  mcl (f_Mo_isGood n0 h0 a0) fun v6 h7 =>
  if v6 = 0 then
    some ((), h7)
  else
    mgr h7 a0 10 14 fun r9 =>
    mgi h7 a0 10 13 fun v10 =>
    mas h7 r9 .int v10 (x1 &&& 255) fun h11 =>
    mgi h11 a0 10 13 fun v12 =>
    mpt h11 a0 10 13 (.int (v12 + 1)) fun h13 =>
    mgi h13 a0 10 15 fun v14 =>
    mpt h13 a0 10 15 (.int (v14 - 1)) fun h15 =>
    some ((), h15)
noncomputable def f_Mo_give  (n0 : Nat) (h0 : mH) (a0 : Nat) (x1 : Int32) : Option (Unit × mH) :=
  mis h0 a0 10 <|
  mcl (f_Mo_isGood n0 h0 a0) fun v2 h3 =>
  if v2 = 0 then
    f_Mo_give_B19 n0 h3 a0 x1
  else
    mgi h3 a0 10 15 fun v16 =>
    if v16 = 0 then
      mis h3 a0 10 <|
      mcl (f_Mo_fail n0 h3 a0 2) fun _ h20 =>
      f_Mo_give_B19 n0 h20 a0 x1
    else
      f_Mo_give_B19 n0 h3 a0 x1
set_option maxHeartbeats 4000000 in
set_option maxRecDepth 100000 in
theorem cb_Mo_give_B19 {X : mX} {ad : Nat → Nat} {ln : Launch} (O : mO X ad R_Mo b_Mo_give 2 (mR 1 21) ln) (r' : Unit) (h' : mH) (hE : mEnd X ad none none h') (n0 : Nat) (h0 : mH) (a0 : Nat) (x1 : Int32) (hf : f_Mo_give_B19 n0 h0 a0 x1 = some (r', h')) : mAW X ad 0 0 19 [(0, .ref a0), (1, .int x1)] [] h0 := by
  unfold f_Mo_give_B19 at hf
  refine ax_aload_n O d_Mo_give_19 rfl 0 rfl ?_
  obtain ⟨fh7, ch7, hf⟩ := mis_some hf
  obtain ⟨v6, h7, mh7, hf⟩ := mcl_some hf
  refine ax_callV (As := []) (rest := []) O cw_Mo_isGood (q := (R_Mo, T_Mo, 31)) rfl rfl in_Mo_isGood se_Mo_isGood lk_Mo_89 ch7 (c_Mo_isGood mh7) rfl ⟨rfl, rfl⟩ (by decide) (by decide) (Nat.le_of_ble_eq_true rfl) d_Mo_give_20 ?_
  refine ax_if_eq (tgt := 60) O d_Mo_give_23 (by decide) (fun q8 => ?_) (fun q8 => ?_)
  · rw [if_pos q8] at hf
    exact ax_vretE O hE hf d_Mo_give_60
  · rw [if_neg q8] at hf
    refine ax_aload_n O d_Mo_give_26 rfl 0 rfl ?_
    obtain ⟨fr9, r9, cr9, kr9, hf⟩ := mgr_some hf
    refine ax_get O fg_Mo_39 cr9 kr9 d_Mo_give_27 ?_
    refine ax_aload_n O d_Mo_give_30 rfl 0 rfl ?_
    obtain ⟨fv10, v10, cv10, kv10, hf⟩ := mgi_some hf
    refine ax_get O fg_Mo_106 cv10 kv10 d_Mo_give_31 ?_
    refine ax_iload_n O d_Mo_give_34 rfl 1 rfl ?_
    refine ax_sipush (v := 255) O d_Mo_give_35 (by decide) ?_
    refine ax_iand O d_Mo_give_38 ?_
    obtain ⟨nh11, fh11, h11, ch11, ih11, eh11, hf⟩ := mas_some hf
    refine ax_iast O ch11 ih11 eh11 d_Mo_give_39 ?_
    refine ax_aload_n O d_Mo_give_40 rfl 0 rfl ?_
    refine ax_dup O d_Mo_give_41 rfl ?_
    obtain ⟨fv12, v12, cv12, kv12, hf⟩ := mgi_some hf
    refine ax_get O fg_Mo_106 cv12 kv12 d_Mo_give_42 ?_
    refine ax_iconst (v := 1) O d_Mo_give_45 (by decide) ?_
    refine ax_iadd O d_Mo_give_46 ?_
    obtain ⟨fh13, h13, ch13, kh13, eh13, hf⟩ := mpt_some hf
    refine ax_put (v := .int (v12 + 1)) O fp_Mo_106 ch13 kh13 eh13 rfl rfl d_Mo_give_47 ?_
    refine ax_aload_n O d_Mo_give_50 rfl 0 rfl ?_
    refine ax_dup O d_Mo_give_51 rfl ?_
    obtain ⟨fv14, v14, cv14, kv14, hf⟩ := mgi_some hf
    refine ax_get O fg_Mo_103 cv14 kv14 d_Mo_give_52 ?_
    refine ax_iconst (v := 1) O d_Mo_give_55 (by decide) ?_
    refine ax_isub O d_Mo_give_56 ?_
    obtain ⟨fh15, h15, ch15, kh15, eh15, hf⟩ := mpt_some hf
    refine ax_put (v := .int (v14 - 1)) O fp_Mo_103 ch15 kh15 eh15 rfl rfl d_Mo_give_57 ?_
    exact ax_vretE O hE hf d_Mo_give_60
set_option maxHeartbeats 4000000 in
set_option maxRecDepth 100000 in
theorem cb_Mo_give {X : mX} {ad : Nat → Nat} {ln : Launch} (O : mO X ad R_Mo b_Mo_give 2 (mR 1 21) ln) (r' : Unit) (h' : mH) (hE : mEnd X ad none none h') (n0 : Nat) (h0 : mH) (a0 : Nat) (x1 : Int32) (hf : f_Mo_give n0 h0 a0 x1 = some (r', h')) : mAW X ad 0 0 0 [(0, .ref a0), (1, .int x1)] [] h0 := by
  unfold f_Mo_give at hf
  refine ax_aload_n O d_Mo_give_0 rfl 0 rfl ?_
  obtain ⟨fh3, ch3, hf⟩ := mis_some hf
  obtain ⟨v2, h3, mh3, hf⟩ := mcl_some hf
  refine ax_callV (As := []) (rest := []) O cw_Mo_isGood (q := (R_Mo, T_Mo, 31)) rfl rfl in_Mo_isGood se_Mo_isGood lk_Mo_89 ch3 (c_Mo_isGood mh3) rfl ⟨rfl, rfl⟩ (by decide) (by decide) (Nat.le_of_ble_eq_true rfl) d_Mo_give_1 ?_
  refine ax_if_eq (tgt := 19) O d_Mo_give_4 (by decide) (fun q4 => ?_) (fun q4 => ?_)
  · rw [if_pos q4] at hf
    exact cb_Mo_give_B19 O _ _ hE n0 _ _ _ hf
  · rw [if_neg q4] at hf
    refine ax_aload_n O d_Mo_give_7 rfl 0 rfl ?_
    obtain ⟨fv16, v16, cv16, kv16, hf⟩ := mgi_some hf
    refine ax_get O fg_Mo_103 cv16 kv16 d_Mo_give_8 ?_
    refine ax_if_ne (tgt := 19) O d_Mo_give_11 (by decide) (fun q17 => ?_) (fun q17 => ?_)
    · rw [if_neg q17] at hf
      exact cb_Mo_give_B19 O _ _ hE n0 _ _ _ hf
    · rw [if_pos q17] at hf
      refine ax_aload_n O d_Mo_give_14 rfl 0 rfl ?_
      refine ax_iconst (v := 2) O d_Mo_give_15 (by decide) ?_
      obtain ⟨fh20, ch20, hf⟩ := mis_some hf
      obtain ⟨u21, h20, mh20, hf⟩ := mcl_some hf
      refine ax_callV (As := [.int 2]) (rest := []) O cw_Mo_fail (q := (R_Mo, T_Mo, 31)) rfl rfl in_Mo_fail se_Mo_fail lk_Mo_99 ch20 (c_Mo_fail mh20) rfl ⟨rfl, rfl⟩ (by decide) (by decide) (Nat.le_of_ble_eq_true rfl) d_Mo_give_16 ?_
      exact cb_Mo_give_B19 O _ _ hE n0 _ _ _ hf
theorem c_Mo_give {ln : Launch} {n0 : Nat} {h0 h' : mH} {a0 : Nat} {x1 : Int32} {r' : Unit} (hf : f_Mo_give n0 h0 a0 x1 = some (r', h')) : mMet ln y_Mo_give b_Mo_give 2 none (mR 1 21) [.ref a0, .int x1] h0 none h' := mMet_of (by decide +kernel) (Nat.le_of_ble_eq_true rfl) (fun X ad O hE => cb_Mo_give O r' h' hE n0 h0 a0 x1 hf)
/-! ===== StreamFiltersModel.bit()I ===== -/
theorem d_Mo_bit_0 : decode b_Mo_bit 0 = .ok (.aload_n 0, 1) := by decide +kernel
theorem d_Mo_bit_1 : decode b_Mo_bit 1 = .ok (.getfield 109, 3) := by decide +kernel
theorem d_Mo_bit_4 : decode b_Mo_bit 4 = .ok (.ifCond .ne 17, 3) := by decide +kernel
theorem d_Mo_bit_7 : decode b_Mo_bit 7 = .ok (.aload_n 0, 1) := by decide +kernel
theorem d_Mo_bit_8 : decode b_Mo_bit 8 = .ok (.aload_n 0, 1) := by decide +kernel
theorem d_Mo_bit_9 : decode b_Mo_bit 9 = .ok (.invokevirtual 112, 3) := by decide +kernel
theorem d_Mo_bit_12 : decode b_Mo_bit 12 = .ok (.putfield 116, 3) := by decide +kernel
theorem d_Mo_bit_15 : decode b_Mo_bit 15 = .ok (.aload_n 0, 1) := by decide +kernel
theorem d_Mo_bit_16 : decode b_Mo_bit 16 = .ok (.bipush 8, 2) := by decide +kernel
theorem d_Mo_bit_18 : decode b_Mo_bit 18 = .ok (.putfield 109, 3) := by decide +kernel
theorem d_Mo_bit_21 : decode b_Mo_bit 21 = .ok (.aload_n 0, 1) := by decide +kernel
theorem d_Mo_bit_22 : decode b_Mo_bit 22 = .ok (.getfield 116, 3) := by decide +kernel
theorem d_Mo_bit_25 : decode b_Mo_bit 25 = .ok (.bipush 8, 2) := by decide +kernel
theorem d_Mo_bit_27 : decode b_Mo_bit 27 = .ok (.aload_n 0, 1) := by decide +kernel
theorem d_Mo_bit_28 : decode b_Mo_bit 28 = .ok (.getfield 109, 3) := by decide +kernel
theorem d_Mo_bit_31 : decode b_Mo_bit 31 = .ok (.isub, 1) := by decide +kernel
theorem d_Mo_bit_32 : decode b_Mo_bit 32 = .ok (.ishr, 1) := by decide +kernel
theorem d_Mo_bit_33 : decode b_Mo_bit 33 = .ok (.iconst 1, 1) := by decide +kernel
theorem d_Mo_bit_34 : decode b_Mo_bit 34 = .ok (.iand, 1) := by decide +kernel
theorem d_Mo_bit_35 : decode b_Mo_bit 35 = .ok (.istore_n 1, 1) := by decide +kernel
theorem d_Mo_bit_36 : decode b_Mo_bit 36 = .ok (.aload_n 0, 1) := by decide +kernel
theorem d_Mo_bit_37 : decode b_Mo_bit 37 = .ok (.dup, 1) := by decide +kernel
theorem d_Mo_bit_38 : decode b_Mo_bit 38 = .ok (.getfield 109, 3) := by decide +kernel
theorem d_Mo_bit_41 : decode b_Mo_bit 41 = .ok (.iconst 1, 1) := by decide +kernel
theorem d_Mo_bit_42 : decode b_Mo_bit 42 = .ok (.isub, 1) := by decide +kernel
theorem d_Mo_bit_43 : decode b_Mo_bit 43 = .ok (.putfield 109, 3) := by decide +kernel
theorem d_Mo_bit_46 : decode b_Mo_bit 46 = .ok (.iload_n 1, 1) := by decide +kernel
theorem d_Mo_bit_47 : decode b_Mo_bit 47 = .ok (.ireturn, 1) := by decide +kernel
noncomputable def f_Mo_bit_B21  (n0 : Nat) (h0 : mH) (a0 : Nat) : Option (Int32 × mH) :=
  mgi h0 a0 10 18 fun v3 =>
  mgi h0 a0 10 19 fun v4 =>
  mnm ((v3 >>> ((8 - v4) &&& 31)) &&& 1) fun v5 =>
  mgi h0 a0 10 19 fun v6 =>
  mpt h0 a0 10 19 (.int (v6 - 1)) fun h7 =>
  some (v5, h7)
noncomputable def f_Mo_bit  (n0 : Nat) (h0 : mH) (a0 : Nat) : Option (Int32 × mH) :=
  mgi h0 a0 10 19 fun v1 =>
  if v1 = 0 then
    mis h0 a0 10 <|
    mcl (f_Mo_next n0 h0 a0) fun v9 h10 =>
    mpt h10 a0 10 18 (.int v9) fun h11 =>
    mpt h11 a0 10 19 (.int 8) fun h12 =>
    f_Mo_bit_B21 n0 h12 a0
  else
    f_Mo_bit_B21 n0 h0 a0
set_option maxHeartbeats 4000000 in
set_option maxRecDepth 100000 in
theorem cb_Mo_bit_B21 {X : mX} {ad : Nat → Nat} {ln : Launch} (O : mO X ad R_Mo b_Mo_bit 2 (mR 2 41) ln) (r' : Int32) (h' : mH) (hE : mEnd X ad (some .int) (some (.int r')) h') (n0 : Nat) (h0 : mH) (a0 : Nat) (hf : f_Mo_bit_B21 n0 h0 a0 = some (r', h')) : mAW X ad 0 0 21 [(0, .ref a0)] [] h0 := by
  unfold f_Mo_bit_B21 at hf
  refine ax_aload_n O d_Mo_bit_21 rfl 0 rfl ?_
  obtain ⟨fv3, v3, cv3, kv3, hf⟩ := mgi_some hf
  refine ax_get O fg_Mo_116 cv3 kv3 d_Mo_bit_22 ?_
  refine ax_bipush (v := 8) O d_Mo_bit_25 (by decide) ?_
  refine ax_aload_n O d_Mo_bit_27 rfl 0 rfl ?_
  obtain ⟨fv4, v4, cv4, kv4, hf⟩ := mgi_some hf
  refine ax_get O fg_Mo_109 cv4 kv4 d_Mo_bit_28 ?_
  refine ax_isub O d_Mo_bit_31 ?_
  refine ax_ishr O d_Mo_bit_32 ?_
  refine ax_iconst (v := 1) O d_Mo_bit_33 (by decide) ?_
  refine ax_iand O d_Mo_bit_34 ?_
  obtain ⟨v5, ev5, hf⟩ := mnm_some hf
  refine ax_nmi ev5 ?_
  refine ax_istore_n (lv' := [(1, .int v5), (0, .ref a0)]) O d_Mo_bit_35 rfl (by decide) rfl ?_
  refine ax_aload_n O d_Mo_bit_36 rfl 1 rfl ?_
  refine ax_dup O d_Mo_bit_37 rfl ?_
  obtain ⟨fv6, v6, cv6, kv6, hf⟩ := mgi_some hf
  refine ax_get O fg_Mo_109 cv6 kv6 d_Mo_bit_38 ?_
  refine ax_iconst (v := 1) O d_Mo_bit_41 (by decide) ?_
  refine ax_isub O d_Mo_bit_42 ?_
  obtain ⟨fh7, h7, ch7, kh7, eh7, hf⟩ := mpt_some hf
  refine ax_put (v := .int (v6 - 1)) O fp_Mo_109 ch7 kh7 eh7 rfl rfl d_Mo_bit_43 ?_
  refine ax_iload_n O d_Mo_bit_46 rfl 0 rfl ?_
  exact ax_retE O hE hf rfl d_Mo_bit_47
set_option maxHeartbeats 4000000 in
set_option maxRecDepth 100000 in
theorem cb_Mo_bit {X : mX} {ad : Nat → Nat} {ln : Launch} (O : mO X ad R_Mo b_Mo_bit 2 (mR 2 41) ln) (r' : Int32) (h' : mH) (hE : mEnd X ad (some .int) (some (.int r')) h') (n0 : Nat) (h0 : mH) (a0 : Nat) (hf : f_Mo_bit n0 h0 a0 = some (r', h')) : mAW X ad 0 0 0 [(0, .ref a0)] [] h0 := by
  unfold f_Mo_bit at hf
  refine ax_aload_n O d_Mo_bit_0 rfl 0 rfl ?_
  obtain ⟨fv1, v1, cv1, kv1, hf⟩ := mgi_some hf
  refine ax_get O fg_Mo_109 cv1 kv1 d_Mo_bit_1 ?_
  refine ax_if_ne (tgt := 21) O d_Mo_bit_4 (by decide) (fun q2 => ?_) (fun q2 => ?_)
  · rw [if_neg q2] at hf
    exact cb_Mo_bit_B21 O _ _ hE n0 _ _ hf
  · rw [if_pos q2] at hf
    refine ax_aload_n O d_Mo_bit_7 rfl 0 rfl ?_
    refine ax_aload_n O d_Mo_bit_8 rfl 0 rfl ?_
    obtain ⟨fh10, ch10, hf⟩ := mis_some hf
    obtain ⟨v9, h10, mh10, hf⟩ := mcl_some hf
    refine ax_callV (As := []) (rest := [.ref a0]) O cw_Mo_next (q := (R_Mo, T_Mo, 31)) rfl rfl in_Mo_next se_Mo_next lk_Mo_112 ch10 (c_Mo_next mh10) rfl ⟨rfl, rfl⟩ (by decide) (by decide) (Nat.le_of_ble_eq_true rfl) d_Mo_bit_9 ?_
    obtain ⟨fh11, h11, ch11, kh11, eh11, hf⟩ := mpt_some hf
    refine ax_put (v := .int v9) O fp_Mo_116 ch11 kh11 eh11 rfl rfl d_Mo_bit_12 ?_
    refine ax_aload_n O d_Mo_bit_15 rfl 0 rfl ?_
    refine ax_bipush (v := 8) O d_Mo_bit_16 (by decide) ?_
    obtain ⟨fh12, h12, ch12, kh12, eh12, hf⟩ := mpt_some hf
    refine ax_put (v := .int 8) O fp_Mo_109 ch12 kh12 eh12 rfl rfl d_Mo_bit_18 ?_
    exact cb_Mo_bit_B21 O _ _ hE n0 _ _ hf
theorem c_Mo_bit {ln : Launch} {n0 : Nat} {h0 h' : mH} {a0 : Nat} {r' : Int32} (hf : f_Mo_bit n0 h0 a0 = some (r', h')) : mMet ln y_Mo_bit b_Mo_bit 2 (some .int) (mR 2 41) [.ref a0] h0 (some (.int r')) h' := mMet_of (by decide +kernel) (Nat.le_of_ble_eq_true rfl) (fun X ad O hE => cb_Mo_bit O r' h' hE n0 h0 a0 hf)
/-! ===== StreamFiltersModel.number(I)I ===== -/
theorem d_Mo_number_0 : decode b_Mo_number 0 = .ok (.iconst 0, 1) := by decide +kernel
theorem d_Mo_number_1 : decode b_Mo_number 1 = .ok (.istore_n 2, 1) := by decide +kernel
theorem d_Mo_number_2 : decode b_Mo_number 2 = .ok (.iconst 0, 1) := by decide +kernel
theorem d_Mo_number_3 : decode b_Mo_number 3 = .ok (.istore_n 3, 1) := by decide +kernel
theorem d_Mo_number_4 : decode b_Mo_number 4 = .ok (.iload_n 3, 1) := by decide +kernel
theorem d_Mo_number_5 : decode b_Mo_number 5 = .ok (.iload_n 1, 1) := by decide +kernel
theorem d_Mo_number_6 : decode b_Mo_number 6 = .ok (.if_icmp .ge 25, 3) := by decide +kernel
theorem d_Mo_number_9 : decode b_Mo_number 9 = .ok (.aload_n 0, 1) := by decide +kernel
theorem d_Mo_number_10 : decode b_Mo_number 10 = .ok (.invokevirtual 89, 3) := by decide +kernel
theorem d_Mo_number_13 : decode b_Mo_number 13 = .ok (.ifCond .eq 18, 3) := by decide +kernel
theorem d_Mo_number_16 : decode b_Mo_number 16 = .ok (.iload_n 2, 1) := by decide +kernel
theorem d_Mo_number_17 : decode b_Mo_number 17 = .ok (.aload_n 0, 1) := by decide +kernel
theorem d_Mo_number_18 : decode b_Mo_number 18 = .ok (.invokevirtual 119, 3) := by decide +kernel
theorem d_Mo_number_21 : decode b_Mo_number 21 = .ok (.iload_n 3, 1) := by decide +kernel
theorem d_Mo_number_22 : decode b_Mo_number 22 = .ok (.ishl, 1) := by decide +kernel
theorem d_Mo_number_23 : decode b_Mo_number 23 = .ok (.ior, 1) := by decide +kernel
theorem d_Mo_number_24 : decode b_Mo_number 24 = .ok (.istore_n 2, 1) := by decide +kernel
theorem d_Mo_number_25 : decode b_Mo_number 25 = .ok (.iinc 3 1, 3) := by decide +kernel
theorem d_Mo_number_28 : decode b_Mo_number 28 = .ok (.goto (-24), 3) := by decide +kernel
theorem d_Mo_number_31 : decode b_Mo_number 31 = .ok (.iload_n 2, 1) := by decide +kernel
theorem d_Mo_number_32 : decode b_Mo_number 32 = .ok (.ireturn, 1) := by decide +kernel
noncomputable def f_Mo_number_L4  (n0 : Nat) : Nat → mH → Nat → Int32 → Int32 → Int32 → Option (Int32 × mH)
  | 0, _, _, _, _, _ => none
  | n + 1, h0, a0, x1, x2, x3 =>
    if x1 ≤ x3 then
      some (x2, h0)
    else
      mis h0 a0 10 <|
      mcl (f_Mo_isGood n0 h0 a0) fun v3 h4 =>
      if v3 = 0 then
        some (x2, h4)
      else
        mis h4 a0 10 <|
        mcl (f_Mo_bit n0 h4 a0) fun v7 h8 =>
        mnm (x2 ||| (v7 <<< (x3 &&& 31))) fun v9 =>
        mnm (x3 + 1) fun v10 =>
        (f_Mo_number_L4 n0 n) h8 a0 x1 v9 v10
noncomputable def f_Mo_number  (n0 : Nat) (h0 : mH) (a0 : Nat) (x1 : Int32) : Option (Int32 × mH) :=
  f_Mo_number_L4 n0 n0 h0 a0 x1 0 0
set_option maxHeartbeats 4000000 in
set_option maxRecDepth 100000 in
theorem cb_Mo_number_L4 {X : mX} {ad : Nat → Nat} {ln : Launch} (O : mO X ad R_Mo b_Mo_number 4 (mR 3 62) ln) (r' : Int32) (h' : mH) (hE : mEnd X ad (some .int) (some (.int r')) h') (n0 : Nat) : ∀ (n : Nat) (h0 : mH) (a0 : Nat) (x1 : Int32) (x2 : Int32) (x3 : Int32), f_Mo_number_L4 n0 n h0 a0 x1 x2 x3 = some (r', h') → mAW X ad 0 0 4 [(0, .ref a0), (1, .int x1), (2, .int x2), (3, .int x3)] [] h0 := by
  intro n
  induction n with
  | zero =>
    intro h0 a0 x1 x2 x3 hf
    rw [f_Mo_number_L4.eq_1] at hf
    cases hf
  | succ n ih =>
    intro h0 a0 x1 x2 x3 hf
    rw [f_Mo_number_L4.eq_2] at hf
    refine ax_iload_n O d_Mo_number_4 rfl 3 rfl ?_
    refine ax_iload_n O d_Mo_number_5 rfl 1 rfl ?_
    refine ax_icmp_ge (tgt := 31) O d_Mo_number_6 (by decide) (fun q1 => ?_) (fun q1 => ?_)
    · rw [if_pos q1] at hf
      refine ax_iload_n O d_Mo_number_31 rfl 2 rfl ?_
      exact ax_retE O hE hf rfl d_Mo_number_32
    · rw [if_neg q1] at hf
      refine ax_aload_n O d_Mo_number_9 rfl 0 rfl ?_
      obtain ⟨fh4, ch4, hf⟩ := mis_some hf
      obtain ⟨v3, h4, mh4, hf⟩ := mcl_some hf
      refine ax_callV (As := []) (rest := []) O cw_Mo_isGood (q := (R_Mo, T_Mo, 31)) rfl rfl in_Mo_isGood se_Mo_isGood lk_Mo_89 ch4 (c_Mo_isGood mh4) rfl ⟨rfl, rfl⟩ (by decide) (by decide) (Nat.le_of_ble_eq_true rfl) d_Mo_number_10 ?_
      refine ax_if_eq (tgt := 31) O d_Mo_number_13 (by decide) (fun q5 => ?_) (fun q5 => ?_)
      · rw [if_pos q5] at hf
        refine ax_iload_n O d_Mo_number_31 rfl 2 rfl ?_
        exact ax_retE O hE hf rfl d_Mo_number_32
      · rw [if_neg q5] at hf
        refine ax_iload_n O d_Mo_number_16 rfl 2 rfl ?_
        refine ax_aload_n O d_Mo_number_17 rfl 0 rfl ?_
        obtain ⟨fh8, ch8, hf⟩ := mis_some hf
        obtain ⟨v7, h8, mh8, hf⟩ := mcl_some hf
        refine ax_callV (As := []) (rest := [.int x2]) O cw_Mo_bit (q := (R_Mo, T_Mo, 31)) rfl rfl in_Mo_bit se_Mo_bit lk_Mo_119 ch8 (c_Mo_bit mh8) rfl ⟨rfl, rfl⟩ (by decide) (by decide) (Nat.le_of_ble_eq_true rfl) d_Mo_number_18 ?_
        refine ax_iload_n O d_Mo_number_21 rfl 3 rfl ?_
        refine ax_ishl O d_Mo_number_22 ?_
        refine ax_ior O d_Mo_number_23 ?_
        obtain ⟨v9, ev9, hf⟩ := mnm_some hf
        refine ax_nmi ev9 ?_
        refine ax_istore_n (lv' := [(2, .int v9), (0, .ref a0), (1, .int x1), (3, .int x3)]) O d_Mo_number_24 rfl (by decide) rfl ?_
        obtain ⟨v10, ev10, hf⟩ := mnm_some hf
        refine ax_iinc (j := 3) (v := v10) (lv' := [(3, .int v10), (2, .int v9), (0, .ref a0), (1, .int x1)]) O d_Mo_number_25 rfl (by rw [ev10]; rfl) (by decide) rfl ?_
        refine ax_goto (tgt := 4) O d_Mo_number_28 (by decide) ?_
        refine ax_sub [2, 3, 1, 0] rfl ?_
        exact ih _ _ _ _ _ hf
set_option maxHeartbeats 4000000 in
set_option maxRecDepth 100000 in
theorem cb_Mo_number {X : mX} {ad : Nat → Nat} {ln : Launch} (O : mO X ad R_Mo b_Mo_number 4 (mR 3 62) ln) (r' : Int32) (h' : mH) (hE : mEnd X ad (some .int) (some (.int r')) h') (n0 : Nat) (h0 : mH) (a0 : Nat) (x1 : Int32) (hf : f_Mo_number n0 h0 a0 x1 = some (r', h')) : mAW X ad 0 0 0 [(0, .ref a0), (1, .int x1)] [] h0 := by
  unfold f_Mo_number at hf
  refine ax_iconst (v := 0) O d_Mo_number_0 (by decide) ?_
  refine ax_istore_n (lv' := [(2, .int 0), (0, .ref a0), (1, .int x1)]) O d_Mo_number_1 rfl (by decide) rfl ?_
  refine ax_iconst (v := 0) O d_Mo_number_2 (by decide) ?_
  refine ax_istore_n (lv' := [(3, .int 0), (2, .int 0), (0, .ref a0), (1, .int x1)]) O d_Mo_number_3 rfl (by decide) rfl ?_
  refine ax_sub [2, 3, 1, 0] rfl ?_
  exact cb_Mo_number_L4 O _ _ hE n0 n0 _ _ _ _ _ hf
theorem c_Mo_number {ln : Launch} {n0 : Nat} {h0 h' : mH} {a0 : Nat} {x1 : Int32} {r' : Int32} (hf : f_Mo_number n0 h0 a0 x1 = some (r', h')) : mMet ln y_Mo_number b_Mo_number 4 (some .int) (mR 3 62) [.ref a0, .int x1] h0 (some (.int r')) h' := mMet_of (by decide +kernel) (Nat.le_of_ble_eq_true rfl) (fun X ad O hE => cb_Mo_number O r' h' hE n0 h0 a0 x1 hf)
/-! ===== StreamFiltersModel.makeCodes(II)V ===== -/
theorem d_Mo_makeCodes_0 : decode b_Mo_makeCodes 0 = .ok (.iconst 0, 1) := by decide +kernel
theorem d_Mo_makeCodes_1 : decode b_Mo_makeCodes 1 = .ok (.istore_n 3, 1) := by decide +kernel
theorem d_Mo_makeCodes_2 : decode b_Mo_makeCodes 2 = .ok (.iconst 1, 1) := by decide +kernel
theorem d_Mo_makeCodes_3 : decode b_Mo_makeCodes 3 = .ok (.istore 4, 2) := by decide +kernel
theorem d_Mo_makeCodes_5 : decode b_Mo_makeCodes 5 = .ok (.iload 4, 2) := by decide +kernel
theorem d_Mo_makeCodes_7 : decode b_Mo_makeCodes 7 = .ok (.bipush 16, 2) := by decide +kernel
theorem d_Mo_makeCodes_9 : decode b_Mo_makeCodes 9 = .ok (.if_icmp .ge 53, 3) := by decide +kernel
theorem d_Mo_makeCodes_12 : decode b_Mo_makeCodes 12 = .ok (.iload_n 3, 1) := by decide +kernel
theorem d_Mo_makeCodes_13 : decode b_Mo_makeCodes 13 = .ok (.iconst 1, 1) := by decide +kernel
theorem d_Mo_makeCodes_14 : decode b_Mo_makeCodes 14 = .ok (.ishl, 1) := by decide +kernel
theorem d_Mo_makeCodes_15 : decode b_Mo_makeCodes 15 = .ok (.istore_n 3, 1) := by decide +kernel
theorem d_Mo_makeCodes_16 : decode b_Mo_makeCodes 16 = .ok (.iload_n 1, 1) := by decide +kernel
theorem d_Mo_makeCodes_17 : decode b_Mo_makeCodes 17 = .ok (.istore 5, 2) := by decide +kernel
theorem d_Mo_makeCodes_19 : decode b_Mo_makeCodes 19 = .ok (.iload 5, 2) := by decide +kernel
theorem d_Mo_makeCodes_21 : decode b_Mo_makeCodes 21 = .ok (.iload_n 1, 1) := by decide +kernel
theorem d_Mo_makeCodes_22 : decode b_Mo_makeCodes 22 = .ok (.iload_n 2, 1) := by decide +kernel
theorem d_Mo_makeCodes_23 : decode b_Mo_makeCodes 23 = .ok (.iadd, 1) := by decide +kernel
theorem d_Mo_makeCodes_24 : decode b_Mo_makeCodes 24 = .ok (.if_icmp .ge 32, 3) := by decide +kernel
theorem d_Mo_makeCodes_27 : decode b_Mo_makeCodes 27 = .ok (.aload_n 0, 1) := by decide +kernel
theorem d_Mo_makeCodes_28 : decode b_Mo_makeCodes 28 = .ok (.getfield 42, 3) := by decide +kernel
theorem d_Mo_makeCodes_31 : decode b_Mo_makeCodes 31 = .ok (.iload 5, 2) := by decide +kernel
theorem d_Mo_makeCodes_33 : decode b_Mo_makeCodes 33 = .ok (.iaload, 1) := by decide +kernel
theorem d_Mo_makeCodes_34 : decode b_Mo_makeCodes 34 = .ok (.iload 4, 2) := by decide +kernel
theorem d_Mo_makeCodes_36 : decode b_Mo_makeCodes 36 = .ok (.if_icmp .ne 14, 3) := by decide +kernel
theorem d_Mo_makeCodes_39 : decode b_Mo_makeCodes 39 = .ok (.aload_n 0, 1) := by decide +kernel
theorem d_Mo_makeCodes_40 : decode b_Mo_makeCodes 40 = .ok (.getfield 45, 3) := by decide +kernel
theorem d_Mo_makeCodes_43 : decode b_Mo_makeCodes 43 = .ok (.iload 5, 2) := by decide +kernel
theorem d_Mo_makeCodes_45 : decode b_Mo_makeCodes 45 = .ok (.iload_n 3, 1) := by decide +kernel
theorem d_Mo_makeCodes_46 : decode b_Mo_makeCodes 46 = .ok (.iastore, 1) := by decide +kernel
theorem d_Mo_makeCodes_47 : decode b_Mo_makeCodes 47 = .ok (.iinc 3 1, 3) := by decide +kernel
theorem d_Mo_makeCodes_50 : decode b_Mo_makeCodes 50 = .ok (.iinc 5 1, 3) := by decide +kernel
theorem d_Mo_makeCodes_53 : decode b_Mo_makeCodes 53 = .ok (.goto (-34), 3) := by decide +kernel
theorem d_Mo_makeCodes_56 : decode b_Mo_makeCodes 56 = .ok (.iinc 4 1, 3) := by decide +kernel
theorem d_Mo_makeCodes_59 : decode b_Mo_makeCodes 59 = .ok (.goto (-54), 3) := by decide +kernel
theorem d_Mo_makeCodes_62 : decode b_Mo_makeCodes 62 = .ok (.return_, 1) := by decide +kernel
noncomputable def f_Mo_makeCodes_L19 (K5 : mH → Nat → Int32 → Int32 → Int32 → Int32 → Option (Unit × mH)) (n0 : Nat) : Nat → mH → Nat → Int32 → Int32 → Int32 → Int32 → Int32 → Option (Unit × mH)
  | 0, _, _, _, _, _, _, _ => none
  | n + 1, h0, a0, x1, x2, x3, x4, x5 =>
    if (x1 + x2) ≤ x5 then
      mnm (x4 + 1) fun v4 =>
      K5 h0 a0 x1 x2 x3 v4
    else
      mgr h0 a0 10 20 fun r5 =>
      mai h0 r5 .int x5 fun v6 =>
      if v6 = x4 then
        mgr h0 a0 10 21 fun r9 =>
        mas h0 r9 .int x5 x3 fun h10 =>
        mnm (x3 + 1) fun v11 =>
        mnm (x5 + 1) fun v12 =>
        (f_Mo_makeCodes_L19 K5 n0 n) h10 a0 x1 x2 v11 x4 v12
      else
        mnm (x5 + 1) fun v8 =>
        (f_Mo_makeCodes_L19 K5 n0 n) h0 a0 x1 x2 x3 x4 v8
noncomputable def f_Mo_makeCodes_L5  (n0 : Nat) : Nat → mH → Nat → Int32 → Int32 → Int32 → Int32 → Option (Unit × mH)
  | 0, _, _, _, _, _, _ => none
  | n + 1, h0, a0, x1, x2, x3, x4 =>
    if 16 ≤ x4 then
      some ((), h0)
    else
      mnm (x3 <<< (1 &&& 31)) fun v2 =>
      f_Mo_makeCodes_L19 (f_Mo_makeCodes_L5 n0 n) n0 n0 h0 a0 x1 x2 v2 x4 x1
noncomputable def f_Mo_makeCodes  (n0 : Nat) (h0 : mH) (a0 : Nat) (x1 : Int32) (x2 : Int32) : Option (Unit × mH) :=
  f_Mo_makeCodes_L5 n0 n0 h0 a0 x1 x2 0 1
set_option maxHeartbeats 4000000 in
set_option maxRecDepth 100000 in
theorem cb_Mo_makeCodes_L19 {X : mX} {ad : Nat → Nat} {ln : Launch} (O : mO X ad R_Mo b_Mo_makeCodes 6 (mR 0 0) ln) (K5 : mH → Nat → Int32 → Int32 → Int32 → Int32 → Option (Unit × mH)) (r' : Unit) (h' : mH) (hE : mEnd X ad none none h') (hK5 : ∀ (h : mH) (a0 : Nat) (x1 : Int32) (x2 : Int32) (x3 : Int32) (x4 : Int32), K5 h a0 x1 x2 x3 x4 = some (r', h') → mAW X ad 0 0 5 [(0, .ref a0), (1, .int x1), (2, .int x2), (3, .int x3), (4, .int x4)] [] h) (n0 : Nat) : ∀ (n : Nat) (h0 : mH) (a0 : Nat) (x1 : Int32) (x2 : Int32) (x3 : Int32) (x4 : Int32) (x5 : Int32), f_Mo_makeCodes_L19 K5 n0 n h0 a0 x1 x2 x3 x4 x5 = some (r', h') → mAW X ad 0 0 19 [(0, .ref a0), (1, .int x1), (2, .int x2), (3, .int x3), (4, .int x4), (5, .int x5)] [] h0 := by
  intro n
  induction n with
  | zero =>
    intro h0 a0 x1 x2 x3 x4 x5 hf
    rw [f_Mo_makeCodes_L19.eq_1] at hf
    cases hf
  | succ n ih =>
    intro h0 a0 x1 x2 x3 x4 x5 hf
    rw [f_Mo_makeCodes_L19.eq_2] at hf
    refine ax_iload O d_Mo_makeCodes_19 5 rfl ?_
    refine ax_iload_n O d_Mo_makeCodes_21 rfl 1 rfl ?_
    refine ax_iload_n O d_Mo_makeCodes_22 rfl 2 rfl ?_
    refine ax_iadd O d_Mo_makeCodes_23 ?_
    refine ax_icmp_ge (tgt := 56) O d_Mo_makeCodes_24 (by decide) (fun q3 => ?_) (fun q3 => ?_)
    · rw [if_pos q3] at hf
      obtain ⟨v4, ev4, hf⟩ := mnm_some hf
      refine ax_iinc (j := 4) (v := v4) (lv' := [(4, .int v4), (0, .ref a0), (1, .int x1), (2, .int x2), (3, .int x3), (5, .int x5)]) O d_Mo_makeCodes_56 rfl (by rw [ev4]; rfl) (by decide) rfl ?_
      refine ax_goto (tgt := 5) O d_Mo_makeCodes_59 (by decide) ?_
      refine ax_sub [1, 2, 3, 4, 0] rfl ?_
      exact hK5 _ _ _ _ _ _ hf
    · rw [if_neg q3] at hf
      refine ax_aload_n O d_Mo_makeCodes_27 rfl 0 rfl ?_
      obtain ⟨fr5, r5, cr5, kr5, hf⟩ := mgr_some hf
      refine ax_get O fg_Mo_42 cr5 kr5 d_Mo_makeCodes_28 ?_
      refine ax_iload O d_Mo_makeCodes_31 5 rfl ?_
      obtain ⟨nv6, fv6, v6, cv6, iv6, kv6, hf⟩ := mai_some hf
      refine ax_iald O cv6 iv6 kv6 d_Mo_makeCodes_33 ?_
      refine ax_iload O d_Mo_makeCodes_34 4 rfl ?_
      refine ax_icmp_ne (tgt := 50) O d_Mo_makeCodes_36 (by decide) (fun q7 => ?_) (fun q7 => ?_)
      · rw [if_neg q7] at hf
        obtain ⟨v8, ev8, hf⟩ := mnm_some hf
        refine ax_iinc (j := 5) (v := v8) (lv' := [(5, .int v8), (0, .ref a0), (1, .int x1), (2, .int x2), (3, .int x3), (4, .int x4)]) O d_Mo_makeCodes_50 rfl (by rw [ev8]; rfl) (by decide) rfl ?_
        refine ax_goto (tgt := 19) O d_Mo_makeCodes_53 (by decide) ?_
        refine ax_sub [1, 2, 3, 4, 5, 0] rfl ?_
        exact ih _ _ _ _ _ _ _ hf
      · rw [if_pos q7] at hf
        refine ax_aload_n O d_Mo_makeCodes_39 rfl 0 rfl ?_
        obtain ⟨fr9, r9, cr9, kr9, hf⟩ := mgr_some hf
        refine ax_get O fg_Mo_45 cr9 kr9 d_Mo_makeCodes_40 ?_
        refine ax_iload O d_Mo_makeCodes_43 5 rfl ?_
        refine ax_iload_n O d_Mo_makeCodes_45 rfl 3 rfl ?_
        obtain ⟨nh10, fh10, h10, ch10, ih10, eh10, hf⟩ := mas_some hf
        refine ax_iast O ch10 ih10 eh10 d_Mo_makeCodes_46 ?_
        obtain ⟨v11, ev11, hf⟩ := mnm_some hf
        refine ax_iinc (j := 3) (v := v11) (lv' := [(3, .int v11), (0, .ref a0), (1, .int x1), (2, .int x2), (4, .int x4), (5, .int x5)]) O d_Mo_makeCodes_47 rfl (by rw [ev11]; rfl) (by decide) rfl ?_
        obtain ⟨v12, ev12, hf⟩ := mnm_some hf
        refine ax_iinc (j := 5) (v := v12) (lv' := [(5, .int v12), (3, .int v11), (0, .ref a0), (1, .int x1), (2, .int x2), (4, .int x4)]) O d_Mo_makeCodes_50 rfl (by rw [ev12]; rfl) (by decide) rfl ?_
        refine ax_goto (tgt := 19) O d_Mo_makeCodes_53 (by decide) ?_
        refine ax_sub [2, 3, 4, 1, 5, 0] rfl ?_
        exact ih _ _ _ _ _ _ _ hf
set_option maxHeartbeats 4000000 in
set_option maxRecDepth 100000 in
theorem cb_Mo_makeCodes_L5 {X : mX} {ad : Nat → Nat} {ln : Launch} (O : mO X ad R_Mo b_Mo_makeCodes 6 (mR 0 0) ln) (r' : Unit) (h' : mH) (hE : mEnd X ad none none h') (n0 : Nat) : ∀ (n : Nat) (h0 : mH) (a0 : Nat) (x1 : Int32) (x2 : Int32) (x3 : Int32) (x4 : Int32), f_Mo_makeCodes_L5 n0 n h0 a0 x1 x2 x3 x4 = some (r', h') → mAW X ad 0 0 5 [(0, .ref a0), (1, .int x1), (2, .int x2), (3, .int x3), (4, .int x4)] [] h0 := by
  intro n
  induction n with
  | zero =>
    intro h0 a0 x1 x2 x3 x4 hf
    rw [f_Mo_makeCodes_L5.eq_1] at hf
    cases hf
  | succ n ih =>
    intro h0 a0 x1 x2 x3 x4 hf
    rw [f_Mo_makeCodes_L5.eq_2] at hf
    refine ax_iload O d_Mo_makeCodes_5 4 rfl ?_
    refine ax_bipush (v := 16) O d_Mo_makeCodes_7 (by decide) ?_
    refine ax_icmp_ge (tgt := 62) O d_Mo_makeCodes_9 (by decide) (fun q1 => ?_) (fun q1 => ?_)
    · rw [if_pos q1] at hf
      exact ax_vretE O hE hf d_Mo_makeCodes_62
    · rw [if_neg q1] at hf
      refine ax_iload_n O d_Mo_makeCodes_12 rfl 3 rfl ?_
      refine ax_iconst (v := 1) O d_Mo_makeCodes_13 (by decide) ?_
      refine ax_ishl O d_Mo_makeCodes_14 ?_
      obtain ⟨v2, ev2, hf⟩ := mnm_some hf
      refine ax_nmi ev2 ?_
      refine ax_istore_n (lv' := [(3, .int v2), (0, .ref a0), (1, .int x1), (2, .int x2), (4, .int x4)]) O d_Mo_makeCodes_15 rfl (by decide) rfl ?_
      refine ax_iload_n O d_Mo_makeCodes_16 rfl 2 rfl ?_
      refine ax_istore (lv' := [(5, .int x1), (3, .int v2), (0, .ref a0), (1, .int x1), (2, .int x2), (4, .int x4)]) O d_Mo_makeCodes_17 (by decide) rfl ?_
      refine ax_sub [2, 3, 4, 1, 5, 0] rfl ?_
      exact cb_Mo_makeCodes_L19 O (f_Mo_makeCodes_L5 n0 n) _ _ hE ih n0 n0 _ _ _ _ _ _ _ hf
set_option maxHeartbeats 4000000 in
set_option maxRecDepth 100000 in
theorem cb_Mo_makeCodes {X : mX} {ad : Nat → Nat} {ln : Launch} (O : mO X ad R_Mo b_Mo_makeCodes 6 (mR 0 0) ln) (r' : Unit) (h' : mH) (hE : mEnd X ad none none h') (n0 : Nat) (h0 : mH) (a0 : Nat) (x1 : Int32) (x2 : Int32) (hf : f_Mo_makeCodes n0 h0 a0 x1 x2 = some (r', h')) : mAW X ad 0 0 0 [(0, .ref a0), (1, .int x1), (2, .int x2)] [] h0 := by
  unfold f_Mo_makeCodes at hf
  refine ax_iconst (v := 0) O d_Mo_makeCodes_0 (by decide) ?_
  refine ax_istore_n (lv' := [(3, .int 0), (0, .ref a0), (1, .int x1), (2, .int x2)]) O d_Mo_makeCodes_1 rfl (by decide) rfl ?_
  refine ax_iconst (v := 1) O d_Mo_makeCodes_2 (by decide) ?_
  refine ax_istore (lv' := [(4, .int 1), (3, .int 0), (0, .ref a0), (1, .int x1), (2, .int x2)]) O d_Mo_makeCodes_3 (by decide) rfl ?_
  refine ax_sub [2, 3, 4, 1, 0] rfl ?_
  exact cb_Mo_makeCodes_L5 O _ _ hE n0 n0 _ _ _ _ _ _ hf
theorem c_Mo_makeCodes {ln : Launch} {n0 : Nat} {h0 h' : mH} {a0 : Nat} {x1 : Int32} {x2 : Int32} {r' : Unit} (hf : f_Mo_makeCodes n0 h0 a0 x1 x2 = some (r', h')) : mMet ln y_Mo_makeCodes b_Mo_makeCodes 6 none (mR 0 0) [.ref a0, .int x1, .int x2] h0 none h' := mMet_of (by decide +kernel) (Nat.le_of_ble_eq_true rfl) (fun X ad O hE => cb_Mo_makeCodes O r' h' hE n0 h0 a0 x1 x2 hf)
/-! ===== StreamFiltersModel.isWhole(IIZ)Z ===== -/
theorem d_Mo_isWhole_0 : decode b_Mo_isWhole 0 = .ok (.iconst 0, 1) := by decide +kernel
theorem d_Mo_isWhole_1 : decode b_Mo_isWhole 1 = .ok (.istore 4, 2) := by decide +kernel
theorem d_Mo_isWhole_3 : decode b_Mo_isWhole 3 = .ok (.iconst 0, 1) := by decide +kernel
theorem d_Mo_isWhole_4 : decode b_Mo_isWhole 4 = .ok (.istore 5, 2) := by decide +kernel
theorem d_Mo_isWhole_6 : decode b_Mo_isWhole 6 = .ok (.iconst 0, 1) := by decide +kernel
theorem d_Mo_isWhole_7 : decode b_Mo_isWhole 7 = .ok (.istore 6, 2) := by decide +kernel
theorem d_Mo_isWhole_9 : decode b_Mo_isWhole 9 = .ok (.iload_n 1, 1) := by decide +kernel
theorem d_Mo_isWhole_10 : decode b_Mo_isWhole 10 = .ok (.istore 7, 2) := by decide +kernel
theorem d_Mo_isWhole_12 : decode b_Mo_isWhole 12 = .ok (.iload 7, 2) := by decide +kernel
theorem d_Mo_isWhole_14 : decode b_Mo_isWhole 14 = .ok (.iload_n 1, 1) := by decide +kernel
theorem d_Mo_isWhole_15 : decode b_Mo_isWhole 15 = .ok (.iload_n 2, 1) := by decide +kernel
theorem d_Mo_isWhole_16 : decode b_Mo_isWhole 16 = .ok (.iadd, 1) := by decide +kernel
theorem d_Mo_isWhole_17 : decode b_Mo_isWhole 17 = .ok (.if_icmp .ge 82, 3) := by decide +kernel
theorem d_Mo_isWhole_20 : decode b_Mo_isWhole 20 = .ok (.aload_n 0, 1) := by decide +kernel
theorem d_Mo_isWhole_21 : decode b_Mo_isWhole 21 = .ok (.getfield 42, 3) := by decide +kernel
theorem d_Mo_isWhole_24 : decode b_Mo_isWhole 24 = .ok (.iload 7, 2) := by decide +kernel
theorem d_Mo_isWhole_26 : decode b_Mo_isWhole 26 = .ok (.iaload, 1) := by decide +kernel
theorem d_Mo_isWhole_27 : decode b_Mo_isWhole 27 = .ok (.ifCond .le 19, 3) := by decide +kernel
theorem d_Mo_isWhole_30 : decode b_Mo_isWhole 30 = .ok (.iload 4, 2) := by decide +kernel
theorem d_Mo_isWhole_32 : decode b_Mo_isWhole 32 = .ok (.ldc 122, 2) := by decide +kernel
theorem d_Mo_isWhole_34 : decode b_Mo_isWhole 34 = .ok (.aload_n 0, 1) := by decide +kernel
theorem d_Mo_isWhole_35 : decode b_Mo_isWhole 35 = .ok (.getfield 42, 3) := by decide +kernel
theorem d_Mo_isWhole_38 : decode b_Mo_isWhole 38 = .ok (.iload 7, 2) := by decide +kernel
theorem d_Mo_isWhole_40 : decode b_Mo_isWhole 40 = .ok (.iaload, 1) := by decide +kernel
theorem d_Mo_isWhole_41 : decode b_Mo_isWhole 41 = .ok (.ishr, 1) := by decide +kernel
theorem d_Mo_isWhole_42 : decode b_Mo_isWhole 42 = .ok (.iadd, 1) := by decide +kernel
theorem d_Mo_isWhole_43 : decode b_Mo_isWhole 43 = .ok (.goto 5, 3) := by decide +kernel
theorem d_Mo_isWhole_46 : decode b_Mo_isWhole 46 = .ok (.iload 4, 2) := by decide +kernel
theorem d_Mo_isWhole_48 : decode b_Mo_isWhole 48 = .ok (.istore 4, 2) := by decide +kernel
theorem d_Mo_isWhole_50 : decode b_Mo_isWhole 50 = .ok (.aload_n 0, 1) := by decide +kernel
theorem d_Mo_isWhole_51 : decode b_Mo_isWhole 51 = .ok (.getfield 42, 3) := by decide +kernel
theorem d_Mo_isWhole_54 : decode b_Mo_isWhole 54 = .ok (.iload 7, 2) := by decide +kernel
theorem d_Mo_isWhole_56 : decode b_Mo_isWhole 56 = .ok (.iaload, 1) := by decide +kernel
theorem d_Mo_isWhole_57 : decode b_Mo_isWhole 57 = .ok (.ifCond .le 10, 3) := by decide +kernel
theorem d_Mo_isWhole_60 : decode b_Mo_isWhole 60 = .ok (.iload 5, 2) := by decide +kernel
theorem d_Mo_isWhole_62 : decode b_Mo_isWhole 62 = .ok (.iconst 1, 1) := by decide +kernel
theorem d_Mo_isWhole_63 : decode b_Mo_isWhole 63 = .ok (.iadd, 1) := by decide +kernel
theorem d_Mo_isWhole_64 : decode b_Mo_isWhole 64 = .ok (.goto 5, 3) := by decide +kernel
theorem d_Mo_isWhole_67 : decode b_Mo_isWhole 67 = .ok (.iload 5, 2) := by decide +kernel
theorem d_Mo_isWhole_69 : decode b_Mo_isWhole 69 = .ok (.istore 5, 2) := by decide +kernel
theorem d_Mo_isWhole_71 : decode b_Mo_isWhole 71 = .ok (.aload_n 0, 1) := by decide +kernel
theorem d_Mo_isWhole_72 : decode b_Mo_isWhole 72 = .ok (.getfield 42, 3) := by decide +kernel
theorem d_Mo_isWhole_75 : decode b_Mo_isWhole 75 = .ok (.iload 7, 2) := by decide +kernel
theorem d_Mo_isWhole_77 : decode b_Mo_isWhole 77 = .ok (.iaload, 1) := by decide +kernel
theorem d_Mo_isWhole_78 : decode b_Mo_isWhole 78 = .ok (.iconst 1, 1) := by decide +kernel
theorem d_Mo_isWhole_79 : decode b_Mo_isWhole 79 = .ok (.if_icmp .ne 10, 3) := by decide +kernel
theorem d_Mo_isWhole_82 : decode b_Mo_isWhole 82 = .ok (.iload 6, 2) := by decide +kernel
theorem d_Mo_isWhole_84 : decode b_Mo_isWhole 84 = .ok (.iconst 1, 1) := by decide +kernel
theorem d_Mo_isWhole_85 : decode b_Mo_isWhole 85 = .ok (.iadd, 1) := by decide +kernel
theorem d_Mo_isWhole_86 : decode b_Mo_isWhole 86 = .ok (.goto 5, 3) := by decide +kernel
theorem d_Mo_isWhole_89 : decode b_Mo_isWhole 89 = .ok (.iload 6, 2) := by decide +kernel
theorem d_Mo_isWhole_91 : decode b_Mo_isWhole 91 = .ok (.istore 6, 2) := by decide +kernel
theorem d_Mo_isWhole_93 : decode b_Mo_isWhole 93 = .ok (.iinc 7 1, 3) := by decide +kernel
theorem d_Mo_isWhole_96 : decode b_Mo_isWhole 96 = .ok (.goto (-84), 3) := by decide +kernel
theorem d_Mo_isWhole_99 : decode b_Mo_isWhole 99 = .ok (.iload 4, 2) := by decide +kernel
theorem d_Mo_isWhole_101 : decode b_Mo_isWhole 101 = .ok (.ldc 122, 2) := by decide +kernel
theorem d_Mo_isWhole_103 : decode b_Mo_isWhole 103 = .ok (.if_icmp .eq 24, 3) := by decide +kernel
theorem d_Mo_isWhole_106 : decode b_Mo_isWhole 106 = .ok (.iload 5, 2) := by decide +kernel
theorem d_Mo_isWhole_108 : decode b_Mo_isWhole 108 = .ok (.iconst 1, 1) := by decide +kernel
theorem d_Mo_isWhole_109 : decode b_Mo_isWhole 109 = .ok (.if_icmp .ne 9, 3) := by decide +kernel
theorem d_Mo_isWhole_112 : decode b_Mo_isWhole 112 = .ok (.iload 6, 2) := by decide +kernel
theorem d_Mo_isWhole_114 : decode b_Mo_isWhole 114 = .ok (.iconst 1, 1) := by decide +kernel
theorem d_Mo_isWhole_115 : decode b_Mo_isWhole 115 = .ok (.if_icmp .eq 12, 3) := by decide +kernel
theorem d_Mo_isWhole_118 : decode b_Mo_isWhole 118 = .ok (.iload 5, 2) := by decide +kernel
theorem d_Mo_isWhole_120 : decode b_Mo_isWhole 120 = .ok (.ifCond .ne 11, 3) := by decide +kernel
theorem d_Mo_isWhole_123 : decode b_Mo_isWhole 123 = .ok (.iload_n 3, 1) := by decide +kernel
theorem d_Mo_isWhole_124 : decode b_Mo_isWhole 124 = .ok (.ifCond .eq 7, 3) := by decide +kernel
theorem d_Mo_isWhole_127 : decode b_Mo_isWhole 127 = .ok (.iconst 1, 1) := by decide +kernel
theorem d_Mo_isWhole_128 : decode b_Mo_isWhole 128 = .ok (.goto 4, 3) := by decide +kernel
theorem d_Mo_isWhole_131 : decode b_Mo_isWhole 131 = .ok (.iconst 0, 1) := by decide +kernel
theorem d_Mo_isWhole_132 : decode b_Mo_isWhole 132 = .ok (.ireturn, 1) := by decide +kernel
noncomputable def f_Mo_isWhole_B118  (n0 : Nat) (h0 : mH) (x3 : Int32) (x5 : Int32) : Option (Int32 × mH) :=
  if x5 = 0 then
    if x3 = 0 then
      some (0, h0)
    else
      some (1, h0)
  else
    some (0, h0)
noncomputable def f_Mo_isWhole_B69 (K12 : mH → Nat → Int32 → Int32 → Int32 → Int32 → Int32 → Int32 → Int32 → Option (Int32 × mH)) (n0 : Nat) (h0 : mH) (a0 : Nat) (x1 : Int32) (x2 : Int32) (x3 : Int32) (x4 : Int32) (x6 : Int32) (x7 : Int32) (p0 : Int32) : Option (Int32 × mH) :=
  mgr h0 a0 10 20 fun r13 =>
  mai h0 r13 .int x7 fun v14 =>
  if v14 = 1 then
    mnm (x6 + 1) fun v17 =>
    mnm (x7 + 1) fun v18 =>
    K12 h0 a0 x1 x2 x3 x4 p0 v17 v18
  else
    mnm (x7 + 1) fun v16 =>
    K12 h0 a0 x1 x2 x3 x4 p0 x6 v16
noncomputable def f_Mo_isWhole_B48 (K12 : mH → Nat → Int32 → Int32 → Int32 → Int32 → Int32 → Int32 → Int32 → Option (Int32 × mH)) (n0 : Nat) (h0 : mH) (a0 : Nat) (x1 : Int32) (x2 : Int32) (x3 : Int32) (x5 : Int32) (x6 : Int32) (x7 : Int32) (p0 : Int32) : Option (Int32 × mH) :=
  mgr h0 a0 10 20 fun r10 =>
  mai h0 r10 .int x7 fun v11 =>
  if v11 ≤ 0 then
    f_Mo_isWhole_B69 K12 n0 h0 a0 x1 x2 x3 p0 x6 x7 x5
  else
    f_Mo_isWhole_B69 K12 n0 h0 a0 x1 x2 x3 p0 x6 x7 (x5 + 1)
noncomputable def f_Mo_isWhole_L12  (n0 : Nat) : Nat → mH → Nat → Int32 → Int32 → Int32 → Int32 → Int32 → Int32 → Int32 → Option (Int32 × mH)
  | 0, _, _, _, _, _, _, _, _, _ => none
  | n + 1, h0, a0, x1, x2, x3, x4, x5, x6, x7 =>
    if (x1 + x2) ≤ x7 then
      if x4 = 32768 then
        some (1, h0)
      else
        if x5 = 1 then
          if x6 = 1 then
            some (1, h0)
          else
            f_Mo_isWhole_B118 n0 h0 x3 x5
        else
          f_Mo_isWhole_B118 n0 h0 x3 x5
    else
      mgr h0 a0 10 20 fun r7 =>
      mai h0 r7 .int x7 fun v8 =>
      if v8 ≤ 0 then
        f_Mo_isWhole_B48 (f_Mo_isWhole_L12 n0 n) n0 h0 a0 x1 x2 x3 x5 x6 x7 x4
      else
        mgr h0 a0 10 20 fun r19 =>
        mai h0 r19 .int x7 fun v20 =>
        f_Mo_isWhole_B48 (f_Mo_isWhole_L12 n0 n) n0 h0 a0 x1 x2 x3 x5 x6 x7 (x4 + (32768 >>> (v20 &&& 31)))
noncomputable def f_Mo_isWhole  (n0 : Nat) (h0 : mH) (a0 : Nat) (x1 : Int32) (x2 : Int32) (x3 : Int32) : Option (Int32 × mH) :=
  f_Mo_isWhole_L12 n0 n0 h0 a0 x1 x2 x3 0 0 0 x1
set_option maxHeartbeats 4000000 in
set_option maxRecDepth 100000 in
theorem cb_Mo_isWhole_B118 {X : mX} {ad : Nat → Nat} {ln : Launch} (O : mO X ad R_Mo b_Mo_isWhole 8 (mR 0 0) ln) (r' : Int32) (h' : mH) (hE : mEnd X ad (some .boolean) (some (.int r')) h') (n0 : Nat) (h0 : mH) (x3 : Int32) (x5 : Int32) (hf : f_Mo_isWhole_B118 n0 h0 x3 x5 = some (r', h')) : mAW X ad 0 0 118 [(3, .int x3), (5, .int x5)] [] h0 := by
  unfold f_Mo_isWhole_B118 at hf
  refine ax_iload O d_Mo_isWhole_118 1 rfl ?_
  refine ax_if_ne (tgt := 131) O d_Mo_isWhole_120 (by decide) (fun q4 => ?_) (fun q4 => ?_)
  · rw [if_neg q4] at hf
    refine ax_iconst (v := 0) O d_Mo_isWhole_131 (by decide) ?_
    exact ax_retE O hE hf rfl d_Mo_isWhole_132
  · rw [if_pos q4] at hf
    refine ax_iload_n O d_Mo_isWhole_123 rfl 0 rfl ?_
    refine ax_if_eq (tgt := 131) O d_Mo_isWhole_124 (by decide) (fun q5 => ?_) (fun q5 => ?_)
    · rw [if_pos q5] at hf
      refine ax_iconst (v := 0) O d_Mo_isWhole_131 (by decide) ?_
      exact ax_retE O hE hf rfl d_Mo_isWhole_132
    · rw [if_neg q5] at hf
      refine ax_iconst (v := 1) O d_Mo_isWhole_127 (by decide) ?_
      refine ax_goto (tgt := 132) O d_Mo_isWhole_128 (by decide) ?_
      exact ax_retE O hE hf rfl d_Mo_isWhole_132
set_option maxHeartbeats 4000000 in
set_option maxRecDepth 100000 in
theorem cb_Mo_isWhole_B69 {X : mX} {ad : Nat → Nat} {ln : Launch} (O : mO X ad R_Mo b_Mo_isWhole 8 (mR 0 0) ln) (K12 : mH → Nat → Int32 → Int32 → Int32 → Int32 → Int32 → Int32 → Int32 → Option (Int32 × mH)) (r' : Int32) (h' : mH) (hE : mEnd X ad (some .boolean) (some (.int r')) h') (hK12 : ∀ (h : mH) (a0 : Nat) (x1 : Int32) (x2 : Int32) (x3 : Int32) (x4 : Int32) (x5 : Int32) (x6 : Int32) (x7 : Int32), K12 h a0 x1 x2 x3 x4 x5 x6 x7 = some (r', h') → mAW X ad 0 0 12 [(0, .ref a0), (1, .int x1), (2, .int x2), (3, .int x3), (4, .int x4), (5, .int x5), (6, .int x6), (7, .int x7)] [] h) (n0 : Nat) (h0 : mH) (a0 : Nat) (x1 : Int32) (x2 : Int32) (x3 : Int32) (x4 : Int32) (x6 : Int32) (x7 : Int32) (p0 : Int32) (hf : f_Mo_isWhole_B69 K12 n0 h0 a0 x1 x2 x3 x4 x6 x7 p0 = some (r', h')) : mAW X ad 0 0 69 [(0, .ref a0), (1, .int x1), (2, .int x2), (3, .int x3), (4, .int x4), (6, .int x6), (7, .int x7)] [.int p0] h0 := by
  unfold f_Mo_isWhole_B69 at hf
  refine ax_istore (lv' := [(5, .int p0), (0, .ref a0), (1, .int x1), (2, .int x2), (3, .int x3), (4, .int x4), (6, .int x6), (7, .int x7)]) O d_Mo_isWhole_69 (by decide) rfl ?_
  refine ax_aload_n O d_Mo_isWhole_71 rfl 1 rfl ?_
  obtain ⟨fr13, r13, cr13, kr13, hf⟩ := mgr_some hf
  refine ax_get O fg_Mo_42 cr13 kr13 d_Mo_isWhole_72 ?_
  refine ax_iload O d_Mo_isWhole_75 7 rfl ?_
  obtain ⟨nv14, fv14, v14, cv14, iv14, kv14, hf⟩ := mai_some hf
  refine ax_iald O cv14 iv14 kv14 d_Mo_isWhole_77 ?_
  refine ax_iconst (v := 1) O d_Mo_isWhole_78 (by decide) ?_
  refine ax_icmp_ne (tgt := 89) O d_Mo_isWhole_79 (by decide) (fun q15 => ?_) (fun q15 => ?_)
  · rw [if_neg q15] at hf
    refine ax_iload O d_Mo_isWhole_89 6 rfl ?_
    refine ax_istore (lv' := [(6, .int x6), (5, .int p0), (0, .ref a0), (1, .int x1), (2, .int x2), (3, .int x3), (4, .int x4), (7, .int x7)]) O d_Mo_isWhole_91 (by decide) rfl ?_
    obtain ⟨v16, ev16, hf⟩ := mnm_some hf
    refine ax_iinc (j := 7) (v := v16) (lv' := [(7, .int v16), (6, .int x6), (5, .int p0), (0, .ref a0), (1, .int x1), (2, .int x2), (3, .int x3), (4, .int x4)]) O d_Mo_isWhole_93 rfl (by rw [ev16]; rfl) (by decide) rfl ?_
    refine ax_goto (tgt := 12) O d_Mo_isWhole_96 (by decide) ?_
    refine ax_sub [3, 4, 5, 6, 7, 2, 1, 0] rfl ?_
    exact hK12 _ _ _ _ _ _ _ _ _ hf
  · rw [if_pos q15] at hf
    refine ax_iload O d_Mo_isWhole_82 6 rfl ?_
    refine ax_iconst (v := 1) O d_Mo_isWhole_84 (by decide) ?_
    refine ax_iadd O d_Mo_isWhole_85 ?_
    refine ax_goto (tgt := 91) O d_Mo_isWhole_86 (by decide) ?_
    obtain ⟨v17, ev17, hf⟩ := mnm_some hf
    refine ax_nmi ev17 ?_
    refine ax_istore (lv' := [(6, .int v17), (5, .int p0), (0, .ref a0), (1, .int x1), (2, .int x2), (3, .int x3), (4, .int x4), (7, .int x7)]) O d_Mo_isWhole_91 (by decide) rfl ?_
    obtain ⟨v18, ev18, hf⟩ := mnm_some hf
    refine ax_iinc (j := 7) (v := v18) (lv' := [(7, .int v18), (6, .int v17), (5, .int p0), (0, .ref a0), (1, .int x1), (2, .int x2), (3, .int x3), (4, .int x4)]) O d_Mo_isWhole_93 rfl (by rw [ev18]; rfl) (by decide) rfl ?_
    refine ax_goto (tgt := 12) O d_Mo_isWhole_96 (by decide) ?_
    refine ax_sub [3, 4, 5, 6, 7, 2, 1, 0] rfl ?_
    exact hK12 _ _ _ _ _ _ _ _ _ hf
set_option maxHeartbeats 4000000 in
set_option maxRecDepth 100000 in
theorem cb_Mo_isWhole_B48 {X : mX} {ad : Nat → Nat} {ln : Launch} (O : mO X ad R_Mo b_Mo_isWhole 8 (mR 0 0) ln) (K12 : mH → Nat → Int32 → Int32 → Int32 → Int32 → Int32 → Int32 → Int32 → Option (Int32 × mH)) (r' : Int32) (h' : mH) (hE : mEnd X ad (some .boolean) (some (.int r')) h') (hK12 : ∀ (h : mH) (a0 : Nat) (x1 : Int32) (x2 : Int32) (x3 : Int32) (x4 : Int32) (x5 : Int32) (x6 : Int32) (x7 : Int32), K12 h a0 x1 x2 x3 x4 x5 x6 x7 = some (r', h') → mAW X ad 0 0 12 [(0, .ref a0), (1, .int x1), (2, .int x2), (3, .int x3), (4, .int x4), (5, .int x5), (6, .int x6), (7, .int x7)] [] h) (n0 : Nat) (h0 : mH) (a0 : Nat) (x1 : Int32) (x2 : Int32) (x3 : Int32) (x5 : Int32) (x6 : Int32) (x7 : Int32) (p0 : Int32) (hf : f_Mo_isWhole_B48 K12 n0 h0 a0 x1 x2 x3 x5 x6 x7 p0 = some (r', h')) : mAW X ad 0 0 48 [(0, .ref a0), (1, .int x1), (2, .int x2), (3, .int x3), (5, .int x5), (6, .int x6), (7, .int x7)] [.int p0] h0 := by
  unfold f_Mo_isWhole_B48 at hf
  refine ax_istore (lv' := [(4, .int p0), (0, .ref a0), (1, .int x1), (2, .int x2), (3, .int x3), (5, .int x5), (6, .int x6), (7, .int x7)]) O d_Mo_isWhole_48 (by decide) rfl ?_
  refine ax_aload_n O d_Mo_isWhole_50 rfl 1 rfl ?_
  obtain ⟨fr10, r10, cr10, kr10, hf⟩ := mgr_some hf
  refine ax_get O fg_Mo_42 cr10 kr10 d_Mo_isWhole_51 ?_
  refine ax_iload O d_Mo_isWhole_54 7 rfl ?_
  obtain ⟨nv11, fv11, v11, cv11, iv11, kv11, hf⟩ := mai_some hf
  refine ax_iald O cv11 iv11 kv11 d_Mo_isWhole_56 ?_
  refine ax_if_le (tgt := 67) O d_Mo_isWhole_57 (by decide) (fun q12 => ?_) (fun q12 => ?_)
  · rw [if_pos q12] at hf
    refine ax_iload O d_Mo_isWhole_67 5 rfl ?_
    refine ax_sub [1, 2, 3, 4, 0, 6, 7] rfl ?_
    exact cb_Mo_isWhole_B69 O K12 _ _ hE hK12 n0 _ _ _ _ _ _ _ _ _ hf
  · rw [if_neg q12] at hf
    refine ax_iload O d_Mo_isWhole_60 5 rfl ?_
    refine ax_iconst (v := 1) O d_Mo_isWhole_62 (by decide) ?_
    refine ax_iadd O d_Mo_isWhole_63 ?_
    refine ax_goto (tgt := 69) O d_Mo_isWhole_64 (by decide) ?_
    refine ax_sub [1, 2, 3, 4, 0, 6, 7] rfl ?_
    exact cb_Mo_isWhole_B69 O K12 _ _ hE hK12 n0 _ _ _ _ _ _ _ _ _ hf
set_option maxHeartbeats 4000000 in
set_option maxRecDepth 100000 in
theorem cb_Mo_isWhole_L12 {X : mX} {ad : Nat → Nat} {ln : Launch} (O : mO X ad R_Mo b_Mo_isWhole 8 (mR 0 0) ln) (r' : Int32) (h' : mH) (hE : mEnd X ad (some .boolean) (some (.int r')) h') (n0 : Nat) : ∀ (n : Nat) (h0 : mH) (a0 : Nat) (x1 : Int32) (x2 : Int32) (x3 : Int32) (x4 : Int32) (x5 : Int32) (x6 : Int32) (x7 : Int32), f_Mo_isWhole_L12 n0 n h0 a0 x1 x2 x3 x4 x5 x6 x7 = some (r', h') → mAW X ad 0 0 12 [(0, .ref a0), (1, .int x1), (2, .int x2), (3, .int x3), (4, .int x4), (5, .int x5), (6, .int x6), (7, .int x7)] [] h0 := by
  intro n
  induction n with
  | zero =>
    intro h0 a0 x1 x2 x3 x4 x5 x6 x7 hf
    rw [f_Mo_isWhole_L12.eq_1] at hf
    cases hf
  | succ n ih =>
    intro h0 a0 x1 x2 x3 x4 x5 x6 x7 hf
    rw [f_Mo_isWhole_L12.eq_2] at hf
    refine ax_iload O d_Mo_isWhole_12 7 rfl ?_
    refine ax_iload_n O d_Mo_isWhole_14 rfl 1 rfl ?_
    refine ax_iload_n O d_Mo_isWhole_15 rfl 2 rfl ?_
    refine ax_iadd O d_Mo_isWhole_16 ?_
    refine ax_icmp_ge (tgt := 99) O d_Mo_isWhole_17 (by decide) (fun q1 => ?_) (fun q1 => ?_)
    · rw [if_pos q1] at hf
      refine ax_iload O d_Mo_isWhole_99 4 rfl ?_
      refine ax_ldc (v := 32768) O d_Mo_isWhole_101 wd_8 ?_
      refine ax_icmp_eq (tgt := 127) O d_Mo_isWhole_103 (by decide) (fun q2 => ?_) (fun q2 => ?_)
      · rw [if_pos q2] at hf
        refine ax_iconst (v := 1) O d_Mo_isWhole_127 (by decide) ?_
        refine ax_goto (tgt := 132) O d_Mo_isWhole_128 (by decide) ?_
        exact ax_retE O hE hf rfl d_Mo_isWhole_132
      · rw [if_neg q2] at hf
        refine ax_iload O d_Mo_isWhole_106 5 rfl ?_
        refine ax_iconst (v := 1) O d_Mo_isWhole_108 (by decide) ?_
        refine ax_icmp_ne (tgt := 118) O d_Mo_isWhole_109 (by decide) (fun q3 => ?_) (fun q3 => ?_)
        · rw [if_neg q3] at hf
          refine ax_sub [3, 5] rfl ?_
          exact cb_Mo_isWhole_B118 O _ _ hE n0 _ _ _ hf
        · rw [if_pos q3] at hf
          refine ax_iload O d_Mo_isWhole_112 6 rfl ?_
          refine ax_iconst (v := 1) O d_Mo_isWhole_114 (by decide) ?_
          refine ax_icmp_eq (tgt := 127) O d_Mo_isWhole_115 (by decide) (fun q6 => ?_) (fun q6 => ?_)
          · rw [if_pos q6] at hf
            refine ax_iconst (v := 1) O d_Mo_isWhole_127 (by decide) ?_
            refine ax_goto (tgt := 132) O d_Mo_isWhole_128 (by decide) ?_
            exact ax_retE O hE hf rfl d_Mo_isWhole_132
          · rw [if_neg q6] at hf
            refine ax_sub [3, 5] rfl ?_
            exact cb_Mo_isWhole_B118 O _ _ hE n0 _ _ _ hf
    · rw [if_neg q1] at hf
      refine ax_aload_n O d_Mo_isWhole_20 rfl 0 rfl ?_
      obtain ⟨fr7, r7, cr7, kr7, hf⟩ := mgr_some hf
      refine ax_get O fg_Mo_42 cr7 kr7 d_Mo_isWhole_21 ?_
      refine ax_iload O d_Mo_isWhole_24 7 rfl ?_
      obtain ⟨nv8, fv8, v8, cv8, iv8, kv8, hf⟩ := mai_some hf
      refine ax_iald O cv8 iv8 kv8 d_Mo_isWhole_26 ?_
      refine ax_if_le (tgt := 46) O d_Mo_isWhole_27 (by decide) (fun q9 => ?_) (fun q9 => ?_)
      · rw [if_pos q9] at hf
        refine ax_iload O d_Mo_isWhole_46 4 rfl ?_
        refine ax_sub [0, 1, 2, 3, 5, 6, 7] rfl ?_
        exact cb_Mo_isWhole_B48 O (f_Mo_isWhole_L12 n0 n) _ _ hE ih n0 _ _ _ _ _ _ _ _ _ hf
      · rw [if_neg q9] at hf
        refine ax_iload O d_Mo_isWhole_30 4 rfl ?_
        refine ax_ldc (v := 32768) O d_Mo_isWhole_32 wd_8 ?_
        refine ax_aload_n O d_Mo_isWhole_34 rfl 0 rfl ?_
        obtain ⟨fr19, r19, cr19, kr19, hf⟩ := mgr_some hf
        refine ax_get O fg_Mo_42 cr19 kr19 d_Mo_isWhole_35 ?_
        refine ax_iload O d_Mo_isWhole_38 7 rfl ?_
        obtain ⟨nv20, fv20, v20, cv20, iv20, kv20, hf⟩ := mai_some hf
        refine ax_iald O cv20 iv20 kv20 d_Mo_isWhole_40 ?_
        refine ax_ishr O d_Mo_isWhole_41 ?_
        refine ax_iadd O d_Mo_isWhole_42 ?_
        refine ax_goto (tgt := 48) O d_Mo_isWhole_43 (by decide) ?_
        refine ax_sub [0, 1, 2, 3, 5, 6, 7] rfl ?_
        exact cb_Mo_isWhole_B48 O (f_Mo_isWhole_L12 n0 n) _ _ hE ih n0 _ _ _ _ _ _ _ _ _ hf
set_option maxHeartbeats 4000000 in
set_option maxRecDepth 100000 in
theorem cb_Mo_isWhole {X : mX} {ad : Nat → Nat} {ln : Launch} (O : mO X ad R_Mo b_Mo_isWhole 8 (mR 0 0) ln) (r' : Int32) (h' : mH) (hE : mEnd X ad (some .boolean) (some (.int r')) h') (n0 : Nat) (h0 : mH) (a0 : Nat) (x1 : Int32) (x2 : Int32) (x3 : Int32) (hf : f_Mo_isWhole n0 h0 a0 x1 x2 x3 = some (r', h')) : mAW X ad 0 0 0 [(0, .ref a0), (1, .int x1), (2, .int x2), (3, .int x3)] [] h0 := by
  unfold f_Mo_isWhole at hf
  refine ax_iconst (v := 0) O d_Mo_isWhole_0 (by decide) ?_
  refine ax_istore (lv' := [(4, .int 0), (0, .ref a0), (1, .int x1), (2, .int x2), (3, .int x3)]) O d_Mo_isWhole_1 (by decide) rfl ?_
  refine ax_iconst (v := 0) O d_Mo_isWhole_3 (by decide) ?_
  refine ax_istore (lv' := [(5, .int 0), (4, .int 0), (0, .ref a0), (1, .int x1), (2, .int x2), (3, .int x3)]) O d_Mo_isWhole_4 (by decide) rfl ?_
  refine ax_iconst (v := 0) O d_Mo_isWhole_6 (by decide) ?_
  refine ax_istore (lv' := [(6, .int 0), (5, .int 0), (4, .int 0), (0, .ref a0), (1, .int x1), (2, .int x2), (3, .int x3)]) O d_Mo_isWhole_7 (by decide) rfl ?_
  refine ax_iload_n O d_Mo_isWhole_9 rfl 4 rfl ?_
  refine ax_istore (lv' := [(7, .int x1), (6, .int 0), (5, .int 0), (4, .int 0), (0, .ref a0), (1, .int x1), (2, .int x2), (3, .int x3)]) O d_Mo_isWhole_10 (by decide) rfl ?_
  refine ax_sub [4, 5, 6, 7, 3, 2, 1, 0] rfl ?_
  exact cb_Mo_isWhole_L12 O _ _ hE n0 n0 _ _ _ _ _ _ _ _ _ hf
theorem c_Mo_isWhole {ln : Launch} {n0 : Nat} {h0 h' : mH} {a0 : Nat} {x1 : Int32} {x2 : Int32} {x3 : Int32} {r' : Int32} (hf : f_Mo_isWhole n0 h0 a0 x1 x2 x3 = some (r', h')) : mMet ln y_Mo_isWhole b_Mo_isWhole 8 (some .boolean) (mR 0 0) [.ref a0, .int x1, .int x2, .int x3] h0 (some (.int r')) h' := mMet_of (by decide +kernel) (Nat.le_of_ble_eq_true rfl) (fun X ad O hE => cb_Mo_isWhole O r' h' hE n0 h0 a0 x1 x2 x3 hf)
