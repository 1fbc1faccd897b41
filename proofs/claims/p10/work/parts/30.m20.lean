/-! ===== StreamFilters$Text85.giveNumber(LStreamFilters$Pass;I)Z ===== -/
theorem d_T8_giveNumber_0 : decode b_T8_giveNumber 0 = .ok (.aload_n 0, 1) := by decide +kernel
theorem d_T8_giveNumber_1 : decode b_T8_giveNumber 1 = .ok (.getfield 9, 3) := by decide +kernel
theorem d_T8_giveNumber_4 : decode b_T8_giveNumber 4 = .ok (.ldc2_w 48, 3) := by decide +kernel
theorem d_T8_giveNumber_7 : decode b_T8_giveNumber 7 = .ok (.lcmp, 1) := by decide +kernel
theorem d_T8_giveNumber_8 : decode b_T8_giveNumber 8 = .ok (.ifCond .le 10, 3) := by decide +kernel
theorem d_T8_giveNumber_11 : decode b_T8_giveNumber 11 = .ok (.aload_n 1, 1) := by decide +kernel
theorem d_T8_giveNumber_12 : decode b_T8_giveNumber 12 = .ok (.bipush 11, 2) := by decide +kernel
theorem d_T8_giveNumber_14 : decode b_T8_giveNumber 14 = .ok (.invokevirtual 42, 3) := by decide +kernel
theorem d_T8_giveNumber_17 : decode b_T8_giveNumber 17 = .ok (.ireturn, 1) := by decide +kernel
theorem d_T8_giveNumber_18 : decode b_T8_giveNumber 18 = .ok (.iconst 0, 1) := by decide +kernel
theorem d_T8_giveNumber_19 : decode b_T8_giveNumber 19 = .ok (.istore_n 3, 1) := by decide +kernel
theorem d_T8_giveNumber_20 : decode b_T8_giveNumber 20 = .ok (.iload_n 3, 1) := by decide +kernel
theorem d_T8_giveNumber_21 : decode b_T8_giveNumber 21 = .ok (.iload_n 2, 1) := by decide +kernel
theorem d_T8_giveNumber_22 : decode b_T8_giveNumber 22 = .ok (.if_icmp .ge 35, 3) := by decide +kernel
theorem d_T8_giveNumber_25 : decode b_T8_giveNumber 25 = .ok (.aload_n 1, 1) := by decide +kernel
theorem d_T8_giveNumber_26 : decode b_T8_giveNumber 26 = .ok (.aload_n 0, 1) := by decide +kernel
theorem d_T8_giveNumber_27 : decode b_T8_giveNumber 27 = .ok (.getfield 9, 3) := by decide +kernel
theorem d_T8_giveNumber_30 : decode b_T8_giveNumber 30 = .ok (.bipush 24, 2) := by decide +kernel
theorem d_T8_giveNumber_32 : decode b_T8_giveNumber 32 = .ok (.bipush 8, 2) := by decide +kernel
theorem d_T8_giveNumber_34 : decode b_T8_giveNumber 34 = .ok (.iload_n 3, 1) := by decide +kernel
theorem d_T8_giveNumber_35 : decode b_T8_giveNumber 35 = .ok (.imul, 1) := by decide +kernel
theorem d_T8_giveNumber_36 : decode b_T8_giveNumber 36 = .ok (.isub, 1) := by decide +kernel
theorem d_T8_giveNumber_37 : decode b_T8_giveNumber 37 = .ok (.lshr, 1) := by decide +kernel
theorem d_T8_giveNumber_38 : decode b_T8_giveNumber 38 = .ok (.l2i, 1) := by decide +kernel
theorem d_T8_giveNumber_39 : decode b_T8_giveNumber 39 = .ok (.sipush 255, 3) := by decide +kernel
theorem d_T8_giveNumber_42 : decode b_T8_giveNumber 42 = .ok (.iand, 1) := by decide +kernel
theorem d_T8_giveNumber_43 : decode b_T8_giveNumber 43 = .ok (.invokevirtual 50, 3) := by decide +kernel
theorem d_T8_giveNumber_46 : decode b_T8_giveNumber 46 = .ok (.ifCond .ne 5, 3) := by decide +kernel
theorem d_T8_giveNumber_49 : decode b_T8_giveNumber 49 = .ok (.iconst 0, 1) := by decide +kernel
theorem d_T8_giveNumber_50 : decode b_T8_giveNumber 50 = .ok (.ireturn, 1) := by decide +kernel
theorem d_T8_giveNumber_51 : decode b_T8_giveNumber 51 = .ok (.iinc 3 1, 3) := by decide +kernel
theorem d_T8_giveNumber_54 : decode b_T8_giveNumber 54 = .ok (.goto (-34), 3) := by decide +kernel
theorem d_T8_giveNumber_57 : decode b_T8_giveNumber 57 = .ok (.aload_n 0, 1) := by decide +kernel
theorem d_T8_giveNumber_58 : decode b_T8_giveNumber 58 = .ok (.lconst 0, 1) := by decide +kernel
theorem d_T8_giveNumber_59 : decode b_T8_giveNumber 59 = .ok (.putfield 9, 3) := by decide +kernel
theorem d_T8_giveNumber_62 : decode b_T8_giveNumber 62 = .ok (.aload_n 0, 1) := by decide +kernel
theorem d_T8_giveNumber_63 : decode b_T8_giveNumber 63 = .ok (.iconst 0, 1) := by decide +kernel
theorem d_T8_giveNumber_64 : decode b_T8_giveNumber 64 = .ok (.putfield 15, 3) := by decide +kernel
theorem d_T8_giveNumber_67 : decode b_T8_giveNumber 67 = .ok (.iconst 1, 1) := by decide +kernel
theorem d_T8_giveNumber_68 : decode b_T8_giveNumber 68 = .ok (.ireturn, 1) := by decide +kernel
noncomputable def f_T8_giveNumber_L20  (n0 : Nat) : Nat → mH → Nat → Nat → Int32 → Int32 → Option (Int32 × mH)
  | 0, _, _, _, _, _ => none
  | n + 1, h0, a0, a1, x2, x3 =>
    if x2 ≤ x3 then
      mpt h0 a0 9 0 (.long 0) fun h4 =>
      mpt h4 a0 9 1 (.int 0) fun h5 =>
      some (1, h5)
    else
      mgl h0 a0 9 0 fun w6 =>
      mis h0 a1 8 <|
      mcl (f_Pa_give n0 h0 a1 (((w6 >>> ((24 - (8 * x3)).toInt64 &&& 63)).toInt32) &&& 255)) fun v8 h9 =>
      if v8 = 0 then
        some (0, h9)
      else
        mnm (x3 + 1) fun v11 =>
        (f_T8_giveNumber_L20 n0 n) h9 a0 a1 x2 v11
noncomputable def f_T8_giveNumber  (n0 : Nat) (h0 : mH) (a0 : Nat) (a1 : Nat) (x2 : Int32) : Option (Int32 × mH) :=
  mgl h0 a0 9 0 fun w1 =>
  if (lg_cmp w1 4294967295) ≤ 0 then
    f_T8_giveNumber_L20 n0 n0 h0 a0 a1 x2 0
  else
    mis h0 a1 8 <|
    mcl (f_Pa_fail n0 h0 a1 11) fun v13 h14 =>
    mge (narrow .boolean (.int v13) = .int v13) <|
    some (v13, h14)
set_option maxHeartbeats 4000000 in
set_option maxRecDepth 100000 in
theorem cb_T8_giveNumber_L20 {X : mX} {ad : Nat → Nat} {ln : Launch} (O : mO X ad R_T8 b_T8_giveNumber 4 (mR 2 42) ln) (r' : Int32) (h' : mH) (hE : mEnd X ad (some .boolean) (some (.int r')) h') (n0 : Nat) : ∀ (n : Nat) (h0 : mH) (a0 : Nat) (a1 : Nat) (x2 : Int32) (x3 : Int32), f_T8_giveNumber_L20 n0 n h0 a0 a1 x2 x3 = some (r', h') → mAW X ad 0 0 20 [(0, .ref a0), (1, .ref a1), (2, .int x2), (3, .int x3)] [] h0 := by
  intro n
  induction n with
  | zero =>
    intro h0 a0 a1 x2 x3 hf
    rw [f_T8_giveNumber_L20.eq_1] at hf
    cases hf
  | succ n ih =>
    intro h0 a0 a1 x2 x3 hf
    rw [f_T8_giveNumber_L20.eq_2] at hf
    refine ax_iload_n O d_T8_giveNumber_20 rfl 3 rfl ?_
    refine ax_iload_n O d_T8_giveNumber_21 rfl 2 rfl ?_
    refine ax_icmp_ge (tgt := 57) O d_T8_giveNumber_22 (by decide) (fun q3 => ?_) (fun q3 => ?_)
    · rw [if_pos q3] at hf
      refine ax_aload_n O d_T8_giveNumber_57 rfl 0 rfl ?_
      refine ax_lconst (v := 0) O d_T8_giveNumber_58 (by decide) ?_
      obtain ⟨fh4, h4, ch4, kh4, eh4, hf⟩ := mpt_some hf
      refine ax_put (v := .long 0) O fp_T8_9 ch4 kh4 eh4 rfl rfl d_T8_giveNumber_59 ?_
      refine ax_aload_n O d_T8_giveNumber_62 rfl 0 rfl ?_
      refine ax_iconst (v := 0) O d_T8_giveNumber_63 (by decide) ?_
      obtain ⟨fh5, h5, ch5, kh5, eh5, hf⟩ := mpt_some hf
      refine ax_put (v := .int 0) O fp_T8_15 ch5 kh5 eh5 rfl rfl d_T8_giveNumber_64 ?_
      refine ax_iconst (v := 1) O d_T8_giveNumber_67 (by decide) ?_
      exact ax_retE O hE hf rfl d_T8_giveNumber_68
    · rw [if_neg q3] at hf
      refine ax_aload_n O d_T8_giveNumber_25 rfl 1 rfl ?_
      refine ax_aload_n O d_T8_giveNumber_26 rfl 0 rfl ?_
      obtain ⟨fw6, w6, cw6, kw6, hf⟩ := mgl_some hf
      refine ax_get O fg_T8_9 cw6 kw6 d_T8_giveNumber_27 ?_
      refine ax_bipush (v := 24) O d_T8_giveNumber_30 (by decide) ?_
      refine ax_bipush (v := 8) O d_T8_giveNumber_32 (by decide) ?_
      refine ax_iload_n O d_T8_giveNumber_34 rfl 3 rfl ?_
      refine ax_imul O d_T8_giveNumber_35 ?_
      refine ax_isub O d_T8_giveNumber_36 ?_
      refine ax_lshr O d_T8_giveNumber_37 ?_
      refine ax_l2i O d_T8_giveNumber_38 ?_
      refine ax_sipush (v := 255) O d_T8_giveNumber_39 (by decide) ?_
      refine ax_iand O d_T8_giveNumber_42 ?_
      obtain ⟨fh9, ch9, hf⟩ := mis_some hf
      obtain ⟨v8, h9, mh9, hf⟩ := mcl_some hf
      refine ax_callV (As := [.int (((w6 >>> ((24 - (8 * x3)).toInt64 &&& 63)).toInt32) &&& 255)]) (rest := []) O cw_Pa_give (q := (R_Pa, T_Pa, 7)) rfl rfl in_Pa_give se_Pa_give lk_T8_50 ch9 (c_Pa_give mh9) rfl ⟨rfl, rfl⟩ (by decide) (by decide) (Nat.le_of_ble_eq_true rfl) d_T8_giveNumber_43 ?_
      refine ax_if_ne (tgt := 51) O d_T8_giveNumber_46 (by decide) (fun q10 => ?_) (fun q10 => ?_)
      · rw [if_neg q10] at hf
        obtain ⟨v11, ev11, hf⟩ := mnm_some hf
        refine ax_iinc (j := 3) (v := v11) (lv' := [(3, .int v11), (0, .ref a0), (1, .ref a1), (2, .int x2)]) O d_T8_giveNumber_51 rfl (by rw [ev11]; rfl) (by decide) rfl ?_
        refine ax_goto (tgt := 20) O d_T8_giveNumber_54 (by decide) ?_
        refine ax_sub [1, 2, 3, 0] rfl ?_
        exact ih _ _ _ _ _ hf
      · rw [if_pos q10] at hf
        refine ax_iconst (v := 0) O d_T8_giveNumber_49 (by decide) ?_
        exact ax_retE O hE hf rfl d_T8_giveNumber_50
set_option maxHeartbeats 4000000 in
set_option maxRecDepth 100000 in
theorem cb_T8_giveNumber {X : mX} {ad : Nat → Nat} {ln : Launch} (O : mO X ad R_T8 b_T8_giveNumber 4 (mR 2 42) ln) (r' : Int32) (h' : mH) (hE : mEnd X ad (some .boolean) (some (.int r')) h') (n0 : Nat) (h0 : mH) (a0 : Nat) (a1 : Nat) (x2 : Int32) (hf : f_T8_giveNumber n0 h0 a0 a1 x2 = some (r', h')) : mAW X ad 0 0 0 [(0, .ref a0), (1, .ref a1), (2, .int x2)] [] h0 := by
  unfold f_T8_giveNumber at hf
  refine ax_aload_n O d_T8_giveNumber_0 rfl 0 rfl ?_
  obtain ⟨fw1, w1, cw1, kw1, hf⟩ := mgl_some hf
  refine ax_get O fg_T8_9 cw1 kw1 d_T8_giveNumber_1 ?_
  refine ax_ldc2 (v := 4294967295) O d_T8_giveNumber_4 wd_34 ?_
  refine ax_lcmp O d_T8_giveNumber_7 ?_
  refine ax_if_le (tgt := 18) O d_T8_giveNumber_8 (by decide) (fun q2 => ?_) (fun q2 => ?_)
  · rw [if_pos q2] at hf
    refine ax_iconst (v := 0) O d_T8_giveNumber_18 (by decide) ?_
    refine ax_istore_n (lv' := [(3, .int 0), (0, .ref a0), (1, .ref a1), (2, .int x2)]) O d_T8_giveNumber_19 rfl (by decide) rfl ?_
    refine ax_sub [1, 2, 3, 0] rfl ?_
    exact cb_T8_giveNumber_L20 O _ _ hE n0 n0 _ _ _ _ _ hf
  · rw [if_neg q2] at hf
    refine ax_aload_n O d_T8_giveNumber_11 rfl 1 rfl ?_
    refine ax_bipush (v := 11) O d_T8_giveNumber_12 (by decide) ?_
    obtain ⟨fh14, ch14, hf⟩ := mis_some hf
    obtain ⟨v13, h14, mh14, hf⟩ := mcl_some hf
    refine ax_callV (As := [.int 11]) (rest := []) O cw_Pa_fail (q := (R_Pa, T_Pa, 7)) rfl rfl in_Pa_fail se_Pa_fail lk_T8_42 ch14 (c_Pa_fail mh14) rfl ⟨rfl, rfl⟩ (by decide) (by decide) (Nat.le_of_ble_eq_true rfl) d_T8_giveNumber_14 ?_
    obtain ⟨q15, hf⟩ := mge_some hf
    exact ax_retE O hE hf q15 d_T8_giveNumber_17
theorem c_T8_giveNumber {ln : Launch} {n0 : Nat} {h0 h' : mH} {a0 : Nat} {a1 : Nat} {x2 : Int32} {r' : Int32} (hf : f_T8_giveNumber n0 h0 a0 a1 x2 = some (r', h')) : mMet ln y_T8_giveNumber b_T8_giveNumber 4 (some .boolean) (mR 2 42) [.ref a0, .ref a1, .int x2] h0 (some (.int r')) h' := mMet_of (by decide +kernel) (Nat.le_of_ble_eq_true rfl) (fun X ad O hE => cb_T8_giveNumber O r' h' hE n0 h0 a0 a1 x2 hf)
/-! ===== StreamFilters$Text85.finish(LStreamFilters$Pass;)V ===== -/
theorem d_T8_finish_0 : decode b_T8_finish 0 = .ok (.aload_n 1, 1) := by decide +kernel
theorem d_T8_finish_1 : decode b_T8_finish 1 = .ok (.invokevirtual 53, 3) := by decide +kernel
theorem d_T8_finish_4 : decode b_T8_finish 4 = .ok (.istore_n 2, 1) := by decide +kernel
theorem d_T8_finish_5 : decode b_T8_finish 5 = .ok (.iload_n 2, 1) := by decide +kernel
theorem d_T8_finish_6 : decode b_T8_finish 6 = .ok (.iconst (-1), 1) := by decide +kernel
theorem d_T8_finish_7 : decode b_T8_finish 7 = .ok (.if_icmp .ne 4, 3) := by decide +kernel
theorem d_T8_finish_10 : decode b_T8_finish 10 = .ok (.return_, 1) := by decide +kernel
theorem d_T8_finish_11 : decode b_T8_finish 11 = .ok (.iload_n 2, 1) := by decide +kernel
theorem d_T8_finish_12 : decode b_T8_finish 12 = .ok (.bipush 62, 2) := by decide +kernel
theorem d_T8_finish_14 : decode b_T8_finish 14 = .ok (.if_icmp .ne 11, 3) := by decide +kernel
theorem d_T8_finish_17 : decode b_T8_finish 17 = .ok (.aload_n 0, 1) := by decide +kernel
theorem d_T8_finish_18 : decode b_T8_finish 18 = .ok (.getfield 15, 3) := by decide +kernel
theorem d_T8_finish_21 : decode b_T8_finish 21 = .ok (.iconst 1, 1) := by decide +kernel
theorem d_T8_finish_22 : decode b_T8_finish 22 = .ok (.if_icmp .ne 11, 3) := by decide +kernel
theorem d_T8_finish_25 : decode b_T8_finish 25 = .ok (.aload_n 1, 1) := by decide +kernel
theorem d_T8_finish_26 : decode b_T8_finish 26 = .ok (.bipush 12, 2) := by decide +kernel
theorem d_T8_finish_28 : decode b_T8_finish 28 = .ok (.invokevirtual 42, 3) := by decide +kernel
theorem d_T8_finish_31 : decode b_T8_finish 31 = .ok (.pop, 1) := by decide +kernel
theorem d_T8_finish_32 : decode b_T8_finish 32 = .ok (.return_, 1) := by decide +kernel
theorem d_T8_finish_33 : decode b_T8_finish 33 = .ok (.aload_n 0, 1) := by decide +kernel
theorem d_T8_finish_34 : decode b_T8_finish 34 = .ok (.getfield 15, 3) := by decide +kernel
theorem d_T8_finish_37 : decode b_T8_finish 37 = .ok (.iconst 1, 1) := by decide +kernel
theorem d_T8_finish_38 : decode b_T8_finish 38 = .ok (.isub, 1) := by decide +kernel
theorem d_T8_finish_39 : decode b_T8_finish 39 = .ok (.istore_n 3, 1) := by decide +kernel
theorem d_T8_finish_40 : decode b_T8_finish 40 = .ok (.iload_n 3, 1) := by decide +kernel
theorem d_T8_finish_41 : decode b_T8_finish 41 = .ok (.iconst 1, 1) := by decide +kernel
theorem d_T8_finish_42 : decode b_T8_finish 42 = .ok (.if_icmp .ge 4, 3) := by decide +kernel
theorem d_T8_finish_45 : decode b_T8_finish 45 = .ok (.return_, 1) := by decide +kernel
theorem d_T8_finish_46 : decode b_T8_finish 46 = .ok (.aload_n 0, 1) := by decide +kernel
theorem d_T8_finish_47 : decode b_T8_finish 47 = .ok (.getfield 15, 3) := by decide +kernel
theorem d_T8_finish_50 : decode b_T8_finish 50 = .ok (.istore 4, 2) := by decide +kernel
theorem d_T8_finish_52 : decode b_T8_finish 52 = .ok (.iload 4, 2) := by decide +kernel
theorem d_T8_finish_54 : decode b_T8_finish 54 = .ok (.iconst 5, 1) := by decide +kernel
theorem d_T8_finish_55 : decode b_T8_finish 55 = .ok (.if_icmp .ge 15, 3) := by decide +kernel
theorem d_T8_finish_58 : decode b_T8_finish 58 = .ok (.aload_n 0, 1) := by decide +kernel
theorem d_T8_finish_59 : decode b_T8_finish 59 = .ok (.bipush 84, 2) := by decide +kernel
theorem d_T8_finish_61 : decode b_T8_finish 61 = .ok (.invokevirtual 30, 3) := by decide +kernel
theorem d_T8_finish_64 : decode b_T8_finish 64 = .ok (.iinc 4 1, 3) := by decide +kernel
theorem d_T8_finish_67 : decode b_T8_finish 67 = .ok (.goto (-15), 3) := by decide +kernel
theorem d_T8_finish_70 : decode b_T8_finish 70 = .ok (.aload_n 0, 1) := by decide +kernel
theorem d_T8_finish_71 : decode b_T8_finish 71 = .ok (.aload_n 1, 1) := by decide +kernel
theorem d_T8_finish_72 : decode b_T8_finish 72 = .ok (.iload_n 3, 1) := by decide +kernel
theorem d_T8_finish_73 : decode b_T8_finish 73 = .ok (.invokevirtual 34, 3) := by decide +kernel
theorem d_T8_finish_76 : decode b_T8_finish 76 = .ok (.pop, 1) := by decide +kernel
theorem d_T8_finish_77 : decode b_T8_finish 77 = .ok (.return_, 1) := by decide +kernel
noncomputable def f_T8_finish_B25  (n0 : Nat) (h0 : mH) (a1 : Nat) : Option (Unit × mH) :=
  mis h0 a1 8 <|
  mcl (f_Pa_fail n0 h0 a1 12) fun v7 h8 =>
  some ((), h8)
noncomputable def f_T8_finish_L52  (n0 : Nat) : Nat → mH → Nat → Nat → Int32 → Int32 → Option (Unit × mH)
  | 0, _, _, _, _, _ => none
  | n + 1, h0, a0, a1, x3, x4 =>
    if 5 ≤ x4 then
      mis h0 a0 9 <|
      mcl (f_T8_giveNumber n0 h0 a0 a1 x3) fun v17 h18 =>
      some ((), h18)
    else
      mis h0 a0 9 <|
      mcl (f_T8_addDigit n0 h0 a0 84) fun _ h21 =>
      mnm (x4 + 1) fun v23 =>
      (f_T8_finish_L52 n0 n) h21 a0 a1 x3 v23
noncomputable def f_T8_finish  (n0 : Nat) (h0 : mH) (a0 : Nat) (a1 : Nat) : Option (Unit × mH) :=
  mis h0 a1 8 <|
  mcl (f_Pa_nextByte n0 h0 a1) fun v2 h3 =>
  if v2 = (-1) then
    some ((), h3)
  else
    if v2 = 62 then
      mgi h3 a0 9 1 fun v9 =>
      if v9 = 1 then
        f_T8_finish_B25 n0 h3 a1
      else
        mgi h3 a0 9 1 fun v11 =>
        mnm (v11 - 1) fun v12 =>
        if 1 ≤ v12 then
          mgi h3 a0 9 1 fun v14 =>
          f_T8_finish_L52 n0 n0 h3 a0 a1 v12 v14
        else
          some ((), h3)
    else
      f_T8_finish_B25 n0 h3 a1
set_option maxHeartbeats 4000000 in
set_option maxRecDepth 100000 in
theorem cb_T8_finish_B25 {X : mX} {ad : Nat → Nat} {ln : Launch} (O : mO X ad R_T8 b_T8_finish 5 (mR 3 65) ln) (r' : Unit) (h' : mH) (hE : mEnd X ad none none h') (n0 : Nat) (h0 : mH) (a1 : Nat) (hf : f_T8_finish_B25 n0 h0 a1 = some (r', h')) : mAW X ad 0 0 25 [(1, .ref a1)] [] h0 := by
  unfold f_T8_finish_B25 at hf
  refine ax_aload_n O d_T8_finish_25 rfl 0 rfl ?_
  refine ax_bipush (v := 12) O d_T8_finish_26 (by decide) ?_
  obtain ⟨fh8, ch8, hf⟩ := mis_some hf
  obtain ⟨v7, h8, mh8, hf⟩ := mcl_some hf
  refine ax_callV (As := [.int 12]) (rest := []) O cw_Pa_fail (q := (R_Pa, T_Pa, 7)) rfl rfl in_Pa_fail se_Pa_fail lk_T8_42 ch8 (c_Pa_fail mh8) rfl ⟨rfl, rfl⟩ (by decide) (by decide) (Nat.le_of_ble_eq_true rfl) d_T8_finish_28 ?_
  refine ax_pop O d_T8_finish_31 rfl ?_
  exact ax_vretE O hE hf d_T8_finish_32
set_option maxHeartbeats 4000000 in
set_option maxRecDepth 100000 in
theorem cb_T8_finish_L52 {X : mX} {ad : Nat → Nat} {ln : Launch} (O : mO X ad R_T8 b_T8_finish 5 (mR 3 65) ln) (r' : Unit) (h' : mH) (hE : mEnd X ad none none h') (n0 : Nat) : ∀ (n : Nat) (h0 : mH) (a0 : Nat) (a1 : Nat) (x3 : Int32) (x4 : Int32), f_T8_finish_L52 n0 n h0 a0 a1 x3 x4 = some (r', h') → mAW X ad 0 0 52 [(0, .ref a0), (1, .ref a1), (3, .int x3), (4, .int x4)] [] h0 := by
  intro n
  induction n with
  | zero =>
    intro h0 a0 a1 x3 x4 hf
    rw [f_T8_finish_L52.eq_1] at hf
    cases hf
  | succ n ih =>
    intro h0 a0 a1 x3 x4 hf
    rw [f_T8_finish_L52.eq_2] at hf
    refine ax_iload O d_T8_finish_52 3 rfl ?_
    refine ax_iconst (v := 5) O d_T8_finish_54 (by decide) ?_
    refine ax_icmp_ge (tgt := 70) O d_T8_finish_55 (by decide) (fun q15 => ?_) (fun q15 => ?_)
    · rw [if_pos q15] at hf
      refine ax_aload_n O d_T8_finish_70 rfl 0 rfl ?_
      refine ax_aload_n O d_T8_finish_71 rfl 1 rfl ?_
      refine ax_iload_n O d_T8_finish_72 rfl 2 rfl ?_
      obtain ⟨fh18, ch18, hf⟩ := mis_some hf
      obtain ⟨v17, h18, mh18, hf⟩ := mcl_some hf
      refine ax_callV (As := [.ref a1, .int x3]) (rest := []) O cw_T8_giveNumber (q := (R_T8, T_T8, 2)) rfl rfl in_T8_giveNumber se_T8_giveNumber lk_T8_34 ch18 (c_T8_giveNumber mh18) rfl ⟨rfl, rfl⟩ (by decide) (by decide) (Nat.le_of_ble_eq_true rfl) d_T8_finish_73 ?_
      refine ax_pop O d_T8_finish_76 rfl ?_
      exact ax_vretE O hE hf d_T8_finish_77
    · rw [if_neg q15] at hf
      refine ax_aload_n O d_T8_finish_58 rfl 0 rfl ?_
      refine ax_bipush (v := 84) O d_T8_finish_59 (by decide) ?_
      obtain ⟨fh21, ch21, hf⟩ := mis_some hf
      obtain ⟨u22, h21, mh21, hf⟩ := mcl_some hf
      refine ax_callV (As := [.int 84]) (rest := []) O cw_T8_addDigit (q := (R_T8, T_T8, 2)) rfl rfl in_T8_addDigit se_T8_addDigit lk_T8_30 ch21 (c_T8_addDigit mh21) rfl ⟨rfl, rfl⟩ (by decide) (by decide) (Nat.le_of_ble_eq_true rfl) d_T8_finish_61 ?_
      obtain ⟨v23, ev23, hf⟩ := mnm_some hf
      refine ax_iinc (j := 3) (v := v23) (lv' := [(4, .int v23), (0, .ref a0), (1, .ref a1), (3, .int x3)]) O d_T8_finish_64 rfl (by rw [ev23]; rfl) (by decide) rfl ?_
      refine ax_goto (tgt := 52) O d_T8_finish_67 (by decide) ?_
      refine ax_sub [1, 2, 3, 0] rfl ?_
      exact ih _ _ _ _ _ hf
set_option maxHeartbeats 4000000 in
set_option maxRecDepth 100000 in
theorem cb_T8_finish {X : mX} {ad : Nat → Nat} {ln : Launch} (O : mO X ad R_T8 b_T8_finish 5 (mR 3 65) ln) (r' : Unit) (h' : mH) (hE : mEnd X ad none none h') (n0 : Nat) (h0 : mH) (a0 : Nat) (a1 : Nat) (hf : f_T8_finish n0 h0 a0 a1 = some (r', h')) : mAW X ad 0 0 0 [(0, .ref a0), (1, .ref a1)] [] h0 := by
  unfold f_T8_finish at hf
  refine ax_aload_n O d_T8_finish_0 rfl 1 rfl ?_
  obtain ⟨fh3, ch3, hf⟩ := mis_some hf
  obtain ⟨v2, h3, mh3, hf⟩ := mcl_some hf
  refine ax_callV (As := []) (rest := []) O cw_Pa_nextByte (q := (R_Pa, T_Pa, 7)) rfl rfl in_Pa_nextByte se_Pa_nextByte lk_T8_53 ch3 (c_Pa_nextByte mh3) rfl ⟨rfl, rfl⟩ (by decide) (by decide) (Nat.le_of_ble_eq_true rfl) d_T8_finish_1 ?_
  refine ax_istore_n (lv' := [(2, .int v2), (0, .ref a0), (1, .ref a1)]) O d_T8_finish_4 rfl (by decide) rfl ?_
  refine ax_iload_n O d_T8_finish_5 rfl 0 rfl ?_
  refine ax_iconst (v := (-1)) O d_T8_finish_6 (by decide) ?_
  refine ax_icmp_ne (tgt := 11) O d_T8_finish_7 (by decide) (fun q4 => ?_) (fun q4 => ?_)
  · rw [if_neg q4] at hf
    refine ax_iload_n O d_T8_finish_11 rfl 0 rfl ?_
    refine ax_bipush (v := 62) O d_T8_finish_12 (by decide) ?_
    refine ax_icmp_ne (tgt := 25) O d_T8_finish_14 (by decide) (fun q5 => ?_) (fun q5 => ?_)
    · rw [if_neg q5] at hf
      refine ax_sub [2] rfl ?_
      exact cb_T8_finish_B25 O _ _ hE n0 _ _ hf
    · rw [if_pos q5] at hf
      refine ax_aload_n O d_T8_finish_17 rfl 1 rfl ?_
      obtain ⟨fv9, v9, cv9, kv9, hf⟩ := mgi_some hf
      refine ax_get O fg_T8_15 cv9 kv9 d_T8_finish_18 ?_
      refine ax_iconst (v := 1) O d_T8_finish_21 (by decide) ?_
      refine ax_icmp_ne (tgt := 33) O d_T8_finish_22 (by decide) (fun q10 => ?_) (fun q10 => ?_)
      · rw [if_neg q10] at hf
        refine ax_aload_n O d_T8_finish_33 rfl 1 rfl ?_
        obtain ⟨fv11, v11, cv11, kv11, hf⟩ := mgi_some hf
        refine ax_get O fg_T8_15 cv11 kv11 d_T8_finish_34 ?_
        refine ax_iconst (v := 1) O d_T8_finish_37 (by decide) ?_
        refine ax_isub O d_T8_finish_38 ?_
        obtain ⟨v12, ev12, hf⟩ := mnm_some hf
        refine ax_nmi ev12 ?_
        refine ax_istore_n (lv' := [(3, .int v12), (2, .int v2), (0, .ref a0), (1, .ref a1)]) O d_T8_finish_39 rfl (by decide) rfl ?_
        refine ax_iload_n O d_T8_finish_40 rfl 0 rfl ?_
        refine ax_iconst (v := 1) O d_T8_finish_41 (by decide) ?_
        refine ax_icmp_ge (tgt := 46) O d_T8_finish_42 (by decide) (fun q13 => ?_) (fun q13 => ?_)
        · rw [if_pos q13] at hf
          refine ax_aload_n O d_T8_finish_46 rfl 2 rfl ?_
          obtain ⟨fv14, v14, cv14, kv14, hf⟩ := mgi_some hf
          refine ax_get O fg_T8_15 cv14 kv14 d_T8_finish_47 ?_
          refine ax_istore (lv' := [(4, .int v14), (3, .int v12), (2, .int v2), (0, .ref a0), (1, .ref a1)]) O d_T8_finish_50 (by decide) rfl ?_
          refine ax_sub [3, 4, 1, 0] rfl ?_
          exact cb_T8_finish_L52 O _ _ hE n0 n0 _ _ _ _ _ hf
        · rw [if_neg q13] at hf
          exact ax_vretE O hE hf d_T8_finish_45
      · rw [if_pos q10] at hf
        refine ax_sub [2] rfl ?_
        exact cb_T8_finish_B25 O _ _ hE n0 _ _ hf
  · rw [if_pos q4] at hf
    exact ax_vretE O hE hf d_T8_finish_10
theorem c_T8_finish {ln : Launch} {n0 : Nat} {h0 h' : mH} {a0 : Nat} {a1 : Nat} {r' : Unit} (hf : f_T8_finish n0 h0 a0 a1 = some (r', h')) : mMet ln y_T8_finish b_T8_finish 5 none (mR 3 65) [.ref a0, .ref a1] h0 none h' := mMet_of (by decide +kernel) (Nat.le_of_ble_eq_true rfl) (fun X ad O hE => cb_T8_finish O r' h' hE n0 h0 a0 a1 hf)
/-! ===== StreamFilters$Text85.unpack(LStreamFilters$Pass;I)V ===== -/
theorem d_T8_unpack_0 : decode b_T8_unpack 0 = .ok (.aload_n 0, 1) := by decide +kernel
theorem d_T8_unpack_1 : decode b_T8_unpack 1 = .ok (.lconst 0, 1) := by decide +kernel
theorem d_T8_unpack_2 : decode b_T8_unpack 2 = .ok (.putfield 9, 3) := by decide +kernel
theorem d_T8_unpack_5 : decode b_T8_unpack 5 = .ok (.aload_n 0, 1) := by decide +kernel
theorem d_T8_unpack_6 : decode b_T8_unpack 6 = .ok (.iconst 0, 1) := by decide +kernel
theorem d_T8_unpack_7 : decode b_T8_unpack 7 = .ok (.putfield 15, 3) := by decide +kernel
theorem d_T8_unpack_10 : decode b_T8_unpack 10 = .ok (.iconst 1, 1) := by decide +kernel
theorem d_T8_unpack_11 : decode b_T8_unpack 11 = .ok (.istore_n 3, 1) := by decide +kernel
theorem d_T8_unpack_12 : decode b_T8_unpack 12 = .ok (.iconst 0, 1) := by decide +kernel
theorem d_T8_unpack_13 : decode b_T8_unpack 13 = .ok (.istore 4, 2) := by decide +kernel
theorem d_T8_unpack_15 : decode b_T8_unpack 15 = .ok (.iload 4, 2) := by decide +kernel
theorem d_T8_unpack_17 : decode b_T8_unpack 17 = .ok (.ldc 19, 2) := by decide +kernel
theorem d_T8_unpack_19 : decode b_T8_unpack 19 = .ok (.if_icmp .ge 118, 3) := by decide +kernel
theorem d_T8_unpack_22 : decode b_T8_unpack 22 = .ok (.iload_n 3, 1) := by decide +kernel
theorem d_T8_unpack_23 : decode b_T8_unpack 23 = .ok (.ifCond .eq 114, 3) := by decide +kernel
theorem d_T8_unpack_26 : decode b_T8_unpack 26 = .ok (.aload_n 1, 1) := by decide +kernel
theorem d_T8_unpack_27 : decode b_T8_unpack 27 = .ok (.invokevirtual 20, 3) := by decide +kernel
theorem d_T8_unpack_30 : decode b_T8_unpack 30 = .ok (.istore 5, 2) := by decide +kernel
theorem d_T8_unpack_32 : decode b_T8_unpack 32 = .ok (.iload 5, 2) := by decide +kernel
theorem d_T8_unpack_34 : decode b_T8_unpack 34 = .ok (.iconst (-1), 1) := by decide +kernel
theorem d_T8_unpack_35 : decode b_T8_unpack 35 = .ok (.if_icmp .ne 4, 3) := by decide +kernel
theorem d_T8_unpack_38 : decode b_T8_unpack 38 = .ok (.return_, 1) := by decide +kernel
theorem d_T8_unpack_39 : decode b_T8_unpack 39 = .ok (.iload 5, 2) := by decide +kernel
theorem d_T8_unpack_41 : decode b_T8_unpack 41 = .ok (.bipush 126, 2) := by decide +kernel
theorem d_T8_unpack_43 : decode b_T8_unpack 43 = .ok (.if_icmp .ne 9, 3) := by decide +kernel
theorem d_T8_unpack_46 : decode b_T8_unpack 46 = .ok (.aload_n 0, 1) := by decide +kernel
theorem d_T8_unpack_47 : decode b_T8_unpack 47 = .ok (.aload_n 1, 1) := by decide +kernel
theorem d_T8_unpack_48 : decode b_T8_unpack 48 = .ok (.invokevirtual 26, 3) := by decide +kernel
theorem d_T8_unpack_51 : decode b_T8_unpack 51 = .ok (.return_, 1) := by decide +kernel
theorem d_T8_unpack_52 : decode b_T8_unpack 52 = .ok (.iload 5, 2) := by decide +kernel
theorem d_T8_unpack_54 : decode b_T8_unpack 54 = .ok (.bipush 33, 2) := by decide +kernel
theorem d_T8_unpack_56 : decode b_T8_unpack 56 = .ok (.if_icmp .lt 45, 3) := by decide +kernel
theorem d_T8_unpack_59 : decode b_T8_unpack 59 = .ok (.iload 5, 2) := by decide +kernel
theorem d_T8_unpack_61 : decode b_T8_unpack 61 = .ok (.bipush 117, 2) := by decide +kernel
theorem d_T8_unpack_63 : decode b_T8_unpack 63 = .ok (.if_icmp .gt 38, 3) := by decide +kernel
theorem d_T8_unpack_66 : decode b_T8_unpack 66 = .ok (.aload_n 0, 1) := by decide +kernel
theorem d_T8_unpack_67 : decode b_T8_unpack 67 = .ok (.iload 5, 2) := by decide +kernel
theorem d_T8_unpack_69 : decode b_T8_unpack 69 = .ok (.bipush 33, 2) := by decide +kernel
theorem d_T8_unpack_71 : decode b_T8_unpack 71 = .ok (.isub, 1) := by decide +kernel
theorem d_T8_unpack_72 : decode b_T8_unpack 72 = .ok (.invokevirtual 30, 3) := by decide +kernel
theorem d_T8_unpack_75 : decode b_T8_unpack 75 = .ok (.aload_n 0, 1) := by decide +kernel
theorem d_T8_unpack_76 : decode b_T8_unpack 76 = .ok (.getfield 15, 3) := by decide +kernel
theorem d_T8_unpack_79 : decode b_T8_unpack 79 = .ok (.iconst 5, 1) := by decide +kernel
theorem d_T8_unpack_80 : decode b_T8_unpack 80 = .ok (.if_icmp .lt 12, 3) := by decide +kernel
theorem d_T8_unpack_83 : decode b_T8_unpack 83 = .ok (.aload_n 0, 1) := by decide +kernel
theorem d_T8_unpack_84 : decode b_T8_unpack 84 = .ok (.aload_n 1, 1) := by decide +kernel
theorem d_T8_unpack_85 : decode b_T8_unpack 85 = .ok (.iconst 4, 1) := by decide +kernel
theorem d_T8_unpack_86 : decode b_T8_unpack 86 = .ok (.invokevirtual 34, 3) := by decide +kernel
theorem d_T8_unpack_89 : decode b_T8_unpack 89 = .ok (.ifCond .eq 7, 3) := by decide +kernel
theorem d_T8_unpack_92 : decode b_T8_unpack 92 = .ok (.iconst 1, 1) := by decide +kernel
theorem d_T8_unpack_93 : decode b_T8_unpack 93 = .ok (.goto 4, 3) := by decide +kernel
theorem d_T8_unpack_96 : decode b_T8_unpack 96 = .ok (.iconst 0, 1) := by decide +kernel
theorem d_T8_unpack_97 : decode b_T8_unpack 97 = .ok (.istore_n 3, 1) := by decide +kernel
theorem d_T8_unpack_98 : decode b_T8_unpack 98 = .ok (.goto 33, 3) := by decide +kernel
theorem d_T8_unpack_101 : decode b_T8_unpack 101 = .ok (.iload 5, 2) := by decide +kernel
theorem d_T8_unpack_103 : decode b_T8_unpack 103 = .ok (.bipush 122, 2) := by decide +kernel
theorem d_T8_unpack_105 : decode b_T8_unpack 105 = .ok (.if_icmp .ne 19, 3) := by decide +kernel
theorem d_T8_unpack_108 : decode b_T8_unpack 108 = .ok (.aload_n 0, 1) := by decide +kernel
theorem d_T8_unpack_109 : decode b_T8_unpack 109 = .ok (.getfield 15, 3) := by decide +kernel
theorem d_T8_unpack_112 : decode b_T8_unpack 112 = .ok (.ifCond .ne 12, 3) := by decide +kernel
theorem d_T8_unpack_115 : decode b_T8_unpack 115 = .ok (.aload_n 1, 1) := by decide +kernel
theorem d_T8_unpack_116 : decode b_T8_unpack 116 = .ok (.iconst 0, 1) := by decide +kernel
theorem d_T8_unpack_117 : decode b_T8_unpack 117 = .ok (.iconst 4, 1) := by decide +kernel
theorem d_T8_unpack_118 : decode b_T8_unpack 118 = .ok (.invokevirtual 38, 3) := by decide +kernel
theorem d_T8_unpack_121 : decode b_T8_unpack 121 = .ok (.goto 9, 3) := by decide +kernel
theorem d_T8_unpack_124 : decode b_T8_unpack 124 = .ok (.aload_n 1, 1) := by decide +kernel
theorem d_T8_unpack_125 : decode b_T8_unpack 125 = .ok (.bipush 12, 2) := by decide +kernel
theorem d_T8_unpack_127 : decode b_T8_unpack 127 = .ok (.invokevirtual 42, 3) := by decide +kernel
theorem d_T8_unpack_130 : decode b_T8_unpack 130 = .ok (.istore_n 3, 1) := by decide +kernel
theorem d_T8_unpack_131 : decode b_T8_unpack 131 = .ok (.iinc 4 1, 3) := by decide +kernel
theorem d_T8_unpack_134 : decode b_T8_unpack 134 = .ok (.goto (-119), 3) := by decide +kernel
theorem d_T8_unpack_137 : decode b_T8_unpack 137 = .ok (.return_, 1) := by decide +kernel
noncomputable def f_T8_unpack_B124 (K15 : mH → Nat → Nat → Int32 → Int32 → Option (Unit × mH)) (n0 : Nat) (h0 : mH) (a0 : Nat) (a1 : Nat) (x4 : Int32) : Option (Unit × mH) :=
  mis h0 a1 8 <|
  mcl (f_Pa_fail n0 h0 a1 12) fun v13 h14 =>
  mnm (x4 + 1) fun v15 =>
  K15 h14 a0 a1 v13 v15
noncomputable def f_T8_unpack_B101 (K15 : mH → Nat → Nat → Int32 → Int32 → Option (Unit × mH)) (n0 : Nat) (h0 : mH) (a0 : Nat) (a1 : Nat) (x4 : Int32) (x5 : Int32) : Option (Unit × mH) :=
  if x5 = 122 then
    mgi h0 a0 9 1 fun v16 =>
    if v16 = 0 then
      mis h0 a1 8 <|
      mcl (f_Pa_giveTimes n0 h0 a1 0 4) fun v19 h20 =>
      mnm (x4 + 1) fun v21 =>
      K15 h20 a0 a1 v19 v21
    else
      f_T8_unpack_B124 K15 n0 h0 a0 a1 x4
  else
    f_T8_unpack_B124 K15 n0 h0 a0 a1 x4
noncomputable def f_T8_unpack_B92 (K15 : mH → Nat → Nat → Int32 → Int32 → Option (Unit × mH)) (n0 : Nat) (h0 : mH) (a0 : Nat) (a1 : Nat) (x4 : Int32) : Option (Unit × mH) :=
  mnm (x4 + 1) fun v29 =>
  K15 h0 a0 a1 1 v29
noncomputable def f_T8_unpack_L15  (n0 : Nat) : Nat → mH → Nat → Nat → Int32 → Int32 → Option (Unit × mH)
  | 0, _, _, _, _, _ => none
  | n + 1, h0, a0, a1, x3, x4 =>
    if 1000000 ≤ x4 then
      some ((), h0)
    else
      if x3 = 0 then
        some ((), h0)
      else
        mis h0 a1 8 <|
        mcl (f_Pa_nextSign n0 h0 a1) fun v6 h7 =>
        if v6 = (-1) then
          some ((), h7)
        else
          if v6 = 126 then
            mis h7 a0 9 <|
            mcl (f_T8_finish n0 h7 a0 a1) fun _ h37 =>
            some ((), h37)
          else
            if v6 < 33 then
              f_T8_unpack_B101 (f_T8_unpack_L15 n0 n) n0 h7 a0 a1 x4 v6
            else
              if 117 < v6 then
                f_T8_unpack_B101 (f_T8_unpack_L15 n0 n) n0 h7 a0 a1 x4 v6
              else
                mis h7 a0 9 <|
                mcl (f_T8_addDigit n0 h7 a0 (v6 - 33)) fun _ h25 =>
                mgi h25 a0 9 1 fun v27 =>
                if v27 < 5 then
                  f_T8_unpack_B92 (f_T8_unpack_L15 n0 n) n0 h25 a0 a1 x4
                else
                  mis h25 a0 9 <|
                  mcl (f_T8_giveNumber n0 h25 a0 a1 4) fun v31 h32 =>
                  if v31 = 0 then
                    mnm (x4 + 1) fun v34 =>
                    (f_T8_unpack_L15 n0 n) h32 a0 a1 0 v34
                  else
                    f_T8_unpack_B92 (f_T8_unpack_L15 n0 n) n0 h32 a0 a1 x4
noncomputable def f_T8_unpack  (n0 : Nat) (h0 : mH) (a0 : Nat) (a1 : Nat) (x2 : Int32) : Option (Unit × mH) :=
  mpt h0 a0 9 0 (.long 0) fun h1 =>
  mpt h1 a0 9 1 (.int 0) fun h2 =>
  f_T8_unpack_L15 n0 n0 h2 a0 a1 1 0
set_option maxHeartbeats 4000000 in
set_option maxRecDepth 100000 in
theorem cb_T8_unpack_B124 {X : mX} {ad : Nat → Nat} {ln : Launch} (O : mO X ad R_T8 b_T8_unpack 6 (mR 4 89) ln) (K15 : mH → Nat → Nat → Int32 → Int32 → Option (Unit × mH)) (r' : Unit) (h' : mH) (hE : mEnd X ad none none h') (hK15 : ∀ (h : mH) (a0 : Nat) (a1 : Nat) (x3 : Int32) (x4 : Int32), K15 h a0 a1 x3 x4 = some (r', h') → mAW X ad 0 0 15 [(0, .ref a0), (1, .ref a1), (3, .int x3), (4, .int x4)] [] h) (n0 : Nat) (h0 : mH) (a0 : Nat) (a1 : Nat) (x4 : Int32) (hf : f_T8_unpack_B124 K15 n0 h0 a0 a1 x4 = some (r', h')) : mAW X ad 0 0 124 [(0, .ref a0), (1, .ref a1), (4, .int x4)] [] h0 := by
  unfold f_T8_unpack_B124 at hf
  refine ax_aload_n O d_T8_unpack_124 rfl 1 rfl ?_
  refine ax_bipush (v := 12) O d_T8_unpack_125 (by decide) ?_
  obtain ⟨fh14, ch14, hf⟩ := mis_some hf
  obtain ⟨v13, h14, mh14, hf⟩ := mcl_some hf
  refine ax_callV (As := [.int 12]) (rest := []) O cw_Pa_fail (q := (R_Pa, T_Pa, 7)) rfl rfl in_Pa_fail se_Pa_fail lk_T8_42 ch14 (c_Pa_fail mh14) rfl ⟨rfl, rfl⟩ (by decide) (by decide) (Nat.le_of_ble_eq_true rfl) d_T8_unpack_127 ?_
  refine ax_istore_n (lv' := [(3, .int v13), (0, .ref a0), (1, .ref a1), (4, .int x4)]) O d_T8_unpack_130 rfl (by decide) rfl ?_
  obtain ⟨v15, ev15, hf⟩ := mnm_some hf
  refine ax_iinc (j := 3) (v := v15) (lv' := [(4, .int v15), (3, .int v13), (0, .ref a0), (1, .ref a1)]) O d_T8_unpack_131 rfl (by rw [ev15]; rfl) (by decide) rfl ?_
  refine ax_goto (tgt := 15) O d_T8_unpack_134 (by decide) ?_
  refine ax_sub [2, 3, 1, 0] rfl ?_
  exact hK15 _ _ _ _ _ hf
set_option maxHeartbeats 4000000 in
set_option maxRecDepth 100000 in
theorem cb_T8_unpack_B101 {X : mX} {ad : Nat → Nat} {ln : Launch} (O : mO X ad R_T8 b_T8_unpack 6 (mR 4 89) ln) (K15 : mH → Nat → Nat → Int32 → Int32 → Option (Unit × mH)) (r' : Unit) (h' : mH) (hE : mEnd X ad none none h') (hK15 : ∀ (h : mH) (a0 : Nat) (a1 : Nat) (x3 : Int32) (x4 : Int32), K15 h a0 a1 x3 x4 = some (r', h') → mAW X ad 0 0 15 [(0, .ref a0), (1, .ref a1), (3, .int x3), (4, .int x4)] [] h) (n0 : Nat) (h0 : mH) (a0 : Nat) (a1 : Nat) (x4 : Int32) (x5 : Int32) (hf : f_T8_unpack_B101 K15 n0 h0 a0 a1 x4 x5 = some (r', h')) : mAW X ad 0 0 101 [(0, .ref a0), (1, .ref a1), (4, .int x4), (5, .int x5)] [] h0 := by
  unfold f_T8_unpack_B101 at hf
  refine ax_iload O d_T8_unpack_101 3 rfl ?_
  refine ax_bipush (v := 122) O d_T8_unpack_103 (by decide) ?_
  refine ax_icmp_ne (tgt := 124) O d_T8_unpack_105 (by decide) (fun q11 => ?_) (fun q11 => ?_)
  · rw [if_neg q11] at hf
    refine ax_sub [0, 1, 2] rfl ?_
    exact cb_T8_unpack_B124 O K15 _ _ hE hK15 n0 _ _ _ _ hf
  · rw [if_pos q11] at hf
    refine ax_aload_n O d_T8_unpack_108 rfl 0 rfl ?_
    obtain ⟨fv16, v16, cv16, kv16, hf⟩ := mgi_some hf
    refine ax_get O fg_T8_15 cv16 kv16 d_T8_unpack_109 ?_
    refine ax_if_ne (tgt := 124) O d_T8_unpack_112 (by decide) (fun q17 => ?_) (fun q17 => ?_)
    · rw [if_neg q17] at hf
      refine ax_sub [0, 1, 2] rfl ?_
      exact cb_T8_unpack_B124 O K15 _ _ hE hK15 n0 _ _ _ _ hf
    · rw [if_pos q17] at hf
      refine ax_aload_n O d_T8_unpack_115 rfl 1 rfl ?_
      refine ax_iconst (v := 0) O d_T8_unpack_116 (by decide) ?_
      refine ax_iconst (v := 4) O d_T8_unpack_117 (by decide) ?_
      obtain ⟨fh20, ch20, hf⟩ := mis_some hf
      obtain ⟨v19, h20, mh20, hf⟩ := mcl_some hf
      refine ax_callV (As := [.int 0, .int 4]) (rest := []) O cw_Pa_giveTimes (q := (R_Pa, T_Pa, 7)) rfl rfl in_Pa_giveTimes se_Pa_giveTimes lk_T8_38 ch20 (c_Pa_giveTimes mh20) rfl ⟨rfl, rfl⟩ (by decide) (by decide) (Nat.le_of_ble_eq_true rfl) d_T8_unpack_118 ?_
      refine ax_goto (tgt := 130) O d_T8_unpack_121 (by decide) ?_
      refine ax_istore_n (lv' := [(3, .int v19), (0, .ref a0), (1, .ref a1), (4, .int x4), (5, .int x5)]) O d_T8_unpack_130 rfl (by decide) rfl ?_
      obtain ⟨v21, ev21, hf⟩ := mnm_some hf
      refine ax_iinc (j := 3) (v := v21) (lv' := [(4, .int v21), (3, .int v19), (0, .ref a0), (1, .ref a1), (5, .int x5)]) O d_T8_unpack_131 rfl (by rw [ev21]; rfl) (by decide) rfl ?_
      refine ax_goto (tgt := 15) O d_T8_unpack_134 (by decide) ?_
      refine ax_sub [2, 3, 1, 0] rfl ?_
      exact hK15 _ _ _ _ _ hf
set_option maxHeartbeats 4000000 in
set_option maxRecDepth 100000 in
theorem cb_T8_unpack_B92 {X : mX} {ad : Nat → Nat} {ln : Launch} (O : mO X ad R_T8 b_T8_unpack 6 (mR 4 89) ln) (K15 : mH → Nat → Nat → Int32 → Int32 → Option (Unit × mH)) (r' : Unit) (h' : mH) (hE : mEnd X ad none none h') (hK15 : ∀ (h : mH) (a0 : Nat) (a1 : Nat) (x3 : Int32) (x4 : Int32), K15 h a0 a1 x3 x4 = some (r', h') → mAW X ad 0 0 15 [(0, .ref a0), (1, .ref a1), (3, .int x3), (4, .int x4)] [] h) (n0 : Nat) (h0 : mH) (a0 : Nat) (a1 : Nat) (x4 : Int32) (hf : f_T8_unpack_B92 K15 n0 h0 a0 a1 x4 = some (r', h')) : mAW X ad 0 0 92 [(0, .ref a0), (1, .ref a1), (4, .int x4)] [] h0 := by
  unfold f_T8_unpack_B92 at hf
  refine ax_iconst (v := 1) O d_T8_unpack_92 (by decide) ?_
  refine ax_goto (tgt := 97) O d_T8_unpack_93 (by decide) ?_
  refine ax_istore_n (lv' := [(3, .int 1), (0, .ref a0), (1, .ref a1), (4, .int x4)]) O d_T8_unpack_97 rfl (by decide) rfl ?_
  refine ax_goto (tgt := 131) O d_T8_unpack_98 (by decide) ?_
  obtain ⟨v29, ev29, hf⟩ := mnm_some hf
  refine ax_iinc (j := 3) (v := v29) (lv' := [(4, .int v29), (3, .int 1), (0, .ref a0), (1, .ref a1)]) O d_T8_unpack_131 rfl (by rw [ev29]; rfl) (by decide) rfl ?_
  refine ax_goto (tgt := 15) O d_T8_unpack_134 (by decide) ?_
  refine ax_sub [2, 3, 1, 0] rfl ?_
  exact hK15 _ _ _ _ _ hf
set_option maxHeartbeats 4000000 in
set_option maxRecDepth 100000 in
theorem cb_T8_unpack_L15 {X : mX} {ad : Nat → Nat} {ln : Launch} (O : mO X ad R_T8 b_T8_unpack 6 (mR 4 89) ln) (r' : Unit) (h' : mH) (hE : mEnd X ad none none h') (n0 : Nat) : ∀ (n : Nat) (h0 : mH) (a0 : Nat) (a1 : Nat) (x3 : Int32) (x4 : Int32), f_T8_unpack_L15 n0 n h0 a0 a1 x3 x4 = some (r', h') → mAW X ad 0 0 15 [(0, .ref a0), (1, .ref a1), (3, .int x3), (4, .int x4)] [] h0 := by
  intro n
  induction n with
  | zero =>
    intro h0 a0 a1 x3 x4 hf
    rw [f_T8_unpack_L15.eq_1] at hf
    cases hf
  | succ n ih =>
    intro h0 a0 a1 x3 x4 hf
    rw [f_T8_unpack_L15.eq_2] at hf
    refine ax_iload O d_T8_unpack_15 3 rfl ?_
    refine ax_ldc (v := 1000000) O d_T8_unpack_17 wd_35 ?_
    refine ax_icmp_ge (tgt := 137) O d_T8_unpack_19 (by decide) (fun q3 => ?_) (fun q3 => ?_)
    · rw [if_pos q3] at hf
      exact ax_vretE O hE hf d_T8_unpack_137
    · rw [if_neg q3] at hf
      refine ax_iload_n O d_T8_unpack_22 rfl 2 rfl ?_
      refine ax_if_eq (tgt := 137) O d_T8_unpack_23 (by decide) (fun q4 => ?_) (fun q4 => ?_)
      · rw [if_pos q4] at hf
        exact ax_vretE O hE hf d_T8_unpack_137
      · rw [if_neg q4] at hf
        refine ax_aload_n O d_T8_unpack_26 rfl 1 rfl ?_
        obtain ⟨fh7, ch7, hf⟩ := mis_some hf
        obtain ⟨v6, h7, mh7, hf⟩ := mcl_some hf
        refine ax_callV (As := []) (rest := []) O cw_Pa_nextSign (q := (R_Pa, T_Pa, 7)) rfl rfl in_Pa_nextSign se_Pa_nextSign lk_T8_20 ch7 (c_Pa_nextSign mh7) rfl ⟨rfl, rfl⟩ (by decide) (by decide) (Nat.le_of_ble_eq_true rfl) d_T8_unpack_27 ?_
        refine ax_istore (lv' := [(5, .int v6), (0, .ref a0), (1, .ref a1), (3, .int x3), (4, .int x4)]) O d_T8_unpack_30 (by decide) rfl ?_
        refine ax_iload O d_T8_unpack_32 0 rfl ?_
        refine ax_iconst (v := (-1)) O d_T8_unpack_34 (by decide) ?_
        refine ax_icmp_ne (tgt := 39) O d_T8_unpack_35 (by decide) (fun q8 => ?_) (fun q8 => ?_)
        · rw [if_neg q8] at hf
          refine ax_iload O d_T8_unpack_39 0 rfl ?_
          refine ax_bipush (v := 126) O d_T8_unpack_41 (by decide) ?_
          refine ax_icmp_ne (tgt := 52) O d_T8_unpack_43 (by decide) (fun q9 => ?_) (fun q9 => ?_)
          · rw [if_neg q9] at hf
            refine ax_iload O d_T8_unpack_52 0 rfl ?_
            refine ax_bipush (v := 33) O d_T8_unpack_54 (by decide) ?_
            refine ax_icmp_lt (tgt := 101) O d_T8_unpack_56 (by decide) (fun q10 => ?_) (fun q10 => ?_)
            · rw [if_pos q10] at hf
              refine ax_sub [1, 2, 4, 0] rfl ?_
              exact cb_T8_unpack_B101 O (f_T8_unpack_L15 n0 n) _ _ hE ih n0 _ _ _ _ _ hf
            · rw [if_neg q10] at hf
              refine ax_iload O d_T8_unpack_59 0 rfl ?_
              refine ax_bipush (v := 117) O d_T8_unpack_61 (by decide) ?_
              refine ax_icmp_gt (tgt := 101) O d_T8_unpack_63 (by decide) (fun q22 => ?_) (fun q22 => ?_)
              · rw [if_pos q22] at hf
                refine ax_sub [1, 2, 4, 0] rfl ?_
                exact cb_T8_unpack_B101 O (f_T8_unpack_L15 n0 n) _ _ hE ih n0 _ _ _ _ _ hf
              · rw [if_neg q22] at hf
                refine ax_aload_n O d_T8_unpack_66 rfl 1 rfl ?_
                refine ax_iload O d_T8_unpack_67 0 rfl ?_
                refine ax_bipush (v := 33) O d_T8_unpack_69 (by decide) ?_
                refine ax_isub O d_T8_unpack_71 ?_
                obtain ⟨fh25, ch25, hf⟩ := mis_some hf
                obtain ⟨u26, h25, mh25, hf⟩ := mcl_some hf
                refine ax_callV (As := [.int (v6 - 33)]) (rest := []) O cw_T8_addDigit (q := (R_T8, T_T8, 2)) rfl rfl in_T8_addDigit se_T8_addDigit lk_T8_30 ch25 (c_T8_addDigit mh25) rfl ⟨rfl, rfl⟩ (by decide) (by decide) (Nat.le_of_ble_eq_true rfl) d_T8_unpack_72 ?_
                refine ax_aload_n O d_T8_unpack_75 rfl 1 rfl ?_
                obtain ⟨fv27, v27, cv27, kv27, hf⟩ := mgi_some hf
                refine ax_get O fg_T8_15 cv27 kv27 d_T8_unpack_76 ?_
                refine ax_iconst (v := 5) O d_T8_unpack_79 (by decide) ?_
                refine ax_icmp_lt (tgt := 92) O d_T8_unpack_80 (by decide) (fun q28 => ?_) (fun q28 => ?_)
                · rw [if_pos q28] at hf
                  refine ax_sub [1, 2, 4] rfl ?_
                  exact cb_T8_unpack_B92 O (f_T8_unpack_L15 n0 n) _ _ hE ih n0 _ _ _ _ hf
                · rw [if_neg q28] at hf
                  refine ax_aload_n O d_T8_unpack_83 rfl 1 rfl ?_
                  refine ax_aload_n O d_T8_unpack_84 rfl 2 rfl ?_
                  refine ax_iconst (v := 4) O d_T8_unpack_85 (by decide) ?_
                  obtain ⟨fh32, ch32, hf⟩ := mis_some hf
                  obtain ⟨v31, h32, mh32, hf⟩ := mcl_some hf
                  refine ax_callV (As := [.ref a1, .int 4]) (rest := []) O cw_T8_giveNumber (q := (R_T8, T_T8, 2)) rfl rfl in_T8_giveNumber se_T8_giveNumber lk_T8_34 ch32 (c_T8_giveNumber mh32) rfl ⟨rfl, rfl⟩ (by decide) (by decide) (Nat.le_of_ble_eq_true rfl) d_T8_unpack_86 ?_
                  refine ax_if_eq (tgt := 96) O d_T8_unpack_89 (by decide) (fun q33 => ?_) (fun q33 => ?_)
                  · rw [if_pos q33] at hf
                    refine ax_iconst (v := 0) O d_T8_unpack_96 (by decide) ?_
                    refine ax_istore_n (lv' := [(3, .int 0), (5, .int v6), (0, .ref a0), (1, .ref a1), (4, .int x4)]) O d_T8_unpack_97 rfl (by decide) rfl ?_
                    refine ax_goto (tgt := 131) O d_T8_unpack_98 (by decide) ?_
                    obtain ⟨v34, ev34, hf⟩ := mnm_some hf
                    refine ax_iinc (j := 4) (v := v34) (lv' := [(4, .int v34), (3, .int 0), (5, .int v6), (0, .ref a0), (1, .ref a1)]) O d_T8_unpack_131 rfl (by rw [ev34]; rfl) (by decide) rfl ?_
                    refine ax_goto (tgt := 15) O d_T8_unpack_134 (by decide) ?_
                    refine ax_sub [3, 4, 1, 0] rfl ?_
                    exact ih _ _ _ _ _ hf
                  · rw [if_neg q33] at hf
                    refine ax_sub [1, 2, 4] rfl ?_
                    exact cb_T8_unpack_B92 O (f_T8_unpack_L15 n0 n) _ _ hE ih n0 _ _ _ _ hf
          · rw [if_pos q9] at hf
            refine ax_aload_n O d_T8_unpack_46 rfl 1 rfl ?_
            refine ax_aload_n O d_T8_unpack_47 rfl 2 rfl ?_
            obtain ⟨fh37, ch37, hf⟩ := mis_some hf
            obtain ⟨u38, h37, mh37, hf⟩ := mcl_some hf
            refine ax_callV (As := [.ref a1]) (rest := []) O cw_T8_finish (q := (R_T8, T_T8, 2)) rfl rfl in_T8_finish se_T8_finish lk_T8_26 ch37 (c_T8_finish mh37) rfl ⟨rfl, rfl⟩ (by decide) (by decide) (Nat.le_of_ble_eq_true rfl) d_T8_unpack_48 ?_
            exact ax_vretE O hE hf d_T8_unpack_51
        · rw [if_pos q8] at hf
          exact ax_vretE O hE hf d_T8_unpack_38
set_option maxHeartbeats 4000000 in
set_option maxRecDepth 100000 in
theorem cb_T8_unpack {X : mX} {ad : Nat → Nat} {ln : Launch} (O : mO X ad R_T8 b_T8_unpack 6 (mR 4 89) ln) (r' : Unit) (h' : mH) (hE : mEnd X ad none none h') (n0 : Nat) (h0 : mH) (a0 : Nat) (a1 : Nat) (x2 : Int32) (hf : f_T8_unpack n0 h0 a0 a1 x2 = some (r', h')) : mAW X ad 0 0 0 [(0, .ref a0), (1, .ref a1), (2, .int x2)] [] h0 := by
  unfold f_T8_unpack at hf
  refine ax_aload_n O d_T8_unpack_0 rfl 0 rfl ?_
  refine ax_lconst (v := 0) O d_T8_unpack_1 (by decide) ?_
  obtain ⟨fh1, h1, ch1, kh1, eh1, hf⟩ := mpt_some hf
  refine ax_put (v := .long 0) O fp_T8_9 ch1 kh1 eh1 rfl rfl d_T8_unpack_2 ?_
  refine ax_aload_n O d_T8_unpack_5 rfl 0 rfl ?_
  refine ax_iconst (v := 0) O d_T8_unpack_6 (by decide) ?_
  obtain ⟨fh2, h2, ch2, kh2, eh2, hf⟩ := mpt_some hf
  refine ax_put (v := .int 0) O fp_T8_15 ch2 kh2 eh2 rfl rfl d_T8_unpack_7 ?_
  refine ax_iconst (v := 1) O d_T8_unpack_10 (by decide) ?_
  refine ax_istore_n (lv' := [(3, .int 1), (0, .ref a0), (1, .ref a1), (2, .int x2)]) O d_T8_unpack_11 rfl (by decide) rfl ?_
  refine ax_iconst (v := 0) O d_T8_unpack_12 (by decide) ?_
  refine ax_istore (lv' := [(4, .int 0), (3, .int 1), (0, .ref a0), (1, .ref a1), (2, .int x2)]) O d_T8_unpack_13 (by decide) rfl ?_
  refine ax_sub [2, 3, 1, 0] rfl ?_
  exact cb_T8_unpack_L15 O _ _ hE n0 n0 _ _ _ _ _ hf
theorem c_T8_unpack {ln : Launch} {n0 : Nat} {h0 h' : mH} {a0 : Nat} {a1 : Nat} {x2 : Int32} {r' : Unit} (hf : f_T8_unpack n0 h0 a0 a1 x2 = some (r', h')) : mMet ln y_T8_unpack b_T8_unpack 6 none (mR 4 89) [.ref a0, .ref a1, .int x2] h0 none h' := mMet_of (by decide +kernel) (Nat.le_of_ble_eq_true rfl) (fun X ad O hE => cb_T8_unpack O r' h' hE n0 h0 a0 a1 x2 hf)
