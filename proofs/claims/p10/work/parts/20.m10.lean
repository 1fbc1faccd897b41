/-! ===== StreamFiltersModel.isWhite(I)Z ===== -/
theorem d_Mo_isWhite_0 : decode b_Mo_isWhite 0 = .ok (.iload_n 0, 1) := by decide +kernel
theorem d_Mo_isWhite_1 : decode b_Mo_isWhite 1 = .ok (.ifCond .eq 33, 3) := by decide +kernel
theorem d_Mo_isWhite_4 : decode b_Mo_isWhite 4 = .ok (.iload_n 0, 1) := by decide +kernel
theorem d_Mo_isWhite_5 : decode b_Mo_isWhite 5 = .ok (.bipush 9, 2) := by decide +kernel
theorem d_Mo_isWhite_7 : decode b_Mo_isWhite 7 = .ok (.if_icmp .eq 27, 3) := by decide +kernel
theorem d_Mo_isWhite_10 : decode b_Mo_isWhite 10 = .ok (.iload_n 0, 1) := by decide +kernel
theorem d_Mo_isWhite_11 : decode b_Mo_isWhite 11 = .ok (.bipush 10, 2) := by decide +kernel
theorem d_Mo_isWhite_13 : decode b_Mo_isWhite 13 = .ok (.if_icmp .eq 21, 3) := by decide +kernel
theorem d_Mo_isWhite_16 : decode b_Mo_isWhite 16 = .ok (.iload_n 0, 1) := by decide +kernel
theorem d_Mo_isWhite_17 : decode b_Mo_isWhite 17 = .ok (.bipush 12, 2) := by decide +kernel
theorem d_Mo_isWhite_19 : decode b_Mo_isWhite 19 = .ok (.if_icmp .eq 15, 3) := by decide +kernel
theorem d_Mo_isWhite_22 : decode b_Mo_isWhite 22 = .ok (.iload_n 0, 1) := by decide +kernel
theorem d_Mo_isWhite_23 : decode b_Mo_isWhite 23 = .ok (.bipush 13, 2) := by decide +kernel
theorem d_Mo_isWhite_25 : decode b_Mo_isWhite 25 = .ok (.if_icmp .eq 9, 3) := by decide +kernel
theorem d_Mo_isWhite_28 : decode b_Mo_isWhite 28 = .ok (.iload_n 0, 1) := by decide +kernel
theorem d_Mo_isWhite_29 : decode b_Mo_isWhite 29 = .ok (.bipush 32, 2) := by decide +kernel
theorem d_Mo_isWhite_31 : decode b_Mo_isWhite 31 = .ok (.if_icmp .ne 7, 3) := by decide +kernel
theorem d_Mo_isWhite_34 : decode b_Mo_isWhite 34 = .ok (.iconst 1, 1) := by decide +kernel
theorem d_Mo_isWhite_35 : decode b_Mo_isWhite 35 = .ok (.goto 4, 3) := by decide +kernel
theorem d_Mo_isWhite_38 : decode b_Mo_isWhite 38 = .ok (.iconst 0, 1) := by decide +kernel
theorem d_Mo_isWhite_39 : decode b_Mo_isWhite 39 = .ok (.ireturn, 1) := by decide +kernel
noncomputable def f_Mo_isWhite  (n0 : Nat) (h0 : mH) (x0 : Int32) : Option (Int32 × mH) :=
  if x0 = 0 then
    some (1, h0)
  else
    if x0 = 9 then
      some (1, h0)
    else
      if x0 = 10 then
        some (1, h0)
      else
        if x0 = 12 then
          some (1, h0)
        else
          if x0 = 13 then
            some (1, h0)
          else
            if x0 = 32 then
              some (1, h0)
            else
              some (0, h0)
set_option maxHeartbeats 4000000 in
set_option maxRecDepth 100000 in
theorem cb_Mo_isWhite {X : mX} {ad : Nat → Nat} {ln : Launch} (O : mO X ad R_Mo b_Mo_isWhite 1 (mR 0 0) ln) (r' : Int32) (h' : mH) (hE : mEnd X ad (some .boolean) (some (.int r')) h') (n0 : Nat) (h0 : mH) (x0 : Int32) (hf : f_Mo_isWhite n0 h0 x0 = some (r', h')) : mAW X ad 0 0 0 [(0, .int x0)] [] h0 := by
  unfold f_Mo_isWhite at hf
  refine ax_iload_n O d_Mo_isWhite_0 rfl 0 rfl ?_
  refine ax_if_eq (tgt := 34) O d_Mo_isWhite_1 (by decide) (fun q1 => ?_) (fun q1 => ?_)
  · rw [if_pos q1] at hf
    refine ax_iconst (v := 1) O d_Mo_isWhite_34 (by decide) ?_
    refine ax_goto (tgt := 39) O d_Mo_isWhite_35 (by decide) ?_
    exact ax_retE O hE hf rfl d_Mo_isWhite_39
  · rw [if_neg q1] at hf
    refine ax_iload_n O d_Mo_isWhite_4 rfl 0 rfl ?_
    refine ax_bipush (v := 9) O d_Mo_isWhite_5 (by decide) ?_
    refine ax_icmp_eq (tgt := 34) O d_Mo_isWhite_7 (by decide) (fun q2 => ?_) (fun q2 => ?_)
    · rw [if_pos q2] at hf
      refine ax_iconst (v := 1) O d_Mo_isWhite_34 (by decide) ?_
      refine ax_goto (tgt := 39) O d_Mo_isWhite_35 (by decide) ?_
      exact ax_retE O hE hf rfl d_Mo_isWhite_39
    · rw [if_neg q2] at hf
      refine ax_iload_n O d_Mo_isWhite_10 rfl 0 rfl ?_
      refine ax_bipush (v := 10) O d_Mo_isWhite_11 (by decide) ?_
      refine ax_icmp_eq (tgt := 34) O d_Mo_isWhite_13 (by decide) (fun q3 => ?_) (fun q3 => ?_)
      · rw [if_pos q3] at hf
        refine ax_iconst (v := 1) O d_Mo_isWhite_34 (by decide) ?_
        refine ax_goto (tgt := 39) O d_Mo_isWhite_35 (by decide) ?_
        exact ax_retE O hE hf rfl d_Mo_isWhite_39
      · rw [if_neg q3] at hf
        refine ax_iload_n O d_Mo_isWhite_16 rfl 0 rfl ?_
        refine ax_bipush (v := 12) O d_Mo_isWhite_17 (by decide) ?_
        refine ax_icmp_eq (tgt := 34) O d_Mo_isWhite_19 (by decide) (fun q4 => ?_) (fun q4 => ?_)
        · rw [if_pos q4] at hf
          refine ax_iconst (v := 1) O d_Mo_isWhite_34 (by decide) ?_
          refine ax_goto (tgt := 39) O d_Mo_isWhite_35 (by decide) ?_
          exact ax_retE O hE hf rfl d_Mo_isWhite_39
        · rw [if_neg q4] at hf
          refine ax_iload_n O d_Mo_isWhite_22 rfl 0 rfl ?_
          refine ax_bipush (v := 13) O d_Mo_isWhite_23 (by decide) ?_
          refine ax_icmp_eq (tgt := 34) O d_Mo_isWhite_25 (by decide) (fun q5 => ?_) (fun q5 => ?_)
          · rw [if_pos q5] at hf
            refine ax_iconst (v := 1) O d_Mo_isWhite_34 (by decide) ?_
            refine ax_goto (tgt := 39) O d_Mo_isWhite_35 (by decide) ?_
            exact ax_retE O hE hf rfl d_Mo_isWhite_39
          · rw [if_neg q5] at hf
            refine ax_iload_n O d_Mo_isWhite_28 rfl 0 rfl ?_
            refine ax_bipush (v := 32) O d_Mo_isWhite_29 (by decide) ?_
            refine ax_icmp_ne (tgt := 38) O d_Mo_isWhite_31 (by decide) (fun q6 => ?_) (fun q6 => ?_)
            · rw [if_neg q6] at hf
              refine ax_iconst (v := 0) O d_Mo_isWhite_38 (by decide) ?_
              exact ax_retE O hE hf rfl d_Mo_isWhite_39
            · rw [if_pos q6] at hf
              refine ax_iconst (v := 1) O d_Mo_isWhite_34 (by decide) ?_
              refine ax_goto (tgt := 39) O d_Mo_isWhite_35 (by decide) ?_
              exact ax_retE O hE hf rfl d_Mo_isWhite_39
theorem c_Mo_isWhite {ln : Launch} {n0 : Nat} {h0 h' : mH} {x0 : Int32} {r' : Int32} (hf : f_Mo_isWhite n0 h0 x0 = some (r', h')) : mMet ln y_Mo_isWhite b_Mo_isWhite 1 (some .boolean) (mR 0 0) [.int x0] h0 (some (.int r')) h' := mMet_of (by decide +kernel) (Nat.le_of_ble_eq_true rfl) (fun X ad O hE => cb_Mo_isWhite O r' h' hE n0 h0 x0 hf)
/-! ===== StreamFiltersModel.giveWord(JI)V ===== -/
theorem d_Mo_giveWord_0 : decode b_Mo_giveWord 0 = .ok (.lload_n 1, 1) := by decide +kernel
theorem d_Mo_giveWord_1 : decode b_Mo_giveWord 1 = .ok (.ldc2_w 201, 3) := by decide +kernel
theorem d_Mo_giveWord_4 : decode b_Mo_giveWord 4 = .ok (.lcmp, 1) := by decide +kernel
theorem d_Mo_giveWord_5 : decode b_Mo_giveWord 5 = .ok (.ifCond .le 10, 3) := by decide +kernel
theorem d_Mo_giveWord_8 : decode b_Mo_giveWord 8 = .ok (.aload_n 0, 1) := by decide +kernel
theorem d_Mo_giveWord_9 : decode b_Mo_giveWord 9 = .ok (.bipush 11, 2) := by decide +kernel
theorem d_Mo_giveWord_11 : decode b_Mo_giveWord 11 = .ok (.invokevirtual 99, 3) := by decide +kernel
theorem d_Mo_giveWord_14 : decode b_Mo_giveWord 14 = .ok (.return_, 1) := by decide +kernel
theorem d_Mo_giveWord_15 : decode b_Mo_giveWord 15 = .ok (.iconst 0, 1) := by decide +kernel
theorem d_Mo_giveWord_16 : decode b_Mo_giveWord 16 = .ok (.istore 4, 2) := by decide +kernel
theorem d_Mo_giveWord_18 : decode b_Mo_giveWord 18 = .ok (.iload 4, 2) := by decide +kernel
theorem d_Mo_giveWord_20 : decode b_Mo_giveWord 20 = .ok (.iload_n 3, 1) := by decide +kernel
theorem d_Mo_giveWord_21 : decode b_Mo_giveWord 21 = .ok (.if_icmp .ge 28, 3) := by decide +kernel
theorem d_Mo_giveWord_24 : decode b_Mo_giveWord 24 = .ok (.aload_n 0, 1) := by decide +kernel
theorem d_Mo_giveWord_25 : decode b_Mo_giveWord 25 = .ok (.lload_n 1, 1) := by decide +kernel
theorem d_Mo_giveWord_26 : decode b_Mo_giveWord 26 = .ok (.bipush 24, 2) := by decide +kernel
theorem d_Mo_giveWord_28 : decode b_Mo_giveWord 28 = .ok (.bipush 8, 2) := by decide +kernel
theorem d_Mo_giveWord_30 : decode b_Mo_giveWord 30 = .ok (.iload 4, 2) := by decide +kernel
theorem d_Mo_giveWord_32 : decode b_Mo_giveWord 32 = .ok (.imul, 1) := by decide +kernel
theorem d_Mo_giveWord_33 : decode b_Mo_giveWord 33 = .ok (.isub, 1) := by decide +kernel
theorem d_Mo_giveWord_34 : decode b_Mo_giveWord 34 = .ok (.lshr, 1) := by decide +kernel
theorem d_Mo_giveWord_35 : decode b_Mo_giveWord 35 = .ok (.ldc2_w 203, 3) := by decide +kernel
theorem d_Mo_giveWord_38 : decode b_Mo_giveWord 38 = .ok (.land, 1) := by decide +kernel
theorem d_Mo_giveWord_39 : decode b_Mo_giveWord 39 = .ok (.l2i, 1) := by decide +kernel
theorem d_Mo_giveWord_40 : decode b_Mo_giveWord 40 = .ok (.invokevirtual 157, 3) := by decide +kernel
theorem d_Mo_giveWord_43 : decode b_Mo_giveWord 43 = .ok (.iinc 4 1, 3) := by decide +kernel
theorem d_Mo_giveWord_46 : decode b_Mo_giveWord 46 = .ok (.goto (-28), 3) := by decide +kernel
theorem d_Mo_giveWord_49 : decode b_Mo_giveWord 49 = .ok (.return_, 1) := by decide +kernel
noncomputable def f_Mo_giveWord_L18  (n0 : Nat) : Nat → mH → Nat → Int64 → Int32 → Int32 → Option (Unit × mH)
  | 0, _, _, _, _, _ => none
  | n + 1, h0, a0, y1, x3, x4 =>
    if x3 ≤ x4 then
      some ((), h0)
    else
      mis h0 a0 10 <|
      mcl (f_Mo_give n0 h0 a0 (((y1 >>> ((24 - (8 * x4)).toInt64 &&& 63)) &&& 255).toInt32)) fun _ h5 =>
      mnm (x4 + 1) fun v7 =>
      (f_Mo_giveWord_L18 n0 n) h5 a0 y1 x3 v7
noncomputable def f_Mo_giveWord  (n0 : Nat) (h0 : mH) (a0 : Nat) (y1 : Int64) (x3 : Int32) : Option (Unit × mH) :=
  if (lg_cmp y1 4294967295) ≤ 0 then
    f_Mo_giveWord_L18 n0 n0 h0 a0 y1 x3 0
  else
    mis h0 a0 10 <|
    mcl (f_Mo_fail n0 h0 a0 11) fun _ h10 =>
    some ((), h10)
set_option maxHeartbeats 4000000 in
set_option maxRecDepth 100000 in
theorem cb_Mo_giveWord_L18 {X : mX} {ad : Nat → Nat} {ln : Launch} (O : mO X ad R_Mo b_Mo_giveWord 5 (mR 2 42) ln) (r' : Unit) (h' : mH) (hE : mEnd X ad none none h') (n0 : Nat) : ∀ (n : Nat) (h0 : mH) (a0 : Nat) (y1 : Int64) (x3 : Int32) (x4 : Int32), f_Mo_giveWord_L18 n0 n h0 a0 y1 x3 x4 = some (r', h') → mAW X ad 0 0 18 [(0, .ref a0), (1, .long y1), (3, .int x3), (4, .int x4)] [] h0 := by
  intro n
  induction n with
  | zero =>
    intro h0 a0 y1 x3 x4 hf
    rw [f_Mo_giveWord_L18.eq_1] at hf
    cases hf
  | succ n ih =>
    intro h0 a0 y1 x3 x4 hf
    rw [f_Mo_giveWord_L18.eq_2] at hf
    refine ax_iload O d_Mo_giveWord_18 3 rfl ?_
    refine ax_iload_n O d_Mo_giveWord_20 rfl 2 rfl ?_
    refine ax_icmp_ge (tgt := 49) O d_Mo_giveWord_21 (by decide) (fun q2 => ?_) (fun q2 => ?_)
    · rw [if_pos q2] at hf
      exact ax_vretE O hE hf d_Mo_giveWord_49
    · rw [if_neg q2] at hf
      refine ax_aload_n O d_Mo_giveWord_24 rfl 0 rfl ?_
      refine ax_lload_n O d_Mo_giveWord_25 rfl 1 rfl ?_
      refine ax_bipush (v := 24) O d_Mo_giveWord_26 (by decide) ?_
      refine ax_bipush (v := 8) O d_Mo_giveWord_28 (by decide) ?_
      refine ax_iload O d_Mo_giveWord_30 3 rfl ?_
      refine ax_imul O d_Mo_giveWord_32 ?_
      refine ax_isub O d_Mo_giveWord_33 ?_
      refine ax_lshr O d_Mo_giveWord_34 ?_
      refine ax_ldc2 (v := 255) O d_Mo_giveWord_35 wd_14 ?_
      refine ax_land O d_Mo_giveWord_38 ?_
      refine ax_l2i O d_Mo_giveWord_39 ?_
      obtain ⟨fh5, ch5, hf⟩ := mis_some hf
      obtain ⟨u6, h5, mh5, hf⟩ := mcl_some hf
      refine ax_callV (As := [.int (((y1 >>> ((24 - (8 * x4)).toInt64 &&& 63)) &&& 255).toInt32)]) (rest := []) O cw_Mo_give (q := (R_Mo, T_Mo, 31)) rfl rfl in_Mo_give se_Mo_give lk_Mo_157 ch5 (c_Mo_give mh5) rfl ⟨rfl, rfl⟩ (by decide) (by decide) (Nat.le_of_ble_eq_true rfl) d_Mo_giveWord_40 ?_
      obtain ⟨v7, ev7, hf⟩ := mnm_some hf
      refine ax_iinc (j := 3) (v := v7) (lv' := [(4, .int v7), (0, .ref a0), (1, .long y1), (3, .int x3)]) O d_Mo_giveWord_43 rfl (by rw [ev7]; rfl) (by decide) rfl ?_
      refine ax_goto (tgt := 18) O d_Mo_giveWord_46 (by decide) ?_
      refine ax_sub [1, 2, 3, 0] rfl ?_
      exact ih _ _ _ _ _ hf
set_option maxHeartbeats 4000000 in
set_option maxRecDepth 100000 in
theorem cb_Mo_giveWord {X : mX} {ad : Nat → Nat} {ln : Launch} (O : mO X ad R_Mo b_Mo_giveWord 5 (mR 2 42) ln) (r' : Unit) (h' : mH) (hE : mEnd X ad none none h') (n0 : Nat) (h0 : mH) (a0 : Nat) (y1 : Int64) (x3 : Int32) (hf : f_Mo_giveWord n0 h0 a0 y1 x3 = some (r', h')) : mAW X ad 0 0 0 [(0, .ref a0), (1, .long y1), (3, .int x3)] [] h0 := by
  unfold f_Mo_giveWord at hf
  refine ax_lload_n O d_Mo_giveWord_0 rfl 1 rfl ?_
  refine ax_ldc2 (v := 4294967295) O d_Mo_giveWord_1 wd_13 ?_
  refine ax_lcmp O d_Mo_giveWord_4 ?_
  refine ax_if_le (tgt := 15) O d_Mo_giveWord_5 (by decide) (fun q1 => ?_) (fun q1 => ?_)
  · rw [if_pos q1] at hf
    refine ax_iconst (v := 0) O d_Mo_giveWord_15 (by decide) ?_
    refine ax_istore (lv' := [(4, .int 0), (0, .ref a0), (1, .long y1), (3, .int x3)]) O d_Mo_giveWord_16 (by decide) rfl ?_
    refine ax_sub [1, 2, 3, 0] rfl ?_
    exact cb_Mo_giveWord_L18 O _ _ hE n0 n0 _ _ _ _ _ hf
  · rw [if_neg q1] at hf
    refine ax_aload_n O d_Mo_giveWord_8 rfl 0 rfl ?_
    refine ax_bipush (v := 11) O d_Mo_giveWord_9 (by decide) ?_
    obtain ⟨fh10, ch10, hf⟩ := mis_some hf
    obtain ⟨u11, h10, mh10, hf⟩ := mcl_some hf
    refine ax_callV (As := [.int 11]) (rest := []) O cw_Mo_fail (q := (R_Mo, T_Mo, 31)) rfl rfl in_Mo_fail se_Mo_fail lk_Mo_99 ch10 (c_Mo_fail mh10) rfl ⟨rfl, rfl⟩ (by decide) (by decide) (Nat.le_of_ble_eq_true rfl) d_Mo_giveWord_11 ?_
    exact ax_vretE O hE hf d_Mo_giveWord_14
theorem c_Mo_giveWord {ln : Launch} {n0 : Nat} {h0 h' : mH} {a0 : Nat} {y1 : Int64} {x3 : Int32} {r' : Unit} (hf : f_Mo_giveWord n0 h0 a0 y1 x3 = some (r', h')) : mMet ln y_Mo_giveWord b_Mo_giveWord 5 none (mR 2 42) [.ref a0, .long y1, .int x3] h0 none h' := mMet_of (by decide +kernel) (Nat.le_of_ble_eq_true rfl) (fun X ad O hE => cb_Mo_giveWord O r' h' hE n0 h0 a0 y1 x3 hf)
/-! ===== StreamFiltersModel.text85()V ===== -/
theorem d_Mo_text85_0 : decode b_Mo_text85 0 = .ok (.lconst 0, 1) := by decide +kernel
theorem d_Mo_text85_1 : decode b_Mo_text85 1 = .ok (.lstore_n 1, 1) := by decide +kernel
theorem d_Mo_text85_2 : decode b_Mo_text85 2 = .ok (.iconst 0, 1) := by decide +kernel
theorem d_Mo_text85_3 : decode b_Mo_text85 3 = .ok (.istore_n 3, 1) := by decide +kernel
theorem d_Mo_text85_4 : decode b_Mo_text85 4 = .ok (.iconst 1, 1) := by decide +kernel
theorem d_Mo_text85_5 : decode b_Mo_text85 5 = .ok (.istore 4, 2) := by decide +kernel
theorem d_Mo_text85_7 : decode b_Mo_text85 7 = .ok (.iload 4, 2) := by decide +kernel
theorem d_Mo_text85_9 : decode b_Mo_text85 9 = .ok (.ifCond .eq 154, 3) := by decide +kernel
theorem d_Mo_text85_12 : decode b_Mo_text85 12 = .ok (.aload_n 0, 1) := by decide +kernel
theorem d_Mo_text85_13 : decode b_Mo_text85 13 = .ok (.invokevirtual 89, 3) := by decide +kernel
theorem d_Mo_text85_16 : decode b_Mo_text85 16 = .ok (.ifCond .eq 147, 3) := by decide +kernel
theorem d_Mo_text85_19 : decode b_Mo_text85 19 = .ok (.aload_n 0, 1) := by decide +kernel
theorem d_Mo_text85_20 : decode b_Mo_text85 20 = .ok (.invokevirtual 112, 3) := by decide +kernel
theorem d_Mo_text85_23 : decode b_Mo_text85 23 = .ok (.istore 5, 2) := by decide +kernel
theorem d_Mo_text85_25 : decode b_Mo_text85 25 = .ok (.aload_n 0, 1) := by decide +kernel
theorem d_Mo_text85_26 : decode b_Mo_text85 26 = .ok (.invokevirtual 89, 3) := by decide +kernel
theorem d_Mo_text85_29 : decode b_Mo_text85 29 = .ok (.ifCond .eq (-22), 3) := by decide +kernel
theorem d_Mo_text85_32 : decode b_Mo_text85 32 = .ok (.iload 5, 2) := by decide +kernel
theorem d_Mo_text85_34 : decode b_Mo_text85 34 = .ok (.invokestatic 205, 3) := by decide +kernel
theorem d_Mo_text85_37 : decode b_Mo_text85 37 = .ok (.ifCond .eq 6, 3) := by decide +kernel
theorem d_Mo_text85_40 : decode b_Mo_text85 40 = .ok (.goto (-33), 3) := by decide +kernel
theorem d_Mo_text85_43 : decode b_Mo_text85 43 = .ok (.iload 5, 2) := by decide +kernel
theorem d_Mo_text85_45 : decode b_Mo_text85 45 = .ok (.bipush 33, 2) := by decide +kernel
theorem d_Mo_text85_47 : decode b_Mo_text85 47 = .ok (.bipush 117, 2) := by decide +kernel
theorem d_Mo_text85_49 : decode b_Mo_text85 49 = .ok (.invokestatic 75, 3) := by decide +kernel
theorem d_Mo_text85_52 : decode b_Mo_text85 52 = .ok (.ifCond .eq 38, 3) := by decide +kernel
theorem d_Mo_text85_55 : decode b_Mo_text85 55 = .ok (.lload_n 1, 1) := by decide +kernel
theorem d_Mo_text85_56 : decode b_Mo_text85 56 = .ok (.ldc2_w 208, 3) := by decide +kernel
theorem d_Mo_text85_59 : decode b_Mo_text85 59 = .ok (.lmul, 1) := by decide +kernel
theorem d_Mo_text85_60 : decode b_Mo_text85 60 = .ok (.iload 5, 2) := by decide +kernel
theorem d_Mo_text85_62 : decode b_Mo_text85 62 = .ok (.i2l, 1) := by decide +kernel
theorem d_Mo_text85_63 : decode b_Mo_text85 63 = .ok (.ladd, 1) := by decide +kernel
theorem d_Mo_text85_64 : decode b_Mo_text85 64 = .ok (.ldc2_w 210, 3) := by decide +kernel
theorem d_Mo_text85_67 : decode b_Mo_text85 67 = .ok (.lsub, 1) := by decide +kernel
theorem d_Mo_text85_68 : decode b_Mo_text85 68 = .ok (.lstore_n 1, 1) := by decide +kernel
theorem d_Mo_text85_69 : decode b_Mo_text85 69 = .ok (.iinc 3 1, 3) := by decide +kernel
theorem d_Mo_text85_72 : decode b_Mo_text85 72 = .ok (.iload_n 3, 1) := by decide +kernel
theorem d_Mo_text85_73 : decode b_Mo_text85 73 = .ok (.iconst 5, 1) := by decide +kernel
theorem d_Mo_text85_74 : decode b_Mo_text85 74 = .ok (.if_icmp .ne 86, 3) := by decide +kernel
theorem d_Mo_text85_77 : decode b_Mo_text85 77 = .ok (.aload_n 0, 1) := by decide +kernel
theorem d_Mo_text85_78 : decode b_Mo_text85 78 = .ok (.lload_n 1, 1) := by decide +kernel
theorem d_Mo_text85_79 : decode b_Mo_text85 79 = .ok (.iconst 4, 1) := by decide +kernel
theorem d_Mo_text85_80 : decode b_Mo_text85 80 = .ok (.invokevirtual 212, 3) := by decide +kernel
theorem d_Mo_text85_83 : decode b_Mo_text85 83 = .ok (.lconst 0, 1) := by decide +kernel
theorem d_Mo_text85_84 : decode b_Mo_text85 84 = .ok (.lstore_n 1, 1) := by decide +kernel
theorem d_Mo_text85_85 : decode b_Mo_text85 85 = .ok (.iconst 0, 1) := by decide +kernel
theorem d_Mo_text85_86 : decode b_Mo_text85 86 = .ok (.istore_n 3, 1) := by decide +kernel
theorem d_Mo_text85_87 : decode b_Mo_text85 87 = .ok (.goto 73, 3) := by decide +kernel
theorem d_Mo_text85_90 : decode b_Mo_text85 90 = .ok (.iload 5, 2) := by decide +kernel
theorem d_Mo_text85_92 : decode b_Mo_text85 92 = .ok (.bipush 122, 2) := by decide +kernel
theorem d_Mo_text85_94 : decode b_Mo_text85 94 = .ok (.if_icmp .ne 16, 3) := by decide +kernel
theorem d_Mo_text85_97 : decode b_Mo_text85 97 = .ok (.iload_n 3, 1) := by decide +kernel
theorem d_Mo_text85_98 : decode b_Mo_text85 98 = .ok (.ifCond .ne 12, 3) := by decide +kernel
theorem d_Mo_text85_101 : decode b_Mo_text85 101 = .ok (.aload_n 0, 1) := by decide +kernel
theorem d_Mo_text85_102 : decode b_Mo_text85 102 = .ok (.lconst 0, 1) := by decide +kernel
theorem d_Mo_text85_103 : decode b_Mo_text85 103 = .ok (.iconst 4, 1) := by decide +kernel
theorem d_Mo_text85_104 : decode b_Mo_text85 104 = .ok (.invokevirtual 212, 3) := by decide +kernel
theorem d_Mo_text85_107 : decode b_Mo_text85 107 = .ok (.goto 53, 3) := by decide +kernel
theorem d_Mo_text85_110 : decode b_Mo_text85 110 = .ok (.iload 5, 2) := by decide +kernel
theorem d_Mo_text85_112 : decode b_Mo_text85 112 = .ok (.bipush 126, 2) := by decide +kernel
theorem d_Mo_text85_114 : decode b_Mo_text85 114 = .ok (.if_icmp .ne 40, 3) := by decide +kernel
theorem d_Mo_text85_117 : decode b_Mo_text85 117 = .ok (.aload_n 0, 1) := by decide +kernel
theorem d_Mo_text85_118 : decode b_Mo_text85 118 = .ok (.invokevirtual 112, 3) := by decide +kernel
theorem d_Mo_text85_121 : decode b_Mo_text85 121 = .ok (.istore 6, 2) := by decide +kernel
theorem d_Mo_text85_123 : decode b_Mo_text85 123 = .ok (.aload_n 0, 1) := by decide +kernel
theorem d_Mo_text85_124 : decode b_Mo_text85 124 = .ok (.invokevirtual 89, 3) := by decide +kernel
theorem d_Mo_text85_127 : decode b_Mo_text85 127 = .ok (.ifCond .eq 21, 3) := by decide +kernel
theorem d_Mo_text85_130 : decode b_Mo_text85 130 = .ok (.iload 6, 2) := by decide +kernel
theorem d_Mo_text85_132 : decode b_Mo_text85 132 = .ok (.bipush 62, 2) := by decide +kernel
theorem d_Mo_text85_134 : decode b_Mo_text85 134 = .ok (.if_icmp .ne 8, 3) := by decide +kernel
theorem d_Mo_text85_137 : decode b_Mo_text85 137 = .ok (.iload_n 3, 1) := by decide +kernel
theorem d_Mo_text85_138 : decode b_Mo_text85 138 = .ok (.iconst 1, 1) := by decide +kernel
theorem d_Mo_text85_139 : decode b_Mo_text85 139 = .ok (.if_icmp .ne 9, 3) := by decide +kernel
theorem d_Mo_text85_142 : decode b_Mo_text85 142 = .ok (.aload_n 0, 1) := by decide +kernel
theorem d_Mo_text85_143 : decode b_Mo_text85 143 = .ok (.bipush 12, 2) := by decide +kernel
theorem d_Mo_text85_145 : decode b_Mo_text85 145 = .ok (.invokevirtual 99, 3) := by decide +kernel
theorem d_Mo_text85_148 : decode b_Mo_text85 148 = .ok (.iconst 0, 1) := by decide +kernel
theorem d_Mo_text85_149 : decode b_Mo_text85 149 = .ok (.istore 4, 2) := by decide +kernel
theorem d_Mo_text85_151 : decode b_Mo_text85 151 = .ok (.goto 9, 3) := by decide +kernel
theorem d_Mo_text85_154 : decode b_Mo_text85 154 = .ok (.aload_n 0, 1) := by decide +kernel
theorem d_Mo_text85_155 : decode b_Mo_text85 155 = .ok (.bipush 12, 2) := by decide +kernel
theorem d_Mo_text85_157 : decode b_Mo_text85 157 = .ok (.invokevirtual 99, 3) := by decide +kernel
theorem d_Mo_text85_160 : decode b_Mo_text85 160 = .ok (.goto (-153), 3) := by decide +kernel
theorem d_Mo_text85_163 : decode b_Mo_text85 163 = .ok (.aload_n 0, 1) := by decide +kernel
theorem d_Mo_text85_164 : decode b_Mo_text85 164 = .ok (.invokevirtual 89, 3) := by decide +kernel
theorem d_Mo_text85_167 : decode b_Mo_text85 167 = .ok (.ifCond .eq 41, 3) := by decide +kernel
theorem d_Mo_text85_170 : decode b_Mo_text85 170 = .ok (.iload_n 3, 1) := by decide +kernel
theorem d_Mo_text85_171 : decode b_Mo_text85 171 = .ok (.iconst 1, 1) := by decide +kernel
theorem d_Mo_text85_172 : decode b_Mo_text85 172 = .ok (.if_icmp .le 36, 3) := by decide +kernel
theorem d_Mo_text85_175 : decode b_Mo_text85 175 = .ok (.iload_n 3, 1) := by decide +kernel
theorem d_Mo_text85_176 : decode b_Mo_text85 176 = .ok (.istore 5, 2) := by decide +kernel
theorem d_Mo_text85_178 : decode b_Mo_text85 178 = .ok (.iload 5, 2) := by decide +kernel
theorem d_Mo_text85_180 : decode b_Mo_text85 180 = .ok (.iconst 5, 1) := by decide +kernel
theorem d_Mo_text85_181 : decode b_Mo_text85 181 = .ok (.if_icmp .ge 19, 3) := by decide +kernel
theorem d_Mo_text85_184 : decode b_Mo_text85 184 = .ok (.lload_n 1, 1) := by decide +kernel
theorem d_Mo_text85_185 : decode b_Mo_text85 185 = .ok (.ldc2_w 208, 3) := by decide +kernel
theorem d_Mo_text85_188 : decode b_Mo_text85 188 = .ok (.lmul, 1) := by decide +kernel
theorem d_Mo_text85_189 : decode b_Mo_text85 189 = .ok (.ldc2_w 216, 3) := by decide +kernel
theorem d_Mo_text85_192 : decode b_Mo_text85 192 = .ok (.ladd, 1) := by decide +kernel
theorem d_Mo_text85_193 : decode b_Mo_text85 193 = .ok (.lstore_n 1, 1) := by decide +kernel
theorem d_Mo_text85_194 : decode b_Mo_text85 194 = .ok (.iinc 5 1, 3) := by decide +kernel
theorem d_Mo_text85_197 : decode b_Mo_text85 197 = .ok (.goto (-19), 3) := by decide +kernel
theorem d_Mo_text85_200 : decode b_Mo_text85 200 = .ok (.aload_n 0, 1) := by decide +kernel
theorem d_Mo_text85_201 : decode b_Mo_text85 201 = .ok (.lload_n 1, 1) := by decide +kernel
theorem d_Mo_text85_202 : decode b_Mo_text85 202 = .ok (.iload_n 3, 1) := by decide +kernel
theorem d_Mo_text85_203 : decode b_Mo_text85 203 = .ok (.iconst 1, 1) := by decide +kernel
theorem d_Mo_text85_204 : decode b_Mo_text85 204 = .ok (.isub, 1) := by decide +kernel
theorem d_Mo_text85_205 : decode b_Mo_text85 205 = .ok (.invokevirtual 212, 3) := by decide +kernel
theorem d_Mo_text85_208 : decode b_Mo_text85 208 = .ok (.return_, 1) := by decide +kernel
noncomputable def f_Mo_text85_L178  (n0 : Nat) : Nat → mH → Nat → Int64 → Int32 → Int32 → Option (Unit × mH)
  | 0, _, _, _, _, _ => none
  | n + 1, h0, a0, y1, x3, x5 =>
    if 5 ≤ x5 then
      mis h0 a0 10 <|
      mcl (f_Mo_giveWord n0 h0 a0 y1 (x3 - 1)) fun _ h10 =>
      some ((), h10)
    else
      mnm ((y1 * 85) + 84) fun v12 =>
      mnm (x5 + 1) fun v13 =>
      (f_Mo_text85_L178 n0 n) h0 a0 v12 x3 v13
noncomputable def f_Mo_text85_B163  (n0 : Nat) (h0 : mH) (a0 : Nat) (y1 : Int64) (x3 : Int32) : Option (Unit × mH) :=
  mis h0 a0 10 <|
  mcl (f_Mo_isGood n0 h0 a0) fun v3 h4 =>
  if v3 = 0 then
    some ((), h4)
  else
    if x3 ≤ 1 then
      some ((), h4)
    else
      f_Mo_text85_L178 n0 n0 h4 a0 y1 x3 x3
noncomputable def f_Mo_text85_B148 (K7 : mH → Nat → Int64 → Int32 → Int32 → Option (Unit × mH)) (n0 : Nat) (h0 : mH) (a0 : Nat) (y1 : Int64) (x3 : Int32) : Option (Unit × mH) :=
  K7 h0 a0 y1 x3 0
noncomputable def f_Mo_text85_B142 (K7 : mH → Nat → Int64 → Int32 → Int32 → Option (Unit × mH)) (n0 : Nat) (h0 : mH) (a0 : Nat) (y1 : Int64) (x3 : Int32) : Option (Unit × mH) :=
  mis h0 a0 10 <|
  mcl (f_Mo_fail n0 h0 a0 12) fun _ h49 =>
  f_Mo_text85_B148 K7 n0 h49 a0 y1 x3
noncomputable def f_Mo_text85_B110 (K7 : mH → Nat → Int64 → Int32 → Int32 → Option (Unit × mH)) (n0 : Nat) (h0 : mH) (a0 : Nat) (y1 : Int64) (x3 : Int32) (x4 : Int32) (x5 : Int32) : Option (Unit × mH) :=
  if x5 = 126 then
    mis h0 a0 10 <|
    mcl (f_Mo_next n0 h0 a0) fun v40 h41 =>
    mis h41 a0 10 <|
    mcl (f_Mo_isGood n0 h41 a0) fun v43 h44 =>
    if v43 = 0 then
      f_Mo_text85_B148 K7 n0 h44 a0 y1 x3
    else
      if v40 = 62 then
        if x3 = 1 then
          f_Mo_text85_B142 K7 n0 h44 a0 y1 x3
        else
          f_Mo_text85_B148 K7 n0 h44 a0 y1 x3
      else
        f_Mo_text85_B142 K7 n0 h44 a0 y1 x3
  else
    mis h0 a0 10 <|
    mcl (f_Mo_fail n0 h0 a0 12) fun _ h37 =>
    K7 h37 a0 y1 x3 x4
noncomputable def f_Mo_text85_L7  (n0 : Nat) : Nat → mH → Nat → Int64 → Int32 → Int32 → Option (Unit × mH)
  | 0, _, _, _, _, _ => none
  | n + 1, h0, a0, y1, x3, x4 =>
    if x4 = 0 then
      f_Mo_text85_B163 n0 h0 a0 y1 x3
    else
      mis h0 a0 10 <|
      mcl (f_Mo_isGood n0 h0 a0) fun v15 h16 =>
      if v15 = 0 then
        f_Mo_text85_B163 n0 h16 a0 y1 x3
      else
        mis h16 a0 10 <|
        mcl (f_Mo_next n0 h16 a0) fun v19 h20 =>
        mis h20 a0 10 <|
        mcl (f_Mo_isGood n0 h20 a0) fun v22 h23 =>
        if v22 = 0 then
          (f_Mo_text85_L7 n0 n) h23 a0 y1 x3 x4
        else
          mcl (f_Mo_isWhite n0 h23 v19) fun v26 h27 =>
          if v26 = 0 then
            mcl (f_Mo_isIn n0 h27 v19 33 117) fun v30 h31 =>
            if v30 = 0 then
              if v19 = 122 then
                if x3 = 0 then
                  mis h31 a0 10 <|
                  mcl (f_Mo_giveWord n0 h31 a0 0 4) fun _ h55 =>
                  (f_Mo_text85_L7 n0 n) h55 a0 y1 x3 x4
                else
                  f_Mo_text85_B110 (f_Mo_text85_L7 n0 n) n0 h31 a0 y1 x3 x4 v19
              else
                f_Mo_text85_B110 (f_Mo_text85_L7 n0 n) n0 h31 a0 y1 x3 x4 v19
            else
              mnm (((y1 * 85) + (v19.toInt64)) - 33) fun v57 =>
              mnm (x3 + 1) fun v58 =>
              if v58 = 5 then
                mis h31 a0 10 <|
                mcl (f_Mo_giveWord n0 h31 a0 v57 4) fun _ h62 =>
                (f_Mo_text85_L7 n0 n) h62 a0 0 0 x4
              else
                (f_Mo_text85_L7 n0 n) h31 a0 v57 v58 x4
          else
            (f_Mo_text85_L7 n0 n) h27 a0 y1 x3 x4
noncomputable def f_Mo_text85  (n0 : Nat) (h0 : mH) (a0 : Nat) : Option (Unit × mH) :=
  f_Mo_text85_L7 n0 n0 h0 a0 0 0 1
set_option maxHeartbeats 4000000 in
set_option maxRecDepth 100000 in
theorem cb_Mo_text85_L178 {X : mX} {ad : Nat → Nat} {ln : Launch} (O : mO X ad R_Mo b_Mo_text85 7 (mR 3 66) ln) (r' : Unit) (h' : mH) (hE : mEnd X ad none none h') (n0 : Nat) : ∀ (n : Nat) (h0 : mH) (a0 : Nat) (y1 : Int64) (x3 : Int32) (x5 : Int32), f_Mo_text85_L178 n0 n h0 a0 y1 x3 x5 = some (r', h') → mAW X ad 0 0 178 [(0, .ref a0), (1, .long y1), (3, .int x3), (5, .int x5)] [] h0 := by
  intro n
  induction n with
  | zero =>
    intro h0 a0 y1 x3 x5 hf
    rw [f_Mo_text85_L178.eq_1] at hf
    cases hf
  | succ n ih =>
    intro h0 a0 y1 x3 x5 hf
    rw [f_Mo_text85_L178.eq_2] at hf
    refine ax_iload O d_Mo_text85_178 3 rfl ?_
    refine ax_iconst (v := 5) O d_Mo_text85_180 (by decide) ?_
    refine ax_icmp_ge (tgt := 200) O d_Mo_text85_181 (by decide) (fun q7 => ?_) (fun q7 => ?_)
    · rw [if_pos q7] at hf
      refine ax_aload_n O d_Mo_text85_200 rfl 0 rfl ?_
      refine ax_lload_n O d_Mo_text85_201 rfl 1 rfl ?_
      refine ax_iload_n O d_Mo_text85_202 rfl 2 rfl ?_
      refine ax_iconst (v := 1) O d_Mo_text85_203 (by decide) ?_
      refine ax_isub O d_Mo_text85_204 ?_
      obtain ⟨fh10, ch10, hf⟩ := mis_some hf
      obtain ⟨u11, h10, mh10, hf⟩ := mcl_some hf
      refine ax_callV (As := [.long y1, .int (x3 - 1)]) (rest := []) O cw_Mo_giveWord (q := (R_Mo, T_Mo, 31)) rfl rfl in_Mo_giveWord se_Mo_giveWord lk_Mo_212 ch10 (c_Mo_giveWord mh10) rfl ⟨rfl, rfl⟩ (by decide) (by decide) (Nat.le_of_ble_eq_true rfl) d_Mo_text85_205 ?_
      exact ax_vretE O hE hf d_Mo_text85_208
    · rw [if_neg q7] at hf
      refine ax_lload_n O d_Mo_text85_184 rfl 1 rfl ?_
      refine ax_ldc2 (v := 85) O d_Mo_text85_185 wd_15 ?_
      refine ax_lmul O d_Mo_text85_188 ?_
      refine ax_ldc2 (v := 84) O d_Mo_text85_189 wd_16 ?_
      refine ax_ladd O d_Mo_text85_192 ?_
      obtain ⟨v12, ev12, hf⟩ := mnm_some hf
      refine ax_nml ev12 ?_
      refine ax_lstore_n (lv' := [(1, .long v12), (0, .ref a0), (3, .int x3), (5, .int x5)]) O d_Mo_text85_193 rfl (by decide) rfl ?_
      obtain ⟨v13, ev13, hf⟩ := mnm_some hf
      refine ax_iinc (j := 3) (v := v13) (lv' := [(5, .int v13), (1, .long v12), (0, .ref a0), (3, .int x3)]) O d_Mo_text85_194 rfl (by rw [ev13]; rfl) (by decide) rfl ?_
      refine ax_goto (tgt := 178) O d_Mo_text85_197 (by decide) ?_
      refine ax_sub [2, 1, 3, 0] rfl ?_
      exact ih _ _ _ _ _ hf
set_option maxHeartbeats 4000000 in
set_option maxRecDepth 100000 in
theorem cb_Mo_text85_B163 {X : mX} {ad : Nat → Nat} {ln : Launch} (O : mO X ad R_Mo b_Mo_text85 7 (mR 3 66) ln) (r' : Unit) (h' : mH) (hE : mEnd X ad none none h') (n0 : Nat) (h0 : mH) (a0 : Nat) (y1 : Int64) (x3 : Int32) (hf : f_Mo_text85_B163 n0 h0 a0 y1 x3 = some (r', h')) : mAW X ad 0 0 163 [(0, .ref a0), (1, .long y1), (3, .int x3)] [] h0 := by
  unfold f_Mo_text85_B163 at hf
  refine ax_aload_n O d_Mo_text85_163 rfl 0 rfl ?_
  obtain ⟨fh4, ch4, hf⟩ := mis_some hf
  obtain ⟨v3, h4, mh4, hf⟩ := mcl_some hf
  refine ax_callV (As := []) (rest := []) O cw_Mo_isGood (q := (R_Mo, T_Mo, 31)) rfl rfl in_Mo_isGood se_Mo_isGood lk_Mo_89 ch4 (c_Mo_isGood mh4) rfl ⟨rfl, rfl⟩ (by decide) (by decide) (Nat.le_of_ble_eq_true rfl) d_Mo_text85_164 ?_
  refine ax_if_eq (tgt := 208) O d_Mo_text85_167 (by decide) (fun q5 => ?_) (fun q5 => ?_)
  · rw [if_pos q5] at hf
    exact ax_vretE O hE hf d_Mo_text85_208
  · rw [if_neg q5] at hf
    refine ax_iload_n O d_Mo_text85_170 rfl 2 rfl ?_
    refine ax_iconst (v := 1) O d_Mo_text85_171 (by decide) ?_
    refine ax_icmp_le (tgt := 208) O d_Mo_text85_172 (by decide) (fun q6 => ?_) (fun q6 => ?_)
    · rw [if_pos q6] at hf
      exact ax_vretE O hE hf d_Mo_text85_208
    · rw [if_neg q6] at hf
      refine ax_iload_n O d_Mo_text85_175 rfl 2 rfl ?_
      refine ax_istore (lv' := [(5, .int x3), (0, .ref a0), (1, .long y1), (3, .int x3)]) O d_Mo_text85_176 (by decide) rfl ?_
      refine ax_sub [1, 2, 3, 0] rfl ?_
      exact cb_Mo_text85_L178 O _ _ hE n0 n0 _ _ _ _ _ hf
set_option maxHeartbeats 4000000 in
set_option maxRecDepth 100000 in
theorem cb_Mo_text85_B148 {X : mX} {ad : Nat → Nat} {ln : Launch} (O : mO X ad R_Mo b_Mo_text85 7 (mR 3 66) ln) (K7 : mH → Nat → Int64 → Int32 → Int32 → Option (Unit × mH)) (r' : Unit) (h' : mH) (hE : mEnd X ad none none h') (hK7 : ∀ (h : mH) (a0 : Nat) (y1 : Int64) (x3 : Int32) (x4 : Int32), K7 h a0 y1 x3 x4 = some (r', h') → mAW X ad 0 0 7 [(0, .ref a0), (1, .long y1), (3, .int x3), (4, .int x4)] [] h) (n0 : Nat) (h0 : mH) (a0 : Nat) (y1 : Int64) (x3 : Int32) (hf : f_Mo_text85_B148 K7 n0 h0 a0 y1 x3 = some (r', h')) : mAW X ad 0 0 148 [(0, .ref a0), (1, .long y1), (3, .int x3)] [] h0 := by
  unfold f_Mo_text85_B148 at hf
  refine ax_iconst (v := 0) O d_Mo_text85_148 (by decide) ?_
  refine ax_istore (lv' := [(4, .int 0), (0, .ref a0), (1, .long y1), (3, .int x3)]) O d_Mo_text85_149 (by decide) rfl ?_
  refine ax_goto (tgt := 160) O d_Mo_text85_151 (by decide) ?_
  refine ax_goto (tgt := 7) O d_Mo_text85_160 (by decide) ?_
  refine ax_sub [1, 2, 3, 0] rfl ?_
  exact hK7 _ _ _ _ _ hf
set_option maxHeartbeats 4000000 in
set_option maxRecDepth 100000 in
theorem cb_Mo_text85_B142 {X : mX} {ad : Nat → Nat} {ln : Launch} (O : mO X ad R_Mo b_Mo_text85 7 (mR 3 66) ln) (K7 : mH → Nat → Int64 → Int32 → Int32 → Option (Unit × mH)) (r' : Unit) (h' : mH) (hE : mEnd X ad none none h') (hK7 : ∀ (h : mH) (a0 : Nat) (y1 : Int64) (x3 : Int32) (x4 : Int32), K7 h a0 y1 x3 x4 = some (r', h') → mAW X ad 0 0 7 [(0, .ref a0), (1, .long y1), (3, .int x3), (4, .int x4)] [] h) (n0 : Nat) (h0 : mH) (a0 : Nat) (y1 : Int64) (x3 : Int32) (hf : f_Mo_text85_B142 K7 n0 h0 a0 y1 x3 = some (r', h')) : mAW X ad 0 0 142 [(0, .ref a0), (1, .long y1), (3, .int x3)] [] h0 := by
  unfold f_Mo_text85_B142 at hf
  refine ax_aload_n O d_Mo_text85_142 rfl 0 rfl ?_
  refine ax_bipush (v := 12) O d_Mo_text85_143 (by decide) ?_
  obtain ⟨fh49, ch49, hf⟩ := mis_some hf
  obtain ⟨u50, h49, mh49, hf⟩ := mcl_some hf
  refine ax_callV (As := [.int 12]) (rest := []) O cw_Mo_fail (q := (R_Mo, T_Mo, 31)) rfl rfl in_Mo_fail se_Mo_fail lk_Mo_99 ch49 (c_Mo_fail mh49) rfl ⟨rfl, rfl⟩ (by decide) (by decide) (Nat.le_of_ble_eq_true rfl) d_Mo_text85_145 ?_
  exact cb_Mo_text85_B148 O K7 _ _ hE hK7 n0 _ _ _ _ hf
set_option maxHeartbeats 4000000 in
set_option maxRecDepth 100000 in
theorem cb_Mo_text85_B110 {X : mX} {ad : Nat → Nat} {ln : Launch} (O : mO X ad R_Mo b_Mo_text85 7 (mR 3 66) ln) (K7 : mH → Nat → Int64 → Int32 → Int32 → Option (Unit × mH)) (r' : Unit) (h' : mH) (hE : mEnd X ad none none h') (hK7 : ∀ (h : mH) (a0 : Nat) (y1 : Int64) (x3 : Int32) (x4 : Int32), K7 h a0 y1 x3 x4 = some (r', h') → mAW X ad 0 0 7 [(0, .ref a0), (1, .long y1), (3, .int x3), (4, .int x4)] [] h) (n0 : Nat) (h0 : mH) (a0 : Nat) (y1 : Int64) (x3 : Int32) (x4 : Int32) (x5 : Int32) (hf : f_Mo_text85_B110 K7 n0 h0 a0 y1 x3 x4 x5 = some (r', h')) : mAW X ad 0 0 110 [(0, .ref a0), (1, .long y1), (3, .int x3), (4, .int x4), (5, .int x5)] [] h0 := by
  unfold f_Mo_text85_B110 at hf
  refine ax_iload O d_Mo_text85_110 4 rfl ?_
  refine ax_bipush (v := 126) O d_Mo_text85_112 (by decide) ?_
  refine ax_icmp_ne (tgt := 154) O d_Mo_text85_114 (by decide) (fun q34 => ?_) (fun q34 => ?_)
  · rw [if_neg q34] at hf
    refine ax_aload_n O d_Mo_text85_154 rfl 0 rfl ?_
    refine ax_bipush (v := 12) O d_Mo_text85_155 (by decide) ?_
    obtain ⟨fh37, ch37, hf⟩ := mis_some hf
    obtain ⟨u38, h37, mh37, hf⟩ := mcl_some hf
    refine ax_callV (As := [.int 12]) (rest := []) O cw_Mo_fail (q := (R_Mo, T_Mo, 31)) rfl rfl in_Mo_fail se_Mo_fail lk_Mo_99 ch37 (c_Mo_fail mh37) rfl ⟨rfl, rfl⟩ (by decide) (by decide) (Nat.le_of_ble_eq_true rfl) d_Mo_text85_157 ?_
    refine ax_goto (tgt := 7) O d_Mo_text85_160 (by decide) ?_
    refine ax_sub [0, 1, 2, 3] rfl ?_
    exact hK7 _ _ _ _ _ hf
  · rw [if_pos q34] at hf
    refine ax_aload_n O d_Mo_text85_117 rfl 0 rfl ?_
    obtain ⟨fh41, ch41, hf⟩ := mis_some hf
    obtain ⟨v40, h41, mh41, hf⟩ := mcl_some hf
    refine ax_callV (As := []) (rest := []) O cw_Mo_next (q := (R_Mo, T_Mo, 31)) rfl rfl in_Mo_next se_Mo_next lk_Mo_112 ch41 (c_Mo_next mh41) rfl ⟨rfl, rfl⟩ (by decide) (by decide) (Nat.le_of_ble_eq_true rfl) d_Mo_text85_118 ?_
    refine ax_istore (lv' := [(6, .int v40), (0, .ref a0), (1, .long y1), (3, .int x3), (4, .int x4), (5, .int x5)]) O d_Mo_text85_121 (by decide) rfl ?_
    refine ax_aload_n O d_Mo_text85_123 rfl 1 rfl ?_
    obtain ⟨fh44, ch44, hf⟩ := mis_some hf
    obtain ⟨v43, h44, mh44, hf⟩ := mcl_some hf
    refine ax_callV (As := []) (rest := []) O cw_Mo_isGood (q := (R_Mo, T_Mo, 31)) rfl rfl in_Mo_isGood se_Mo_isGood lk_Mo_89 ch44 (c_Mo_isGood mh44) rfl ⟨rfl, rfl⟩ (by decide) (by decide) (Nat.le_of_ble_eq_true rfl) d_Mo_text85_124 ?_
    refine ax_if_eq (tgt := 148) O d_Mo_text85_127 (by decide) (fun q45 => ?_) (fun q45 => ?_)
    · rw [if_pos q45] at hf
      refine ax_sub [1, 2, 3] rfl ?_
      exact cb_Mo_text85_B148 O K7 _ _ hE hK7 n0 _ _ _ _ hf
    · rw [if_neg q45] at hf
      refine ax_iload O d_Mo_text85_130 0 rfl ?_
      refine ax_bipush (v := 62) O d_Mo_text85_132 (by decide) ?_
      refine ax_icmp_ne (tgt := 142) O d_Mo_text85_134 (by decide) (fun q46 => ?_) (fun q46 => ?_)
      · rw [if_neg q46] at hf
        refine ax_sub [1, 2, 3] rfl ?_
        exact cb_Mo_text85_B142 O K7 _ _ hE hK7 n0 _ _ _ _ hf
      · rw [if_pos q46] at hf
        refine ax_iload_n O d_Mo_text85_137 rfl 3 rfl ?_
        refine ax_iconst (v := 1) O d_Mo_text85_138 (by decide) ?_
        refine ax_icmp_ne (tgt := 148) O d_Mo_text85_139 (by decide) (fun q51 => ?_) (fun q51 => ?_)
        · rw [if_neg q51] at hf
          refine ax_sub [1, 2, 3] rfl ?_
          exact cb_Mo_text85_B148 O K7 _ _ hE hK7 n0 _ _ _ _ hf
        · rw [if_pos q51] at hf
          refine ax_sub [1, 2, 3] rfl ?_
          exact cb_Mo_text85_B142 O K7 _ _ hE hK7 n0 _ _ _ _ hf
set_option maxHeartbeats 4000000 in
set_option maxRecDepth 100000 in
theorem cb_Mo_text85_L7 {X : mX} {ad : Nat → Nat} {ln : Launch} (O : mO X ad R_Mo b_Mo_text85 7 (mR 3 66) ln) (r' : Unit) (h' : mH) (hE : mEnd X ad none none h') (n0 : Nat) : ∀ (n : Nat) (h0 : mH) (a0 : Nat) (y1 : Int64) (x3 : Int32) (x4 : Int32), f_Mo_text85_L7 n0 n h0 a0 y1 x3 x4 = some (r', h') → mAW X ad 0 0 7 [(0, .ref a0), (1, .long y1), (3, .int x3), (4, .int x4)] [] h0 := by
  intro n
  induction n with
  | zero =>
    intro h0 a0 y1 x3 x4 hf
    rw [f_Mo_text85_L7.eq_1] at hf
    cases hf
  | succ n ih =>
    intro h0 a0 y1 x3 x4 hf
    rw [f_Mo_text85_L7.eq_2] at hf
    refine ax_iload O d_Mo_text85_7 3 rfl ?_
    refine ax_if_eq (tgt := 163) O d_Mo_text85_9 (by decide) (fun q1 => ?_) (fun q1 => ?_)
    · rw [if_pos q1] at hf
      refine ax_sub [0, 1, 2] rfl ?_
      exact cb_Mo_text85_B163 O _ _ hE n0 _ _ _ _ hf
    · rw [if_neg q1] at hf
      refine ax_aload_n O d_Mo_text85_12 rfl 0 rfl ?_
      obtain ⟨fh16, ch16, hf⟩ := mis_some hf
      obtain ⟨v15, h16, mh16, hf⟩ := mcl_some hf
      refine ax_callV (As := []) (rest := []) O cw_Mo_isGood (q := (R_Mo, T_Mo, 31)) rfl rfl in_Mo_isGood se_Mo_isGood lk_Mo_89 ch16 (c_Mo_isGood mh16) rfl ⟨rfl, rfl⟩ (by decide) (by decide) (Nat.le_of_ble_eq_true rfl) d_Mo_text85_13 ?_
      refine ax_if_eq (tgt := 163) O d_Mo_text85_16 (by decide) (fun q17 => ?_) (fun q17 => ?_)
      · rw [if_pos q17] at hf
        refine ax_sub [0, 1, 2] rfl ?_
        exact cb_Mo_text85_B163 O _ _ hE n0 _ _ _ _ hf
      · rw [if_neg q17] at hf
        refine ax_aload_n O d_Mo_text85_19 rfl 0 rfl ?_
        obtain ⟨fh20, ch20, hf⟩ := mis_some hf
        obtain ⟨v19, h20, mh20, hf⟩ := mcl_some hf
        refine ax_callV (As := []) (rest := []) O cw_Mo_next (q := (R_Mo, T_Mo, 31)) rfl rfl in_Mo_next se_Mo_next lk_Mo_112 ch20 (c_Mo_next mh20) rfl ⟨rfl, rfl⟩ (by decide) (by decide) (Nat.le_of_ble_eq_true rfl) d_Mo_text85_20 ?_
        refine ax_istore (lv' := [(5, .int v19), (0, .ref a0), (1, .long y1), (3, .int x3), (4, .int x4)]) O d_Mo_text85_23 (by decide) rfl ?_
        refine ax_aload_n O d_Mo_text85_25 rfl 1 rfl ?_
        obtain ⟨fh23, ch23, hf⟩ := mis_some hf
        obtain ⟨v22, h23, mh23, hf⟩ := mcl_some hf
        refine ax_callV (As := []) (rest := []) O cw_Mo_isGood (q := (R_Mo, T_Mo, 31)) rfl rfl in_Mo_isGood se_Mo_isGood lk_Mo_89 ch23 (c_Mo_isGood mh23) rfl ⟨rfl, rfl⟩ (by decide) (by decide) (Nat.le_of_ble_eq_true rfl) d_Mo_text85_26 ?_
        refine ax_if_eq (tgt := 7) O d_Mo_text85_29 (by decide) (fun q24 => ?_) (fun q24 => ?_)
        · rw [if_pos q24] at hf
          refine ax_sub [1, 2, 3, 4] rfl ?_
          exact ih _ _ _ _ _ hf
        · rw [if_neg q24] at hf
          refine ax_iload O d_Mo_text85_32 0 rfl ?_
          obtain ⟨v26, h27, mh27, hf⟩ := mcl_some hf
          refine ax_callS (As := [.int v19]) (rest := []) O cw_Mo_isWhite st_Mo_isWhite lk_Mo_205 (c_Mo_isWhite mh27) rfl ⟨rfl, rfl⟩ (by decide) (by decide) (Nat.le_of_ble_eq_true rfl) d_Mo_text85_34 ?_
          refine ax_if_eq (tgt := 43) O d_Mo_text85_37 (by decide) (fun q28 => ?_) (fun q28 => ?_)
          · rw [if_pos q28] at hf
            refine ax_iload O d_Mo_text85_43 0 rfl ?_
            refine ax_bipush (v := 33) O d_Mo_text85_45 (by decide) ?_
            refine ax_bipush (v := 117) O d_Mo_text85_47 (by decide) ?_
            obtain ⟨v30, h31, mh31, hf⟩ := mcl_some hf
            refine ax_callS (As := [.int v19, .int 33, .int 117]) (rest := []) O cw_Mo_isIn st_Mo_isIn lk_Mo_75 (c_Mo_isIn mh31) rfl ⟨rfl, rfl⟩ (by decide) (by decide) (Nat.le_of_ble_eq_true rfl) d_Mo_text85_49 ?_
            refine ax_if_eq (tgt := 90) O d_Mo_text85_52 (by decide) (fun q32 => ?_) (fun q32 => ?_)
            · rw [if_pos q32] at hf
              refine ax_iload O d_Mo_text85_90 0 rfl ?_
              refine ax_bipush (v := 122) O d_Mo_text85_92 (by decide) ?_
              refine ax_icmp_ne (tgt := 110) O d_Mo_text85_94 (by decide) (fun q33 => ?_) (fun q33 => ?_)
              · rw [if_neg q33] at hf
                refine ax_sub [1, 2, 3, 4, 0] rfl ?_
                exact cb_Mo_text85_B110 O (f_Mo_text85_L7 n0 n) _ _ hE ih n0 _ _ _ _ _ _ hf
              · rw [if_pos q33] at hf
                refine ax_iload_n O d_Mo_text85_97 rfl 3 rfl ?_
                refine ax_if_ne (tgt := 110) O d_Mo_text85_98 (by decide) (fun q52 => ?_) (fun q52 => ?_)
                · rw [if_neg q52] at hf
                  refine ax_sub [1, 2, 3, 4, 0] rfl ?_
                  exact cb_Mo_text85_B110 O (f_Mo_text85_L7 n0 n) _ _ hE ih n0 _ _ _ _ _ _ hf
                · rw [if_pos q52] at hf
                  refine ax_aload_n O d_Mo_text85_101 rfl 1 rfl ?_
                  refine ax_lconst (v := 0) O d_Mo_text85_102 (by decide) ?_
                  refine ax_iconst (v := 4) O d_Mo_text85_103 (by decide) ?_
                  obtain ⟨fh55, ch55, hf⟩ := mis_some hf
                  obtain ⟨u56, h55, mh55, hf⟩ := mcl_some hf
                  refine ax_callV (As := [.long 0, .int 4]) (rest := []) O cw_Mo_giveWord (q := (R_Mo, T_Mo, 31)) rfl rfl in_Mo_giveWord se_Mo_giveWord lk_Mo_212 ch55 (c_Mo_giveWord mh55) rfl ⟨rfl, rfl⟩ (by decide) (by decide) (Nat.le_of_ble_eq_true rfl) d_Mo_text85_104 ?_
                  refine ax_goto (tgt := 160) O d_Mo_text85_107 (by decide) ?_
                  refine ax_goto (tgt := 7) O d_Mo_text85_160 (by decide) ?_
                  refine ax_sub [1, 2, 3, 4] rfl ?_
                  exact ih _ _ _ _ _ hf
            · rw [if_neg q32] at hf
              refine ax_lload_n O d_Mo_text85_55 rfl 2 rfl ?_
              refine ax_ldc2 (v := 85) O d_Mo_text85_56 wd_15 ?_
              refine ax_lmul O d_Mo_text85_59 ?_
              refine ax_iload O d_Mo_text85_60 0 rfl ?_
              refine ax_i2l O d_Mo_text85_62 ?_
              refine ax_ladd O d_Mo_text85_63 ?_
              refine ax_ldc2 (v := 33) O d_Mo_text85_64 wd_17 ?_
              refine ax_lsub O d_Mo_text85_67 ?_
              obtain ⟨v57, ev57, hf⟩ := mnm_some hf
              refine ax_nml ev57 ?_
              refine ax_lstore_n (lv' := [(1, .long v57), (5, .int v19), (0, .ref a0), (3, .int x3), (4, .int x4)]) O d_Mo_text85_68 rfl (by decide) rfl ?_
              obtain ⟨v58, ev58, hf⟩ := mnm_some hf
              refine ax_iinc (j := 3) (v := v58) (lv' := [(3, .int v58), (1, .long v57), (5, .int v19), (0, .ref a0), (4, .int x4)]) O d_Mo_text85_69 rfl (by rw [ev58]; rfl) (by decide) rfl ?_
              refine ax_iload_n O d_Mo_text85_72 rfl 0 rfl ?_
              refine ax_iconst (v := 5) O d_Mo_text85_73 (by decide) ?_
              refine ax_icmp_ne (tgt := 160) O d_Mo_text85_74 (by decide) (fun q59 => ?_) (fun q59 => ?_)
              · rw [if_neg q59] at hf
                refine ax_goto (tgt := 7) O d_Mo_text85_160 (by decide) ?_
                refine ax_sub [3, 1, 0, 4] rfl ?_
                exact ih _ _ _ _ _ hf
              · rw [if_pos q59] at hf
                refine ax_aload_n O d_Mo_text85_77 rfl 3 rfl ?_
                refine ax_lload_n O d_Mo_text85_78 rfl 1 rfl ?_
                refine ax_iconst (v := 4) O d_Mo_text85_79 (by decide) ?_
                obtain ⟨fh62, ch62, hf⟩ := mis_some hf
                obtain ⟨u63, h62, mh62, hf⟩ := mcl_some hf
                refine ax_callV (As := [.long v57, .int 4]) (rest := []) O cw_Mo_giveWord (q := (R_Mo, T_Mo, 31)) rfl rfl in_Mo_giveWord se_Mo_giveWord lk_Mo_212 ch62 (c_Mo_giveWord mh62) rfl ⟨rfl, rfl⟩ (by decide) (by decide) (Nat.le_of_ble_eq_true rfl) d_Mo_text85_80 ?_
                refine ax_lconst (v := 0) O d_Mo_text85_83 (by decide) ?_
                refine ax_lstore_n (lv' := [(1, .long 0), (3, .int v58), (5, .int v19), (0, .ref a0), (4, .int x4)]) O d_Mo_text85_84 rfl (by decide) rfl ?_
                refine ax_iconst (v := 0) O d_Mo_text85_85 (by decide) ?_
                refine ax_istore_n (lv' := [(3, .int 0), (1, .long 0), (5, .int v19), (0, .ref a0), (4, .int x4)]) O d_Mo_text85_86 rfl (by decide) rfl ?_
                refine ax_goto (tgt := 160) O d_Mo_text85_87 (by decide) ?_
                refine ax_goto (tgt := 7) O d_Mo_text85_160 (by decide) ?_
                refine ax_sub [3, 1, 0, 4] rfl ?_
                exact ih _ _ _ _ _ hf
          · rw [if_neg q28] at hf
            refine ax_goto (tgt := 7) O d_Mo_text85_40 (by decide) ?_
            refine ax_sub [1, 2, 3, 4] rfl ?_
            exact ih _ _ _ _ _ hf
set_option maxHeartbeats 4000000 in
set_option maxRecDepth 100000 in
theorem cb_Mo_text85 {X : mX} {ad : Nat → Nat} {ln : Launch} (O : mO X ad R_Mo b_Mo_text85 7 (mR 3 66) ln) (r' : Unit) (h' : mH) (hE : mEnd X ad none none h') (n0 : Nat) (h0 : mH) (a0 : Nat) (hf : f_Mo_text85 n0 h0 a0 = some (r', h')) : mAW X ad 0 0 0 [(0, .ref a0)] [] h0 := by
  unfold f_Mo_text85 at hf
  refine ax_lconst (v := 0) O d_Mo_text85_0 (by decide) ?_
  refine ax_lstore_n (lv' := [(1, .long 0), (0, .ref a0)]) O d_Mo_text85_1 rfl (by decide) rfl ?_
  refine ax_iconst (v := 0) O d_Mo_text85_2 (by decide) ?_
  refine ax_istore_n (lv' := [(3, .int 0), (1, .long 0), (0, .ref a0)]) O d_Mo_text85_3 rfl (by decide) rfl ?_
  refine ax_iconst (v := 1) O d_Mo_text85_4 (by decide) ?_
  refine ax_istore (lv' := [(4, .int 1), (3, .int 0), (1, .long 0), (0, .ref a0)]) O d_Mo_text85_5 (by decide) rfl ?_
  refine ax_sub [3, 2, 1, 0] rfl ?_
  exact cb_Mo_text85_L7 O _ _ hE n0 n0 _ _ _ _ _ hf
theorem c_Mo_text85 {ln : Launch} {n0 : Nat} {h0 h' : mH} {a0 : Nat} {r' : Unit} (hf : f_Mo_text85 n0 h0 a0 = some (r', h')) : mMet ln y_Mo_text85 b_Mo_text85 7 none (mR 3 66) [.ref a0] h0 none h' := mMet_of (by decide +kernel) (Nat.le_of_ble_eq_true rfl) (fun X ad O hE => cb_Mo_text85 O r' h' hE n0 h0 a0 hf)
/-! ===== StreamFiltersModel.digit(I)I ===== -/
theorem d_Mo_digit_0 : decode b_Mo_digit 0 = .ok (.iload_n 0, 1) := by decide +kernel
theorem d_Mo_digit_1 : decode b_Mo_digit 1 = .ok (.bipush 48, 2) := by decide +kernel
theorem d_Mo_digit_3 : decode b_Mo_digit 3 = .ok (.bipush 57, 2) := by decide +kernel
theorem d_Mo_digit_5 : decode b_Mo_digit 5 = .ok (.invokestatic 75, 3) := by decide +kernel
theorem d_Mo_digit_8 : decode b_Mo_digit 8 = .ok (.ifCond .eq 10, 3) := by decide +kernel
theorem d_Mo_digit_11 : decode b_Mo_digit 11 = .ok (.iload_n 0, 1) := by decide +kernel
theorem d_Mo_digit_12 : decode b_Mo_digit 12 = .ok (.bipush 48, 2) := by decide +kernel
theorem d_Mo_digit_14 : decode b_Mo_digit 14 = .ok (.isub, 1) := by decide +kernel
theorem d_Mo_digit_15 : decode b_Mo_digit 15 = .ok (.goto 40, 3) := by decide +kernel
theorem d_Mo_digit_18 : decode b_Mo_digit 18 = .ok (.iload_n 0, 1) := by decide +kernel
theorem d_Mo_digit_19 : decode b_Mo_digit 19 = .ok (.bipush 65, 2) := by decide +kernel
theorem d_Mo_digit_21 : decode b_Mo_digit 21 = .ok (.bipush 70, 2) := by decide +kernel
theorem d_Mo_digit_23 : decode b_Mo_digit 23 = .ok (.invokestatic 75, 3) := by decide +kernel
theorem d_Mo_digit_26 : decode b_Mo_digit 26 = .ok (.ifCond .eq 10, 3) := by decide +kernel
theorem d_Mo_digit_29 : decode b_Mo_digit 29 = .ok (.iload_n 0, 1) := by decide +kernel
theorem d_Mo_digit_30 : decode b_Mo_digit 30 = .ok (.bipush 55, 2) := by decide +kernel
theorem d_Mo_digit_32 : decode b_Mo_digit 32 = .ok (.isub, 1) := by decide +kernel
theorem d_Mo_digit_33 : decode b_Mo_digit 33 = .ok (.goto 22, 3) := by decide +kernel
theorem d_Mo_digit_36 : decode b_Mo_digit 36 = .ok (.iload_n 0, 1) := by decide +kernel
theorem d_Mo_digit_37 : decode b_Mo_digit 37 = .ok (.bipush 97, 2) := by decide +kernel
theorem d_Mo_digit_39 : decode b_Mo_digit 39 = .ok (.bipush 102, 2) := by decide +kernel
theorem d_Mo_digit_41 : decode b_Mo_digit 41 = .ok (.invokestatic 75, 3) := by decide +kernel
theorem d_Mo_digit_44 : decode b_Mo_digit 44 = .ok (.ifCond .eq 10, 3) := by decide +kernel
theorem d_Mo_digit_47 : decode b_Mo_digit 47 = .ok (.iload_n 0, 1) := by decide +kernel
theorem d_Mo_digit_48 : decode b_Mo_digit 48 = .ok (.bipush 87, 2) := by decide +kernel
theorem d_Mo_digit_50 : decode b_Mo_digit 50 = .ok (.isub, 1) := by decide +kernel
theorem d_Mo_digit_51 : decode b_Mo_digit 51 = .ok (.goto 4, 3) := by decide +kernel
theorem d_Mo_digit_54 : decode b_Mo_digit 54 = .ok (.iconst (-1), 1) := by decide +kernel
theorem d_Mo_digit_55 : decode b_Mo_digit 55 = .ok (.ireturn, 1) := by decide +kernel
noncomputable def f_Mo_digit  (n0 : Nat) (h0 : mH) (x0 : Int32) : Option (Int32 × mH) :=
  mcl (f_Mo_isIn n0 h0 x0 48 57) fun v2 h3 =>
  if v2 = 0 then
    mcl (f_Mo_isIn n0 h3 x0 65 70) fun v6 h7 =>
    if v6 = 0 then
      mcl (f_Mo_isIn n0 h7 x0 97 102) fun v10 h11 =>
      if v10 = 0 then
        some ((-1), h11)
      else
        some (x0 - 87, h11)
    else
      some (x0 - 55, h7)
  else
    some (x0 - 48, h3)
set_option maxHeartbeats 4000000 in
set_option maxRecDepth 100000 in
theorem cb_Mo_digit {X : mX} {ad : Nat → Nat} {ln : Launch} (O : mO X ad R_Mo b_Mo_digit 1 (mR 1 22) ln) (r' : Int32) (h' : mH) (hE : mEnd X ad (some .int) (some (.int r')) h') (n0 : Nat) (h0 : mH) (x0 : Int32) (hf : f_Mo_digit n0 h0 x0 = some (r', h')) : mAW X ad 0 0 0 [(0, .int x0)] [] h0 := by
  unfold f_Mo_digit at hf
  refine ax_iload_n O d_Mo_digit_0 rfl 0 rfl ?_
  refine ax_bipush (v := 48) O d_Mo_digit_1 (by decide) ?_
  refine ax_bipush (v := 57) O d_Mo_digit_3 (by decide) ?_
  obtain ⟨v2, h3, mh3, hf⟩ := mcl_some hf
  refine ax_callS (As := [.int x0, .int 48, .int 57]) (rest := []) O cw_Mo_isIn st_Mo_isIn lk_Mo_75 (c_Mo_isIn mh3) rfl ⟨rfl, rfl⟩ (by decide) (by decide) (Nat.le_of_ble_eq_true rfl) d_Mo_digit_5 ?_
  refine ax_if_eq (tgt := 18) O d_Mo_digit_8 (by decide) (fun q4 => ?_) (fun q4 => ?_)
  · rw [if_pos q4] at hf
    refine ax_iload_n O d_Mo_digit_18 rfl 0 rfl ?_
    refine ax_bipush (v := 65) O d_Mo_digit_19 (by decide) ?_
    refine ax_bipush (v := 70) O d_Mo_digit_21 (by decide) ?_
    obtain ⟨v6, h7, mh7, hf⟩ := mcl_some hf
    refine ax_callS (As := [.int x0, .int 65, .int 70]) (rest := []) O cw_Mo_isIn st_Mo_isIn lk_Mo_75 (c_Mo_isIn mh7) rfl ⟨rfl, rfl⟩ (by decide) (by decide) (Nat.le_of_ble_eq_true rfl) d_Mo_digit_23 ?_
    refine ax_if_eq (tgt := 36) O d_Mo_digit_26 (by decide) (fun q8 => ?_) (fun q8 => ?_)
    · rw [if_pos q8] at hf
      refine ax_iload_n O d_Mo_digit_36 rfl 0 rfl ?_
      refine ax_bipush (v := 97) O d_Mo_digit_37 (by decide) ?_
      refine ax_bipush (v := 102) O d_Mo_digit_39 (by decide) ?_
      obtain ⟨v10, h11, mh11, hf⟩ := mcl_some hf
      refine ax_callS (As := [.int x0, .int 97, .int 102]) (rest := []) O cw_Mo_isIn st_Mo_isIn lk_Mo_75 (c_Mo_isIn mh11) rfl ⟨rfl, rfl⟩ (by decide) (by decide) (Nat.le_of_ble_eq_true rfl) d_Mo_digit_41 ?_
      refine ax_if_eq (tgt := 54) O d_Mo_digit_44 (by decide) (fun q12 => ?_) (fun q12 => ?_)
      · rw [if_pos q12] at hf
        refine ax_iconst (v := (-1)) O d_Mo_digit_54 (by decide) ?_
        exact ax_retE O hE hf rfl d_Mo_digit_55
      · rw [if_neg q12] at hf
        refine ax_iload_n O d_Mo_digit_47 rfl 0 rfl ?_
        refine ax_bipush (v := 87) O d_Mo_digit_48 (by decide) ?_
        refine ax_isub O d_Mo_digit_50 ?_
        refine ax_goto (tgt := 55) O d_Mo_digit_51 (by decide) ?_
        exact ax_retE O hE hf rfl d_Mo_digit_55
    · rw [if_neg q8] at hf
      refine ax_iload_n O d_Mo_digit_29 rfl 0 rfl ?_
      refine ax_bipush (v := 55) O d_Mo_digit_30 (by decide) ?_
      refine ax_isub O d_Mo_digit_32 ?_
      refine ax_goto (tgt := 55) O d_Mo_digit_33 (by decide) ?_
      exact ax_retE O hE hf rfl d_Mo_digit_55
  · rw [if_neg q4] at hf
    refine ax_iload_n O d_Mo_digit_11 rfl 0 rfl ?_
    refine ax_bipush (v := 48) O d_Mo_digit_12 (by decide) ?_
    refine ax_isub O d_Mo_digit_14 ?_
    refine ax_goto (tgt := 55) O d_Mo_digit_15 (by decide) ?_
    exact ax_retE O hE hf rfl d_Mo_digit_55
theorem c_Mo_digit {ln : Launch} {n0 : Nat} {h0 h' : mH} {x0 : Int32} {r' : Int32} (hf : f_Mo_digit n0 h0 x0 = some (r', h')) : mMet ln y_Mo_digit b_Mo_digit 1 (some .int) (mR 1 22) [.int x0] h0 (some (.int r')) h' := mMet_of (by decide +kernel) (Nat.le_of_ble_eq_true rfl) (fun X ad O hE => cb_Mo_digit O r' h' hE n0 h0 x0 hf)
/-! ===== StreamFiltersModel.hexadecimal()V ===== -/
theorem d_Mo_hexadecimal_0 : decode b_Mo_hexadecimal 0 = .ok (.iconst (-1), 1) := by decide +kernel
theorem d_Mo_hexadecimal_1 : decode b_Mo_hexadecimal 1 = .ok (.istore_n 1, 1) := by decide +kernel
theorem d_Mo_hexadecimal_2 : decode b_Mo_hexadecimal 2 = .ok (.iconst 1, 1) := by decide +kernel
theorem d_Mo_hexadecimal_3 : decode b_Mo_hexadecimal 3 = .ok (.istore_n 2, 1) := by decide +kernel
theorem d_Mo_hexadecimal_4 : decode b_Mo_hexadecimal 4 = .ok (.iload_n 2, 1) := by decide +kernel
theorem d_Mo_hexadecimal_5 : decode b_Mo_hexadecimal 5 = .ok (.ifCond .eq 89, 3) := by decide +kernel
theorem d_Mo_hexadecimal_8 : decode b_Mo_hexadecimal 8 = .ok (.aload_n 0, 1) := by decide +kernel
theorem d_Mo_hexadecimal_9 : decode b_Mo_hexadecimal 9 = .ok (.invokevirtual 89, 3) := by decide +kernel
theorem d_Mo_hexadecimal_12 : decode b_Mo_hexadecimal 12 = .ok (.ifCond .eq 82, 3) := by decide +kernel
theorem d_Mo_hexadecimal_15 : decode b_Mo_hexadecimal 15 = .ok (.aload_n 0, 1) := by decide +kernel
theorem d_Mo_hexadecimal_16 : decode b_Mo_hexadecimal 16 = .ok (.invokevirtual 112, 3) := by decide +kernel
theorem d_Mo_hexadecimal_19 : decode b_Mo_hexadecimal 19 = .ok (.istore_n 3, 1) := by decide +kernel
theorem d_Mo_hexadecimal_20 : decode b_Mo_hexadecimal 20 = .ok (.aload_n 0, 1) := by decide +kernel
theorem d_Mo_hexadecimal_21 : decode b_Mo_hexadecimal 21 = .ok (.invokevirtual 89, 3) := by decide +kernel
theorem d_Mo_hexadecimal_24 : decode b_Mo_hexadecimal 24 = .ok (.ifCond .eq (-20), 3) := by decide +kernel
theorem d_Mo_hexadecimal_27 : decode b_Mo_hexadecimal 27 = .ok (.iload_n 3, 1) := by decide +kernel
theorem d_Mo_hexadecimal_28 : decode b_Mo_hexadecimal 28 = .ok (.invokestatic 205, 3) := by decide +kernel
theorem d_Mo_hexadecimal_31 : decode b_Mo_hexadecimal 31 = .ok (.ifCond .eq 6, 3) := by decide +kernel
theorem d_Mo_hexadecimal_34 : decode b_Mo_hexadecimal 34 = .ok (.goto (-30), 3) := by decide +kernel
theorem d_Mo_hexadecimal_37 : decode b_Mo_hexadecimal 37 = .ok (.iload_n 3, 1) := by decide +kernel
theorem d_Mo_hexadecimal_38 : decode b_Mo_hexadecimal 38 = .ok (.bipush 62, 2) := by decide +kernel
theorem d_Mo_hexadecimal_40 : decode b_Mo_hexadecimal 40 = .ok (.if_icmp .ne 8, 3) := by decide +kernel
theorem d_Mo_hexadecimal_43 : decode b_Mo_hexadecimal 43 = .ok (.iconst 0, 1) := by decide +kernel
theorem d_Mo_hexadecimal_44 : decode b_Mo_hexadecimal 44 = .ok (.istore_n 2, 1) := by decide +kernel
theorem d_Mo_hexadecimal_45 : decode b_Mo_hexadecimal 45 = .ok (.goto 46, 3) := by decide +kernel
theorem d_Mo_hexadecimal_48 : decode b_Mo_hexadecimal 48 = .ok (.iload_n 3, 1) := by decide +kernel
theorem d_Mo_hexadecimal_49 : decode b_Mo_hexadecimal 49 = .ok (.invokestatic 218, 3) := by decide +kernel
theorem d_Mo_hexadecimal_52 : decode b_Mo_hexadecimal 52 = .ok (.ifCond .ge 12, 3) := by decide +kernel
theorem d_Mo_hexadecimal_55 : decode b_Mo_hexadecimal 55 = .ok (.aload_n 0, 1) := by decide +kernel
theorem d_Mo_hexadecimal_56 : decode b_Mo_hexadecimal 56 = .ok (.bipush 12, 2) := by decide +kernel
theorem d_Mo_hexadecimal_58 : decode b_Mo_hexadecimal 58 = .ok (.invokevirtual 99, 3) := by decide +kernel
theorem d_Mo_hexadecimal_61 : decode b_Mo_hexadecimal 61 = .ok (.goto 30, 3) := by decide +kernel
theorem d_Mo_hexadecimal_64 : decode b_Mo_hexadecimal 64 = .ok (.iload_n 1, 1) := by decide +kernel
theorem d_Mo_hexadecimal_65 : decode b_Mo_hexadecimal 65 = .ok (.ifCond .ge 11, 3) := by decide +kernel
theorem d_Mo_hexadecimal_68 : decode b_Mo_hexadecimal 68 = .ok (.iload_n 3, 1) := by decide +kernel
theorem d_Mo_hexadecimal_69 : decode b_Mo_hexadecimal 69 = .ok (.invokestatic 218, 3) := by decide +kernel
theorem d_Mo_hexadecimal_72 : decode b_Mo_hexadecimal 72 = .ok (.istore_n 1, 1) := by decide +kernel
theorem d_Mo_hexadecimal_73 : decode b_Mo_hexadecimal 73 = .ok (.goto 18, 3) := by decide +kernel
theorem d_Mo_hexadecimal_76 : decode b_Mo_hexadecimal 76 = .ok (.aload_n 0, 1) := by decide +kernel
theorem d_Mo_hexadecimal_77 : decode b_Mo_hexadecimal 77 = .ok (.bipush 16, 2) := by decide +kernel
theorem d_Mo_hexadecimal_79 : decode b_Mo_hexadecimal 79 = .ok (.iload_n 1, 1) := by decide +kernel
theorem d_Mo_hexadecimal_80 : decode b_Mo_hexadecimal 80 = .ok (.imul, 1) := by decide +kernel
theorem d_Mo_hexadecimal_81 : decode b_Mo_hexadecimal 81 = .ok (.iload_n 3, 1) := by decide +kernel
theorem d_Mo_hexadecimal_82 : decode b_Mo_hexadecimal 82 = .ok (.invokestatic 218, 3) := by decide +kernel
theorem d_Mo_hexadecimal_85 : decode b_Mo_hexadecimal 85 = .ok (.iadd, 1) := by decide +kernel
theorem d_Mo_hexadecimal_86 : decode b_Mo_hexadecimal 86 = .ok (.invokevirtual 157, 3) := by decide +kernel
theorem d_Mo_hexadecimal_89 : decode b_Mo_hexadecimal 89 = .ok (.iconst (-1), 1) := by decide +kernel
theorem d_Mo_hexadecimal_90 : decode b_Mo_hexadecimal 90 = .ok (.istore_n 1, 1) := by decide +kernel
theorem d_Mo_hexadecimal_91 : decode b_Mo_hexadecimal 91 = .ok (.goto (-87), 3) := by decide +kernel
theorem d_Mo_hexadecimal_94 : decode b_Mo_hexadecimal 94 = .ok (.aload_n 0, 1) := by decide +kernel
theorem d_Mo_hexadecimal_95 : decode b_Mo_hexadecimal 95 = .ok (.invokevirtual 89, 3) := by decide +kernel
theorem d_Mo_hexadecimal_98 : decode b_Mo_hexadecimal 98 = .ok (.ifCond .eq 15, 3) := by decide +kernel
theorem d_Mo_hexadecimal_101 : decode b_Mo_hexadecimal 101 = .ok (.iload_n 1, 1) := by decide +kernel
theorem d_Mo_hexadecimal_102 : decode b_Mo_hexadecimal 102 = .ok (.ifCond .lt 11, 3) := by decide +kernel
theorem d_Mo_hexadecimal_105 : decode b_Mo_hexadecimal 105 = .ok (.aload_n 0, 1) := by decide +kernel
theorem d_Mo_hexadecimal_106 : decode b_Mo_hexadecimal 106 = .ok (.bipush 16, 2) := by decide +kernel
theorem d_Mo_hexadecimal_108 : decode b_Mo_hexadecimal 108 = .ok (.iload_n 1, 1) := by decide +kernel
theorem d_Mo_hexadecimal_109 : decode b_Mo_hexadecimal 109 = .ok (.imul, 1) := by decide +kernel
theorem d_Mo_hexadecimal_110 : decode b_Mo_hexadecimal 110 = .ok (.invokevirtual 157, 3) := by decide +kernel
theorem d_Mo_hexadecimal_113 : decode b_Mo_hexadecimal 113 = .ok (.return_, 1) := by decide +kernel
noncomputable def f_Mo_hexadecimal_B94  (n0 : Nat) (h0 : mH) (a0 : Nat) (x1 : Int32) : Option (Unit × mH) :=
  mis h0 a0 10 <|
  mcl (f_Mo_isGood n0 h0 a0) fun v3 h4 =>
  if v3 = 0 then
    some ((), h4)
  else
    if x1 < 0 then
      some ((), h4)
    else
      mis h4 a0 10 <|
      mcl (f_Mo_give n0 h4 a0 (16 * x1)) fun _ h9 =>
      some ((), h9)
noncomputable def f_Mo_hexadecimal_L4  (n0 : Nat) : Nat → mH → Nat → Int32 → Int32 → Option (Unit × mH)
  | 0, _, _, _, _ => none
  | n + 1, h0, a0, x1, x2 =>
    if x2 = 0 then
      f_Mo_hexadecimal_B94 n0 h0 a0 x1
    else
      mis h0 a0 10 <|
      mcl (f_Mo_isGood n0 h0 a0) fun v12 h13 =>
      if v12 = 0 then
        f_Mo_hexadecimal_B94 n0 h13 a0 x1
      else
        mis h13 a0 10 <|
        mcl (f_Mo_next n0 h13 a0) fun v16 h17 =>
        mis h17 a0 10 <|
        mcl (f_Mo_isGood n0 h17 a0) fun v19 h20 =>
        if v19 = 0 then
          (f_Mo_hexadecimal_L4 n0 n) h20 a0 x1 x2
        else
          mcl (f_Mo_isWhite n0 h20 v16) fun v23 h24 =>
          if v23 = 0 then
            if v16 = 62 then
              (f_Mo_hexadecimal_L4 n0 n) h24 a0 x1 0
            else
              mcl (f_Mo_digit n0 h24 v16) fun v28 h29 =>
              if 0 ≤ v28 then
                if 0 ≤ x1 then
                  mcl (f_Mo_digit n0 h29 v16) fun v33 h34 =>
                  mis h34 a0 10 <|
                  mcl (f_Mo_give n0 h34 a0 ((16 * x1) + v33)) fun _ h37 =>
                  (f_Mo_hexadecimal_L4 n0 n) h37 a0 (-1) x2
                else
                  mcl (f_Mo_digit n0 h29 v16) fun v40 h41 =>
                  (f_Mo_hexadecimal_L4 n0 n) h41 a0 v40 x2
              else
                mis h29 a0 10 <|
                mcl (f_Mo_fail n0 h29 a0 12) fun _ h44 =>
                (f_Mo_hexadecimal_L4 n0 n) h44 a0 x1 x2
          else
            (f_Mo_hexadecimal_L4 n0 n) h24 a0 x1 x2
noncomputable def f_Mo_hexadecimal  (n0 : Nat) (h0 : mH) (a0 : Nat) : Option (Unit × mH) :=
  f_Mo_hexadecimal_L4 n0 n0 h0 a0 (-1) 1
set_option maxHeartbeats 4000000 in
set_option maxRecDepth 100000 in
theorem cb_Mo_hexadecimal_B94 {X : mX} {ad : Nat → Nat} {ln : Launch} (O : mO X ad R_Mo b_Mo_hexadecimal 4 (mR 2 42) ln) (r' : Unit) (h' : mH) (hE : mEnd X ad none none h') (n0 : Nat) (h0 : mH) (a0 : Nat) (x1 : Int32) (hf : f_Mo_hexadecimal_B94 n0 h0 a0 x1 = some (r', h')) : mAW X ad 0 0 94 [(0, .ref a0), (1, .int x1)] [] h0 := by
  unfold f_Mo_hexadecimal_B94 at hf
  refine ax_aload_n O d_Mo_hexadecimal_94 rfl 0 rfl ?_
  obtain ⟨fh4, ch4, hf⟩ := mis_some hf
  obtain ⟨v3, h4, mh4, hf⟩ := mcl_some hf
  refine ax_callV (As := []) (rest := []) O cw_Mo_isGood (q := (R_Mo, T_Mo, 31)) rfl rfl in_Mo_isGood se_Mo_isGood lk_Mo_89 ch4 (c_Mo_isGood mh4) rfl ⟨rfl, rfl⟩ (by decide) (by decide) (Nat.le_of_ble_eq_true rfl) d_Mo_hexadecimal_95 ?_
  refine ax_if_eq (tgt := 113) O d_Mo_hexadecimal_98 (by decide) (fun q5 => ?_) (fun q5 => ?_)
  · rw [if_pos q5] at hf
    exact ax_vretE O hE hf d_Mo_hexadecimal_113
  · rw [if_neg q5] at hf
    refine ax_iload_n O d_Mo_hexadecimal_101 rfl 1 rfl ?_
    refine ax_if_lt (tgt := 113) O d_Mo_hexadecimal_102 (by decide) (fun q6 => ?_) (fun q6 => ?_)
    · rw [if_pos q6] at hf
      exact ax_vretE O hE hf d_Mo_hexadecimal_113
    · rw [if_neg q6] at hf
      refine ax_aload_n O d_Mo_hexadecimal_105 rfl 0 rfl ?_
      refine ax_bipush (v := 16) O d_Mo_hexadecimal_106 (by decide) ?_
      refine ax_iload_n O d_Mo_hexadecimal_108 rfl 1 rfl ?_
      refine ax_imul O d_Mo_hexadecimal_109 ?_
      obtain ⟨fh9, ch9, hf⟩ := mis_some hf
      obtain ⟨u10, h9, mh9, hf⟩ := mcl_some hf
      refine ax_callV (As := [.int (16 * x1)]) (rest := []) O cw_Mo_give (q := (R_Mo, T_Mo, 31)) rfl rfl in_Mo_give se_Mo_give lk_Mo_157 ch9 (c_Mo_give mh9) rfl ⟨rfl, rfl⟩ (by decide) (by decide) (Nat.le_of_ble_eq_true rfl) d_Mo_hexadecimal_110 ?_
      exact ax_vretE O hE hf d_Mo_hexadecimal_113
set_option maxHeartbeats 4000000 in
set_option maxRecDepth 100000 in
theorem cb_Mo_hexadecimal_L4 {X : mX} {ad : Nat → Nat} {ln : Launch} (O : mO X ad R_Mo b_Mo_hexadecimal 4 (mR 2 42) ln) (r' : Unit) (h' : mH) (hE : mEnd X ad none none h') (n0 : Nat) : ∀ (n : Nat) (h0 : mH) (a0 : Nat) (x1 : Int32) (x2 : Int32), f_Mo_hexadecimal_L4 n0 n h0 a0 x1 x2 = some (r', h') → mAW X ad 0 0 4 [(0, .ref a0), (1, .int x1), (2, .int x2)] [] h0 := by
  intro n
  induction n with
  | zero =>
    intro h0 a0 x1 x2 hf
    rw [f_Mo_hexadecimal_L4.eq_1] at hf
    cases hf
  | succ n ih =>
    intro h0 a0 x1 x2 hf
    rw [f_Mo_hexadecimal_L4.eq_2] at hf
    refine ax_iload_n O d_Mo_hexadecimal_4 rfl 2 rfl ?_
    refine ax_if_eq (tgt := 94) O d_Mo_hexadecimal_5 (by decide) (fun q1 => ?_) (fun q1 => ?_)
    · rw [if_pos q1] at hf
      refine ax_sub [0, 1] rfl ?_
      exact cb_Mo_hexadecimal_B94 O _ _ hE n0 _ _ _ hf
    · rw [if_neg q1] at hf
      refine ax_aload_n O d_Mo_hexadecimal_8 rfl 0 rfl ?_
      obtain ⟨fh13, ch13, hf⟩ := mis_some hf
      obtain ⟨v12, h13, mh13, hf⟩ := mcl_some hf
      refine ax_callV (As := []) (rest := []) O cw_Mo_isGood (q := (R_Mo, T_Mo, 31)) rfl rfl in_Mo_isGood se_Mo_isGood lk_Mo_89 ch13 (c_Mo_isGood mh13) rfl ⟨rfl, rfl⟩ (by decide) (by decide) (Nat.le_of_ble_eq_true rfl) d_Mo_hexadecimal_9 ?_
      refine ax_if_eq (tgt := 94) O d_Mo_hexadecimal_12 (by decide) (fun q14 => ?_) (fun q14 => ?_)
      · rw [if_pos q14] at hf
        refine ax_sub [0, 1] rfl ?_
        exact cb_Mo_hexadecimal_B94 O _ _ hE n0 _ _ _ hf
      · rw [if_neg q14] at hf
        refine ax_aload_n O d_Mo_hexadecimal_15 rfl 0 rfl ?_
        obtain ⟨fh17, ch17, hf⟩ := mis_some hf
        obtain ⟨v16, h17, mh17, hf⟩ := mcl_some hf
        refine ax_callV (As := []) (rest := []) O cw_Mo_next (q := (R_Mo, T_Mo, 31)) rfl rfl in_Mo_next se_Mo_next lk_Mo_112 ch17 (c_Mo_next mh17) rfl ⟨rfl, rfl⟩ (by decide) (by decide) (Nat.le_of_ble_eq_true rfl) d_Mo_hexadecimal_16 ?_
        refine ax_istore_n (lv' := [(3, .int v16), (0, .ref a0), (1, .int x1), (2, .int x2)]) O d_Mo_hexadecimal_19 rfl (by decide) rfl ?_
        refine ax_aload_n O d_Mo_hexadecimal_20 rfl 1 rfl ?_
        obtain ⟨fh20, ch20, hf⟩ := mis_some hf
        obtain ⟨v19, h20, mh20, hf⟩ := mcl_some hf
        refine ax_callV (As := []) (rest := []) O cw_Mo_isGood (q := (R_Mo, T_Mo, 31)) rfl rfl in_Mo_isGood se_Mo_isGood lk_Mo_89 ch20 (c_Mo_isGood mh20) rfl ⟨rfl, rfl⟩ (by decide) (by decide) (Nat.le_of_ble_eq_true rfl) d_Mo_hexadecimal_21 ?_
        refine ax_if_eq (tgt := 4) O d_Mo_hexadecimal_24 (by decide) (fun q21 => ?_) (fun q21 => ?_)
        · rw [if_pos q21] at hf
          refine ax_sub [1, 2, 3] rfl ?_
          exact ih _ _ _ _ hf
        · rw [if_neg q21] at hf
          refine ax_iload_n O d_Mo_hexadecimal_27 rfl 0 rfl ?_
          obtain ⟨v23, h24, mh24, hf⟩ := mcl_some hf
          refine ax_callS (As := [.int v16]) (rest := []) O cw_Mo_isWhite st_Mo_isWhite lk_Mo_205 (c_Mo_isWhite mh24) rfl ⟨rfl, rfl⟩ (by decide) (by decide) (Nat.le_of_ble_eq_true rfl) d_Mo_hexadecimal_28 ?_
          refine ax_if_eq (tgt := 37) O d_Mo_hexadecimal_31 (by decide) (fun q25 => ?_) (fun q25 => ?_)
          · rw [if_pos q25] at hf
            refine ax_iload_n O d_Mo_hexadecimal_37 rfl 0 rfl ?_
            refine ax_bipush (v := 62) O d_Mo_hexadecimal_38 (by decide) ?_
            refine ax_icmp_ne (tgt := 48) O d_Mo_hexadecimal_40 (by decide) (fun q26 => ?_) (fun q26 => ?_)
            · rw [if_neg q26] at hf
              refine ax_iload_n O d_Mo_hexadecimal_48 rfl 0 rfl ?_
              obtain ⟨v28, h29, mh29, hf⟩ := mcl_some hf
              refine ax_callS (As := [.int v16]) (rest := []) O cw_Mo_digit st_Mo_digit lk_Mo_218 (c_Mo_digit mh29) rfl ⟨rfl, rfl⟩ (by decide) (by decide) (Nat.le_of_ble_eq_true rfl) d_Mo_hexadecimal_49 ?_
              refine ax_if_ge (tgt := 64) O d_Mo_hexadecimal_52 (by decide) (fun q30 => ?_) (fun q30 => ?_)
              · rw [if_pos q30] at hf
                refine ax_iload_n O d_Mo_hexadecimal_64 rfl 2 rfl ?_
                refine ax_if_ge (tgt := 76) O d_Mo_hexadecimal_65 (by decide) (fun q31 => ?_) (fun q31 => ?_)
                · rw [if_pos q31] at hf
                  refine ax_aload_n O d_Mo_hexadecimal_76 rfl 1 rfl ?_
                  refine ax_bipush (v := 16) O d_Mo_hexadecimal_77 (by decide) ?_
                  refine ax_iload_n O d_Mo_hexadecimal_79 rfl 2 rfl ?_
                  refine ax_imul O d_Mo_hexadecimal_80 ?_
                  refine ax_iload_n O d_Mo_hexadecimal_81 rfl 0 rfl ?_
                  obtain ⟨v33, h34, mh34, hf⟩ := mcl_some hf
                  refine ax_callS (As := [.int v16]) (rest := [.int (16 * x1), .ref a0]) O cw_Mo_digit st_Mo_digit lk_Mo_218 (c_Mo_digit mh34) rfl ⟨rfl, rfl⟩ (by decide) (by decide) (Nat.le_of_ble_eq_true rfl) d_Mo_hexadecimal_82 ?_
                  refine ax_iadd O d_Mo_hexadecimal_85 ?_
                  obtain ⟨fh37, ch37, hf⟩ := mis_some hf
                  obtain ⟨u38, h37, mh37, hf⟩ := mcl_some hf
                  refine ax_callV (As := [.int ((16 * x1) + v33)]) (rest := []) O cw_Mo_give (q := (R_Mo, T_Mo, 31)) rfl rfl in_Mo_give se_Mo_give lk_Mo_157 ch37 (c_Mo_give mh37) rfl ⟨rfl, rfl⟩ (by decide) (by decide) (Nat.le_of_ble_eq_true rfl) d_Mo_hexadecimal_86 ?_
                  refine ax_iconst (v := (-1)) O d_Mo_hexadecimal_89 (by decide) ?_
                  refine ax_istore_n (lv' := [(1, .int (-1)), (3, .int v16), (0, .ref a0), (2, .int x2)]) O d_Mo_hexadecimal_90 rfl (by decide) rfl ?_
                  refine ax_goto (tgt := 4) O d_Mo_hexadecimal_91 (by decide) ?_
                  refine ax_sub [2, 0, 3] rfl ?_
                  exact ih _ _ _ _ hf
                · rw [if_neg q31] at hf
                  refine ax_iload_n O d_Mo_hexadecimal_68 rfl 0 rfl ?_
                  obtain ⟨v40, h41, mh41, hf⟩ := mcl_some hf
                  refine ax_callS (As := [.int v16]) (rest := []) O cw_Mo_digit st_Mo_digit lk_Mo_218 (c_Mo_digit mh41) rfl ⟨rfl, rfl⟩ (by decide) (by decide) (Nat.le_of_ble_eq_true rfl) d_Mo_hexadecimal_69 ?_
                  refine ax_istore_n (lv' := [(1, .int v40), (3, .int v16), (0, .ref a0), (2, .int x2)]) O d_Mo_hexadecimal_72 rfl (by decide) rfl ?_
                  refine ax_goto (tgt := 91) O d_Mo_hexadecimal_73 (by decide) ?_
                  refine ax_goto (tgt := 4) O d_Mo_hexadecimal_91 (by decide) ?_
                  refine ax_sub [2, 0, 3] rfl ?_
                  exact ih _ _ _ _ hf
              · rw [if_neg q30] at hf
                refine ax_aload_n O d_Mo_hexadecimal_55 rfl 1 rfl ?_
                refine ax_bipush (v := 12) O d_Mo_hexadecimal_56 (by decide) ?_
                obtain ⟨fh44, ch44, hf⟩ := mis_some hf
                obtain ⟨u45, h44, mh44, hf⟩ := mcl_some hf
                refine ax_callV (As := [.int 12]) (rest := []) O cw_Mo_fail (q := (R_Mo, T_Mo, 31)) rfl rfl in_Mo_fail se_Mo_fail lk_Mo_99 ch44 (c_Mo_fail mh44) rfl ⟨rfl, rfl⟩ (by decide) (by decide) (Nat.le_of_ble_eq_true rfl) d_Mo_hexadecimal_58 ?_
                refine ax_goto (tgt := 91) O d_Mo_hexadecimal_61 (by decide) ?_
                refine ax_goto (tgt := 4) O d_Mo_hexadecimal_91 (by decide) ?_
                refine ax_sub [1, 2, 3] rfl ?_
                exact ih _ _ _ _ hf
            · rw [if_pos q26] at hf
              refine ax_iconst (v := 0) O d_Mo_hexadecimal_43 (by decide) ?_
              refine ax_istore_n (lv' := [(2, .int 0), (3, .int v16), (0, .ref a0), (1, .int x1)]) O d_Mo_hexadecimal_44 rfl (by decide) rfl ?_
              refine ax_goto (tgt := 91) O d_Mo_hexadecimal_45 (by decide) ?_
              refine ax_goto (tgt := 4) O d_Mo_hexadecimal_91 (by decide) ?_
              refine ax_sub [2, 3, 0] rfl ?_
              exact ih _ _ _ _ hf
          · rw [if_neg q25] at hf
            refine ax_goto (tgt := 4) O d_Mo_hexadecimal_34 (by decide) ?_
            refine ax_sub [1, 2, 3] rfl ?_
            exact ih _ _ _ _ hf
set_option maxHeartbeats 4000000 in
set_option maxRecDepth 100000 in
theorem cb_Mo_hexadecimal {X : mX} {ad : Nat → Nat} {ln : Launch} (O : mO X ad R_Mo b_Mo_hexadecimal 4 (mR 2 42) ln) (r' : Unit) (h' : mH) (hE : mEnd X ad none none h') (n0 : Nat) (h0 : mH) (a0 : Nat) (hf : f_Mo_hexadecimal n0 h0 a0 = some (r', h')) : mAW X ad 0 0 0 [(0, .ref a0)] [] h0 := by
  unfold f_Mo_hexadecimal at hf
  refine ax_iconst (v := (-1)) O d_Mo_hexadecimal_0 (by decide) ?_
  refine ax_istore_n (lv' := [(1, .int (-1)), (0, .ref a0)]) O d_Mo_hexadecimal_1 rfl (by decide) rfl ?_
  refine ax_iconst (v := 1) O d_Mo_hexadecimal_2 (by decide) ?_
  refine ax_istore_n (lv' := [(2, .int 1), (1, .int (-1)), (0, .ref a0)]) O d_Mo_hexadecimal_3 rfl (by decide) rfl ?_
  refine ax_sub [2, 1, 0] rfl ?_
  exact cb_Mo_hexadecimal_L4 O _ _ hE n0 n0 _ _ _ _ hf
theorem c_Mo_hexadecimal {ln : Launch} {n0 : Nat} {h0 h' : mH} {a0 : Nat} {r' : Unit} (hf : f_Mo_hexadecimal n0 h0 a0 = some (r', h')) : mMet ln y_Mo_hexadecimal b_Mo_hexadecimal 4 none (mR 2 42) [.ref a0] h0 none h' := mMet_of (by decide +kernel) (Nat.le_of_ble_eq_true rfl) (fun X ad O hE => cb_Mo_hexadecimal O r' h' hE n0 h0 a0 hf)
