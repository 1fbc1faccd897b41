/-! ===== StreamFilters$Link.undoTags(LStreamFilters$Bytes;)Z ===== -/
theorem d_Li_undoTags_0 : decode b_Li_undoTags 0 = .ok (.aload_n 0, 1) := by decide +kernel
theorem d_Li_undoTags_1 : decode b_Li_undoTags 1 = .ok (.invokevirtual 44, 3) := by decide +kernel
theorem d_Li_undoTags_4 : decode b_Li_undoTags 4 = .ok (.istore_n 2, 1) := by decide +kernel
theorem d_Li_undoTags_5 : decode b_Li_undoTags 5 = .ok (.iconst 0, 1) := by decide +kernel
theorem d_Li_undoTags_6 : decode b_Li_undoTags 6 = .ok (.istore_n 3, 1) := by decide +kernel
theorem d_Li_undoTags_7 : decode b_Li_undoTags 7 = .ok (.iconst 1, 1) := by decide +kernel
theorem d_Li_undoTags_8 : decode b_Li_undoTags 8 = .ok (.istore 4, 2) := by decide +kernel
theorem d_Li_undoTags_10 : decode b_Li_undoTags 10 = .ok (.iconst 0, 1) := by decide +kernel
theorem d_Li_undoTags_11 : decode b_Li_undoTags 11 = .ok (.istore 5, 2) := by decide +kernel
theorem d_Li_undoTags_13 : decode b_Li_undoTags 13 = .ok (.iload 5, 2) := by decide +kernel
theorem d_Li_undoTags_15 : decode b_Li_undoTags 15 = .ok (.aload_n 1, 1) := by decide +kernel
theorem d_Li_undoTags_16 : decode b_Li_undoTags 16 = .ok (.getfield 48, 3) := by decide +kernel
theorem d_Li_undoTags_19 : decode b_Li_undoTags 19 = .ok (.if_icmp .ge 79, 3) := by decide +kernel
theorem d_Li_undoTags_22 : decode b_Li_undoTags 22 = .ok (.iload 4, 2) := by decide +kernel
theorem d_Li_undoTags_24 : decode b_Li_undoTags 24 = .ok (.ifCond .eq 74, 3) := by decide +kernel
theorem d_Li_undoTags_27 : decode b_Li_undoTags 27 = .ok (.aload_n 1, 1) := by decide +kernel
theorem d_Li_undoTags_28 : decode b_Li_undoTags 28 = .ok (.iload 5, 2) := by decide +kernel
theorem d_Li_undoTags_30 : decode b_Li_undoTags 30 = .ok (.invokevirtual 64, 3) := by decide +kernel
theorem d_Li_undoTags_33 : decode b_Li_undoTags 33 = .ok (.istore 6, 2) := by decide +kernel
theorem d_Li_undoTags_35 : decode b_Li_undoTags 35 = .ok (.iload 6, 2) := by decide +kernel
theorem d_Li_undoTags_37 : decode b_Li_undoTags 37 = .ok (.iconst 4, 1) := by decide +kernel
theorem d_Li_undoTags_38 : decode b_Li_undoTags 38 = .ok (.if_icmp .gt 7, 3) := by decide +kernel
theorem d_Li_undoTags_41 : decode b_Li_undoTags 41 = .ok (.iconst 1, 1) := by decide +kernel
theorem d_Li_undoTags_42 : decode b_Li_undoTags 42 = .ok (.goto 4, 3) := by decide +kernel
theorem d_Li_undoTags_45 : decode b_Li_undoTags 45 = .ok (.iconst 0, 1) := by decide +kernel
theorem d_Li_undoTags_46 : decode b_Li_undoTags 46 = .ok (.istore 4, 2) := by decide +kernel
theorem d_Li_undoTags_48 : decode b_Li_undoTags 48 = .ok (.iload 4, 2) := by decide +kernel
theorem d_Li_undoTags_50 : decode b_Li_undoTags 50 = .ok (.ifCond .eq 37, 3) := by decide +kernel
theorem d_Li_undoTags_53 : decode b_Li_undoTags 53 = .ok (.iload_n 2, 1) := by decide +kernel
theorem d_Li_undoTags_54 : decode b_Li_undoTags 54 = .ok (.aload_n 1, 1) := by decide +kernel
theorem d_Li_undoTags_55 : decode b_Li_undoTags 55 = .ok (.getfield 48, 3) := by decide +kernel
theorem d_Li_undoTags_58 : decode b_Li_undoTags 58 = .ok (.iload 5, 2) := by decide +kernel
theorem d_Li_undoTags_60 : decode b_Li_undoTags 60 = .ok (.isub, 1) := by decide +kernel
theorem d_Li_undoTags_61 : decode b_Li_undoTags 61 = .ok (.iconst 1, 1) := by decide +kernel
theorem d_Li_undoTags_62 : decode b_Li_undoTags 62 = .ok (.isub, 1) := by decide +kernel
theorem d_Li_undoTags_63 : decode b_Li_undoTags 63 = .ok (.invokestatic 53, 3) := by decide +kernel
theorem d_Li_undoTags_66 : decode b_Li_undoTags 66 = .ok (.istore 7, 2) := by decide +kernel
theorem d_Li_undoTags_68 : decode b_Li_undoTags 68 = .ok (.aload_n 0, 1) := by decide +kernel
theorem d_Li_undoTags_69 : decode b_Li_undoTags 69 = .ok (.aload_n 1, 1) := by decide +kernel
theorem d_Li_undoTags_70 : decode b_Li_undoTags 70 = .ok (.iload 6, 2) := by decide +kernel
theorem d_Li_undoTags_72 : decode b_Li_undoTags 72 = .ok (.iload 5, 2) := by decide +kernel
theorem d_Li_undoTags_74 : decode b_Li_undoTags 74 = .ok (.iconst 1, 1) := by decide +kernel
theorem d_Li_undoTags_75 : decode b_Li_undoTags 75 = .ok (.iadd, 1) := by decide +kernel
theorem d_Li_undoTags_76 : decode b_Li_undoTags 76 = .ok (.iload_n 3, 1) := by decide +kernel
theorem d_Li_undoTags_77 : decode b_Li_undoTags 77 = .ok (.iload 7, 2) := by decide +kernel
theorem d_Li_undoTags_79 : decode b_Li_undoTags 79 = .ok (.invokevirtual 78, 3) := by decide +kernel
theorem d_Li_undoTags_82 : decode b_Li_undoTags 82 = .ok (.iload_n 3, 1) := by decide +kernel
theorem d_Li_undoTags_83 : decode b_Li_undoTags 83 = .ok (.iload 7, 2) := by decide +kernel
theorem d_Li_undoTags_85 : decode b_Li_undoTags 85 = .ok (.iadd, 1) := by decide +kernel
theorem d_Li_undoTags_86 : decode b_Li_undoTags 86 = .ok (.istore_n 3, 1) := by decide +kernel
theorem d_Li_undoTags_87 : decode b_Li_undoTags 87 = .ok (.iload 5, 2) := by decide +kernel
theorem d_Li_undoTags_89 : decode b_Li_undoTags 89 = .ok (.iload_n 2, 1) := by decide +kernel
theorem d_Li_undoTags_90 : decode b_Li_undoTags 90 = .ok (.iconst 1, 1) := by decide +kernel
theorem d_Li_undoTags_91 : decode b_Li_undoTags 91 = .ok (.iadd, 1) := by decide +kernel
theorem d_Li_undoTags_92 : decode b_Li_undoTags 92 = .ok (.iadd, 1) := by decide +kernel
theorem d_Li_undoTags_93 : decode b_Li_undoTags 93 = .ok (.istore 5, 2) := by decide +kernel
theorem d_Li_undoTags_95 : decode b_Li_undoTags 95 = .ok (.goto (-82), 3) := by decide +kernel
theorem d_Li_undoTags_98 : decode b_Li_undoTags 98 = .ok (.aload_n 1, 1) := by decide +kernel
theorem d_Li_undoTags_99 : decode b_Li_undoTags 99 = .ok (.iload_n 3, 1) := by decide +kernel
theorem d_Li_undoTags_100 : decode b_Li_undoTags 100 = .ok (.putfield 48, 3) := by decide +kernel
theorem d_Li_undoTags_103 : decode b_Li_undoTags 103 = .ok (.iload 4, 2) := by decide +kernel
theorem d_Li_undoTags_105 : decode b_Li_undoTags 105 = .ok (.ireturn, 1) := by decide +kernel
noncomputable def f_Li_undoTags_B87 (K13 : mH → Nat → Nat → Int32 → Int32 → Int32 → Int32 → Option (Int32 × mH)) (n0 : Nat) (h0 : mH) (a0 : Nat) (a1 : Nat) (x2 : Int32) (x3 : Int32) (x4 : Int32) (x5 : Int32) : Option (Int32 × mH) :=
  mnm (x5 + (x2 + 1)) fun v16 =>
  K13 h0 a0 a1 x2 x3 x4 v16
noncomputable def f_Li_undoTags_B46 (K13 : mH → Nat → Nat → Int32 → Int32 → Int32 → Int32 → Option (Int32 × mH)) (n0 : Nat) (h0 : mH) (a0 : Nat) (a1 : Nat) (x2 : Int32) (x3 : Int32) (x5 : Int32) (x6 : Int32) (p0 : Int32) : Option (Int32 × mH) :=
  if p0 = 0 then
    f_Li_undoTags_B87 K13 n0 h0 a0 a1 x2 x3 p0 x5
  else
    mgi h0 a1 1 1 fun v17 =>
    mnm (if ((v17 - x5) - 1) < x2 then ((v17 - x5) - 1) else x2) fun v18 =>
    mis h0 a0 6 <|
    mcl (f_Li_undoRow n0 h0 a0 a1 x6 (x5 + 1) x3 v18) fun _ h21 =>
    mnm (x3 + v18) fun v23 =>
    f_Li_undoTags_B87 K13 n0 h21 a0 a1 x2 v23 p0 x5
noncomputable def f_Li_undoTags_L13  (n0 : Nat) : Nat → mH → Nat → Nat → Int32 → Int32 → Int32 → Int32 → Option (Int32 × mH)
  | 0, _, _, _, _, _, _, _ => none
  | n + 1, h0, a0, a1, x2, x3, x4, x5 =>
    mgi h0 a1 1 1 fun v4 =>
    if v4 ≤ x5 then
      mpt h0 a1 1 1 (.int x3) fun h6 =>
      mge (narrow .boolean (.int x4) = .int x4) <|
      some (x4, h6)
    else
      if x4 = 0 then
        mpt h0 a1 1 1 (.int x3) fun h9 =>
        mge (narrow .boolean (.int x4) = .int x4) <|
        some (x4, h9)
      else
        mis h0 a1 1 <|
        mcl (f_By_byteAt n0 h0 a1 x5) fun v12 h13 =>
        if 4 < v12 then
          f_Li_undoTags_B46 (f_Li_undoTags_L13 n0 n) n0 h13 a0 a1 x2 x3 x5 v12 0
        else
          f_Li_undoTags_B46 (f_Li_undoTags_L13 n0 n) n0 h13 a0 a1 x2 x3 x5 v12 1
noncomputable def f_Li_undoTags  (n0 : Nat) (h0 : mH) (a0 : Nat) (a1 : Nat) : Option (Int32 × mH) :=
  mis h0 a0 6 <|
  mcl (f_Li_rowSize n0 h0 a0) fun v2 h3 =>
  f_Li_undoTags_L13 n0 n0 h3 a0 a1 v2 0 1 0
set_option maxHeartbeats 4000000 in
set_option maxRecDepth 100000 in
theorem cb_Li_undoTags_B87 {X : mX} {ad : Nat → Nat} {ln : Launch} (O : mO X ad R_Li b_Li_undoTags 8 (mR 4 105) ln) (K13 : mH → Nat → Nat → Int32 → Int32 → Int32 → Int32 → Option (Int32 × mH)) (r' : Int32) (h' : mH) (hE : mEnd X ad (some .boolean) (some (.int r')) h') (hK13 : ∀ (h : mH) (a0 : Nat) (a1 : Nat) (x2 : Int32) (x3 : Int32) (x4 : Int32) (x5 : Int32), K13 h a0 a1 x2 x3 x4 x5 = some (r', h') → mAW X ad 0 0 13 [(0, .ref a0), (1, .ref a1), (2, .int x2), (3, .int x3), (4, .int x4), (5, .int x5)] [] h) (n0 : Nat) (h0 : mH) (a0 : Nat) (a1 : Nat) (x2 : Int32) (x3 : Int32) (x4 : Int32) (x5 : Int32) (hf : f_Li_undoTags_B87 K13 n0 h0 a0 a1 x2 x3 x4 x5 = some (r', h')) : mAW X ad 0 0 87 [(0, .ref a0), (1, .ref a1), (2, .int x2), (3, .int x3), (4, .int x4), (5, .int x5)] [] h0 := by
  unfold f_Li_undoTags_B87 at hf
  refine ax_iload O d_Li_undoTags_87 5 rfl ?_
  refine ax_iload_n O d_Li_undoTags_89 rfl 2 rfl ?_
  refine ax_iconst (v := 1) O d_Li_undoTags_90 (by decide) ?_
  refine ax_iadd O d_Li_undoTags_91 ?_
  refine ax_iadd O d_Li_undoTags_92 ?_
  obtain ⟨v16, ev16, hf⟩ := mnm_some hf
  refine ax_nmi ev16 ?_
  refine ax_istore (lv' := [(5, .int v16), (0, .ref a0), (1, .ref a1), (2, .int x2), (3, .int x3), (4, .int x4)]) O d_Li_undoTags_93 (by decide) rfl ?_
  refine ax_goto (tgt := 13) O d_Li_undoTags_95 (by decide) ?_
  refine ax_sub [1, 2, 3, 4, 5, 0] rfl ?_
  exact hK13 _ _ _ _ _ _ _ hf
set_option maxHeartbeats 4000000 in
set_option maxRecDepth 100000 in
theorem cb_Li_undoTags_B46 {X : mX} {ad : Nat → Nat} {ln : Launch} (O : mO X ad R_Li b_Li_undoTags 8 (mR 4 105) ln) (K13 : mH → Nat → Nat → Int32 → Int32 → Int32 → Int32 → Option (Int32 × mH)) (r' : Int32) (h' : mH) (hE : mEnd X ad (some .boolean) (some (.int r')) h') (hK13 : ∀ (h : mH) (a0 : Nat) (a1 : Nat) (x2 : Int32) (x3 : Int32) (x4 : Int32) (x5 : Int32), K13 h a0 a1 x2 x3 x4 x5 = some (r', h') → mAW X ad 0 0 13 [(0, .ref a0), (1, .ref a1), (2, .int x2), (3, .int x3), (4, .int x4), (5, .int x5)] [] h) (n0 : Nat) (h0 : mH) (a0 : Nat) (a1 : Nat) (x2 : Int32) (x3 : Int32) (x5 : Int32) (x6 : Int32) (p0 : Int32) (hf : f_Li_undoTags_B46 K13 n0 h0 a0 a1 x2 x3 x5 x6 p0 = some (r', h')) : mAW X ad 0 0 46 [(0, .ref a0), (1, .ref a1), (2, .int x2), (3, .int x3), (5, .int x5), (6, .int x6)] [.int p0] h0 := by
  unfold f_Li_undoTags_B46 at hf
  refine ax_istore (lv' := [(4, .int p0), (0, .ref a0), (1, .ref a1), (2, .int x2), (3, .int x3), (5, .int x5), (6, .int x6)]) O d_Li_undoTags_46 (by decide) rfl ?_
  refine ax_iload O d_Li_undoTags_48 0 rfl ?_
  refine ax_if_eq (tgt := 87) O d_Li_undoTags_50 (by decide) (fun q15 => ?_) (fun q15 => ?_)
  · rw [if_pos q15] at hf
    refine ax_sub [1, 2, 3, 4, 0, 5] rfl ?_
    exact cb_Li_undoTags_B87 O K13 _ _ hE hK13 n0 _ _ _ _ _ _ _ hf
  · rw [if_neg q15] at hf
    refine ax_iload_n O d_Li_undoTags_53 rfl 3 rfl ?_
    refine ax_aload_n O d_Li_undoTags_54 rfl 2 rfl ?_
    obtain ⟨fv17, v17, cv17, kv17, hf⟩ := mgi_some hf
    refine ax_get O fg_Li_48 cv17 kv17 d_Li_undoTags_55 ?_
    refine ax_iload O d_Li_undoTags_58 5 rfl ?_
    refine ax_isub O d_Li_undoTags_60 ?_
    refine ax_iconst (v := 1) O d_Li_undoTags_61 (by decide) ?_
    refine ax_isub O d_Li_undoTags_62 ?_
    obtain ⟨v18, ev18, hf⟩ := mnm_some hf
    refine ax_mmin O wd_5 (by decide) (Nat.le_of_ble_eq_true rfl) d_Li_undoTags_63 ?_
    refine ax_nmi ev18 ?_
    refine ax_istore (lv' := [(7, .int v18), (4, .int p0), (0, .ref a0), (1, .ref a1), (2, .int x2), (3, .int x3), (5, .int x5), (6, .int x6)]) O d_Li_undoTags_66 (by decide) rfl ?_
    refine ax_aload_n O d_Li_undoTags_68 rfl 2 rfl ?_
    refine ax_aload_n O d_Li_undoTags_69 rfl 3 rfl ?_
    refine ax_iload O d_Li_undoTags_70 7 rfl ?_
    refine ax_iload O d_Li_undoTags_72 6 rfl ?_
    refine ax_iconst (v := 1) O d_Li_undoTags_74 (by decide) ?_
    refine ax_iadd O d_Li_undoTags_75 ?_
    refine ax_iload_n O d_Li_undoTags_76 rfl 5 rfl ?_
    refine ax_iload O d_Li_undoTags_77 0 rfl ?_
    obtain ⟨fh21, ch21, hf⟩ := mis_some hf
    obtain ⟨u22, h21, mh21, hf⟩ := mcl_some hf
    refine ax_callV (As := [.ref a1, .int x6, .int (x5 + 1), .int x3, .int v18]) (rest := []) O cw_Li_undoRow (q := (R_Li, T_Li, 6)) rfl rfl in_Li_undoRow se_Li_undoRow lk_Li_78 ch21 (c_Li_undoRow mh21) rfl ⟨rfl, rfl⟩ (by decide) (by decide) (Nat.le_of_ble_eq_true rfl) d_Li_undoTags_79 ?_
    refine ax_iload_n O d_Li_undoTags_82 rfl 5 rfl ?_
    refine ax_iload O d_Li_undoTags_83 0 rfl ?_
    refine ax_iadd O d_Li_undoTags_85 ?_
    obtain ⟨v23, ev23, hf⟩ := mnm_some hf
    refine ax_nmi ev23 ?_
    refine ax_istore_n (lv' := [(3, .int v23), (7, .int v18), (4, .int p0), (0, .ref a0), (1, .ref a1), (2, .int x2), (5, .int x5), (6, .int x6)]) O d_Li_undoTags_86 rfl (by decide) rfl ?_
    refine ax_sub [3, 4, 5, 0, 2, 6] rfl ?_
    exact cb_Li_undoTags_B87 O K13 _ _ hE hK13 n0 _ _ _ _ _ _ _ hf
set_option maxHeartbeats 4000000 in
set_option maxRecDepth 100000 in
theorem cb_Li_undoTags_L13 {X : mX} {ad : Nat → Nat} {ln : Launch} (O : mO X ad R_Li b_Li_undoTags 8 (mR 4 105) ln) (r' : Int32) (h' : mH) (hE : mEnd X ad (some .boolean) (some (.int r')) h') (n0 : Nat) : ∀ (n : Nat) (h0 : mH) (a0 : Nat) (a1 : Nat) (x2 : Int32) (x3 : Int32) (x4 : Int32) (x5 : Int32), f_Li_undoTags_L13 n0 n h0 a0 a1 x2 x3 x4 x5 = some (r', h') → mAW X ad 0 0 13 [(0, .ref a0), (1, .ref a1), (2, .int x2), (3, .int x3), (4, .int x4), (5, .int x5)] [] h0 := by
  intro n
  induction n with
  | zero =>
    intro h0 a0 a1 x2 x3 x4 x5 hf
    rw [f_Li_undoTags_L13.eq_1] at hf
    cases hf
  | succ n ih =>
    intro h0 a0 a1 x2 x3 x4 x5 hf
    rw [f_Li_undoTags_L13.eq_2] at hf
    refine ax_iload O d_Li_undoTags_13 5 rfl ?_
    refine ax_aload_n O d_Li_undoTags_15 rfl 1 rfl ?_
    obtain ⟨fv4, v4, cv4, kv4, hf⟩ := mgi_some hf
    refine ax_get O fg_Li_48 cv4 kv4 d_Li_undoTags_16 ?_
    refine ax_icmp_ge (tgt := 98) O d_Li_undoTags_19 (by decide) (fun q5 => ?_) (fun q5 => ?_)
    · rw [if_pos q5] at hf
      refine ax_aload_n O d_Li_undoTags_98 rfl 1 rfl ?_
      refine ax_iload_n O d_Li_undoTags_99 rfl 3 rfl ?_
      obtain ⟨fh6, h6, ch6, kh6, eh6, hf⟩ := mpt_some hf
      refine ax_put (v := .int x3) O fp_Li_48 ch6 kh6 eh6 rfl rfl d_Li_undoTags_100 ?_
      refine ax_iload O d_Li_undoTags_103 4 rfl ?_
      obtain ⟨q7, hf⟩ := mge_some hf
      exact ax_retE O hE hf q7 d_Li_undoTags_105
    · rw [if_neg q5] at hf
      refine ax_iload O d_Li_undoTags_22 4 rfl ?_
      refine ax_if_eq (tgt := 98) O d_Li_undoTags_24 (by decide) (fun q8 => ?_) (fun q8 => ?_)
      · rw [if_pos q8] at hf
        refine ax_aload_n O d_Li_undoTags_98 rfl 1 rfl ?_
        refine ax_iload_n O d_Li_undoTags_99 rfl 3 rfl ?_
        obtain ⟨fh9, h9, ch9, kh9, eh9, hf⟩ := mpt_some hf
        refine ax_put (v := .int x3) O fp_Li_48 ch9 kh9 eh9 rfl rfl d_Li_undoTags_100 ?_
        refine ax_iload O d_Li_undoTags_103 4 rfl ?_
        obtain ⟨q10, hf⟩ := mge_some hf
        exact ax_retE O hE hf q10 d_Li_undoTags_105
      · rw [if_neg q8] at hf
        refine ax_aload_n O d_Li_undoTags_27 rfl 1 rfl ?_
        refine ax_iload O d_Li_undoTags_28 5 rfl ?_
        obtain ⟨fh13, ch13, hf⟩ := mis_some hf
        obtain ⟨v12, h13, mh13, hf⟩ := mcl_some hf
        refine ax_callV (As := [.int x5]) (rest := []) O cw_By_byteAt (q := (R_By, T_By, 2)) rfl rfl in_By_byteAt se_By_byteAt lk_Li_64 ch13 (c_By_byteAt mh13) rfl ⟨rfl, rfl⟩ (by decide) (by decide) (Nat.le_of_ble_eq_true rfl) d_Li_undoTags_30 ?_
        refine ax_istore (lv' := [(6, .int v12), (0, .ref a0), (1, .ref a1), (2, .int x2), (3, .int x3), (4, .int x4), (5, .int x5)]) O d_Li_undoTags_33 (by decide) rfl ?_
        refine ax_iload O d_Li_undoTags_35 0 rfl ?_
        refine ax_iconst (v := 4) O d_Li_undoTags_37 (by decide) ?_
        refine ax_icmp_gt (tgt := 45) O d_Li_undoTags_38 (by decide) (fun q14 => ?_) (fun q14 => ?_)
        · rw [if_pos q14] at hf
          refine ax_iconst (v := 0) O d_Li_undoTags_45 (by decide) ?_
          refine ax_sub [1, 2, 3, 4, 6, 0] rfl ?_
          exact cb_Li_undoTags_B46 O (f_Li_undoTags_L13 n0 n) _ _ hE ih n0 _ _ _ _ _ _ _ _ hf
        · rw [if_neg q14] at hf
          refine ax_iconst (v := 1) O d_Li_undoTags_41 (by decide) ?_
          refine ax_goto (tgt := 46) O d_Li_undoTags_42 (by decide) ?_
          refine ax_sub [1, 2, 3, 4, 6, 0] rfl ?_
          exact cb_Li_undoTags_B46 O (f_Li_undoTags_L13 n0 n) _ _ hE ih n0 _ _ _ _ _ _ _ _ hf
set_option maxHeartbeats 4000000 in
set_option maxRecDepth 100000 in
theorem cb_Li_undoTags {X : mX} {ad : Nat → Nat} {ln : Launch} (O : mO X ad R_Li b_Li_undoTags 8 (mR 4 105) ln) (r' : Int32) (h' : mH) (hE : mEnd X ad (some .boolean) (some (.int r')) h') (n0 : Nat) (h0 : mH) (a0 : Nat) (a1 : Nat) (hf : f_Li_undoTags n0 h0 a0 a1 = some (r', h')) : mAW X ad 0 0 0 [(0, .ref a0), (1, .ref a1)] [] h0 := by
  unfold f_Li_undoTags at hf
  refine ax_aload_n O d_Li_undoTags_0 rfl 0 rfl ?_
  obtain ⟨fh3, ch3, hf⟩ := mis_some hf
  obtain ⟨v2, h3, mh3, hf⟩ := mcl_some hf
  refine ax_callV (As := []) (rest := []) O cw_Li_rowSize (q := (R_Li, T_Li, 6)) rfl rfl in_Li_rowSize se_Li_rowSize lk_Li_44 ch3 (c_Li_rowSize mh3) rfl ⟨rfl, rfl⟩ (by decide) (by decide) (Nat.le_of_ble_eq_true rfl) d_Li_undoTags_1 ?_
  refine ax_istore_n (lv' := [(2, .int v2), (0, .ref a0), (1, .ref a1)]) O d_Li_undoTags_4 rfl (by decide) rfl ?_
  refine ax_iconst (v := 0) O d_Li_undoTags_5 (by decide) ?_
  refine ax_istore_n (lv' := [(3, .int 0), (2, .int v2), (0, .ref a0), (1, .ref a1)]) O d_Li_undoTags_6 rfl (by decide) rfl ?_
  refine ax_iconst (v := 1) O d_Li_undoTags_7 (by decide) ?_
  refine ax_istore (lv' := [(4, .int 1), (3, .int 0), (2, .int v2), (0, .ref a0), (1, .ref a1)]) O d_Li_undoTags_8 (by decide) rfl ?_
  refine ax_iconst (v := 0) O d_Li_undoTags_10 (by decide) ?_
  refine ax_istore (lv' := [(5, .int 0), (4, .int 1), (3, .int 0), (2, .int v2), (0, .ref a0), (1, .ref a1)]) O d_Li_undoTags_11 (by decide) rfl ?_
  refine ax_sub [4, 5, 3, 2, 1, 0] rfl ?_
  exact cb_Li_undoTags_L13 O _ _ hE n0 n0 _ _ _ _ _ _ _ hf
theorem c_Li_undoTags {ln : Launch} {n0 : Nat} {h0 h' : mH} {a0 : Nat} {a1 : Nat} {r' : Int32} (hf : f_Li_undoTags n0 h0 a0 a1 = some (r', h')) : mMet ln y_Li_undoTags b_Li_undoTags 8 (some .boolean) (mR 4 105) [.ref a0, .ref a1] h0 (some (.int r')) h' := mMet_of (by decide +kernel) (Nat.le_of_ble_eq_true rfl) (fun X ad O hE => cb_Li_undoTags O r' h' hE n0 h0 a0 a1 hf)
/-! ===== StreamFilters$Link.undo(LStreamFilters$Bytes;)Z ===== -/
theorem d_Li_undo_0 : decode b_Li_undo 0 = .ok (.aload_n 0, 1) := by decide +kernel
theorem d_Li_undo_1 : decode b_Li_undo 1 = .ok (.getfield 18, 3) := by decide +kernel
theorem d_Li_undo_4 : decode b_Li_undo 4 = .ok (.iconst 2, 1) := by decide +kernel
theorem d_Li_undo_5 : decode b_Li_undo 5 = .ok (.if_icmp .ne 8, 3) := by decide +kernel
theorem d_Li_undo_8 : decode b_Li_undo 8 = .ok (.aload_n 0, 1) := by decide +kernel
theorem d_Li_undo_9 : decode b_Li_undo 9 = .ok (.aload_n 1, 1) := by decide +kernel
theorem d_Li_undo_10 : decode b_Li_undo 10 = .ok (.invokevirtual 30, 3) := by decide +kernel
theorem d_Li_undo_13 : decode b_Li_undo 13 = .ok (.aload_n 0, 1) := by decide +kernel
theorem d_Li_undo_14 : decode b_Li_undo 14 = .ok (.getfield 18, 3) := by decide +kernel
theorem d_Li_undo_17 : decode b_Li_undo 17 = .ok (.bipush 10, 2) := by decide +kernel
theorem d_Li_undo_19 : decode b_Li_undo 19 = .ok (.if_icmp .lt 11, 3) := by decide +kernel
theorem d_Li_undo_22 : decode b_Li_undo 22 = .ok (.aload_n 0, 1) := by decide +kernel
theorem d_Li_undo_23 : decode b_Li_undo 23 = .ok (.aload_n 1, 1) := by decide +kernel
theorem d_Li_undo_24 : decode b_Li_undo 24 = .ok (.invokevirtual 34, 3) := by decide +kernel
theorem d_Li_undo_27 : decode b_Li_undo 27 = .ok (.ifCond .eq 7, 3) := by decide +kernel
theorem d_Li_undo_30 : decode b_Li_undo 30 = .ok (.iconst 1, 1) := by decide +kernel
theorem d_Li_undo_31 : decode b_Li_undo 31 = .ok (.goto 4, 3) := by decide +kernel
theorem d_Li_undo_34 : decode b_Li_undo 34 = .ok (.iconst 0, 1) := by decide +kernel
theorem d_Li_undo_35 : decode b_Li_undo 35 = .ok (.ireturn, 1) := by decide +kernel
noncomputable def f_Li_undo_B13  (n0 : Nat) (h0 : mH) (a0 : Nat) (a1 : Nat) : Option (Int32 × mH) :=
  mgi h0 a0 6 2 fun v3 =>
  if v3 < 10 then
    some (1, h0)
  else
    mis h0 a0 6 <|
    mcl (f_Li_undoTags n0 h0 a0 a1) fun v6 h7 =>
    if v6 = 0 then
      some (0, h7)
    else
      some (1, h7)
noncomputable def f_Li_undo  (n0 : Nat) (h0 : mH) (a0 : Nat) (a1 : Nat) : Option (Int32 × mH) :=
  mgi h0 a0 6 2 fun v1 =>
  if v1 = 2 then
    mis h0 a0 6 <|
    mcl (f_Li_undoNumbers n0 h0 a0 a1) fun _ h11 =>
    f_Li_undo_B13 n0 h11 a0 a1
  else
    f_Li_undo_B13 n0 h0 a0 a1
set_option maxHeartbeats 4000000 in
set_option maxRecDepth 100000 in
theorem cb_Li_undo_B13 {X : mX} {ad : Nat → Nat} {ln : Launch} (O : mO X ad R_Li b_Li_undo 2 (mR 5 132) ln) (r' : Int32) (h' : mH) (hE : mEnd X ad (some .boolean) (some (.int r')) h') (n0 : Nat) (h0 : mH) (a0 : Nat) (a1 : Nat) (hf : f_Li_undo_B13 n0 h0 a0 a1 = some (r', h')) : mAW X ad 0 0 13 [(0, .ref a0), (1, .ref a1)] [] h0 := by
  unfold f_Li_undo_B13 at hf
  refine ax_aload_n O d_Li_undo_13 rfl 0 rfl ?_
  obtain ⟨fv3, v3, cv3, kv3, hf⟩ := mgi_some hf
  refine ax_get O fg_Li_18 cv3 kv3 d_Li_undo_14 ?_
  refine ax_bipush (v := 10) O d_Li_undo_17 (by decide) ?_
  refine ax_icmp_lt (tgt := 30) O d_Li_undo_19 (by decide) (fun q4 => ?_) (fun q4 => ?_)
  · rw [if_pos q4] at hf
    refine ax_iconst (v := 1) O d_Li_undo_30 (by decide) ?_
    refine ax_goto (tgt := 35) O d_Li_undo_31 (by decide) ?_
    exact ax_retE O hE hf rfl d_Li_undo_35
  · rw [if_neg q4] at hf
    refine ax_aload_n O d_Li_undo_22 rfl 0 rfl ?_
    refine ax_aload_n O d_Li_undo_23 rfl 1 rfl ?_
    obtain ⟨fh7, ch7, hf⟩ := mis_some hf
    obtain ⟨v6, h7, mh7, hf⟩ := mcl_some hf
    refine ax_callV (As := [.ref a1]) (rest := []) O cw_Li_undoTags (q := (R_Li, T_Li, 6)) rfl rfl in_Li_undoTags se_Li_undoTags lk_Li_34 ch7 (c_Li_undoTags mh7) rfl ⟨rfl, rfl⟩ (by decide) (by decide) (Nat.le_of_ble_eq_true rfl) d_Li_undo_24 ?_
    refine ax_if_eq (tgt := 34) O d_Li_undo_27 (by decide) (fun q8 => ?_) (fun q8 => ?_)
    · rw [if_pos q8] at hf
      refine ax_iconst (v := 0) O d_Li_undo_34 (by decide) ?_
      exact ax_retE O hE hf rfl d_Li_undo_35
    · rw [if_neg q8] at hf
      refine ax_iconst (v := 1) O d_Li_undo_30 (by decide) ?_
      refine ax_goto (tgt := 35) O d_Li_undo_31 (by decide) ?_
      exact ax_retE O hE hf rfl d_Li_undo_35
set_option maxHeartbeats 4000000 in
set_option maxRecDepth 100000 in
theorem cb_Li_undo {X : mX} {ad : Nat → Nat} {ln : Launch} (O : mO X ad R_Li b_Li_undo 2 (mR 5 132) ln) (r' : Int32) (h' : mH) (hE : mEnd X ad (some .boolean) (some (.int r')) h') (n0 : Nat) (h0 : mH) (a0 : Nat) (a1 : Nat) (hf : f_Li_undo n0 h0 a0 a1 = some (r', h')) : mAW X ad 0 0 0 [(0, .ref a0), (1, .ref a1)] [] h0 := by
  unfold f_Li_undo at hf
  refine ax_aload_n O d_Li_undo_0 rfl 0 rfl ?_
  obtain ⟨fv1, v1, cv1, kv1, hf⟩ := mgi_some hf
  refine ax_get O fg_Li_18 cv1 kv1 d_Li_undo_1 ?_
  refine ax_iconst (v := 2) O d_Li_undo_4 (by decide) ?_
  refine ax_icmp_ne (tgt := 13) O d_Li_undo_5 (by decide) (fun q2 => ?_) (fun q2 => ?_)
  · rw [if_neg q2] at hf
    exact cb_Li_undo_B13 O _ _ hE n0 _ _ _ hf
  · rw [if_pos q2] at hf
    refine ax_aload_n O d_Li_undo_8 rfl 0 rfl ?_
    refine ax_aload_n O d_Li_undo_9 rfl 1 rfl ?_
    obtain ⟨fh11, ch11, hf⟩ := mis_some hf
    obtain ⟨u12, h11, mh11, hf⟩ := mcl_some hf
    refine ax_callV (As := [.ref a1]) (rest := []) O cw_Li_undoNumbers (q := (R_Li, T_Li, 6)) rfl rfl in_Li_undoNumbers se_Li_undoNumbers lk_Li_30 ch11 (c_Li_undoNumbers mh11) rfl ⟨rfl, rfl⟩ (by decide) (by decide) (Nat.le_of_ble_eq_true rfl) d_Li_undo_10 ?_
    exact cb_Li_undo_B13 O _ _ hE n0 _ _ _ hf
theorem c_Li_undo {ln : Launch} {n0 : Nat} {h0 h' : mH} {a0 : Nat} {a1 : Nat} {r' : Int32} (hf : f_Li_undo n0 h0 a0 a1 = some (r', h')) : mMet ln y_Li_undo b_Li_undo 2 (some .boolean) (mR 5 132) [.ref a0, .ref a1] h0 (some (.int r')) h' := mMet_of (by decide +kernel) (Nat.le_of_ble_eq_true rfl) (fun X ad O hE => cb_Li_undo O r' h' hE n0 h0 a0 a1 hf)
/-! ===== StreamFilters.at(I)I ===== -/
theorem d_SF_at_0 : decode b_SF_at 0 = .ok (.iload_n 1, 1) := by decide +kernel
theorem d_SF_at_1 : decode b_SF_at 1 = .ok (.ifCond .lt 25, 3) := by decide +kernel
theorem d_SF_at_4 : decode b_SF_at 4 = .ok (.iload_n 1, 1) := by decide +kernel
theorem d_SF_at_5 : decode b_SF_at 5 = .ok (.aload_n 0, 1) := by decide +kernel
theorem d_SF_at_6 : decode b_SF_at 6 = .ok (.getfield 80, 3) := by decide +kernel
theorem d_SF_at_9 : decode b_SF_at 9 = .ok (.getfield 97, 3) := by decide +kernel
theorem d_SF_at_12 : decode b_SF_at 12 = .ok (.if_icmp .ge 14, 3) := by decide +kernel
theorem d_SF_at_15 : decode b_SF_at 15 = .ok (.aload_n 0, 1) := by decide +kernel
theorem d_SF_at_16 : decode b_SF_at 16 = .ok (.getfield 80, 3) := by decide +kernel
theorem d_SF_at_19 : decode b_SF_at 19 = .ok (.iload_n 1, 1) := by decide +kernel
theorem d_SF_at_20 : decode b_SF_at 20 = .ok (.invokevirtual 115, 3) := by decide +kernel
theorem d_SF_at_23 : decode b_SF_at 23 = .ok (.goto 4, 3) := by decide +kernel
theorem d_SF_at_26 : decode b_SF_at 26 = .ok (.iconst (-1), 1) := by decide +kernel
theorem d_SF_at_27 : decode b_SF_at 27 = .ok (.ireturn, 1) := by decide +kernel
noncomputable def f_SF_at  (n0 : Nat) (h0 : mH) (a0 : Nat) (x1 : Int32) : Option (Int32 × mH) :=
  if x1 < 0 then
    some ((-1), h0)
  else
    mgr h0 a0 0 12 fun r2 =>
    mgi h0 r2 1 1 fun v3 =>
    if v3 ≤ x1 then
      some ((-1), h0)
    else
      mgr h0 a0 0 12 fun r5 =>
      mis h0 r5 1 <|
      mcl (f_By_byteAt n0 h0 r5 x1) fun v7 h8 =>
      some (v7, h8)
set_option maxHeartbeats 4000000 in
set_option maxRecDepth 100000 in
theorem cb_SF_at {X : mX} {ad : Nat → Nat} {ln : Launch} (O : mO X ad R_SF b_SF_at 2 (mR 1 21) ln) (r' : Int32) (h' : mH) (hE : mEnd X ad (some .int) (some (.int r')) h') (n0 : Nat) (h0 : mH) (a0 : Nat) (x1 : Int32) (hf : f_SF_at n0 h0 a0 x1 = some (r', h')) : mAW X ad 0 0 0 [(0, .ref a0), (1, .int x1)] [] h0 := by
  unfold f_SF_at at hf
  refine ax_iload_n O d_SF_at_0 rfl 1 rfl ?_
  refine ax_if_lt (tgt := 26) O d_SF_at_1 (by decide) (fun q1 => ?_) (fun q1 => ?_)
  · rw [if_pos q1] at hf
    refine ax_iconst (v := (-1)) O d_SF_at_26 (by decide) ?_
    exact ax_retE O hE hf rfl d_SF_at_27
  · rw [if_neg q1] at hf
    refine ax_iload_n O d_SF_at_4 rfl 1 rfl ?_
    refine ax_aload_n O d_SF_at_5 rfl 0 rfl ?_
    obtain ⟨fr2, r2, cr2, kr2, hf⟩ := mgr_some hf
    refine ax_get O fg_SF_80 cr2 kr2 d_SF_at_6 ?_
    obtain ⟨fv3, v3, cv3, kv3, hf⟩ := mgi_some hf
    refine ax_get O fg_SF_97 cv3 kv3 d_SF_at_9 ?_
    refine ax_icmp_ge (tgt := 26) O d_SF_at_12 (by decide) (fun q4 => ?_) (fun q4 => ?_)
    · rw [if_pos q4] at hf
      refine ax_iconst (v := (-1)) O d_SF_at_26 (by decide) ?_
      exact ax_retE O hE hf rfl d_SF_at_27
    · rw [if_neg q4] at hf
      refine ax_aload_n O d_SF_at_15 rfl 0 rfl ?_
      obtain ⟨fr5, r5, cr5, kr5, hf⟩ := mgr_some hf
      refine ax_get O fg_SF_80 cr5 kr5 d_SF_at_16 ?_
      refine ax_iload_n O d_SF_at_19 rfl 1 rfl ?_
      obtain ⟨fh8, ch8, hf⟩ := mis_some hf
      obtain ⟨v7, h8, mh8, hf⟩ := mcl_some hf
      refine ax_callV (As := [.int x1]) (rest := []) O cw_By_byteAt (q := (R_By, T_By, 2)) rfl rfl in_By_byteAt se_By_byteAt lk_SF_115 ch8 (c_By_byteAt mh8) rfl ⟨rfl, rfl⟩ (by decide) (by decide) (Nat.le_of_ble_eq_true rfl) d_SF_at_20 ?_
      refine ax_goto (tgt := 27) O d_SF_at_23 (by decide) ?_
      exact ax_retE O hE hf rfl d_SF_at_27
theorem c_SF_at {ln : Launch} {n0 : Nat} {h0 h' : mH} {a0 : Nat} {x1 : Int32} {r' : Int32} (hf : f_SF_at n0 h0 a0 x1 = some (r', h')) : mMet ln y_SF_at b_SF_at 2 (some .int) (mR 1 21) [.ref a0, .int x1] h0 (some (.int r')) h' := mMet_of (by decide +kernel) (Nat.le_of_ble_eq_true rfl) (fun X ad O hE => cb_SF_at O r' h' hE n0 h0 a0 x1 hf)
/-! ===== StreamFilters.fault(I)I ===== -/
theorem d_SF_fault_0 : decode b_SF_fault 0 = .ok (.iload_n 1, 1) := by decide +kernel
theorem d_SF_fault_1 : decode b_SF_fault 1 = .ok (.tableswitch 42 0 2 #[27, 32, 37], 27) := by decide +kernel
theorem d_SF_fault_28 : decode b_SF_fault 28 = .ok (.aload_n 0, 1) := by decide +kernel
theorem d_SF_fault_29 : decode b_SF_fault 29 = .ok (.getfield 87, 3) := by decide +kernel
theorem d_SF_fault_32 : decode b_SF_fault 32 = .ok (.ireturn, 1) := by decide +kernel
theorem d_SF_fault_33 : decode b_SF_fault 33 = .ok (.aload_n 0, 1) := by decide +kernel
theorem d_SF_fault_34 : decode b_SF_fault 34 = .ok (.getfield 90, 3) := by decide +kernel
theorem d_SF_fault_37 : decode b_SF_fault 37 = .ok (.ireturn, 1) := by decide +kernel
theorem d_SF_fault_38 : decode b_SF_fault 38 = .ok (.aload_n 0, 1) := by decide +kernel
theorem d_SF_fault_39 : decode b_SF_fault 39 = .ok (.getfield 93, 3) := by decide +kernel
theorem d_SF_fault_42 : decode b_SF_fault 42 = .ok (.ireturn, 1) := by decide +kernel
theorem d_SF_fault_43 : decode b_SF_fault 43 = .ok (.iconst (-1), 1) := by decide +kernel
theorem d_SF_fault_44 : decode b_SF_fault 44 = .ok (.ireturn, 1) := by decide +kernel
noncomputable def f_SF_fault  (n0 : Nat) (h0 : mH) (a0 : Nat) (x1 : Int32) : Option (Int32 × mH) :=
  if x1 = 0 then
    mgi h0 a0 0 14 fun v2 =>
    some (v2, h0)
  else
    if x1 = 1 then
      mgi h0 a0 0 15 fun v4 =>
      some (v4, h0)
    else
      if x1 = 2 then
        mgi h0 a0 0 16 fun v6 =>
        some (v6, h0)
      else
        some ((-1), h0)
set_option maxHeartbeats 4000000 in
set_option maxRecDepth 100000 in
theorem cb_SF_fault {X : mX} {ad : Nat → Nat} {ln : Launch} (O : mO X ad R_SF b_SF_fault 2 (mR 0 0) ln) (r' : Int32) (h' : mH) (hE : mEnd X ad (some .int) (some (.int r')) h') (n0 : Nat) (h0 : mH) (a0 : Nat) (x1 : Int32) (hf : f_SF_fault n0 h0 a0 x1 = some (r', h')) : mAW X ad 0 0 0 [(0, .ref a0), (1, .int x1)] [] h0 := by
  unfold f_SF_fault at hf
  refine ax_iload_n O d_SF_fault_0 rfl 1 rfl ?_
  by_cases q1 : x1 = 0
  · rw [if_pos q1] at hf
    refine ax_tableIn (tgt := 28) O d_SF_fault_1 (by rw [q1]; decide) (by rw [q1]; decide) (by rw [q1]; rfl) (by decide) ?_
    refine ax_aload_n O d_SF_fault_28 rfl 0 rfl ?_
    obtain ⟨fv2, v2, cv2, kv2, hf⟩ := mgi_some hf
    refine ax_get O fg_SF_87 cv2 kv2 d_SF_fault_29 ?_
    exact ax_retE O hE hf rfl d_SF_fault_32
  · rw [if_neg q1] at hf
    by_cases q3 : x1 = 1
    · rw [if_pos q3] at hf
      refine ax_tableIn (tgt := 33) O d_SF_fault_1 (by rw [q3]; decide) (by rw [q3]; decide) (by rw [q3]; rfl) (by decide) ?_
      refine ax_aload_n O d_SF_fault_33 rfl 0 rfl ?_
      obtain ⟨fv4, v4, cv4, kv4, hf⟩ := mgi_some hf
      refine ax_get O fg_SF_90 cv4 kv4 d_SF_fault_34 ?_
      exact ax_retE O hE hf rfl d_SF_fault_37
    · rw [if_neg q3] at hf
      by_cases q5 : x1 = 2
      · rw [if_pos q5] at hf
        refine ax_tableIn (tgt := 38) O d_SF_fault_1 (by rw [q5]; decide) (by rw [q5]; decide) (by rw [q5]; rfl) (by decide) ?_
        refine ax_aload_n O d_SF_fault_38 rfl 0 rfl ?_
        obtain ⟨fv6, v6, cv6, kv6, hf⟩ := mgi_some hf
        refine ax_get O fg_SF_93 cv6 kv6 d_SF_fault_39 ?_
        exact ax_retE O hE hf rfl d_SF_fault_42
      · rw [if_neg q5] at hf
        refine ax_tableOut (tgt := 43) O d_SF_fault_1 (mTi (fun z h1 h2 => by rcases (show z = 0 ∨ z = 1 ∨ z = 2 by omega) with rfl | rfl | rfl; exact lv_neT q1 (by decide); exact lv_neT q3 (by decide); exact lv_neT q5 (by decide))) (by decide) ?_
        refine ax_iconst (v := (-1)) O d_SF_fault_43 (by decide) ?_
        exact ax_retE O hE hf rfl d_SF_fault_44
theorem c_SF_fault {ln : Launch} {n0 : Nat} {h0 h' : mH} {a0 : Nat} {x1 : Int32} {r' : Int32} (hf : f_SF_fault n0 h0 a0 x1 = some (r', h')) : mMet ln y_SF_fault b_SF_fault 2 (some .int) (mR 0 0) [.ref a0, .int x1] h0 (some (.int r')) h' := mMet_of (by decide +kernel) (Nat.le_of_ble_eq_true rfl) (fun X ad O hE => cb_SF_fault O r' h' hE n0 h0 a0 x1 hf)
/-! ===== StreamFiltersModel.refused(I)Z ===== -/
theorem d_Mo_refused_0 : decode b_Mo_refused 0 = .ok (.aload_n 0, 1) := by decide +kernel
theorem d_Mo_refused_1 : decode b_Mo_refused 1 = .ok (.iload_n 1, 1) := by decide +kernel
theorem d_Mo_refused_2 : decode b_Mo_refused 2 = .ok (.putfield 69, 3) := by decide +kernel
theorem d_Mo_refused_5 : decode b_Mo_refused 5 = .ok (.iload_n 1, 1) := by decide +kernel
theorem d_Mo_refused_6 : decode b_Mo_refused 6 = .ok (.ifCond .le 7, 3) := by decide +kernel
theorem d_Mo_refused_9 : decode b_Mo_refused 9 = .ok (.iconst 1, 1) := by decide +kernel
theorem d_Mo_refused_10 : decode b_Mo_refused 10 = .ok (.goto 4, 3) := by decide +kernel
theorem d_Mo_refused_13 : decode b_Mo_refused 13 = .ok (.iconst 0, 1) := by decide +kernel
theorem d_Mo_refused_14 : decode b_Mo_refused 14 = .ok (.ireturn, 1) := by decide +kernel
noncomputable def f_Mo_refused  (n0 : Nat) (h0 : mH) (a0 : Nat) (x1 : Int32) : Option (Int32 × mH) :=
  mpt h0 a0 10 0 (.int x1) fun h1 =>
  if x1 ≤ 0 then
    some (0, h1)
  else
    some (1, h1)
set_option maxHeartbeats 4000000 in
set_option maxRecDepth 100000 in
theorem cb_Mo_refused {X : mX} {ad : Nat → Nat} {ln : Launch} (O : mO X ad R_Mo b_Mo_refused 2 (mR 0 0) ln) (r' : Int32) (h' : mH) (hE : mEnd X ad (some .boolean) (some (.int r')) h') (n0 : Nat) (h0 : mH) (a0 : Nat) (x1 : Int32) (hf : f_Mo_refused n0 h0 a0 x1 = some (r', h')) : mAW X ad 0 0 0 [(0, .ref a0), (1, .int x1)] [] h0 := by
  unfold f_Mo_refused at hf
  refine ax_aload_n O d_Mo_refused_0 rfl 0 rfl ?_
  refine ax_iload_n O d_Mo_refused_1 rfl 1 rfl ?_
  obtain ⟨fh1, h1, ch1, kh1, eh1, hf⟩ := mpt_some hf
  refine ax_put (v := .int x1) O fp_Mo_69 ch1 kh1 eh1 rfl rfl d_Mo_refused_2 ?_
  refine ax_iload_n O d_Mo_refused_5 rfl 1 rfl ?_
  refine ax_if_le (tgt := 13) O d_Mo_refused_6 (by decide) (fun q2 => ?_) (fun q2 => ?_)
  · rw [if_pos q2] at hf
    refine ax_iconst (v := 0) O d_Mo_refused_13 (by decide) ?_
    exact ax_retE O hE hf rfl d_Mo_refused_14
  · rw [if_neg q2] at hf
    refine ax_iconst (v := 1) O d_Mo_refused_9 (by decide) ?_
    refine ax_goto (tgt := 14) O d_Mo_refused_10 (by decide) ?_
    exact ax_retE O hE hf rfl d_Mo_refused_14
theorem c_Mo_refused {ln : Launch} {n0 : Nat} {h0 h' : mH} {a0 : Nat} {x1 : Int32} {r' : Int32} (hf : f_Mo_refused n0 h0 a0 x1 = some (r', h')) : mMet ln y_Mo_refused b_Mo_refused 2 (some .boolean) (mR 0 0) [.ref a0, .int x1] h0 (some (.int r')) h' := mMet_of (by decide +kernel) (Nat.le_of_ble_eq_true rfl) (fun X ad O hE => cb_Mo_refused O r' h' hE n0 h0 a0 x1 hf)
/-! ===== StreamFiltersModel.isIn(III)Z ===== -/
theorem d_Mo_isIn_0 : decode b_Mo_isIn 0 = .ok (.iload_n 0, 1) := by decide +kernel
theorem d_Mo_isIn_1 : decode b_Mo_isIn 1 = .ok (.iload_n 1, 1) := by decide +kernel
theorem d_Mo_isIn_2 : decode b_Mo_isIn 2 = .ok (.if_icmp .lt 12, 3) := by decide +kernel
theorem d_Mo_isIn_5 : decode b_Mo_isIn 5 = .ok (.iload_n 0, 1) := by decide +kernel
theorem d_Mo_isIn_6 : decode b_Mo_isIn 6 = .ok (.iload_n 2, 1) := by decide +kernel
theorem d_Mo_isIn_7 : decode b_Mo_isIn 7 = .ok (.if_icmp .gt 7, 3) := by decide +kernel
theorem d_Mo_isIn_10 : decode b_Mo_isIn 10 = .ok (.iconst 1, 1) := by decide +kernel
theorem d_Mo_isIn_11 : decode b_Mo_isIn 11 = .ok (.goto 4, 3) := by decide +kernel
theorem d_Mo_isIn_14 : decode b_Mo_isIn 14 = .ok (.iconst 0, 1) := by decide +kernel
theorem d_Mo_isIn_15 : decode b_Mo_isIn 15 = .ok (.ireturn, 1) := by decide +kernel
noncomputable def f_Mo_isIn  (n0 : Nat) (h0 : mH) (x0 : Int32) (x1 : Int32) (x2 : Int32) : Option (Int32 × mH) :=
  if x0 < x1 then
    some (0, h0)
  else
    if x2 < x0 then
      some (0, h0)
    else
      some (1, h0)
set_option maxHeartbeats 4000000 in
set_option maxRecDepth 100000 in
theorem cb_Mo_isIn {X : mX} {ad : Nat → Nat} {ln : Launch} (O : mO X ad R_Mo b_Mo_isIn 3 (mR 0 0) ln) (r' : Int32) (h' : mH) (hE : mEnd X ad (some .boolean) (some (.int r')) h') (n0 : Nat) (h0 : mH) (x0 : Int32) (x1 : Int32) (x2 : Int32) (hf : f_Mo_isIn n0 h0 x0 x1 x2 = some (r', h')) : mAW X ad 0 0 0 [(0, .int x0), (1, .int x1), (2, .int x2)] [] h0 := by
  unfold f_Mo_isIn at hf
  refine ax_iload_n O d_Mo_isIn_0 rfl 0 rfl ?_
  refine ax_iload_n O d_Mo_isIn_1 rfl 1 rfl ?_
  refine ax_icmp_lt (tgt := 14) O d_Mo_isIn_2 (by decide) (fun q1 => ?_) (fun q1 => ?_)
  · rw [if_pos q1] at hf
    refine ax_iconst (v := 0) O d_Mo_isIn_14 (by decide) ?_
    exact ax_retE O hE hf rfl d_Mo_isIn_15
  · rw [if_neg q1] at hf
    refine ax_iload_n O d_Mo_isIn_5 rfl 0 rfl ?_
    refine ax_iload_n O d_Mo_isIn_6 rfl 2 rfl ?_
    refine ax_icmp_gt (tgt := 14) O d_Mo_isIn_7 (by decide) (fun q2 => ?_) (fun q2 => ?_)
    · rw [if_pos q2] at hf
      refine ax_iconst (v := 0) O d_Mo_isIn_14 (by decide) ?_
      exact ax_retE O hE hf rfl d_Mo_isIn_15
    · rw [if_neg q2] at hf
      refine ax_iconst (v := 1) O d_Mo_isIn_10 (by decide) ?_
      refine ax_goto (tgt := 15) O d_Mo_isIn_11 (by decide) ?_
      exact ax_retE O hE hf rfl d_Mo_isIn_15
theorem c_Mo_isIn {ln : Launch} {n0 : Nat} {h0 h' : mH} {x0 : Int32} {x1 : Int32} {x2 : Int32} {r' : Int32} (hf : f_Mo_isIn n0 h0 x0 x1 x2 = some (r', h')) : mMet ln y_Mo_isIn b_Mo_isIn 3 (some .boolean) (mR 0 0) [.int x0, .int x1, .int x2] h0 (some (.int r')) h' := mMet_of (by decide +kernel) (Nat.le_of_ble_eq_true rfl) (fun X ad O hE => cb_Mo_isIn O r' h' hE n0 h0 x0 x1 x2 hf)
/-! ===== StreamFiltersModel.feed(IIIII)I ===== -/
theorem d_Mo_feed_0 : decode b_Mo_feed 0 = .ok (.aload_n 0, 1) := by decide +kernel
theorem d_Mo_feed_1 : decode b_Mo_feed 1 = .ok (.iconst 0, 1) := by decide +kernel
theorem d_Mo_feed_2 : decode b_Mo_feed 2 = .ok (.putfield 69, 3) := by decide +kernel
theorem d_Mo_feed_5 : decode b_Mo_feed 5 = .ok (.aload_n 0, 1) := by decide +kernel
theorem d_Mo_feed_6 : decode b_Mo_feed 6 = .ok (.getfield 72, 3) := by decide +kernel
theorem d_Mo_feed_9 : decode b_Mo_feed 9 = .ok (.bipush 20, 2) := by decide +kernel
theorem d_Mo_feed_11 : decode b_Mo_feed 11 = .ok (.iadd, 1) := by decide +kernel
theorem d_Mo_feed_12 : decode b_Mo_feed 12 = .ok (.sipush 16384, 3) := by decide +kernel
theorem d_Mo_feed_15 : decode b_Mo_feed 15 = .ok (.if_icmp .le 5, 3) := by decide +kernel
theorem d_Mo_feed_18 : decode b_Mo_feed 18 = .ok (.iconst (-1), 1) := by decide +kernel
theorem d_Mo_feed_19 : decode b_Mo_feed 19 = .ok (.ireturn, 1) := by decide +kernel
theorem d_Mo_feed_20 : decode b_Mo_feed 20 = .ok (.iconst 0, 1) := by decide +kernel
theorem d_Mo_feed_21 : decode b_Mo_feed 21 = .ok (.istore 6, 2) := by decide +kernel
theorem d_Mo_feed_23 : decode b_Mo_feed 23 = .ok (.iload 6, 2) := by decide +kernel
theorem d_Mo_feed_25 : decode b_Mo_feed 25 = .ok (.bipush 20, 2) := by decide +kernel
theorem d_Mo_feed_27 : decode b_Mo_feed 27 = .ok (.if_icmp .ge 93, 3) := by decide +kernel
theorem d_Mo_feed_30 : decode b_Mo_feed 30 = .ok (.iload 6, 2) := by decide +kernel
theorem d_Mo_feed_32 : decode b_Mo_feed 32 = .ok (.iconst 4, 1) := by decide +kernel
theorem d_Mo_feed_33 : decode b_Mo_feed 33 = .ok (.if_icmp .ge 7, 3) := by decide +kernel
theorem d_Mo_feed_36 : decode b_Mo_feed 36 = .ok (.iload_n 1, 1) := by decide +kernel
theorem d_Mo_feed_37 : decode b_Mo_feed 37 = .ok (.goto 39, 3) := by decide +kernel
theorem d_Mo_feed_40 : decode b_Mo_feed 40 = .ok (.iload 6, 2) := by decide +kernel
theorem d_Mo_feed_42 : decode b_Mo_feed 42 = .ok (.bipush 8, 2) := by decide +kernel
theorem d_Mo_feed_44 : decode b_Mo_feed 44 = .ok (.if_icmp .ge 7, 3) := by decide +kernel
theorem d_Mo_feed_47 : decode b_Mo_feed 47 = .ok (.iload_n 2, 1) := by decide +kernel
theorem d_Mo_feed_48 : decode b_Mo_feed 48 = .ok (.goto 28, 3) := by decide +kernel
theorem d_Mo_feed_51 : decode b_Mo_feed 51 = .ok (.iload 6, 2) := by decide +kernel
theorem d_Mo_feed_53 : decode b_Mo_feed 53 = .ok (.bipush 12, 2) := by decide +kernel
theorem d_Mo_feed_55 : decode b_Mo_feed 55 = .ok (.if_icmp .ge 7, 3) := by decide +kernel
theorem d_Mo_feed_58 : decode b_Mo_feed 58 = .ok (.iload_n 3, 1) := by decide +kernel
theorem d_Mo_feed_59 : decode b_Mo_feed 59 = .ok (.goto 17, 3) := by decide +kernel
theorem d_Mo_feed_62 : decode b_Mo_feed 62 = .ok (.iload 6, 2) := by decide +kernel
theorem d_Mo_feed_64 : decode b_Mo_feed 64 = .ok (.bipush 16, 2) := by decide +kernel
theorem d_Mo_feed_66 : decode b_Mo_feed 66 = .ok (.if_icmp .ge 8, 3) := by decide +kernel
theorem d_Mo_feed_69 : decode b_Mo_feed 69 = .ok (.iload 4, 2) := by decide +kernel
theorem d_Mo_feed_71 : decode b_Mo_feed 71 = .ok (.goto 5, 3) := by decide +kernel
theorem d_Mo_feed_74 : decode b_Mo_feed 74 = .ok (.iload 5, 2) := by decide +kernel
theorem d_Mo_feed_76 : decode b_Mo_feed 76 = .ok (.istore 7, 2) := by decide +kernel
theorem d_Mo_feed_78 : decode b_Mo_feed 78 = .ok (.aload_n 0, 1) := by decide +kernel
theorem d_Mo_feed_79 : decode b_Mo_feed 79 = .ok (.getfield 7, 3) := by decide +kernel
theorem d_Mo_feed_82 : decode b_Mo_feed 82 = .ok (.aload_n 0, 1) := by decide +kernel
theorem d_Mo_feed_83 : decode b_Mo_feed 83 = .ok (.getfield 72, 3) := by decide +kernel
theorem d_Mo_feed_86 : decode b_Mo_feed 86 = .ok (.iload 7, 2) := by decide +kernel
theorem d_Mo_feed_88 : decode b_Mo_feed 88 = .ok (.bipush 24, 2) := by decide +kernel
theorem d_Mo_feed_90 : decode b_Mo_feed 90 = .ok (.bipush 8, 2) := by decide +kernel
theorem d_Mo_feed_92 : decode b_Mo_feed 92 = .ok (.iload 6, 2) := by decide +kernel
theorem d_Mo_feed_94 : decode b_Mo_feed 94 = .ok (.iconst 4, 1) := by decide +kernel
theorem d_Mo_feed_95 : decode b_Mo_feed 95 = .ok (.irem, 1) := by decide +kernel
theorem d_Mo_feed_96 : decode b_Mo_feed 96 = .ok (.imul, 1) := by decide +kernel
theorem d_Mo_feed_97 : decode b_Mo_feed 97 = .ok (.isub, 1) := by decide +kernel
theorem d_Mo_feed_98 : decode b_Mo_feed 98 = .ok (.ishr, 1) := by decide +kernel
theorem d_Mo_feed_99 : decode b_Mo_feed 99 = .ok (.sipush 255, 3) := by decide +kernel
theorem d_Mo_feed_102 : decode b_Mo_feed 102 = .ok (.iand, 1) := by decide +kernel
theorem d_Mo_feed_103 : decode b_Mo_feed 103 = .ok (.iastore, 1) := by decide +kernel
theorem d_Mo_feed_104 : decode b_Mo_feed 104 = .ok (.aload_n 0, 1) := by decide +kernel
theorem d_Mo_feed_105 : decode b_Mo_feed 105 = .ok (.dup, 1) := by decide +kernel
theorem d_Mo_feed_106 : decode b_Mo_feed 106 = .ok (.getfield 72, 3) := by decide +kernel
theorem d_Mo_feed_109 : decode b_Mo_feed 109 = .ok (.iconst 1, 1) := by decide +kernel
theorem d_Mo_feed_110 : decode b_Mo_feed 110 = .ok (.iadd, 1) := by decide +kernel
theorem d_Mo_feed_111 : decode b_Mo_feed 111 = .ok (.putfield 72, 3) := by decide +kernel
theorem d_Mo_feed_114 : decode b_Mo_feed 114 = .ok (.iinc 6 1, 3) := by decide +kernel
theorem d_Mo_feed_117 : decode b_Mo_feed 117 = .ok (.goto (-94), 3) := by decide +kernel
theorem d_Mo_feed_120 : decode b_Mo_feed 120 = .ok (.aload_n 0, 1) := by decide +kernel
theorem d_Mo_feed_121 : decode b_Mo_feed 121 = .ok (.getfield 72, 3) := by decide +kernel
theorem d_Mo_feed_124 : decode b_Mo_feed 124 = .ok (.ireturn, 1) := by decide +kernel
noncomputable def f_Mo_feed_B76 (K23 : mH → Nat → Int32 → Int32 → Int32 → Int32 → Int32 → Int32 → Option (Int32 × mH)) (n0 : Nat) (h0 : mH) (a0 : Nat) (x1 : Int32) (x2 : Int32) (x3 : Int32) (x4 : Int32) (x5 : Int32) (x6 : Int32) (p0 : Int32) : Option (Int32 × mH) :=
  mgr h0 a0 10 2 fun r10 =>
  mgi h0 a0 10 1 fun v11 =>
  mas h0 r10 .int v11 ((p0 >>> ((24 - (8 * (x6 - x6 / 4 * 4))) &&& 31)) &&& 255) fun h12 =>
  mgi h12 a0 10 1 fun v13 =>
  mpt h12 a0 10 1 (.int (v13 + 1)) fun h14 =>
  mnm (x6 + 1) fun v15 =>
  K23 h14 a0 x1 x2 x3 x4 x5 v15
noncomputable def f_Mo_feed_L23  (n0 : Nat) : Nat → mH → Nat → Int32 → Int32 → Int32 → Int32 → Int32 → Int32 → Option (Int32 × mH)
  | 0, _, _, _, _, _, _, _, _ => none
  | n + 1, h0, a0, x1, x2, x3, x4, x5, x6 =>
    if 20 ≤ x6 then
      mgi h0 a0 10 1 fun v5 =>
      some (v5, h0)
    else
      if 4 ≤ x6 then
        if 8 ≤ x6 then
          if 12 ≤ x6 then
            if 16 ≤ x6 then
              f_Mo_feed_B76 (f_Mo_feed_L23 n0 n) n0 h0 a0 x1 x2 x3 x4 x5 x6 x5
            else
              f_Mo_feed_B76 (f_Mo_feed_L23 n0 n) n0 h0 a0 x1 x2 x3 x4 x5 x6 x4
          else
            f_Mo_feed_B76 (f_Mo_feed_L23 n0 n) n0 h0 a0 x1 x2 x3 x4 x5 x6 x3
        else
          f_Mo_feed_B76 (f_Mo_feed_L23 n0 n) n0 h0 a0 x1 x2 x3 x4 x5 x6 x2
      else
        f_Mo_feed_B76 (f_Mo_feed_L23 n0 n) n0 h0 a0 x1 x2 x3 x4 x5 x6 x1
noncomputable def f_Mo_feed  (n0 : Nat) (h0 : mH) (a0 : Nat) (x1 : Int32) (x2 : Int32) (x3 : Int32) (x4 : Int32) (x5 : Int32) : Option (Int32 × mH) :=
  mpt h0 a0 10 0 (.int 0) fun h1 =>
  mgi h1 a0 10 1 fun v2 =>
  if (v2 + 20) ≤ 16384 then
    f_Mo_feed_L23 n0 n0 h1 a0 x1 x2 x3 x4 x5 0
  else
    some ((-1), h1)
set_option maxHeartbeats 4000000 in
set_option maxRecDepth 100000 in
theorem cb_Mo_feed_B76 {X : mX} {ad : Nat → Nat} {ln : Launch} (O : mO X ad R_Mo b_Mo_feed 8 (mR 0 0) ln) (K23 : mH → Nat → Int32 → Int32 → Int32 → Int32 → Int32 → Int32 → Option (Int32 × mH)) (r' : Int32) (h' : mH) (hE : mEnd X ad (some .int) (some (.int r')) h') (hK23 : ∀ (h : mH) (a0 : Nat) (x1 : Int32) (x2 : Int32) (x3 : Int32) (x4 : Int32) (x5 : Int32) (x6 : Int32), K23 h a0 x1 x2 x3 x4 x5 x6 = some (r', h') → mAW X ad 0 0 23 [(0, .ref a0), (1, .int x1), (2, .int x2), (3, .int x3), (4, .int x4), (5, .int x5), (6, .int x6)] [] h) (n0 : Nat) (h0 : mH) (a0 : Nat) (x1 : Int32) (x2 : Int32) (x3 : Int32) (x4 : Int32) (x5 : Int32) (x6 : Int32) (p0 : Int32) (hf : f_Mo_feed_B76 K23 n0 h0 a0 x1 x2 x3 x4 x5 x6 p0 = some (r', h')) : mAW X ad 0 0 76 [(0, .ref a0), (1, .int x1), (2, .int x2), (3, .int x3), (4, .int x4), (5, .int x5), (6, .int x6)] [.int p0] h0 := by
  unfold f_Mo_feed_B76 at hf
  refine ax_istore (lv' := [(7, .int p0), (0, .ref a0), (1, .int x1), (2, .int x2), (3, .int x3), (4, .int x4), (5, .int x5), (6, .int x6)]) O d_Mo_feed_76 (by decide) rfl ?_
  refine ax_aload_n O d_Mo_feed_78 rfl 1 rfl ?_
  obtain ⟨fr10, r10, cr10, kr10, hf⟩ := mgr_some hf
  refine ax_get O fg_Mo_7 cr10 kr10 d_Mo_feed_79 ?_
  refine ax_aload_n O d_Mo_feed_82 rfl 1 rfl ?_
  obtain ⟨fv11, v11, cv11, kv11, hf⟩ := mgi_some hf
  refine ax_get O fg_Mo_72 cv11 kv11 d_Mo_feed_83 ?_
  refine ax_iload O d_Mo_feed_86 0 rfl ?_
  refine ax_bipush (v := 24) O d_Mo_feed_88 (by decide) ?_
  refine ax_bipush (v := 8) O d_Mo_feed_90 (by decide) ?_
  refine ax_iload O d_Mo_feed_92 7 rfl ?_
  refine ax_iconst (v := 4) O d_Mo_feed_94 (by decide) ?_
  refine ax_irem O d_Mo_feed_95 (by decide) ?_
  refine ax_imul O d_Mo_feed_96 ?_
  refine ax_isub O d_Mo_feed_97 ?_
  refine ax_ishr O d_Mo_feed_98 ?_
  refine ax_sipush (v := 255) O d_Mo_feed_99 (by decide) ?_
  refine ax_iand O d_Mo_feed_102 ?_
  obtain ⟨nh12, fh12, h12, ch12, ih12, eh12, hf⟩ := mas_some hf
  refine ax_iast O ch12 ih12 eh12 d_Mo_feed_103 ?_
  refine ax_aload_n O d_Mo_feed_104 rfl 1 rfl ?_
  refine ax_dup O d_Mo_feed_105 rfl ?_
  obtain ⟨fv13, v13, cv13, kv13, hf⟩ := mgi_some hf
  refine ax_get O fg_Mo_72 cv13 kv13 d_Mo_feed_106 ?_
  refine ax_iconst (v := 1) O d_Mo_feed_109 (by decide) ?_
  refine ax_iadd O d_Mo_feed_110 ?_
  obtain ⟨fh14, h14, ch14, kh14, eh14, hf⟩ := mpt_some hf
  refine ax_put (v := .int (v13 + 1)) O fp_Mo_72 ch14 kh14 eh14 rfl rfl d_Mo_feed_111 ?_
  obtain ⟨v15, ev15, hf⟩ := mnm_some hf
  refine ax_iinc (j := 7) (v := v15) (lv' := [(6, .int v15), (7, .int p0), (0, .ref a0), (1, .int x1), (2, .int x2), (3, .int x3), (4, .int x4), (5, .int x5)]) O d_Mo_feed_114 rfl (by rw [ev15]; rfl) (by decide) rfl ?_
  refine ax_goto (tgt := 23) O d_Mo_feed_117 (by decide) ?_
  refine ax_sub [2, 3, 4, 5, 6, 7, 0] rfl ?_
  exact hK23 _ _ _ _ _ _ _ _ hf
set_option maxHeartbeats 4000000 in
set_option maxRecDepth 100000 in
theorem cb_Mo_feed_L23 {X : mX} {ad : Nat → Nat} {ln : Launch} (O : mO X ad R_Mo b_Mo_feed 8 (mR 0 0) ln) (r' : Int32) (h' : mH) (hE : mEnd X ad (some .int) (some (.int r')) h') (n0 : Nat) : ∀ (n : Nat) (h0 : mH) (a0 : Nat) (x1 : Int32) (x2 : Int32) (x3 : Int32) (x4 : Int32) (x5 : Int32) (x6 : Int32), f_Mo_feed_L23 n0 n h0 a0 x1 x2 x3 x4 x5 x6 = some (r', h') → mAW X ad 0 0 23 [(0, .ref a0), (1, .int x1), (2, .int x2), (3, .int x3), (4, .int x4), (5, .int x5), (6, .int x6)] [] h0 := by
  intro n
  induction n with
  | zero =>
    intro h0 a0 x1 x2 x3 x4 x5 x6 hf
    rw [f_Mo_feed_L23.eq_1] at hf
    cases hf
  | succ n ih =>
    intro h0 a0 x1 x2 x3 x4 x5 x6 hf
    rw [f_Mo_feed_L23.eq_2] at hf
    refine ax_iload O d_Mo_feed_23 6 rfl ?_
    refine ax_bipush (v := 20) O d_Mo_feed_25 (by decide) ?_
    refine ax_icmp_ge (tgt := 120) O d_Mo_feed_27 (by decide) (fun q4 => ?_) (fun q4 => ?_)
    · rw [if_pos q4] at hf
      refine ax_aload_n O d_Mo_feed_120 rfl 0 rfl ?_
      obtain ⟨fv5, v5, cv5, kv5, hf⟩ := mgi_some hf
      refine ax_get O fg_Mo_72 cv5 kv5 d_Mo_feed_121 ?_
      exact ax_retE O hE hf rfl d_Mo_feed_124
    · rw [if_neg q4] at hf
      refine ax_iload O d_Mo_feed_30 6 rfl ?_
      refine ax_iconst (v := 4) O d_Mo_feed_32 (by decide) ?_
      refine ax_icmp_ge (tgt := 40) O d_Mo_feed_33 (by decide) (fun q6 => ?_) (fun q6 => ?_)
      · rw [if_pos q6] at hf
        refine ax_iload O d_Mo_feed_40 6 rfl ?_
        refine ax_bipush (v := 8) O d_Mo_feed_42 (by decide) ?_
        refine ax_icmp_ge (tgt := 51) O d_Mo_feed_44 (by decide) (fun q7 => ?_) (fun q7 => ?_)
        · rw [if_pos q7] at hf
          refine ax_iload O d_Mo_feed_51 6 rfl ?_
          refine ax_bipush (v := 12) O d_Mo_feed_53 (by decide) ?_
          refine ax_icmp_ge (tgt := 62) O d_Mo_feed_55 (by decide) (fun q8 => ?_) (fun q8 => ?_)
          · rw [if_pos q8] at hf
            refine ax_iload O d_Mo_feed_62 6 rfl ?_
            refine ax_bipush (v := 16) O d_Mo_feed_64 (by decide) ?_
            refine ax_icmp_ge (tgt := 74) O d_Mo_feed_66 (by decide) (fun q9 => ?_) (fun q9 => ?_)
            · rw [if_pos q9] at hf
              refine ax_iload O d_Mo_feed_74 5 rfl ?_
              exact cb_Mo_feed_B76 O (f_Mo_feed_L23 n0 n) _ _ hE ih n0 _ _ _ _ _ _ _ _ _ hf
            · rw [if_neg q9] at hf
              refine ax_iload O d_Mo_feed_69 4 rfl ?_
              refine ax_goto (tgt := 76) O d_Mo_feed_71 (by decide) ?_
              exact cb_Mo_feed_B76 O (f_Mo_feed_L23 n0 n) _ _ hE ih n0 _ _ _ _ _ _ _ _ _ hf
          · rw [if_neg q8] at hf
            refine ax_iload_n O d_Mo_feed_58 rfl 3 rfl ?_
            refine ax_goto (tgt := 76) O d_Mo_feed_59 (by decide) ?_
            exact cb_Mo_feed_B76 O (f_Mo_feed_L23 n0 n) _ _ hE ih n0 _ _ _ _ _ _ _ _ _ hf
        · rw [if_neg q7] at hf
          refine ax_iload_n O d_Mo_feed_47 rfl 2 rfl ?_
          refine ax_goto (tgt := 76) O d_Mo_feed_48 (by decide) ?_
          exact cb_Mo_feed_B76 O (f_Mo_feed_L23 n0 n) _ _ hE ih n0 _ _ _ _ _ _ _ _ _ hf
      · rw [if_neg q6] at hf
        refine ax_iload_n O d_Mo_feed_36 rfl 1 rfl ?_
        refine ax_goto (tgt := 76) O d_Mo_feed_37 (by decide) ?_
        exact cb_Mo_feed_B76 O (f_Mo_feed_L23 n0 n) _ _ hE ih n0 _ _ _ _ _ _ _ _ _ hf
set_option maxHeartbeats 4000000 in
set_option maxRecDepth 100000 in
theorem cb_Mo_feed {X : mX} {ad : Nat → Nat} {ln : Launch} (O : mO X ad R_Mo b_Mo_feed 8 (mR 0 0) ln) (r' : Int32) (h' : mH) (hE : mEnd X ad (some .int) (some (.int r')) h') (n0 : Nat) (h0 : mH) (a0 : Nat) (x1 : Int32) (x2 : Int32) (x3 : Int32) (x4 : Int32) (x5 : Int32) (hf : f_Mo_feed n0 h0 a0 x1 x2 x3 x4 x5 = some (r', h')) : mAW X ad 0 0 0 [(0, .ref a0), (1, .int x1), (2, .int x2), (3, .int x3), (4, .int x4), (5, .int x5)] [] h0 := by
  unfold f_Mo_feed at hf
  refine ax_aload_n O d_Mo_feed_0 rfl 0 rfl ?_
  refine ax_iconst (v := 0) O d_Mo_feed_1 (by decide) ?_
  obtain ⟨fh1, h1, ch1, kh1, eh1, hf⟩ := mpt_some hf
  refine ax_put (v := .int 0) O fp_Mo_69 ch1 kh1 eh1 rfl rfl d_Mo_feed_2 ?_
  refine ax_aload_n O d_Mo_feed_5 rfl 0 rfl ?_
  obtain ⟨fv2, v2, cv2, kv2, hf⟩ := mgi_some hf
  refine ax_get O fg_Mo_72 cv2 kv2 d_Mo_feed_6 ?_
  refine ax_bipush (v := 20) O d_Mo_feed_9 (by decide) ?_
  refine ax_iadd O d_Mo_feed_11 ?_
  refine ax_sipush (v := 16384) O d_Mo_feed_12 (by decide) ?_
  refine ax_icmp_le (tgt := 20) O d_Mo_feed_15 (by decide) (fun q3 => ?_) (fun q3 => ?_)
  · rw [if_pos q3] at hf
    refine ax_iconst (v := 0) O d_Mo_feed_20 (by decide) ?_
    refine ax_istore (lv' := [(6, .int 0), (0, .ref a0), (1, .int x1), (2, .int x2), (3, .int x3), (4, .int x4), (5, .int x5)]) O d_Mo_feed_21 (by decide) rfl ?_
    refine ax_sub [1, 2, 3, 4, 5, 6, 0] rfl ?_
    exact cb_Mo_feed_L23 O _ _ hE n0 n0 _ _ _ _ _ _ _ _ hf
  · rw [if_neg q3] at hf
    refine ax_iconst (v := (-1)) O d_Mo_feed_18 (by decide) ?_
    exact ax_retE O hE hf rfl d_Mo_feed_19
theorem c_Mo_feed {ln : Launch} {n0 : Nat} {h0 h' : mH} {a0 : Nat} {x1 : Int32} {x2 : Int32} {x3 : Int32} {x4 : Int32} {x5 : Int32} {r' : Int32} (hf : f_Mo_feed n0 h0 a0 x1 x2 x3 x4 x5 = some (r', h')) : mMet ln y_Mo_feed b_Mo_feed 8 (some .int) (mR 0 0) [.ref a0, .int x1, .int x2, .int x3, .int x4, .int x5] h0 (some (.int r')) h' := mMet_of (by decide +kernel) (Nat.le_of_ble_eq_true rfl) (fun X ad O hE => cb_Mo_feed O r' h' hE n0 h0 a0 x1 x2 x3 x4 x5 hf)
/-! ===== StreamFiltersModel.put(II)I ===== -/
theorem d_Mo_put_0 : decode b_Mo_put 0 = .ok (.aload_n 0, 1) := by decide +kernel
theorem d_Mo_put_1 : decode b_Mo_put 1 = .ok (.iload_n 1, 1) := by decide +kernel
theorem d_Mo_put_2 : decode b_Mo_put 2 = .ok (.iconst 0, 1) := by decide +kernel
theorem d_Mo_put_3 : decode b_Mo_put 3 = .ok (.aload_n 0, 1) := by decide +kernel
theorem d_Mo_put_4 : decode b_Mo_put 4 = .ok (.getfield 72, 3) := by decide +kernel
theorem d_Mo_put_7 : decode b_Mo_put 7 = .ok (.iconst 1, 1) := by decide +kernel
theorem d_Mo_put_8 : decode b_Mo_put 8 = .ok (.isub, 1) := by decide +kernel
theorem d_Mo_put_9 : decode b_Mo_put 9 = .ok (.invokestatic 75, 3) := by decide +kernel
theorem d_Mo_put_12 : decode b_Mo_put 12 = .ok (.ifCond .ne 7, 3) := by decide +kernel
theorem d_Mo_put_15 : decode b_Mo_put 15 = .ok (.iconst 1, 1) := by decide +kernel
theorem d_Mo_put_16 : decode b_Mo_put 16 = .ok (.goto 19, 3) := by decide +kernel
theorem d_Mo_put_19 : decode b_Mo_put 19 = .ok (.iload_n 2, 1) := by decide +kernel
theorem d_Mo_put_20 : decode b_Mo_put 20 = .ok (.iconst 0, 1) := by decide +kernel
theorem d_Mo_put_21 : decode b_Mo_put 21 = .ok (.sipush 255, 3) := by decide +kernel
theorem d_Mo_put_24 : decode b_Mo_put 24 = .ok (.invokestatic 75, 3) := by decide +kernel
theorem d_Mo_put_27 : decode b_Mo_put 27 = .ok (.ifCond .ne 7, 3) := by decide +kernel
theorem d_Mo_put_30 : decode b_Mo_put 30 = .ok (.iconst 2, 1) := by decide +kernel
theorem d_Mo_put_31 : decode b_Mo_put 31 = .ok (.goto 4, 3) := by decide +kernel
theorem d_Mo_put_34 : decode b_Mo_put 34 = .ok (.iconst 0, 1) := by decide +kernel
theorem d_Mo_put_35 : decode b_Mo_put 35 = .ok (.invokevirtual 79, 3) := by decide +kernel
theorem d_Mo_put_38 : decode b_Mo_put 38 = .ok (.ifCond .eq 5, 3) := by decide +kernel
theorem d_Mo_put_41 : decode b_Mo_put 41 = .ok (.iconst 0, 1) := by decide +kernel
theorem d_Mo_put_42 : decode b_Mo_put 42 = .ok (.ireturn, 1) := by decide +kernel
theorem d_Mo_put_43 : decode b_Mo_put 43 = .ok (.aload_n 0, 1) := by decide +kernel
theorem d_Mo_put_44 : decode b_Mo_put 44 = .ok (.getfield 7, 3) := by decide +kernel
theorem d_Mo_put_47 : decode b_Mo_put 47 = .ok (.iload_n 1, 1) := by decide +kernel
theorem d_Mo_put_48 : decode b_Mo_put 48 = .ok (.iaload, 1) := by decide +kernel
theorem d_Mo_put_49 : decode b_Mo_put 49 = .ok (.istore_n 3, 1) := by decide +kernel
theorem d_Mo_put_50 : decode b_Mo_put 50 = .ok (.aload_n 0, 1) := by decide +kernel
theorem d_Mo_put_51 : decode b_Mo_put 51 = .ok (.getfield 7, 3) := by decide +kernel
theorem d_Mo_put_54 : decode b_Mo_put 54 = .ok (.iload_n 1, 1) := by decide +kernel
theorem d_Mo_put_55 : decode b_Mo_put 55 = .ok (.iload_n 2, 1) := by decide +kernel
theorem d_Mo_put_56 : decode b_Mo_put 56 = .ok (.iastore, 1) := by decide +kernel
theorem d_Mo_put_57 : decode b_Mo_put 57 = .ok (.iload_n 3, 1) := by decide +kernel
theorem d_Mo_put_58 : decode b_Mo_put 58 = .ok (.ireturn, 1) := by decide +kernel
noncomputable def f_Mo_put_B35  (n0 : Nat) (h0 : mH) (a0 : Nat) (x1 : Int32) (x2 : Int32) (p0 : Int32) (b1 : Nat) : Option (Int32 × mH) :=
  mis h0 b1 10 <|
  mcl (f_Mo_refused n0 h0 b1 p0) fun v11 h12 =>
  if v11 = 0 then
    mgr h12 a0 10 2 fun r14 =>
    mai h12 r14 .int x1 fun v15 =>
    mgr h12 a0 10 2 fun r16 =>
    mas h12 r16 .int x1 x2 fun h17 =>
    some (v15, h17)
  else
    some (0, h12)
noncomputable def f_Mo_put  (n0 : Nat) (h0 : mH) (a0 : Nat) (x1 : Int32) (x2 : Int32) : Option (Int32 × mH) :=
  mgi h0 a0 10 1 fun v1 =>
  mcl (f_Mo_isIn n0 h0 x1 0 (v1 - 1)) fun v3 h4 =>
  if v3 = 0 then
    f_Mo_put_B35 n0 h4 a0 x1 x2 1 a0
  else
    mcl (f_Mo_isIn n0 h4 x2 0 255) fun v7 h8 =>
    if v7 = 0 then
      f_Mo_put_B35 n0 h8 a0 x1 x2 2 a0
    else
      f_Mo_put_B35 n0 h8 a0 x1 x2 0 a0
set_option maxHeartbeats 4000000 in
set_option maxRecDepth 100000 in
theorem cb_Mo_put_B35 {X : mX} {ad : Nat → Nat} {ln : Launch} (O : mO X ad R_Mo b_Mo_put 4 (mR 1 22) ln) (r' : Int32) (h' : mH) (hE : mEnd X ad (some .int) (some (.int r')) h') (n0 : Nat) (h0 : mH) (a0 : Nat) (x1 : Int32) (x2 : Int32) (p0 : Int32) (b1 : Nat) (hf : f_Mo_put_B35 n0 h0 a0 x1 x2 p0 b1 = some (r', h')) : mAW X ad 0 0 35 [(0, .ref a0), (1, .int x1), (2, .int x2)] [.int p0, .ref b1] h0 := by
  unfold f_Mo_put_B35 at hf
  obtain ⟨fh12, ch12, hf⟩ := mis_some hf
  obtain ⟨v11, h12, mh12, hf⟩ := mcl_some hf
  refine ax_callV (As := [.int p0]) (rest := []) O cw_Mo_refused (q := (R_Mo, T_Mo, 31)) rfl rfl in_Mo_refused se_Mo_refused lk_Mo_79 ch12 (c_Mo_refused mh12) rfl ⟨rfl, rfl⟩ (by decide) (by decide) (Nat.le_of_ble_eq_true rfl) d_Mo_put_35 ?_
  refine ax_if_eq (tgt := 43) O d_Mo_put_38 (by decide) (fun q13 => ?_) (fun q13 => ?_)
  · rw [if_pos q13] at hf
    refine ax_aload_n O d_Mo_put_43 rfl 0 rfl ?_
    obtain ⟨fr14, r14, cr14, kr14, hf⟩ := mgr_some hf
    refine ax_get O fg_Mo_7 cr14 kr14 d_Mo_put_44 ?_
    refine ax_iload_n O d_Mo_put_47 rfl 1 rfl ?_
    obtain ⟨nv15, fv15, v15, cv15, iv15, kv15, hf⟩ := mai_some hf
    refine ax_iald O cv15 iv15 kv15 d_Mo_put_48 ?_
    refine ax_istore_n (lv' := [(3, .int v15), (0, .ref a0), (1, .int x1), (2, .int x2)]) O d_Mo_put_49 rfl (by decide) rfl ?_
    refine ax_aload_n O d_Mo_put_50 rfl 1 rfl ?_
    obtain ⟨fr16, r16, cr16, kr16, hf⟩ := mgr_some hf
    refine ax_get O fg_Mo_7 cr16 kr16 d_Mo_put_51 ?_
    refine ax_iload_n O d_Mo_put_54 rfl 2 rfl ?_
    refine ax_iload_n O d_Mo_put_55 rfl 3 rfl ?_
    obtain ⟨nh17, fh17, h17, ch17, ih17, eh17, hf⟩ := mas_some hf
    refine ax_iast O ch17 ih17 eh17 d_Mo_put_56 ?_
    refine ax_iload_n O d_Mo_put_57 rfl 0 rfl ?_
    exact ax_retE O hE hf rfl d_Mo_put_58
  · rw [if_neg q13] at hf
    refine ax_iconst (v := 0) O d_Mo_put_41 (by decide) ?_
    exact ax_retE O hE hf rfl d_Mo_put_42
set_option maxHeartbeats 4000000 in
set_option maxRecDepth 100000 in
theorem cb_Mo_put {X : mX} {ad : Nat → Nat} {ln : Launch} (O : mO X ad R_Mo b_Mo_put 4 (mR 1 22) ln) (r' : Int32) (h' : mH) (hE : mEnd X ad (some .int) (some (.int r')) h') (n0 : Nat) (h0 : mH) (a0 : Nat) (x1 : Int32) (x2 : Int32) (hf : f_Mo_put n0 h0 a0 x1 x2 = some (r', h')) : mAW X ad 0 0 0 [(0, .ref a0), (1, .int x1), (2, .int x2)] [] h0 := by
  unfold f_Mo_put at hf
  refine ax_aload_n O d_Mo_put_0 rfl 0 rfl ?_
  refine ax_iload_n O d_Mo_put_1 rfl 1 rfl ?_
  refine ax_iconst (v := 0) O d_Mo_put_2 (by decide) ?_
  refine ax_aload_n O d_Mo_put_3 rfl 0 rfl ?_
  obtain ⟨fv1, v1, cv1, kv1, hf⟩ := mgi_some hf
  refine ax_get O fg_Mo_72 cv1 kv1 d_Mo_put_4 ?_
  refine ax_iconst (v := 1) O d_Mo_put_7 (by decide) ?_
  refine ax_isub O d_Mo_put_8 ?_
  obtain ⟨v3, h4, mh4, hf⟩ := mcl_some hf
  refine ax_callS (As := [.int x1, .int 0, .int (v1 - 1)]) (rest := [.ref a0]) O cw_Mo_isIn st_Mo_isIn lk_Mo_75 (c_Mo_isIn mh4) rfl ⟨rfl, rfl⟩ (by decide) (by decide) (Nat.le_of_ble_eq_true rfl) d_Mo_put_9 ?_
  refine ax_if_ne (tgt := 19) O d_Mo_put_12 (by decide) (fun q5 => ?_) (fun q5 => ?_)
  · rw [if_neg q5] at hf
    refine ax_iload_n O d_Mo_put_19 rfl 2 rfl ?_
    refine ax_iconst (v := 0) O d_Mo_put_20 (by decide) ?_
    refine ax_sipush (v := 255) O d_Mo_put_21 (by decide) ?_
    obtain ⟨v7, h8, mh8, hf⟩ := mcl_some hf
    refine ax_callS (As := [.int x2, .int 0, .int 255]) (rest := [.ref a0]) O cw_Mo_isIn st_Mo_isIn lk_Mo_75 (c_Mo_isIn mh8) rfl ⟨rfl, rfl⟩ (by decide) (by decide) (Nat.le_of_ble_eq_true rfl) d_Mo_put_24 ?_
    refine ax_if_ne (tgt := 34) O d_Mo_put_27 (by decide) (fun q9 => ?_) (fun q9 => ?_)
    · rw [if_neg q9] at hf
      refine ax_iconst (v := 0) O d_Mo_put_34 (by decide) ?_
      exact cb_Mo_put_B35 O _ _ hE n0 _ _ _ _ _ _ hf
    · rw [if_pos q9] at hf
      refine ax_iconst (v := 2) O d_Mo_put_30 (by decide) ?_
      refine ax_goto (tgt := 35) O d_Mo_put_31 (by decide) ?_
      exact cb_Mo_put_B35 O _ _ hE n0 _ _ _ _ _ _ hf
  · rw [if_pos q5] at hf
    refine ax_iconst (v := 1) O d_Mo_put_15 (by decide) ?_
    refine ax_goto (tgt := 35) O d_Mo_put_16 (by decide) ?_
    exact cb_Mo_put_B35 O _ _ hE n0 _ _ _ _ _ _ hf
theorem c_Mo_put {ln : Launch} {n0 : Nat} {h0 h' : mH} {a0 : Nat} {x1 : Int32} {x2 : Int32} {r' : Int32} (hf : f_Mo_put n0 h0 a0 x1 x2 = some (r', h')) : mMet ln y_Mo_put b_Mo_put 4 (some .int) (mR 1 22) [.ref a0, .int x1, .int x2] h0 (some (.int r')) h' := mMet_of (by decide +kernel) (Nat.le_of_ble_eq_true rfl) (fun X ad O hE => cb_Mo_put O r' h' hE n0 h0 a0 x1 x2 hf)
