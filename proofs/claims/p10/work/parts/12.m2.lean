/-! ===== StreamFilters$Link.undoNumbers(LStreamFilters$Bytes;)V ===== -/
theorem d_Li_undoNumbers_0 : decode b_Li_undoNumbers 0 = .ok (.aload_n 0, 1) := by decide +kernel
theorem d_Li_undoNumbers_1 : decode b_Li_undoNumbers 1 = .ok (.invokevirtual 44, 3) := by decide +kernel
theorem d_Li_undoNumbers_4 : decode b_Li_undoNumbers 4 = .ok (.istore_n 2, 1) := by decide +kernel
theorem d_Li_undoNumbers_5 : decode b_Li_undoNumbers 5 = .ok (.iconst 0, 1) := by decide +kernel
theorem d_Li_undoNumbers_6 : decode b_Li_undoNumbers 6 = .ok (.istore_n 3, 1) := by decide +kernel
theorem d_Li_undoNumbers_7 : decode b_Li_undoNumbers 7 = .ok (.iload_n 3, 1) := by decide +kernel
theorem d_Li_undoNumbers_8 : decode b_Li_undoNumbers 8 = .ok (.aload_n 1, 1) := by decide +kernel
theorem d_Li_undoNumbers_9 : decode b_Li_undoNumbers 9 = .ok (.getfield 48, 3) := by decide +kernel
theorem d_Li_undoNumbers_12 : decode b_Li_undoNumbers 12 = .ok (.if_icmp .ge 103, 3) := by decide +kernel
theorem d_Li_undoNumbers_15 : decode b_Li_undoNumbers 15 = .ok (.iload_n 2, 1) := by decide +kernel
theorem d_Li_undoNumbers_16 : decode b_Li_undoNumbers 16 = .ok (.aload_n 1, 1) := by decide +kernel
theorem d_Li_undoNumbers_17 : decode b_Li_undoNumbers 17 = .ok (.getfield 48, 3) := by decide +kernel
theorem d_Li_undoNumbers_20 : decode b_Li_undoNumbers 20 = .ok (.iload_n 3, 1) := by decide +kernel
theorem d_Li_undoNumbers_21 : decode b_Li_undoNumbers 21 = .ok (.isub, 1) := by decide +kernel
theorem d_Li_undoNumbers_22 : decode b_Li_undoNumbers 22 = .ok (.invokestatic 53, 3) := by decide +kernel
theorem d_Li_undoNumbers_25 : decode b_Li_undoNumbers 25 = .ok (.istore 4, 2) := by decide +kernel
theorem d_Li_undoNumbers_27 : decode b_Li_undoNumbers 27 = .ok (.aload_n 0, 1) := by decide +kernel
theorem d_Li_undoNumbers_28 : decode b_Li_undoNumbers 28 = .ok (.getfield 27, 3) := by decide +kernel
theorem d_Li_undoNumbers_31 : decode b_Li_undoNumbers 31 = .ok (.aload_n 0, 1) := by decide +kernel
theorem d_Li_undoNumbers_32 : decode b_Li_undoNumbers 32 = .ok (.getfield 21, 3) := by decide +kernel
theorem d_Li_undoNumbers_35 : decode b_Li_undoNumbers 35 = .ok (.imul, 1) := by decide +kernel
theorem d_Li_undoNumbers_36 : decode b_Li_undoNumbers 36 = .ok (.iload 4, 2) := by decide +kernel
theorem d_Li_undoNumbers_38 : decode b_Li_undoNumbers 38 = .ok (.bipush 8, 2) := by decide +kernel
theorem d_Li_undoNumbers_40 : decode b_Li_undoNumbers 40 = .ok (.imul, 1) := by decide +kernel
theorem d_Li_undoNumbers_41 : decode b_Li_undoNumbers 41 = .ok (.iconst 1, 1) := by decide +kernel
theorem d_Li_undoNumbers_42 : decode b_Li_undoNumbers 42 = .ok (.aload_n 0, 1) := by decide +kernel
theorem d_Li_undoNumbers_43 : decode b_Li_undoNumbers 43 = .ok (.getfield 24, 3) := by decide +kernel
theorem d_Li_undoNumbers_46 : decode b_Li_undoNumbers 46 = .ok (.invokestatic 38, 3) := by decide +kernel
theorem d_Li_undoNumbers_49 : decode b_Li_undoNumbers 49 = .ok (.idiv, 1) := by decide +kernel
theorem d_Li_undoNumbers_50 : decode b_Li_undoNumbers 50 = .ok (.invokestatic 53, 3) := by decide +kernel
theorem d_Li_undoNumbers_53 : decode b_Li_undoNumbers 53 = .ok (.istore 5, 2) := by decide +kernel
theorem d_Li_undoNumbers_55 : decode b_Li_undoNumbers 55 = .ok (.aload_n 0, 1) := by decide +kernel
theorem d_Li_undoNumbers_56 : decode b_Li_undoNumbers 56 = .ok (.getfield 21, 3) := by decide +kernel
theorem d_Li_undoNumbers_59 : decode b_Li_undoNumbers 59 = .ok (.istore 6, 2) := by decide +kernel
theorem d_Li_undoNumbers_61 : decode b_Li_undoNumbers 61 = .ok (.iload 6, 2) := by decide +kernel
theorem d_Li_undoNumbers_63 : decode b_Li_undoNumbers 63 = .ok (.iload 5, 2) := by decide +kernel
theorem d_Li_undoNumbers_65 : decode b_Li_undoNumbers 65 = .ok (.if_icmp .ge 43, 3) := by decide +kernel
theorem d_Li_undoNumbers_68 : decode b_Li_undoNumbers 68 = .ok (.aload_n 0, 1) := by decide +kernel
theorem d_Li_undoNumbers_69 : decode b_Li_undoNumbers 69 = .ok (.aload_n 1, 1) := by decide +kernel
theorem d_Li_undoNumbers_70 : decode b_Li_undoNumbers 70 = .ok (.iload_n 3, 1) := by decide +kernel
theorem d_Li_undoNumbers_71 : decode b_Li_undoNumbers 71 = .ok (.iload 6, 2) := by decide +kernel
theorem d_Li_undoNumbers_73 : decode b_Li_undoNumbers 73 = .ok (.aload_n 0, 1) := by decide +kernel
theorem d_Li_undoNumbers_74 : decode b_Li_undoNumbers 74 = .ok (.getfield 21, 3) := by decide +kernel
theorem d_Li_undoNumbers_77 : decode b_Li_undoNumbers 77 = .ok (.isub, 1) := by decide +kernel
theorem d_Li_undoNumbers_78 : decode b_Li_undoNumbers 78 = .ok (.invokevirtual 56, 3) := by decide +kernel
theorem d_Li_undoNumbers_81 : decode b_Li_undoNumbers 81 = .ok (.istore 7, 2) := by decide +kernel
theorem d_Li_undoNumbers_83 : decode b_Li_undoNumbers 83 = .ok (.aload_n 0, 1) := by decide +kernel
theorem d_Li_undoNumbers_84 : decode b_Li_undoNumbers 84 = .ok (.aload_n 1, 1) := by decide +kernel
theorem d_Li_undoNumbers_85 : decode b_Li_undoNumbers 85 = .ok (.iload_n 3, 1) := by decide +kernel
theorem d_Li_undoNumbers_86 : decode b_Li_undoNumbers 86 = .ok (.iload 6, 2) := by decide +kernel
theorem d_Li_undoNumbers_88 : decode b_Li_undoNumbers 88 = .ok (.iload 7, 2) := by decide +kernel
theorem d_Li_undoNumbers_90 : decode b_Li_undoNumbers 90 = .ok (.aload_n 0, 1) := by decide +kernel
theorem d_Li_undoNumbers_91 : decode b_Li_undoNumbers 91 = .ok (.aload_n 1, 1) := by decide +kernel
theorem d_Li_undoNumbers_92 : decode b_Li_undoNumbers 92 = .ok (.iload_n 3, 1) := by decide +kernel
theorem d_Li_undoNumbers_93 : decode b_Li_undoNumbers 93 = .ok (.iload 6, 2) := by decide +kernel
theorem d_Li_undoNumbers_95 : decode b_Li_undoNumbers 95 = .ok (.invokevirtual 56, 3) := by decide +kernel
theorem d_Li_undoNumbers_98 : decode b_Li_undoNumbers 98 = .ok (.iadd, 1) := by decide +kernel
theorem d_Li_undoNumbers_99 : decode b_Li_undoNumbers 99 = .ok (.invokevirtual 60, 3) := by decide +kernel
theorem d_Li_undoNumbers_102 : decode b_Li_undoNumbers 102 = .ok (.iinc 6 1, 3) := by decide +kernel
theorem d_Li_undoNumbers_105 : decode b_Li_undoNumbers 105 = .ok (.goto (-44), 3) := by decide +kernel
theorem d_Li_undoNumbers_108 : decode b_Li_undoNumbers 108 = .ok (.iload_n 3, 1) := by decide +kernel
theorem d_Li_undoNumbers_109 : decode b_Li_undoNumbers 109 = .ok (.iload_n 2, 1) := by decide +kernel
theorem d_Li_undoNumbers_110 : decode b_Li_undoNumbers 110 = .ok (.iadd, 1) := by decide +kernel
theorem d_Li_undoNumbers_111 : decode b_Li_undoNumbers 111 = .ok (.istore_n 3, 1) := by decide +kernel
theorem d_Li_undoNumbers_112 : decode b_Li_undoNumbers 112 = .ok (.goto (-105), 3) := by decide +kernel
theorem d_Li_undoNumbers_115 : decode b_Li_undoNumbers 115 = .ok (.return_, 1) := by decide +kernel
noncomputable def f_Li_undoNumbers_L61 (K7 : mH → Nat → Nat → Int32 → Int32 → Option (Unit × mH)) (n0 : Nat) : Nat → mH → Nat → Nat → Int32 → Int32 → Int32 → Int32 → Option (Unit × mH)
  | 0, _, _, _, _, _, _, _ => none
  | n + 1, h0, a0, a1, x2, x3, x5, x6 =>
    if x5 ≤ x6 then
      mnm (x3 + x2) fun v16 =>
      K7 h0 a0 a1 x2 v16
    else
      mgi h0 a0 6 3 fun v17 =>
      mis h0 a0 6 <|
      mcl (f_Li_numberAt n0 h0 a0 a1 x3 (x6 - v17)) fun v19 h20 =>
      mis h20 a0 6 <|
      mcl (f_Li_numberAt n0 h20 a0 a1 x3 x6) fun v22 h23 =>
      mis h23 a0 6 <|
      mcl (f_Li_setNumber n0 h23 a0 a1 x3 x6 (v19 + v22)) fun _ h26 =>
      mnm (x6 + 1) fun v28 =>
      (f_Li_undoNumbers_L61 K7 n0 n) h26 a0 a1 x2 x3 x5 v28
noncomputable def f_Li_undoNumbers_L7  (n0 : Nat) : Nat → mH → Nat → Nat → Int32 → Int32 → Option (Unit × mH)
  | 0, _, _, _, _, _ => none
  | n + 1, h0, a0, a1, x2, x3 =>
    mgi h0 a1 1 1 fun v4 =>
    if v4 ≤ x3 then
      some ((), h0)
    else
      mgi h0 a1 1 1 fun v6 =>
      mnm (if (v6 - x3) < x2 then (v6 - x3) else x2) fun v7 =>
      mgi h0 a0 6 5 fun v8 =>
      mgi h0 a0 6 3 fun v9 =>
      mgi h0 a0 6 4 fun v10 =>
      mnm (if 1 < v10 then v10 else 1) fun v11 =>
      mge (¬ v11 = 0) <|
      mnm (if ((v7 * 8) / v11) < (v8 * v9) then ((v7 * 8) / v11) else (v8 * v9)) fun v13 =>
      mgi h0 a0 6 3 fun v14 =>
      f_Li_undoNumbers_L61 (f_Li_undoNumbers_L7 n0 n) n0 n0 h0 a0 a1 x2 x3 v13 v14
noncomputable def f_Li_undoNumbers  (n0 : Nat) (h0 : mH) (a0 : Nat) (a1 : Nat) : Option (Unit × mH) :=
  mis h0 a0 6 <|
  mcl (f_Li_rowSize n0 h0 a0) fun v2 h3 =>
  f_Li_undoNumbers_L7 n0 n0 h3 a0 a1 v2 0
set_option maxHeartbeats 4000000 in
set_option maxRecDepth 100000 in
theorem cb_Li_undoNumbers_L61 {X : mX} {ad : Nat → Nat} {ln : Launch} (O : mO X ad R_Li b_Li_undoNumbers 8 (mR 2 48) ln) (K7 : mH → Nat → Nat → Int32 → Int32 → Option (Unit × mH)) (r' : Unit) (h' : mH) (hE : mEnd X ad none none h') (hK7 : ∀ (h : mH) (a0 : Nat) (a1 : Nat) (x2 : Int32) (x3 : Int32), K7 h a0 a1 x2 x3 = some (r', h') → mAW X ad 0 0 7 [(0, .ref a0), (1, .ref a1), (2, .int x2), (3, .int x3)] [] h) (n0 : Nat) : ∀ (n : Nat) (h0 : mH) (a0 : Nat) (a1 : Nat) (x2 : Int32) (x3 : Int32) (x5 : Int32) (x6 : Int32), f_Li_undoNumbers_L61 K7 n0 n h0 a0 a1 x2 x3 x5 x6 = some (r', h') → mAW X ad 0 0 61 [(0, .ref a0), (1, .ref a1), (2, .int x2), (3, .int x3), (5, .int x5), (6, .int x6)] [] h0 := by
  intro n
  induction n with
  | zero =>
    intro h0 a0 a1 x2 x3 x5 x6 hf
    rw [f_Li_undoNumbers_L61.eq_1] at hf
    cases hf
  | succ n ih =>
    intro h0 a0 a1 x2 x3 x5 x6 hf
    rw [f_Li_undoNumbers_L61.eq_2] at hf
    refine ax_iload O d_Li_undoNumbers_61 5 rfl ?_
    refine ax_iload O d_Li_undoNumbers_63 4 rfl ?_
    refine ax_icmp_ge (tgt := 108) O d_Li_undoNumbers_65 (by decide) (fun q15 => ?_) (fun q15 => ?_)
    · rw [if_pos q15] at hf
      refine ax_iload_n O d_Li_undoNumbers_108 rfl 3 rfl ?_
      refine ax_iload_n O d_Li_undoNumbers_109 rfl 2 rfl ?_
      refine ax_iadd O d_Li_undoNumbers_110 ?_
      obtain ⟨v16, ev16, hf⟩ := mnm_some hf
      refine ax_nmi ev16 ?_
      refine ax_istore_n (lv' := [(3, .int v16), (0, .ref a0), (1, .ref a1), (2, .int x2), (5, .int x5), (6, .int x6)]) O d_Li_undoNumbers_111 rfl (by decide) rfl ?_
      refine ax_goto (tgt := 7) O d_Li_undoNumbers_112 (by decide) ?_
      refine ax_sub [1, 2, 3, 0] rfl ?_
      exact hK7 _ _ _ _ _ hf
    · rw [if_neg q15] at hf
      refine ax_aload_n O d_Li_undoNumbers_68 rfl 0 rfl ?_
      refine ax_aload_n O d_Li_undoNumbers_69 rfl 1 rfl ?_
      refine ax_iload_n O d_Li_undoNumbers_70 rfl 3 rfl ?_
      refine ax_iload O d_Li_undoNumbers_71 5 rfl ?_
      refine ax_aload_n O d_Li_undoNumbers_73 rfl 0 rfl ?_
      obtain ⟨fv17, v17, cv17, kv17, hf⟩ := mgi_some hf
      refine ax_get O fg_Li_21 cv17 kv17 d_Li_undoNumbers_74 ?_
      refine ax_isub O d_Li_undoNumbers_77 ?_
      obtain ⟨fh20, ch20, hf⟩ := mis_some hf
      obtain ⟨v19, h20, mh20, hf⟩ := mcl_some hf
      refine ax_callV (As := [.ref a1, .int x3, .int (x6 - v17)]) (rest := []) O cw_Li_numberAt (q := (R_Li, T_Li, 6)) rfl rfl in_Li_numberAt se_Li_numberAt lk_Li_56 ch20 (c_Li_numberAt mh20) rfl ⟨rfl, rfl⟩ (by decide) (by decide) (Nat.le_of_ble_eq_true rfl) d_Li_undoNumbers_78 ?_
      refine ax_istore (lv' := [(7, .int v19), (0, .ref a0), (1, .ref a1), (2, .int x2), (3, .int x3), (5, .int x5), (6, .int x6)]) O d_Li_undoNumbers_81 (by decide) rfl ?_
      refine ax_aload_n O d_Li_undoNumbers_83 rfl 1 rfl ?_
      refine ax_aload_n O d_Li_undoNumbers_84 rfl 2 rfl ?_
      refine ax_iload_n O d_Li_undoNumbers_85 rfl 4 rfl ?_
      refine ax_iload O d_Li_undoNumbers_86 6 rfl ?_
      refine ax_iload O d_Li_undoNumbers_88 0 rfl ?_
      refine ax_aload_n O d_Li_undoNumbers_90 rfl 1 rfl ?_
      refine ax_aload_n O d_Li_undoNumbers_91 rfl 2 rfl ?_
      refine ax_iload_n O d_Li_undoNumbers_92 rfl 4 rfl ?_
      refine ax_iload O d_Li_undoNumbers_93 6 rfl ?_
      obtain ⟨fh23, ch23, hf⟩ := mis_some hf
      obtain ⟨v22, h23, mh23, hf⟩ := mcl_some hf
      refine ax_callV (As := [.ref a1, .int x3, .int x6]) (rest := [.int v19, .int x6, .int x3, .ref a1, .ref a0]) O cw_Li_numberAt (q := (R_Li, T_Li, 6)) rfl rfl in_Li_numberAt se_Li_numberAt lk_Li_56 ch23 (c_Li_numberAt mh23) rfl ⟨rfl, rfl⟩ (by decide) (by decide) (Nat.le_of_ble_eq_true rfl) d_Li_undoNumbers_95 ?_
      refine ax_iadd O d_Li_undoNumbers_98 ?_
      obtain ⟨fh26, ch26, hf⟩ := mis_some hf
      obtain ⟨u27, h26, mh26, hf⟩ := mcl_some hf
      refine ax_callV (As := [.ref a1, .int x3, .int x6, .int (v19 + v22)]) (rest := []) O cw_Li_setNumber (q := (R_Li, T_Li, 6)) rfl rfl in_Li_setNumber se_Li_setNumber lk_Li_60 ch26 (c_Li_setNumber mh26) rfl ⟨rfl, rfl⟩ (by decide) (by decide) (Nat.le_of_ble_eq_true rfl) d_Li_undoNumbers_99 ?_
      obtain ⟨v28, ev28, hf⟩ := mnm_some hf
      refine ax_iinc (j := 6) (v := v28) (lv' := [(6, .int v28), (7, .int v19), (0, .ref a0), (1, .ref a1), (2, .int x2), (3, .int x3), (5, .int x5)]) O d_Li_undoNumbers_102 rfl (by rw [ev28]; rfl) (by decide) rfl ?_
      refine ax_goto (tgt := 61) O d_Li_undoNumbers_105 (by decide) ?_
      refine ax_sub [2, 3, 4, 5, 6, 0] rfl ?_
      exact ih _ _ _ _ _ _ _ hf
set_option maxHeartbeats 4000000 in
set_option maxRecDepth 100000 in
theorem cb_Li_undoNumbers_L7 {X : mX} {ad : Nat → Nat} {ln : Launch} (O : mO X ad R_Li b_Li_undoNumbers 8 (mR 2 48) ln) (r' : Unit) (h' : mH) (hE : mEnd X ad none none h') (n0 : Nat) : ∀ (n : Nat) (h0 : mH) (a0 : Nat) (a1 : Nat) (x2 : Int32) (x3 : Int32), f_Li_undoNumbers_L7 n0 n h0 a0 a1 x2 x3 = some (r', h') → mAW X ad 0 0 7 [(0, .ref a0), (1, .ref a1), (2, .int x2), (3, .int x3)] [] h0 := by
  intro n
  induction n with
  | zero =>
    intro h0 a0 a1 x2 x3 hf
    rw [f_Li_undoNumbers_L7.eq_1] at hf
    cases hf
  | succ n ih =>
    intro h0 a0 a1 x2 x3 hf
    rw [f_Li_undoNumbers_L7.eq_2] at hf
    refine ax_iload_n O d_Li_undoNumbers_7 rfl 3 rfl ?_
    refine ax_aload_n O d_Li_undoNumbers_8 rfl 1 rfl ?_
    obtain ⟨fv4, v4, cv4, kv4, hf⟩ := mgi_some hf
    refine ax_get O fg_Li_48 cv4 kv4 d_Li_undoNumbers_9 ?_
    refine ax_icmp_ge (tgt := 115) O d_Li_undoNumbers_12 (by decide) (fun q5 => ?_) (fun q5 => ?_)
    · rw [if_pos q5] at hf
      exact ax_vretE O hE hf d_Li_undoNumbers_115
    · rw [if_neg q5] at hf
      refine ax_iload_n O d_Li_undoNumbers_15 rfl 2 rfl ?_
      refine ax_aload_n O d_Li_undoNumbers_16 rfl 1 rfl ?_
      obtain ⟨fv6, v6, cv6, kv6, hf⟩ := mgi_some hf
      refine ax_get O fg_Li_48 cv6 kv6 d_Li_undoNumbers_17 ?_
      refine ax_iload_n O d_Li_undoNumbers_20 rfl 3 rfl ?_
      refine ax_isub O d_Li_undoNumbers_21 ?_
      obtain ⟨v7, ev7, hf⟩ := mnm_some hf
      refine ax_mmin O wd_5 (by decide) (Nat.le_of_ble_eq_true rfl) d_Li_undoNumbers_22 ?_
      refine ax_nmi ev7 ?_
      refine ax_istore (lv' := [(4, .int v7), (0, .ref a0), (1, .ref a1), (2, .int x2), (3, .int x3)]) O d_Li_undoNumbers_25 (by decide) rfl ?_
      refine ax_aload_n O d_Li_undoNumbers_27 rfl 1 rfl ?_
      obtain ⟨fv8, v8, cv8, kv8, hf⟩ := mgi_some hf
      refine ax_get O fg_Li_27 cv8 kv8 d_Li_undoNumbers_28 ?_
      refine ax_aload_n O d_Li_undoNumbers_31 rfl 1 rfl ?_
      obtain ⟨fv9, v9, cv9, kv9, hf⟩ := mgi_some hf
      refine ax_get O fg_Li_21 cv9 kv9 d_Li_undoNumbers_32 ?_
      refine ax_imul O d_Li_undoNumbers_35 ?_
      refine ax_iload O d_Li_undoNumbers_36 0 rfl ?_
      refine ax_bipush (v := 8) O d_Li_undoNumbers_38 (by decide) ?_
      refine ax_imul O d_Li_undoNumbers_40 ?_
      refine ax_iconst (v := 1) O d_Li_undoNumbers_41 (by decide) ?_
      refine ax_aload_n O d_Li_undoNumbers_42 rfl 1 rfl ?_
      obtain ⟨fv10, v10, cv10, kv10, hf⟩ := mgi_some hf
      refine ax_get O fg_Li_24 cv10 kv10 d_Li_undoNumbers_43 ?_
      obtain ⟨v11, ev11, hf⟩ := mnm_some hf
      refine ax_mmax O wd_4 (by decide) (Nat.le_of_ble_eq_true rfl) d_Li_undoNumbers_46 ?_
      refine ax_nmi ev11 ?_
      obtain ⟨q12, hf⟩ := mge_some hf
      refine ax_idiv O d_Li_undoNumbers_49 q12 ?_
      obtain ⟨v13, ev13, hf⟩ := mnm_some hf
      refine ax_mmin O wd_5 (by decide) (Nat.le_of_ble_eq_true rfl) d_Li_undoNumbers_50 ?_
      refine ax_nmi ev13 ?_
      refine ax_istore (lv' := [(5, .int v13), (4, .int v7), (0, .ref a0), (1, .ref a1), (2, .int x2), (3, .int x3)]) O d_Li_undoNumbers_53 (by decide) rfl ?_
      refine ax_aload_n O d_Li_undoNumbers_55 rfl 2 rfl ?_
      obtain ⟨fv14, v14, cv14, kv14, hf⟩ := mgi_some hf
      refine ax_get O fg_Li_21 cv14 kv14 d_Li_undoNumbers_56 ?_
      refine ax_istore (lv' := [(6, .int v14), (5, .int v13), (4, .int v7), (0, .ref a0), (1, .ref a1), (2, .int x2), (3, .int x3)]) O d_Li_undoNumbers_59 (by decide) rfl ?_
      refine ax_sub [3, 4, 5, 6, 1, 0] rfl ?_
      exact cb_Li_undoNumbers_L61 O (f_Li_undoNumbers_L7 n0 n) _ _ hE ih n0 n0 _ _ _ _ _ _ _ hf
set_option maxHeartbeats 4000000 in
set_option maxRecDepth 100000 in
theorem cb_Li_undoNumbers {X : mX} {ad : Nat → Nat} {ln : Launch} (O : mO X ad R_Li b_Li_undoNumbers 8 (mR 2 48) ln) (r' : Unit) (h' : mH) (hE : mEnd X ad none none h') (n0 : Nat) (h0 : mH) (a0 : Nat) (a1 : Nat) (hf : f_Li_undoNumbers n0 h0 a0 a1 = some (r', h')) : mAW X ad 0 0 0 [(0, .ref a0), (1, .ref a1)] [] h0 := by
  unfold f_Li_undoNumbers at hf
  refine ax_aload_n O d_Li_undoNumbers_0 rfl 0 rfl ?_
  obtain ⟨fh3, ch3, hf⟩ := mis_some hf
  obtain ⟨v2, h3, mh3, hf⟩ := mcl_some hf
  refine ax_callV (As := []) (rest := []) O cw_Li_rowSize (q := (R_Li, T_Li, 6)) rfl rfl in_Li_rowSize se_Li_rowSize lk_Li_44 ch3 (c_Li_rowSize mh3) rfl ⟨rfl, rfl⟩ (by decide) (by decide) (Nat.le_of_ble_eq_true rfl) d_Li_undoNumbers_1 ?_
  refine ax_istore_n (lv' := [(2, .int v2), (0, .ref a0), (1, .ref a1)]) O d_Li_undoNumbers_4 rfl (by decide) rfl ?_
  refine ax_iconst (v := 0) O d_Li_undoNumbers_5 (by decide) ?_
  refine ax_istore_n (lv' := [(3, .int 0), (2, .int v2), (0, .ref a0), (1, .ref a1)]) O d_Li_undoNumbers_6 rfl (by decide) rfl ?_
  refine ax_sub [2, 3, 1, 0] rfl ?_
  exact cb_Li_undoNumbers_L7 O _ _ hE n0 n0 _ _ _ _ _ hf
theorem c_Li_undoNumbers {ln : Launch} {n0 : Nat} {h0 h' : mH} {a0 : Nat} {a1 : Nat} {r' : Unit} (hf : f_Li_undoNumbers n0 h0 a0 a1 = some (r', h')) : mMet ln y_Li_undoNumbers b_Li_undoNumbers 8 none (mR 2 48) [.ref a0, .ref a1] h0 none h' := mMet_of (by decide +kernel) (Nat.le_of_ble_eq_true rfl) (fun X ad O hE => cb_Li_undoNumbers O r' h' hE n0 h0 a0 a1 hf)
/-! ===== StreamFilters$Link.nearest(III)I ===== -/
theorem d_Li_nearest_0 : decode b_Li_nearest 0 = .ok (.iload_n 0, 1) := by decide +kernel
theorem d_Li_nearest_1 : decode b_Li_nearest 1 = .ok (.iload_n 1, 1) := by decide +kernel
theorem d_Li_nearest_2 : decode b_Li_nearest 2 = .ok (.iadd, 1) := by decide +kernel
theorem d_Li_nearest_3 : decode b_Li_nearest 3 = .ok (.iload_n 2, 1) := by decide +kernel
theorem d_Li_nearest_4 : decode b_Li_nearest 4 = .ok (.isub, 1) := by decide +kernel
theorem d_Li_nearest_5 : decode b_Li_nearest 5 = .ok (.istore_n 3, 1) := by decide +kernel
theorem d_Li_nearest_6 : decode b_Li_nearest 6 = .ok (.iload_n 3, 1) := by decide +kernel
theorem d_Li_nearest_7 : decode b_Li_nearest 7 = .ok (.iload_n 0, 1) := by decide +kernel
theorem d_Li_nearest_8 : decode b_Li_nearest 8 = .ok (.isub, 1) := by decide +kernel
theorem d_Li_nearest_9 : decode b_Li_nearest 9 = .ok (.invokestatic 90, 3) := by decide +kernel
theorem d_Li_nearest_12 : decode b_Li_nearest 12 = .ok (.istore 4, 2) := by decide +kernel
theorem d_Li_nearest_14 : decode b_Li_nearest 14 = .ok (.iload_n 3, 1) := by decide +kernel
theorem d_Li_nearest_15 : decode b_Li_nearest 15 = .ok (.iload_n 1, 1) := by decide +kernel
theorem d_Li_nearest_16 : decode b_Li_nearest 16 = .ok (.isub, 1) := by decide +kernel
theorem d_Li_nearest_17 : decode b_Li_nearest 17 = .ok (.invokestatic 90, 3) := by decide +kernel
theorem d_Li_nearest_20 : decode b_Li_nearest 20 = .ok (.istore 5, 2) := by decide +kernel
theorem d_Li_nearest_22 : decode b_Li_nearest 22 = .ok (.iload_n 3, 1) := by decide +kernel
theorem d_Li_nearest_23 : decode b_Li_nearest 23 = .ok (.iload_n 2, 1) := by decide +kernel
theorem d_Li_nearest_24 : decode b_Li_nearest 24 = .ok (.isub, 1) := by decide +kernel
theorem d_Li_nearest_25 : decode b_Li_nearest 25 = .ok (.invokestatic 90, 3) := by decide +kernel
theorem d_Li_nearest_28 : decode b_Li_nearest 28 = .ok (.istore 6, 2) := by decide +kernel
theorem d_Li_nearest_30 : decode b_Li_nearest 30 = .ok (.iload 4, 2) := by decide +kernel
theorem d_Li_nearest_32 : decode b_Li_nearest 32 = .ok (.iload 5, 2) := by decide +kernel
theorem d_Li_nearest_34 : decode b_Li_nearest 34 = .ok (.if_icmp .gt 12, 3) := by decide +kernel
theorem d_Li_nearest_37 : decode b_Li_nearest 37 = .ok (.iload 4, 2) := by decide +kernel
theorem d_Li_nearest_39 : decode b_Li_nearest 39 = .ok (.iload 6, 2) := by decide +kernel
theorem d_Li_nearest_41 : decode b_Li_nearest 41 = .ok (.if_icmp .gt 5, 3) := by decide +kernel
theorem d_Li_nearest_44 : decode b_Li_nearest 44 = .ok (.iload_n 0, 1) := by decide +kernel
theorem d_Li_nearest_45 : decode b_Li_nearest 45 = .ok (.ireturn, 1) := by decide +kernel
theorem d_Li_nearest_46 : decode b_Li_nearest 46 = .ok (.iload 5, 2) := by decide +kernel
theorem d_Li_nearest_48 : decode b_Li_nearest 48 = .ok (.iload 6, 2) := by decide +kernel
theorem d_Li_nearest_50 : decode b_Li_nearest 50 = .ok (.if_icmp .gt 7, 3) := by decide +kernel
theorem d_Li_nearest_53 : decode b_Li_nearest 53 = .ok (.iload_n 1, 1) := by decide +kernel
theorem d_Li_nearest_54 : decode b_Li_nearest 54 = .ok (.goto 4, 3) := by decide +kernel
theorem d_Li_nearest_57 : decode b_Li_nearest 57 = .ok (.iload_n 2, 1) := by decide +kernel
theorem d_Li_nearest_58 : decode b_Li_nearest 58 = .ok (.ireturn, 1) := by decide +kernel
noncomputable def f_Li_nearest_B46  (n0 : Nat) (h0 : mH) (x1 : Int32) (x2 : Int32) (x5 : Int32) (x6 : Int32) : Option (Int32 × mH) :=
  if x6 < x5 then
    some (x2, h0)
  else
    some (x1, h0)
noncomputable def f_Li_nearest  (n0 : Nat) (h0 : mH) (x0 : Int32) (x1 : Int32) (x2 : Int32) : Option (Int32 × mH) :=
  mnm ((x0 + x1) - x2) fun v1 =>
  mnm (if 0 ≤ (v1 - x0) then (v1 - x0) else 0 - (v1 - x0)) fun v2 =>
  mnm (if 0 ≤ (v1 - x1) then (v1 - x1) else 0 - (v1 - x1)) fun v3 =>
  mnm (if 0 ≤ (v1 - x2) then (v1 - x2) else 0 - (v1 - x2)) fun v4 =>
  if v3 < v2 then
    f_Li_nearest_B46 n0 h0 x1 x2 v3 v4
  else
    if v4 < v2 then
      f_Li_nearest_B46 n0 h0 x1 x2 v3 v4
    else
      some (x0, h0)
set_option maxHeartbeats 4000000 in
set_option maxRecDepth 100000 in
theorem cb_Li_nearest_B46 {X : mX} {ad : Nat → Nat} {ln : Launch} (O : mO X ad R_Li b_Li_nearest 7 (mR 1 21) ln) (r' : Int32) (h' : mH) (hE : mEnd X ad (some .int) (some (.int r')) h') (n0 : Nat) (h0 : mH) (x1 : Int32) (x2 : Int32) (x5 : Int32) (x6 : Int32) (hf : f_Li_nearest_B46 n0 h0 x1 x2 x5 x6 = some (r', h')) : mAW X ad 0 0 46 [(1, .int x1), (2, .int x2), (5, .int x5), (6, .int x6)] [] h0 := by
  unfold f_Li_nearest_B46 at hf
  refine ax_iload O d_Li_nearest_46 2 rfl ?_
  refine ax_iload O d_Li_nearest_48 3 rfl ?_
  refine ax_icmp_gt (tgt := 57) O d_Li_nearest_50 (by decide) (fun q6 => ?_) (fun q6 => ?_)
  · rw [if_pos q6] at hf
    refine ax_iload_n O d_Li_nearest_57 rfl 1 rfl ?_
    exact ax_retE O hE hf rfl d_Li_nearest_58
  · rw [if_neg q6] at hf
    refine ax_iload_n O d_Li_nearest_53 rfl 0 rfl ?_
    refine ax_goto (tgt := 58) O d_Li_nearest_54 (by decide) ?_
    exact ax_retE O hE hf rfl d_Li_nearest_58
set_option maxHeartbeats 4000000 in
set_option maxRecDepth 100000 in
theorem cb_Li_nearest {X : mX} {ad : Nat → Nat} {ln : Launch} (O : mO X ad R_Li b_Li_nearest 7 (mR 1 21) ln) (r' : Int32) (h' : mH) (hE : mEnd X ad (some .int) (some (.int r')) h') (n0 : Nat) (h0 : mH) (x0 : Int32) (x1 : Int32) (x2 : Int32) (hf : f_Li_nearest n0 h0 x0 x1 x2 = some (r', h')) : mAW X ad 0 0 0 [(0, .int x0), (1, .int x1), (2, .int x2)] [] h0 := by
  unfold f_Li_nearest at hf
  refine ax_iload_n O d_Li_nearest_0 rfl 0 rfl ?_
  refine ax_iload_n O d_Li_nearest_1 rfl 1 rfl ?_
  refine ax_iadd O d_Li_nearest_2 ?_
  refine ax_iload_n O d_Li_nearest_3 rfl 2 rfl ?_
  refine ax_isub O d_Li_nearest_4 ?_
  obtain ⟨v1, ev1, hf⟩ := mnm_some hf
  refine ax_nmi ev1 ?_
  refine ax_istore_n (lv' := [(3, .int v1), (0, .int x0), (1, .int x1), (2, .int x2)]) O d_Li_nearest_5 rfl (by decide) rfl ?_
  refine ax_iload_n O d_Li_nearest_6 rfl 0 rfl ?_
  refine ax_iload_n O d_Li_nearest_7 rfl 1 rfl ?_
  refine ax_isub O d_Li_nearest_8 ?_
  obtain ⟨v2, ev2, hf⟩ := mnm_some hf
  refine ax_mabs O wd_6 (by decide) (Nat.le_of_ble_eq_true rfl) d_Li_nearest_9 ?_
  refine ax_nmi ev2 ?_
  refine ax_istore (lv' := [(4, .int v2), (3, .int v1), (0, .int x0), (1, .int x1), (2, .int x2)]) O d_Li_nearest_12 (by decide) rfl ?_
  refine ax_iload_n O d_Li_nearest_14 rfl 1 rfl ?_
  refine ax_iload_n O d_Li_nearest_15 rfl 3 rfl ?_
  refine ax_isub O d_Li_nearest_16 ?_
  obtain ⟨v3, ev3, hf⟩ := mnm_some hf
  refine ax_mabs O wd_6 (by decide) (Nat.le_of_ble_eq_true rfl) d_Li_nearest_17 ?_
  refine ax_nmi ev3 ?_
  refine ax_istore (lv' := [(5, .int v3), (4, .int v2), (3, .int v1), (0, .int x0), (1, .int x1), (2, .int x2)]) O d_Li_nearest_20 (by decide) rfl ?_
  refine ax_iload_n O d_Li_nearest_22 rfl 2 rfl ?_
  refine ax_iload_n O d_Li_nearest_23 rfl 5 rfl ?_
  refine ax_isub O d_Li_nearest_24 ?_
  obtain ⟨v4, ev4, hf⟩ := mnm_some hf
  refine ax_mabs O wd_6 (by decide) (Nat.le_of_ble_eq_true rfl) d_Li_nearest_25 ?_
  refine ax_nmi ev4 ?_
  refine ax_istore (lv' := [(6, .int v4), (5, .int v3), (4, .int v2), (3, .int v1), (0, .int x0), (1, .int x1), (2, .int x2)]) O d_Li_nearest_28 (by decide) rfl ?_
  refine ax_iload O d_Li_nearest_30 2 rfl ?_
  refine ax_iload O d_Li_nearest_32 1 rfl ?_
  refine ax_icmp_gt (tgt := 46) O d_Li_nearest_34 (by decide) (fun q5 => ?_) (fun q5 => ?_)
  · rw [if_pos q5] at hf
    refine ax_sub [5, 6, 1, 0] rfl ?_
    exact cb_Li_nearest_B46 O _ _ hE n0 _ _ _ _ _ hf
  · rw [if_neg q5] at hf
    refine ax_iload O d_Li_nearest_37 2 rfl ?_
    refine ax_iload O d_Li_nearest_39 0 rfl ?_
    refine ax_icmp_gt (tgt := 46) O d_Li_nearest_41 (by decide) (fun q7 => ?_) (fun q7 => ?_)
    · rw [if_pos q7] at hf
      refine ax_sub [5, 6, 1, 0] rfl ?_
      exact cb_Li_nearest_B46 O _ _ hE n0 _ _ _ _ _ hf
    · rw [if_neg q7] at hf
      refine ax_iload_n O d_Li_nearest_44 rfl 4 rfl ?_
      exact ax_retE O hE hf rfl d_Li_nearest_45
theorem c_Li_nearest {ln : Launch} {n0 : Nat} {h0 h' : mH} {x0 : Int32} {x1 : Int32} {x2 : Int32} {r' : Int32} (hf : f_Li_nearest n0 h0 x0 x1 x2 = some (r', h')) : mMet ln y_Li_nearest b_Li_nearest 7 (some .int) (mR 1 21) [.int x0, .int x1, .int x2] h0 (some (.int r')) h' := mMet_of (by decide +kernel) (Nat.le_of_ble_eq_true rfl) (fun X ad O hE => cb_Li_nearest O r' h' hE n0 h0 x0 x1 x2 hf)
/-! ===== StreamFilters$Link.guessOf(IIII)I ===== -/
theorem d_Li_guessOf_0 : decode b_Li_guessOf 0 = .ok (.iload_n 0, 1) := by decide +kernel
theorem d_Li_guessOf_1 : decode b_Li_guessOf 1 = .ok (.tableswitch 48 1 4 #[31, 33, 35, 41], 31) := by decide +kernel
theorem d_Li_guessOf_32 : decode b_Li_guessOf 32 = .ok (.iload_n 1, 1) := by decide +kernel
theorem d_Li_guessOf_33 : decode b_Li_guessOf 33 = .ok (.ireturn, 1) := by decide +kernel
theorem d_Li_guessOf_34 : decode b_Li_guessOf 34 = .ok (.iload_n 2, 1) := by decide +kernel
theorem d_Li_guessOf_35 : decode b_Li_guessOf 35 = .ok (.ireturn, 1) := by decide +kernel
theorem d_Li_guessOf_36 : decode b_Li_guessOf 36 = .ok (.iload_n 1, 1) := by decide +kernel
theorem d_Li_guessOf_37 : decode b_Li_guessOf 37 = .ok (.iload_n 2, 1) := by decide +kernel
theorem d_Li_guessOf_38 : decode b_Li_guessOf 38 = .ok (.iadd, 1) := by decide +kernel
theorem d_Li_guessOf_39 : decode b_Li_guessOf 39 = .ok (.iconst 2, 1) := by decide +kernel
theorem d_Li_guessOf_40 : decode b_Li_guessOf 40 = .ok (.idiv, 1) := by decide +kernel
theorem d_Li_guessOf_41 : decode b_Li_guessOf 41 = .ok (.ireturn, 1) := by decide +kernel
theorem d_Li_guessOf_42 : decode b_Li_guessOf 42 = .ok (.iload_n 1, 1) := by decide +kernel
theorem d_Li_guessOf_43 : decode b_Li_guessOf 43 = .ok (.iload_n 2, 1) := by decide +kernel
theorem d_Li_guessOf_44 : decode b_Li_guessOf 44 = .ok (.iload_n 3, 1) := by decide +kernel
theorem d_Li_guessOf_45 : decode b_Li_guessOf 45 = .ok (.invokestatic 86, 3) := by decide +kernel
theorem d_Li_guessOf_48 : decode b_Li_guessOf 48 = .ok (.ireturn, 1) := by decide +kernel
theorem d_Li_guessOf_49 : decode b_Li_guessOf 49 = .ok (.iconst 0, 1) := by decide +kernel
theorem d_Li_guessOf_50 : decode b_Li_guessOf 50 = .ok (.ireturn, 1) := by decide +kernel
noncomputable def f_Li_guessOf  (n0 : Nat) (h0 : mH) (x0 : Int32) (x1 : Int32) (x2 : Int32) (x3 : Int32) : Option (Int32 × mH) :=
  if x0 = 1 then
    some (x1, h0)
  else
    if x0 = 2 then
      some (x2, h0)
    else
      if x0 = 3 then
        some ((x1 + x2) / 2, h0)
      else
        if x0 = 4 then
          mcl (f_Li_nearest n0 h0 x1 x2 x3) fun v6 h7 =>
          some (v6, h7)
        else
          some (0, h0)
set_option maxHeartbeats 4000000 in
set_option maxRecDepth 100000 in
theorem cb_Li_guessOf {X : mX} {ad : Nat → Nat} {ln : Launch} (O : mO X ad R_Li b_Li_guessOf 4 (mR 2 47) ln) (r' : Int32) (h' : mH) (hE : mEnd X ad (some .int) (some (.int r')) h') (n0 : Nat) (h0 : mH) (x0 : Int32) (x1 : Int32) (x2 : Int32) (x3 : Int32) (hf : f_Li_guessOf n0 h0 x0 x1 x2 x3 = some (r', h')) : mAW X ad 0 0 0 [(0, .int x0), (1, .int x1), (2, .int x2), (3, .int x3)] [] h0 := by
  unfold f_Li_guessOf at hf
  refine ax_iload_n O d_Li_guessOf_0 rfl 0 rfl ?_
  by_cases q1 : x0 = 1
  · rw [if_pos q1] at hf
    refine ax_tableIn (tgt := 32) O d_Li_guessOf_1 (by rw [q1]; decide) (by rw [q1]; decide) (by rw [q1]; rfl) (by decide) ?_
    refine ax_iload_n O d_Li_guessOf_32 rfl 1 rfl ?_
    exact ax_retE O hE hf rfl d_Li_guessOf_33
  · rw [if_neg q1] at hf
    by_cases q2 : x0 = 2
    · rw [if_pos q2] at hf
      refine ax_tableIn (tgt := 34) O d_Li_guessOf_1 (by rw [q2]; decide) (by rw [q2]; decide) (by rw [q2]; rfl) (by decide) ?_
      refine ax_iload_n O d_Li_guessOf_34 rfl 2 rfl ?_
      exact ax_retE O hE hf rfl d_Li_guessOf_35
    · rw [if_neg q2] at hf
      by_cases q3 : x0 = 3
      · rw [if_pos q3] at hf
        refine ax_tableIn (tgt := 36) O d_Li_guessOf_1 (by rw [q3]; decide) (by rw [q3]; decide) (by rw [q3]; rfl) (by decide) ?_
        refine ax_iload_n O d_Li_guessOf_36 rfl 1 rfl ?_
        refine ax_iload_n O d_Li_guessOf_37 rfl 2 rfl ?_
        refine ax_iadd O d_Li_guessOf_38 ?_
        refine ax_iconst (v := 2) O d_Li_guessOf_39 (by decide) ?_
        refine ax_idiv O d_Li_guessOf_40 (by decide) ?_
        exact ax_retE O hE hf rfl d_Li_guessOf_41
      · rw [if_neg q3] at hf
        by_cases q4 : x0 = 4
        · rw [if_pos q4] at hf
          refine ax_tableIn (tgt := 42) O d_Li_guessOf_1 (by rw [q4]; decide) (by rw [q4]; decide) (by rw [q4]; rfl) (by decide) ?_
          refine ax_iload_n O d_Li_guessOf_42 rfl 1 rfl ?_
          refine ax_iload_n O d_Li_guessOf_43 rfl 2 rfl ?_
          refine ax_iload_n O d_Li_guessOf_44 rfl 3 rfl ?_
          obtain ⟨v6, h7, mh7, hf⟩ := mcl_some hf
          refine ax_callS (As := [.int x1, .int x2, .int x3]) (rest := []) O cw_Li_nearest st_Li_nearest lk_Li_86 (c_Li_nearest mh7) rfl ⟨rfl, rfl⟩ (by decide) (by decide) (Nat.le_of_ble_eq_true rfl) d_Li_guessOf_45 ?_
          exact ax_retE O hE hf rfl d_Li_guessOf_48
        · rw [if_neg q4] at hf
          refine ax_tableOut (tgt := 49) O d_Li_guessOf_1 (mTi (fun z h1 h2 => by rcases (show z = 1 ∨ z = 2 ∨ z = 3 ∨ z = 4 by omega) with rfl | rfl | rfl | rfl; exact lv_neT q1 (by decide); exact lv_neT q2 (by decide); exact lv_neT q3 (by decide); exact lv_neT q4 (by decide))) (by decide) ?_
          refine ax_iconst (v := 0) O d_Li_guessOf_49 (by decide) ?_
          exact ax_retE O hE hf rfl d_Li_guessOf_50
theorem c_Li_guessOf {ln : Launch} {n0 : Nat} {h0 h' : mH} {x0 : Int32} {x1 : Int32} {x2 : Int32} {x3 : Int32} {r' : Int32} (hf : f_Li_guessOf n0 h0 x0 x1 x2 x3 = some (r', h')) : mMet ln y_Li_guessOf b_Li_guessOf 4 (some .int) (mR 2 47) [.int x0, .int x1, .int x2, .int x3] h0 (some (.int r')) h' := mMet_of (by decide +kernel) (Nat.le_of_ble_eq_true rfl) (fun X ad O hE => cb_Li_guessOf O r' h' hE n0 h0 x0 x1 x2 x3 hf)
/-! ===== StreamFilters$Link.undoRow(LStreamFilters$Bytes;IIII)V ===== -/
theorem d_Li_undoRow_0 : decode b_Li_undoRow 0 = .ok (.iconst 1, 1) := by decide +kernel
theorem d_Li_undoRow_1 : decode b_Li_undoRow 1 = .ok (.aload_n 0, 1) := by decide +kernel
theorem d_Li_undoRow_2 : decode b_Li_undoRow 2 = .ok (.getfield 21, 3) := by decide +kernel
theorem d_Li_undoRow_5 : decode b_Li_undoRow 5 = .ok (.aload_n 0, 1) := by decide +kernel
theorem d_Li_undoRow_6 : decode b_Li_undoRow 6 = .ok (.getfield 24, 3) := by decide +kernel
theorem d_Li_undoRow_9 : decode b_Li_undoRow 9 = .ok (.imul, 1) := by decide +kernel
theorem d_Li_undoRow_10 : decode b_Li_undoRow 10 = .ok (.bipush 8, 2) := by decide +kernel
theorem d_Li_undoRow_12 : decode b_Li_undoRow 12 = .ok (.idiv, 1) := by decide +kernel
theorem d_Li_undoRow_13 : decode b_Li_undoRow 13 = .ok (.invokestatic 38, 3) := by decide +kernel
theorem d_Li_undoRow_16 : decode b_Li_undoRow 16 = .ok (.istore 6, 2) := by decide +kernel
theorem d_Li_undoRow_18 : decode b_Li_undoRow 18 = .ok (.aload_n 0, 1) := by decide +kernel
theorem d_Li_undoRow_19 : decode b_Li_undoRow 19 = .ok (.invokevirtual 44, 3) := by decide +kernel
theorem d_Li_undoRow_22 : decode b_Li_undoRow 22 = .ok (.istore 7, 2) := by decide +kernel
theorem d_Li_undoRow_24 : decode b_Li_undoRow 24 = .ok (.iconst 0, 1) := by decide +kernel
theorem d_Li_undoRow_25 : decode b_Li_undoRow 25 = .ok (.istore 8, 2) := by decide +kernel
theorem d_Li_undoRow_27 : decode b_Li_undoRow 27 = .ok (.iload 8, 2) := by decide +kernel
theorem d_Li_undoRow_29 : decode b_Li_undoRow 29 = .ok (.iload 5, 2) := by decide +kernel
theorem d_Li_undoRow_31 : decode b_Li_undoRow 31 = .ok (.if_icmp .ge 141, 3) := by decide +kernel
theorem d_Li_undoRow_34 : decode b_Li_undoRow 34 = .ok (.iload 4, 2) := by decide +kernel
theorem d_Li_undoRow_36 : decode b_Li_undoRow 36 = .ok (.iload 8, 2) := by decide +kernel
theorem d_Li_undoRow_38 : decode b_Li_undoRow 38 = .ok (.iadd, 1) := by decide +kernel
theorem d_Li_undoRow_39 : decode b_Li_undoRow 39 = .ok (.istore 9, 2) := by decide +kernel
theorem d_Li_undoRow_41 : decode b_Li_undoRow 41 = .ok (.iload 8, 2) := by decide +kernel
theorem d_Li_undoRow_43 : decode b_Li_undoRow 43 = .ok (.iload 6, 2) := by decide +kernel
theorem d_Li_undoRow_45 : decode b_Li_undoRow 45 = .ok (.if_icmp .lt 7, 3) := by decide +kernel
theorem d_Li_undoRow_48 : decode b_Li_undoRow 48 = .ok (.iconst 1, 1) := by decide +kernel
theorem d_Li_undoRow_49 : decode b_Li_undoRow 49 = .ok (.goto 4, 3) := by decide +kernel
theorem d_Li_undoRow_52 : decode b_Li_undoRow 52 = .ok (.iconst 0, 1) := by decide +kernel
theorem d_Li_undoRow_53 : decode b_Li_undoRow 53 = .ok (.istore 10, 2) := by decide +kernel
theorem d_Li_undoRow_55 : decode b_Li_undoRow 55 = .ok (.iload 4, 2) := by decide +kernel
theorem d_Li_undoRow_57 : decode b_Li_undoRow 57 = .ok (.iload 7, 2) := by decide +kernel
theorem d_Li_undoRow_59 : decode b_Li_undoRow 59 = .ok (.if_icmp .lt 7, 3) := by decide +kernel
theorem d_Li_undoRow_62 : decode b_Li_undoRow 62 = .ok (.iconst 1, 1) := by decide +kernel
theorem d_Li_undoRow_63 : decode b_Li_undoRow 63 = .ok (.goto 4, 3) := by decide +kernel
theorem d_Li_undoRow_66 : decode b_Li_undoRow 66 = .ok (.iconst 0, 1) := by decide +kernel
theorem d_Li_undoRow_67 : decode b_Li_undoRow 67 = .ok (.istore 11, 2) := by decide +kernel
theorem d_Li_undoRow_69 : decode b_Li_undoRow 69 = .ok (.iload 10, 2) := by decide +kernel
theorem d_Li_undoRow_71 : decode b_Li_undoRow 71 = .ok (.ifCond .eq 15, 3) := by decide +kernel
theorem d_Li_undoRow_74 : decode b_Li_undoRow 74 = .ok (.aload_n 1, 1) := by decide +kernel
theorem d_Li_undoRow_75 : decode b_Li_undoRow 75 = .ok (.iload 9, 2) := by decide +kernel
theorem d_Li_undoRow_77 : decode b_Li_undoRow 77 = .ok (.iload 6, 2) := by decide +kernel
theorem d_Li_undoRow_79 : decode b_Li_undoRow 79 = .ok (.isub, 1) := by decide +kernel
theorem d_Li_undoRow_80 : decode b_Li_undoRow 80 = .ok (.invokevirtual 64, 3) := by decide +kernel
theorem d_Li_undoRow_83 : decode b_Li_undoRow 83 = .ok (.goto 4, 3) := by decide +kernel
theorem d_Li_undoRow_86 : decode b_Li_undoRow 86 = .ok (.iconst 0, 1) := by decide +kernel
theorem d_Li_undoRow_87 : decode b_Li_undoRow 87 = .ok (.istore 12, 2) := by decide +kernel
theorem d_Li_undoRow_89 : decode b_Li_undoRow 89 = .ok (.iload 11, 2) := by decide +kernel
theorem d_Li_undoRow_91 : decode b_Li_undoRow 91 = .ok (.ifCond .eq 15, 3) := by decide +kernel
theorem d_Li_undoRow_94 : decode b_Li_undoRow 94 = .ok (.aload_n 1, 1) := by decide +kernel
theorem d_Li_undoRow_95 : decode b_Li_undoRow 95 = .ok (.iload 9, 2) := by decide +kernel
theorem d_Li_undoRow_97 : decode b_Li_undoRow 97 = .ok (.iload 7, 2) := by decide +kernel
theorem d_Li_undoRow_99 : decode b_Li_undoRow 99 = .ok (.isub, 1) := by decide +kernel
theorem d_Li_undoRow_100 : decode b_Li_undoRow 100 = .ok (.invokevirtual 64, 3) := by decide +kernel
theorem d_Li_undoRow_103 : decode b_Li_undoRow 103 = .ok (.goto 4, 3) := by decide +kernel
theorem d_Li_undoRow_106 : decode b_Li_undoRow 106 = .ok (.iconst 0, 1) := by decide +kernel
theorem d_Li_undoRow_107 : decode b_Li_undoRow 107 = .ok (.istore 13, 2) := by decide +kernel
theorem d_Li_undoRow_109 : decode b_Li_undoRow 109 = .ok (.iload 10, 2) := by decide +kernel
theorem d_Li_undoRow_111 : decode b_Li_undoRow 111 = .ok (.ifCond .eq 23, 3) := by decide +kernel
theorem d_Li_undoRow_114 : decode b_Li_undoRow 114 = .ok (.iload 11, 2) := by decide +kernel
theorem d_Li_undoRow_116 : decode b_Li_undoRow 116 = .ok (.ifCond .eq 18, 3) := by decide +kernel
theorem d_Li_undoRow_119 : decode b_Li_undoRow 119 = .ok (.aload_n 1, 1) := by decide +kernel
theorem d_Li_undoRow_120 : decode b_Li_undoRow 120 = .ok (.iload 9, 2) := by decide +kernel
theorem d_Li_undoRow_122 : decode b_Li_undoRow 122 = .ok (.iload 7, 2) := by decide +kernel
theorem d_Li_undoRow_124 : decode b_Li_undoRow 124 = .ok (.isub, 1) := by decide +kernel
theorem d_Li_undoRow_125 : decode b_Li_undoRow 125 = .ok (.iload 6, 2) := by decide +kernel
theorem d_Li_undoRow_127 : decode b_Li_undoRow 127 = .ok (.isub, 1) := by decide +kernel
theorem d_Li_undoRow_128 : decode b_Li_undoRow 128 = .ok (.invokevirtual 64, 3) := by decide +kernel
theorem d_Li_undoRow_131 : decode b_Li_undoRow 131 = .ok (.goto 4, 3) := by decide +kernel
theorem d_Li_undoRow_134 : decode b_Li_undoRow 134 = .ok (.iconst 0, 1) := by decide +kernel
theorem d_Li_undoRow_135 : decode b_Li_undoRow 135 = .ok (.istore 14, 2) := by decide +kernel
theorem d_Li_undoRow_137 : decode b_Li_undoRow 137 = .ok (.iload_n 2, 1) := by decide +kernel
theorem d_Li_undoRow_138 : decode b_Li_undoRow 138 = .ok (.iload 12, 2) := by decide +kernel
theorem d_Li_undoRow_140 : decode b_Li_undoRow 140 = .ok (.iload 13, 2) := by decide +kernel
theorem d_Li_undoRow_142 : decode b_Li_undoRow 142 = .ok (.iload 14, 2) := by decide +kernel
theorem d_Li_undoRow_144 : decode b_Li_undoRow 144 = .ok (.invokestatic 82, 3) := by decide +kernel
theorem d_Li_undoRow_147 : decode b_Li_undoRow 147 = .ok (.istore 15, 2) := by decide +kernel
theorem d_Li_undoRow_149 : decode b_Li_undoRow 149 = .ok (.aload_n 1, 1) := by decide +kernel
theorem d_Li_undoRow_150 : decode b_Li_undoRow 150 = .ok (.iload 9, 2) := by decide +kernel
theorem d_Li_undoRow_152 : decode b_Li_undoRow 152 = .ok (.aload_n 1, 1) := by decide +kernel
theorem d_Li_undoRow_153 : decode b_Li_undoRow 153 = .ok (.iload_n 3, 1) := by decide +kernel
theorem d_Li_undoRow_154 : decode b_Li_undoRow 154 = .ok (.iload 8, 2) := by decide +kernel
theorem d_Li_undoRow_156 : decode b_Li_undoRow 156 = .ok (.iadd, 1) := by decide +kernel
theorem d_Li_undoRow_157 : decode b_Li_undoRow 157 = .ok (.invokevirtual 64, 3) := by decide +kernel
theorem d_Li_undoRow_160 : decode b_Li_undoRow 160 = .ok (.iload 15, 2) := by decide +kernel
theorem d_Li_undoRow_162 : decode b_Li_undoRow 162 = .ok (.iadd, 1) := by decide +kernel
theorem d_Li_undoRow_163 : decode b_Li_undoRow 163 = .ok (.invokevirtual 74, 3) := by decide +kernel
theorem d_Li_undoRow_166 : decode b_Li_undoRow 166 = .ok (.iinc 8 1, 3) := by decide +kernel
theorem d_Li_undoRow_169 : decode b_Li_undoRow 169 = .ok (.goto (-142), 3) := by decide +kernel
theorem d_Li_undoRow_172 : decode b_Li_undoRow 172 = .ok (.return_, 1) := by decide +kernel
noncomputable def f_Li_undoRow_B135 (K27 : mH → Nat → Int32 → Int32 → Int32 → Int32 → Int32 → Int32 → Int32 → Option (Unit × mH)) (n0 : Nat) (h0 : mH) (a1 : Nat) (x2 : Int32) (x3 : Int32) (x4 : Int32) (x5 : Int32) (x6 : Int32) (x7 : Int32) (x8 : Int32) (x9 : Int32) (x12 : Int32) (x13 : Int32) (p0 : Int32) : Option (Unit × mH) :=
  mcl (f_Li_guessOf n0 h0 x2 x12 x13 p0) fun v15 h16 =>
  mis h16 a1 1 <|
  mcl (f_By_byteAt n0 h16 a1 (x3 + x8)) fun v18 h19 =>
  mis h19 a1 1 <|
  mcl (f_By_change n0 h19 a1 x9 (v18 + v15)) fun _ h22 =>
  mnm (x8 + 1) fun v24 =>
  K27 h22 a1 x2 x3 x4 x5 x6 x7 v24
noncomputable def f_Li_undoRow_B134 (K27 : mH → Nat → Int32 → Int32 → Int32 → Int32 → Int32 → Int32 → Int32 → Option (Unit × mH)) (n0 : Nat) (h0 : mH) (a1 : Nat) (x2 : Int32) (x3 : Int32) (x4 : Int32) (x5 : Int32) (x6 : Int32) (x7 : Int32) (x8 : Int32) (x9 : Int32) (x12 : Int32) (x13 : Int32) : Option (Unit × mH) :=
  f_Li_undoRow_B135 K27 n0 h0 a1 x2 x3 x4 x5 x6 x7 x8 x9 x12 x13 0
noncomputable def f_Li_undoRow_B107 (K27 : mH → Nat → Int32 → Int32 → Int32 → Int32 → Int32 → Int32 → Int32 → Option (Unit × mH)) (n0 : Nat) (h0 : mH) (a1 : Nat) (x2 : Int32) (x3 : Int32) (x4 : Int32) (x5 : Int32) (x6 : Int32) (x7 : Int32) (x8 : Int32) (x9 : Int32) (x10 : Int32) (x11 : Int32) (x12 : Int32) (p0 : Int32) : Option (Unit × mH) :=
  if x10 = 0 then
    f_Li_undoRow_B134 K27 n0 h0 a1 x2 x3 x4 x5 x6 x7 x8 x9 x12 p0
  else
    if x11 = 0 then
      f_Li_undoRow_B134 K27 n0 h0 a1 x2 x3 x4 x5 x6 x7 x8 x9 x12 p0
    else
      mis h0 a1 1 <|
      mcl (f_By_byteAt n0 h0 a1 ((x9 - x7) - x6)) fun v27 h28 =>
      f_Li_undoRow_B135 K27 n0 h28 a1 x2 x3 x4 x5 x6 x7 x8 x9 x12 p0 v27
noncomputable def f_Li_undoRow_B87 (K27 : mH → Nat → Int32 → Int32 → Int32 → Int32 → Int32 → Int32 → Int32 → Option (Unit × mH)) (n0 : Nat) (h0 : mH) (a1 : Nat) (x2 : Int32) (x3 : Int32) (x4 : Int32) (x5 : Int32) (x6 : Int32) (x7 : Int32) (x8 : Int32) (x9 : Int32) (x10 : Int32) (x11 : Int32) (p0 : Int32) : Option (Unit × mH) :=
  if x11 = 0 then
    f_Li_undoRow_B107 K27 n0 h0 a1 x2 x3 x4 x5 x6 x7 x8 x9 x10 x11 p0 0
  else
    mis h0 a1 1 <|
    mcl (f_By_byteAt n0 h0 a1 (x9 - x7)) fun v30 h31 =>
    f_Li_undoRow_B107 K27 n0 h31 a1 x2 x3 x4 x5 x6 x7 x8 x9 x10 x11 p0 v30
noncomputable def f_Li_undoRow_B67 (K27 : mH → Nat → Int32 → Int32 → Int32 → Int32 → Int32 → Int32 → Int32 → Option (Unit × mH)) (n0 : Nat) (h0 : mH) (a1 : Nat) (x2 : Int32) (x3 : Int32) (x4 : Int32) (x5 : Int32) (x6 : Int32) (x7 : Int32) (x8 : Int32) (x9 : Int32) (x10 : Int32) (p0 : Int32) : Option (Unit × mH) :=
  if x10 = 0 then
    f_Li_undoRow_B87 K27 n0 h0 a1 x2 x3 x4 x5 x6 x7 x8 x9 x10 p0 0
  else
    mis h0 a1 1 <|
    mcl (f_By_byteAt n0 h0 a1 (x9 - x6)) fun v33 h34 =>
    f_Li_undoRow_B87 K27 n0 h34 a1 x2 x3 x4 x5 x6 x7 x8 x9 x10 p0 v33
noncomputable def f_Li_undoRow_B53 (K27 : mH → Nat → Int32 → Int32 → Int32 → Int32 → Int32 → Int32 → Int32 → Option (Unit × mH)) (n0 : Nat) (h0 : mH) (a1 : Nat) (x2 : Int32) (x3 : Int32) (x4 : Int32) (x5 : Int32) (x6 : Int32) (x7 : Int32) (x8 : Int32) (x9 : Int32) (p0 : Int32) : Option (Unit × mH) :=
  if x4 < x7 then
    f_Li_undoRow_B67 K27 n0 h0 a1 x2 x3 x4 x5 x6 x7 x8 x9 p0 0
  else
    f_Li_undoRow_B67 K27 n0 h0 a1 x2 x3 x4 x5 x6 x7 x8 x9 p0 1
noncomputable def f_Li_undoRow_L27  (n0 : Nat) : Nat → mH → Nat → Int32 → Int32 → Int32 → Int32 → Int32 → Int32 → Int32 → Option (Unit × mH)
  | 0, _, _, _, _, _, _, _, _, _ => none
  | n + 1, h0, a1, x2, x3, x4, x5, x6, x7, x8 =>
    if x5 ≤ x8 then
      some ((), h0)
    else
      mnm (x4 + x8) fun v8 =>
      if x8 < x6 then
        f_Li_undoRow_B53 (f_Li_undoRow_L27 n0 n) n0 h0 a1 x2 x3 x4 x5 x6 x7 x8 v8 0
      else
        f_Li_undoRow_B53 (f_Li_undoRow_L27 n0 n) n0 h0 a1 x2 x3 x4 x5 x6 x7 x8 v8 1
noncomputable def f_Li_undoRow  (n0 : Nat) (h0 : mH) (a0 : Nat) (a1 : Nat) (x2 : Int32) (x3 : Int32) (x4 : Int32) (x5 : Int32) : Option (Unit × mH) :=
  mgi h0 a0 6 3 fun v1 =>
  mgi h0 a0 6 4 fun v2 =>
  mnm (if 1 < ((v1 * v2) / 8) then ((v1 * v2) / 8) else 1) fun v3 =>
  mis h0 a0 6 <|
  mcl (f_Li_rowSize n0 h0 a0) fun v5 h6 =>
  f_Li_undoRow_L27 n0 n0 h6 a1 x2 x3 x4 x5 v3 v5 0
set_option maxHeartbeats 4000000 in
set_option maxRecDepth 100000 in
theorem cb_Li_undoRow_B135 {X : mX} {ad : Nat → Nat} {ln : Launch} (O : mO X ad R_Li b_Li_undoRow 16 (mR 3 70) ln) (K27 : mH → Nat → Int32 → Int32 → Int32 → Int32 → Int32 → Int32 → Int32 → Option (Unit × mH)) (r' : Unit) (h' : mH) (hE : mEnd X ad none none h') (hK27 : ∀ (h : mH) (a1 : Nat) (x2 : Int32) (x3 : Int32) (x4 : Int32) (x5 : Int32) (x6 : Int32) (x7 : Int32) (x8 : Int32), K27 h a1 x2 x3 x4 x5 x6 x7 x8 = some (r', h') → mAW X ad 0 0 27 [(1, .ref a1), (2, .int x2), (3, .int x3), (4, .int x4), (5, .int x5), (6, .int x6), (7, .int x7), (8, .int x8)] [] h) (n0 : Nat) (h0 : mH) (a1 : Nat) (x2 : Int32) (x3 : Int32) (x4 : Int32) (x5 : Int32) (x6 : Int32) (x7 : Int32) (x8 : Int32) (x9 : Int32) (x12 : Int32) (x13 : Int32) (p0 : Int32) (hf : f_Li_undoRow_B135 K27 n0 h0 a1 x2 x3 x4 x5 x6 x7 x8 x9 x12 x13 p0 = some (r', h')) : mAW X ad 0 0 135 [(1, .ref a1), (2, .int x2), (3, .int x3), (4, .int x4), (5, .int x5), (6, .int x6), (7, .int x7), (8, .int x8), (9, .int x9), (12, .int x12), (13, .int x13)] [.int p0] h0 := by
  unfold f_Li_undoRow_B135 at hf
  refine ax_istore (lv' := [(14, .int p0), (1, .ref a1), (2, .int x2), (3, .int x3), (4, .int x4), (5, .int x5), (6, .int x6), (7, .int x7), (8, .int x8), (9, .int x9), (12, .int x12), (13, .int x13)]) O d_Li_undoRow_135 (by decide) rfl ?_
  refine ax_iload_n O d_Li_undoRow_137 rfl 2 rfl ?_
  refine ax_iload O d_Li_undoRow_138 10 rfl ?_
  refine ax_iload O d_Li_undoRow_140 11 rfl ?_
  refine ax_iload O d_Li_undoRow_142 0 rfl ?_
  obtain ⟨v15, h16, mh16, hf⟩ := mcl_some hf
  refine ax_callS (As := [.int x2, .int x12, .int x13, .int p0]) (rest := []) O cw_Li_guessOf st_Li_guessOf lk_Li_82 (c_Li_guessOf mh16) rfl ⟨rfl, rfl⟩ (by decide) (by decide) (Nat.le_of_ble_eq_true rfl) d_Li_undoRow_144 ?_
  refine ax_istore (lv' := [(15, .int v15), (14, .int p0), (1, .ref a1), (2, .int x2), (3, .int x3), (4, .int x4), (5, .int x5), (6, .int x6), (7, .int x7), (8, .int x8), (9, .int x9), (12, .int x12), (13, .int x13)]) O d_Li_undoRow_147 (by decide) rfl ?_
  refine ax_aload_n O d_Li_undoRow_149 rfl 2 rfl ?_
  refine ax_iload O d_Li_undoRow_150 10 rfl ?_
  refine ax_aload_n O d_Li_undoRow_152 rfl 2 rfl ?_
  refine ax_iload_n O d_Li_undoRow_153 rfl 4 rfl ?_
  refine ax_iload O d_Li_undoRow_154 9 rfl ?_
  refine ax_iadd O d_Li_undoRow_156 ?_
  obtain ⟨fh19, ch19, hf⟩ := mis_some hf
  obtain ⟨v18, h19, mh19, hf⟩ := mcl_some hf
  refine ax_callV (As := [.int (x3 + x8)]) (rest := [.int x9, .ref a1]) O cw_By_byteAt (q := (R_By, T_By, 2)) rfl rfl in_By_byteAt se_By_byteAt lk_Li_64 ch19 (c_By_byteAt mh19) rfl ⟨rfl, rfl⟩ (by decide) (by decide) (Nat.le_of_ble_eq_true rfl) d_Li_undoRow_157 ?_
  refine ax_iload O d_Li_undoRow_160 0 rfl ?_
  refine ax_iadd O d_Li_undoRow_162 ?_
  obtain ⟨fh22, ch22, hf⟩ := mis_some hf
  obtain ⟨u23, h22, mh22, hf⟩ := mcl_some hf
  refine ax_callV (As := [.int x9, .int (v18 + v15)]) (rest := []) O cw_By_change (q := (R_By, T_By, 2)) rfl rfl in_By_change se_By_change lk_Li_74 ch22 (c_By_change mh22) rfl ⟨rfl, rfl⟩ (by decide) (by decide) (Nat.le_of_ble_eq_true rfl) d_Li_undoRow_163 ?_
  obtain ⟨v24, ev24, hf⟩ := mnm_some hf
  refine ax_iinc (j := 9) (v := v24) (lv' := [(8, .int v24), (15, .int v15), (14, .int p0), (1, .ref a1), (2, .int x2), (3, .int x3), (4, .int x4), (5, .int x5), (6, .int x6), (7, .int x7), (9, .int x9), (12, .int x12), (13, .int x13)]) O d_Li_undoRow_166 rfl (by rw [ev24]; rfl) (by decide) rfl ?_
  refine ax_goto (tgt := 27) O d_Li_undoRow_169 (by decide) ?_
  refine ax_sub [3, 4, 5, 6, 7, 8, 9, 0] rfl ?_
  exact hK27 _ _ _ _ _ _ _ _ _ hf
set_option maxHeartbeats 4000000 in
set_option maxRecDepth 100000 in
theorem cb_Li_undoRow_B134 {X : mX} {ad : Nat → Nat} {ln : Launch} (O : mO X ad R_Li b_Li_undoRow 16 (mR 3 70) ln) (K27 : mH → Nat → Int32 → Int32 → Int32 → Int32 → Int32 → Int32 → Int32 → Option (Unit × mH)) (r' : Unit) (h' : mH) (hE : mEnd X ad none none h') (hK27 : ∀ (h : mH) (a1 : Nat) (x2 : Int32) (x3 : Int32) (x4 : Int32) (x5 : Int32) (x6 : Int32) (x7 : Int32) (x8 : Int32), K27 h a1 x2 x3 x4 x5 x6 x7 x8 = some (r', h') → mAW X ad 0 0 27 [(1, .ref a1), (2, .int x2), (3, .int x3), (4, .int x4), (5, .int x5), (6, .int x6), (7, .int x7), (8, .int x8)] [] h) (n0 : Nat) (h0 : mH) (a1 : Nat) (x2 : Int32) (x3 : Int32) (x4 : Int32) (x5 : Int32) (x6 : Int32) (x7 : Int32) (x8 : Int32) (x9 : Int32) (x12 : Int32) (x13 : Int32) (hf : f_Li_undoRow_B134 K27 n0 h0 a1 x2 x3 x4 x5 x6 x7 x8 x9 x12 x13 = some (r', h')) : mAW X ad 0 0 134 [(1, .ref a1), (2, .int x2), (3, .int x3), (4, .int x4), (5, .int x5), (6, .int x6), (7, .int x7), (8, .int x8), (9, .int x9), (12, .int x12), (13, .int x13)] [] h0 := by
  unfold f_Li_undoRow_B134 at hf
  refine ax_iconst (v := 0) O d_Li_undoRow_134 (by decide) ?_
  exact cb_Li_undoRow_B135 O K27 _ _ hE hK27 n0 _ _ _ _ _ _ _ _ _ _ _ _ _ hf
set_option maxHeartbeats 4000000 in
set_option maxRecDepth 100000 in
theorem cb_Li_undoRow_B107 {X : mX} {ad : Nat → Nat} {ln : Launch} (O : mO X ad R_Li b_Li_undoRow 16 (mR 3 70) ln) (K27 : mH → Nat → Int32 → Int32 → Int32 → Int32 → Int32 → Int32 → Int32 → Option (Unit × mH)) (r' : Unit) (h' : mH) (hE : mEnd X ad none none h') (hK27 : ∀ (h : mH) (a1 : Nat) (x2 : Int32) (x3 : Int32) (x4 : Int32) (x5 : Int32) (x6 : Int32) (x7 : Int32) (x8 : Int32), K27 h a1 x2 x3 x4 x5 x6 x7 x8 = some (r', h') → mAW X ad 0 0 27 [(1, .ref a1), (2, .int x2), (3, .int x3), (4, .int x4), (5, .int x5), (6, .int x6), (7, .int x7), (8, .int x8)] [] h) (n0 : Nat) (h0 : mH) (a1 : Nat) (x2 : Int32) (x3 : Int32) (x4 : Int32) (x5 : Int32) (x6 : Int32) (x7 : Int32) (x8 : Int32) (x9 : Int32) (x10 : Int32) (x11 : Int32) (x12 : Int32) (p0 : Int32) (hf : f_Li_undoRow_B107 K27 n0 h0 a1 x2 x3 x4 x5 x6 x7 x8 x9 x10 x11 x12 p0 = some (r', h')) : mAW X ad 0 0 107 [(1, .ref a1), (2, .int x2), (3, .int x3), (4, .int x4), (5, .int x5), (6, .int x6), (7, .int x7), (8, .int x8), (9, .int x9), (10, .int x10), (11, .int x11), (12, .int x12)] [.int p0] h0 := by
  unfold f_Li_undoRow_B107 at hf
  refine ax_istore (lv' := [(13, .int p0), (1, .ref a1), (2, .int x2), (3, .int x3), (4, .int x4), (5, .int x5), (6, .int x6), (7, .int x7), (8, .int x8), (9, .int x9), (10, .int x10), (11, .int x11), (12, .int x12)]) O d_Li_undoRow_107 (by decide) rfl ?_
  refine ax_iload O d_Li_undoRow_109 10 rfl ?_
  refine ax_if_eq (tgt := 134) O d_Li_undoRow_111 (by decide) (fun q13 => ?_) (fun q13 => ?_)
  · rw [if_pos q13] at hf
    refine ax_sub [1, 2, 3, 4, 5, 6, 7, 8, 9, 12, 0] rfl ?_
    exact cb_Li_undoRow_B134 O K27 _ _ hE hK27 n0 _ _ _ _ _ _ _ _ _ _ _ _ hf
  · rw [if_neg q13] at hf
    refine ax_iload O d_Li_undoRow_114 11 rfl ?_
    refine ax_if_eq (tgt := 134) O d_Li_undoRow_116 (by decide) (fun q25 => ?_) (fun q25 => ?_)
    · rw [if_pos q25] at hf
      refine ax_sub [1, 2, 3, 4, 5, 6, 7, 8, 9, 12, 0] rfl ?_
      exact cb_Li_undoRow_B134 O K27 _ _ hE hK27 n0 _ _ _ _ _ _ _ _ _ _ _ _ hf
    · rw [if_neg q25] at hf
      refine ax_aload_n O d_Li_undoRow_119 rfl 1 rfl ?_
      refine ax_iload O d_Li_undoRow_120 9 rfl ?_
      refine ax_iload O d_Li_undoRow_122 7 rfl ?_
      refine ax_isub O d_Li_undoRow_124 ?_
      refine ax_iload O d_Li_undoRow_125 6 rfl ?_
      refine ax_isub O d_Li_undoRow_127 ?_
      obtain ⟨fh28, ch28, hf⟩ := mis_some hf
      obtain ⟨v27, h28, mh28, hf⟩ := mcl_some hf
      refine ax_callV (As := [.int ((x9 - x7) - x6)]) (rest := []) O cw_By_byteAt (q := (R_By, T_By, 2)) rfl rfl in_By_byteAt se_By_byteAt lk_Li_64 ch28 (c_By_byteAt mh28) rfl ⟨rfl, rfl⟩ (by decide) (by decide) (Nat.le_of_ble_eq_true rfl) d_Li_undoRow_128 ?_
      refine ax_goto (tgt := 135) O d_Li_undoRow_131 (by decide) ?_
      refine ax_sub [1, 2, 3, 4, 5, 6, 7, 8, 9, 12, 0] rfl ?_
      exact cb_Li_undoRow_B135 O K27 _ _ hE hK27 n0 _ _ _ _ _ _ _ _ _ _ _ _ _ hf
set_option maxHeartbeats 4000000 in
set_option maxRecDepth 100000 in
theorem cb_Li_undoRow_B87 {X : mX} {ad : Nat → Nat} {ln : Launch} (O : mO X ad R_Li b_Li_undoRow 16 (mR 3 70) ln) (K27 : mH → Nat → Int32 → Int32 → Int32 → Int32 → Int32 → Int32 → Int32 → Option (Unit × mH)) (r' : Unit) (h' : mH) (hE : mEnd X ad none none h') (hK27 : ∀ (h : mH) (a1 : Nat) (x2 : Int32) (x3 : Int32) (x4 : Int32) (x5 : Int32) (x6 : Int32) (x7 : Int32) (x8 : Int32), K27 h a1 x2 x3 x4 x5 x6 x7 x8 = some (r', h') → mAW X ad 0 0 27 [(1, .ref a1), (2, .int x2), (3, .int x3), (4, .int x4), (5, .int x5), (6, .int x6), (7, .int x7), (8, .int x8)] [] h) (n0 : Nat) (h0 : mH) (a1 : Nat) (x2 : Int32) (x3 : Int32) (x4 : Int32) (x5 : Int32) (x6 : Int32) (x7 : Int32) (x8 : Int32) (x9 : Int32) (x10 : Int32) (x11 : Int32) (p0 : Int32) (hf : f_Li_undoRow_B87 K27 n0 h0 a1 x2 x3 x4 x5 x6 x7 x8 x9 x10 x11 p0 = some (r', h')) : mAW X ad 0 0 87 [(1, .ref a1), (2, .int x2), (3, .int x3), (4, .int x4), (5, .int x5), (6, .int x6), (7, .int x7), (8, .int x8), (9, .int x9), (10, .int x10), (11, .int x11)] [.int p0] h0 := by
  unfold f_Li_undoRow_B87 at hf
  refine ax_istore (lv' := [(12, .int p0), (1, .ref a1), (2, .int x2), (3, .int x3), (4, .int x4), (5, .int x5), (6, .int x6), (7, .int x7), (8, .int x8), (9, .int x9), (10, .int x10), (11, .int x11)]) O d_Li_undoRow_87 (by decide) rfl ?_
  refine ax_iload O d_Li_undoRow_89 11 rfl ?_
  refine ax_if_eq (tgt := 106) O d_Li_undoRow_91 (by decide) (fun q12 => ?_) (fun q12 => ?_)
  · rw [if_pos q12] at hf
    refine ax_iconst (v := 0) O d_Li_undoRow_106 (by decide) ?_
    refine ax_sub [1, 2, 3, 4, 5, 6, 7, 8, 9, 10, 11, 0] rfl ?_
    exact cb_Li_undoRow_B107 O K27 _ _ hE hK27 n0 _ _ _ _ _ _ _ _ _ _ _ _ _ _ hf
  · rw [if_neg q12] at hf
    refine ax_aload_n O d_Li_undoRow_94 rfl 1 rfl ?_
    refine ax_iload O d_Li_undoRow_95 9 rfl ?_
    refine ax_iload O d_Li_undoRow_97 7 rfl ?_
    refine ax_isub O d_Li_undoRow_99 ?_
    obtain ⟨fh31, ch31, hf⟩ := mis_some hf
    obtain ⟨v30, h31, mh31, hf⟩ := mcl_some hf
    refine ax_callV (As := [.int (x9 - x7)]) (rest := []) O cw_By_byteAt (q := (R_By, T_By, 2)) rfl rfl in_By_byteAt se_By_byteAt lk_Li_64 ch31 (c_By_byteAt mh31) rfl ⟨rfl, rfl⟩ (by decide) (by decide) (Nat.le_of_ble_eq_true rfl) d_Li_undoRow_100 ?_
    refine ax_goto (tgt := 107) O d_Li_undoRow_103 (by decide) ?_
    refine ax_sub [1, 2, 3, 4, 5, 6, 7, 8, 9, 10, 11, 0] rfl ?_
    exact cb_Li_undoRow_B107 O K27 _ _ hE hK27 n0 _ _ _ _ _ _ _ _ _ _ _ _ _ _ hf
set_option maxHeartbeats 4000000 in
set_option maxRecDepth 100000 in
theorem cb_Li_undoRow_B67 {X : mX} {ad : Nat → Nat} {ln : Launch} (O : mO X ad R_Li b_Li_undoRow 16 (mR 3 70) ln) (K27 : mH → Nat → Int32 → Int32 → Int32 → Int32 → Int32 → Int32 → Int32 → Option (Unit × mH)) (r' : Unit) (h' : mH) (hE : mEnd X ad none none h') (hK27 : ∀ (h : mH) (a1 : Nat) (x2 : Int32) (x3 : Int32) (x4 : Int32) (x5 : Int32) (x6 : Int32) (x7 : Int32) (x8 : Int32), K27 h a1 x2 x3 x4 x5 x6 x7 x8 = some (r', h') → mAW X ad 0 0 27 [(1, .ref a1), (2, .int x2), (3, .int x3), (4, .int x4), (5, .int x5), (6, .int x6), (7, .int x7), (8, .int x8)] [] h) (n0 : Nat) (h0 : mH) (a1 : Nat) (x2 : Int32) (x3 : Int32) (x4 : Int32) (x5 : Int32) (x6 : Int32) (x7 : Int32) (x8 : Int32) (x9 : Int32) (x10 : Int32) (p0 : Int32) (hf : f_Li_undoRow_B67 K27 n0 h0 a1 x2 x3 x4 x5 x6 x7 x8 x9 x10 p0 = some (r', h')) : mAW X ad 0 0 67 [(1, .ref a1), (2, .int x2), (3, .int x3), (4, .int x4), (5, .int x5), (6, .int x6), (7, .int x7), (8, .int x8), (9, .int x9), (10, .int x10)] [.int p0] h0 := by
  unfold f_Li_undoRow_B67 at hf
  refine ax_istore (lv' := [(11, .int p0), (1, .ref a1), (2, .int x2), (3, .int x3), (4, .int x4), (5, .int x5), (6, .int x6), (7, .int x7), (8, .int x8), (9, .int x9), (10, .int x10)]) O d_Li_undoRow_67 (by decide) rfl ?_
  refine ax_iload O d_Li_undoRow_69 10 rfl ?_
  refine ax_if_eq (tgt := 86) O d_Li_undoRow_71 (by decide) (fun q11 => ?_) (fun q11 => ?_)
  · rw [if_pos q11] at hf
    refine ax_iconst (v := 0) O d_Li_undoRow_86 (by decide) ?_
    refine ax_sub [1, 2, 3, 4, 5, 6, 7, 8, 9, 10, 0] rfl ?_
    exact cb_Li_undoRow_B87 O K27 _ _ hE hK27 n0 _ _ _ _ _ _ _ _ _ _ _ _ _ hf
  · rw [if_neg q11] at hf
    refine ax_aload_n O d_Li_undoRow_74 rfl 1 rfl ?_
    refine ax_iload O d_Li_undoRow_75 9 rfl ?_
    refine ax_iload O d_Li_undoRow_77 6 rfl ?_
    refine ax_isub O d_Li_undoRow_79 ?_
    obtain ⟨fh34, ch34, hf⟩ := mis_some hf
    obtain ⟨v33, h34, mh34, hf⟩ := mcl_some hf
    refine ax_callV (As := [.int (x9 - x6)]) (rest := []) O cw_By_byteAt (q := (R_By, T_By, 2)) rfl rfl in_By_byteAt se_By_byteAt lk_Li_64 ch34 (c_By_byteAt mh34) rfl ⟨rfl, rfl⟩ (by decide) (by decide) (Nat.le_of_ble_eq_true rfl) d_Li_undoRow_80 ?_
    refine ax_goto (tgt := 87) O d_Li_undoRow_83 (by decide) ?_
    refine ax_sub [1, 2, 3, 4, 5, 6, 7, 8, 9, 10, 0] rfl ?_
    exact cb_Li_undoRow_B87 O K27 _ _ hE hK27 n0 _ _ _ _ _ _ _ _ _ _ _ _ _ hf
set_option maxHeartbeats 4000000 in
set_option maxRecDepth 100000 in
theorem cb_Li_undoRow_B53 {X : mX} {ad : Nat → Nat} {ln : Launch} (O : mO X ad R_Li b_Li_undoRow 16 (mR 3 70) ln) (K27 : mH → Nat → Int32 → Int32 → Int32 → Int32 → Int32 → Int32 → Int32 → Option (Unit × mH)) (r' : Unit) (h' : mH) (hE : mEnd X ad none none h') (hK27 : ∀ (h : mH) (a1 : Nat) (x2 : Int32) (x3 : Int32) (x4 : Int32) (x5 : Int32) (x6 : Int32) (x7 : Int32) (x8 : Int32), K27 h a1 x2 x3 x4 x5 x6 x7 x8 = some (r', h') → mAW X ad 0 0 27 [(1, .ref a1), (2, .int x2), (3, .int x3), (4, .int x4), (5, .int x5), (6, .int x6), (7, .int x7), (8, .int x8)] [] h) (n0 : Nat) (h0 : mH) (a1 : Nat) (x2 : Int32) (x3 : Int32) (x4 : Int32) (x5 : Int32) (x6 : Int32) (x7 : Int32) (x8 : Int32) (x9 : Int32) (p0 : Int32) (hf : f_Li_undoRow_B53 K27 n0 h0 a1 x2 x3 x4 x5 x6 x7 x8 x9 p0 = some (r', h')) : mAW X ad 0 0 53 [(1, .ref a1), (2, .int x2), (3, .int x3), (4, .int x4), (5, .int x5), (6, .int x6), (7, .int x7), (8, .int x8), (9, .int x9)] [.int p0] h0 := by
  unfold f_Li_undoRow_B53 at hf
  refine ax_istore (lv' := [(10, .int p0), (1, .ref a1), (2, .int x2), (3, .int x3), (4, .int x4), (5, .int x5), (6, .int x6), (7, .int x7), (8, .int x8), (9, .int x9)]) O d_Li_undoRow_53 (by decide) rfl ?_
  refine ax_iload O d_Li_undoRow_55 4 rfl ?_
  refine ax_iload O d_Li_undoRow_57 7 rfl ?_
  refine ax_icmp_lt (tgt := 66) O d_Li_undoRow_59 (by decide) (fun q10 => ?_) (fun q10 => ?_)
  · rw [if_pos q10] at hf
    refine ax_iconst (v := 0) O d_Li_undoRow_66 (by decide) ?_
    refine ax_sub [1, 2, 3, 4, 5, 6, 7, 8, 9, 0] rfl ?_
    exact cb_Li_undoRow_B67 O K27 _ _ hE hK27 n0 _ _ _ _ _ _ _ _ _ _ _ _ hf
  · rw [if_neg q10] at hf
    refine ax_iconst (v := 1) O d_Li_undoRow_62 (by decide) ?_
    refine ax_goto (tgt := 67) O d_Li_undoRow_63 (by decide) ?_
    refine ax_sub [1, 2, 3, 4, 5, 6, 7, 8, 9, 0] rfl ?_
    exact cb_Li_undoRow_B67 O K27 _ _ hE hK27 n0 _ _ _ _ _ _ _ _ _ _ _ _ hf
set_option maxHeartbeats 4000000 in
set_option maxRecDepth 100000 in
theorem cb_Li_undoRow_L27 {X : mX} {ad : Nat → Nat} {ln : Launch} (O : mO X ad R_Li b_Li_undoRow 16 (mR 3 70) ln) (r' : Unit) (h' : mH) (hE : mEnd X ad none none h') (n0 : Nat) : ∀ (n : Nat) (h0 : mH) (a1 : Nat) (x2 : Int32) (x3 : Int32) (x4 : Int32) (x5 : Int32) (x6 : Int32) (x7 : Int32) (x8 : Int32), f_Li_undoRow_L27 n0 n h0 a1 x2 x3 x4 x5 x6 x7 x8 = some (r', h') → mAW X ad 0 0 27 [(1, .ref a1), (2, .int x2), (3, .int x3), (4, .int x4), (5, .int x5), (6, .int x6), (7, .int x7), (8, .int x8)] [] h0 := by
  intro n
  induction n with
  | zero =>
    intro h0 a1 x2 x3 x4 x5 x6 x7 x8 hf
    rw [f_Li_undoRow_L27.eq_1] at hf
    cases hf
  | succ n ih =>
    intro h0 a1 x2 x3 x4 x5 x6 x7 x8 hf
    rw [f_Li_undoRow_L27.eq_2] at hf
    refine ax_iload O d_Li_undoRow_27 7 rfl ?_
    refine ax_iload O d_Li_undoRow_29 4 rfl ?_
    refine ax_icmp_ge (tgt := 172) O d_Li_undoRow_31 (by decide) (fun q7 => ?_) (fun q7 => ?_)
    · rw [if_pos q7] at hf
      exact ax_vretE O hE hf d_Li_undoRow_172
    · rw [if_neg q7] at hf
      refine ax_iload O d_Li_undoRow_34 3 rfl ?_
      refine ax_iload O d_Li_undoRow_36 7 rfl ?_
      refine ax_iadd O d_Li_undoRow_38 ?_
      obtain ⟨v8, ev8, hf⟩ := mnm_some hf
      refine ax_nmi ev8 ?_
      refine ax_istore (lv' := [(9, .int v8), (1, .ref a1), (2, .int x2), (3, .int x3), (4, .int x4), (5, .int x5), (6, .int x6), (7, .int x7), (8, .int x8)]) O d_Li_undoRow_39 (by decide) rfl ?_
      refine ax_iload O d_Li_undoRow_41 8 rfl ?_
      refine ax_iload O d_Li_undoRow_43 6 rfl ?_
      refine ax_icmp_lt (tgt := 52) O d_Li_undoRow_45 (by decide) (fun q9 => ?_) (fun q9 => ?_)
      · rw [if_pos q9] at hf
        refine ax_iconst (v := 0) O d_Li_undoRow_52 (by decide) ?_
        refine ax_sub [1, 2, 3, 4, 5, 6, 7, 8, 0] rfl ?_
        exact cb_Li_undoRow_B53 O (f_Li_undoRow_L27 n0 n) _ _ hE ih n0 _ _ _ _ _ _ _ _ _ _ _ hf
      · rw [if_neg q9] at hf
        refine ax_iconst (v := 1) O d_Li_undoRow_48 (by decide) ?_
        refine ax_goto (tgt := 53) O d_Li_undoRow_49 (by decide) ?_
        refine ax_sub [1, 2, 3, 4, 5, 6, 7, 8, 0] rfl ?_
        exact cb_Li_undoRow_B53 O (f_Li_undoRow_L27 n0 n) _ _ hE ih n0 _ _ _ _ _ _ _ _ _ _ _ hf
set_option maxHeartbeats 4000000 in
set_option maxRecDepth 100000 in
theorem cb_Li_undoRow {X : mX} {ad : Nat → Nat} {ln : Launch} (O : mO X ad R_Li b_Li_undoRow 16 (mR 3 70) ln) (r' : Unit) (h' : mH) (hE : mEnd X ad none none h') (n0 : Nat) (h0 : mH) (a0 : Nat) (a1 : Nat) (x2 : Int32) (x3 : Int32) (x4 : Int32) (x5 : Int32) (hf : f_Li_undoRow n0 h0 a0 a1 x2 x3 x4 x5 = some (r', h')) : mAW X ad 0 0 0 [(0, .ref a0), (1, .ref a1), (2, .int x2), (3, .int x3), (4, .int x4), (5, .int x5)] [] h0 := by
  unfold f_Li_undoRow at hf
  refine ax_iconst (v := 1) O d_Li_undoRow_0 (by decide) ?_
  refine ax_aload_n O d_Li_undoRow_1 rfl 0 rfl ?_
  obtain ⟨fv1, v1, cv1, kv1, hf⟩ := mgi_some hf
  refine ax_get O fg_Li_21 cv1 kv1 d_Li_undoRow_2 ?_
  refine ax_aload_n O d_Li_undoRow_5 rfl 0 rfl ?_
  obtain ⟨fv2, v2, cv2, kv2, hf⟩ := mgi_some hf
  refine ax_get O fg_Li_24 cv2 kv2 d_Li_undoRow_6 ?_
  refine ax_imul O d_Li_undoRow_9 ?_
  refine ax_bipush (v := 8) O d_Li_undoRow_10 (by decide) ?_
  refine ax_idiv O d_Li_undoRow_12 (by decide) ?_
  obtain ⟨v3, ev3, hf⟩ := mnm_some hf
  refine ax_mmax O wd_4 (by decide) (Nat.le_of_ble_eq_true rfl) d_Li_undoRow_13 ?_
  refine ax_nmi ev3 ?_
  refine ax_istore (lv' := [(6, .int v3), (0, .ref a0), (1, .ref a1), (2, .int x2), (3, .int x3), (4, .int x4), (5, .int x5)]) O d_Li_undoRow_16 (by decide) rfl ?_
  refine ax_aload_n O d_Li_undoRow_18 rfl 1 rfl ?_
  obtain ⟨fh6, ch6, hf⟩ := mis_some hf
  obtain ⟨v5, h6, mh6, hf⟩ := mcl_some hf
  refine ax_callV (As := []) (rest := []) O cw_Li_rowSize (q := (R_Li, T_Li, 6)) rfl rfl in_Li_rowSize se_Li_rowSize lk_Li_44 ch6 (c_Li_rowSize mh6) rfl ⟨rfl, rfl⟩ (by decide) (by decide) (Nat.le_of_ble_eq_true rfl) d_Li_undoRow_19 ?_
  refine ax_istore (lv' := [(7, .int v5), (6, .int v3), (0, .ref a0), (1, .ref a1), (2, .int x2), (3, .int x3), (4, .int x4), (5, .int x5)]) O d_Li_undoRow_22 (by decide) rfl ?_
  refine ax_iconst (v := 0) O d_Li_undoRow_24 (by decide) ?_
  refine ax_istore (lv' := [(8, .int 0), (7, .int v5), (6, .int v3), (0, .ref a0), (1, .ref a1), (2, .int x2), (3, .int x3), (4, .int x4), (5, .int x5)]) O d_Li_undoRow_25 (by decide) rfl ?_
  refine ax_sub [4, 5, 6, 7, 8, 2, 1, 0] rfl ?_
  exact cb_Li_undoRow_L27 O _ _ hE n0 n0 _ _ _ _ _ _ _ _ _ hf
theorem c_Li_undoRow {ln : Launch} {n0 : Nat} {h0 h' : mH} {a0 : Nat} {a1 : Nat} {x2 : Int32} {x3 : Int32} {x4 : Int32} {x5 : Int32} {r' : Unit} (hf : f_Li_undoRow n0 h0 a0 a1 x2 x3 x4 x5 = some (r', h')) : mMet ln y_Li_undoRow b_Li_undoRow 16 none (mR 3 70) [.ref a0, .ref a1, .int x2, .int x3, .int x4, .int x5] h0 none h' := mMet_of (by decide +kernel) (Nat.le_of_ble_eq_true rfl) (fun X ad O hE => cb_Li_undoRow O r' h' hE n0 h0 a0 a1 x2 x3 x4 x5 hf)
