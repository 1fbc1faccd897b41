/-! ===== StreamFilters$Codes.isLength(I)Z ===== -/
theorem d_Co_isLength_0 : decode b_Co_isLength 0 = .ok (.iload_n 0, 1) := by decide +kernel
theorem d_Co_isLength_1 : decode b_Co_isLength 1 = .ok (.ifCond .le 13, 3) := by decide +kernel
theorem d_Co_isLength_4 : decode b_Co_isLength 4 = .ok (.iload_n 0, 1) := by decide +kernel
theorem d_Co_isLength_5 : decode b_Co_isLength 5 = .ok (.bipush 15, 2) := by decide +kernel
theorem d_Co_isLength_7 : decode b_Co_isLength 7 = .ok (.if_icmp .gt 7, 3) := by decide +kernel
theorem d_Co_isLength_10 : decode b_Co_isLength 10 = .ok (.iconst 1, 1) := by decide +kernel
theorem d_Co_isLength_11 : decode b_Co_isLength 11 = .ok (.goto 4, 3) := by decide +kernel
theorem d_Co_isLength_14 : decode b_Co_isLength 14 = .ok (.iconst 0, 1) := by decide +kernel
theorem d_Co_isLength_15 : decode b_Co_isLength 15 = .ok (.ireturn, 1) := by decide +kernel
noncomputable def f_Co_isLength  (n0 : Nat) (h0 : mH) (x0 : Int32) : Option (Int32 × mH) :=
  if x0 ≤ 0 then
    some (0, h0)
  else
    if 15 < x0 then
      some (0, h0)
    else
      some (1, h0)
set_option maxHeartbeats 4000000 in
set_option maxRecDepth 100000 in
theorem cb_Co_isLength {X : mX} {ad : Nat → Nat} {ln : Launch} (O : mO X ad R_Co b_Co_isLength 1 (mR 0 0) ln) (r' : Int32) (h' : mH) (hE : mEnd X ad (some .boolean) (some (.int r')) h') (n0 : Nat) (h0 : mH) (x0 : Int32) (hf : f_Co_isLength n0 h0 x0 = some (r', h')) : mAW X ad 0 0 0 [(0, .int x0)] [] h0 := by
  unfold f_Co_isLength at hf
  refine ax_iload_n O d_Co_isLength_0 rfl 0 rfl ?_
  refine ax_if_le (tgt := 14) O d_Co_isLength_1 (by decide) (fun q1 => ?_) (fun q1 => ?_)
  · rw [if_pos q1] at hf
    refine ax_iconst (v := 0) O d_Co_isLength_14 (by decide) ?_
    exact ax_retE O hE hf rfl d_Co_isLength_15
  · rw [if_neg q1] at hf
    refine ax_iload_n O d_Co_isLength_4 rfl 0 rfl ?_
    refine ax_bipush (v := 15) O d_Co_isLength_5 (by decide) ?_
    refine ax_icmp_gt (tgt := 14) O d_Co_isLength_7 (by decide) (fun q2 => ?_) (fun q2 => ?_)
    · rw [if_pos q2] at hf
      refine ax_iconst (v := 0) O d_Co_isLength_14 (by decide) ?_
      exact ax_retE O hE hf rfl d_Co_isLength_15
    · rw [if_neg q2] at hf
      refine ax_iconst (v := 1) O d_Co_isLength_10 (by decide) ?_
      refine ax_goto (tgt := 15) O d_Co_isLength_11 (by decide) ?_
      exact ax_retE O hE hf rfl d_Co_isLength_15
theorem c_Co_isLength {ln : Launch} {n0 : Nat} {h0 h' : mH} {x0 : Int32} {r' : Int32} (hf : f_Co_isLength n0 h0 x0 = some (r', h')) : mMet ln y_Co_isLength b_Co_isLength 1 (some .boolean) (mR 0 0) [.int x0] h0 (some (.int r')) h' := mMet_of (by decide +kernel) (Nat.le_of_ble_eq_true rfl) (fun X ad O hE => cb_Co_isLength O r' h' hE n0 h0 x0 hf)
/-! ===== StreamFilters$Codes.count([III)V ===== -/
theorem d_Co_count_0 : decode b_Co_count 0 = .ok (.aload_n 0, 1) := by decide +kernel
theorem d_Co_count_1 : decode b_Co_count 1 = .ok (.iconst 0, 1) := by decide +kernel
theorem d_Co_count_2 : decode b_Co_count 2 = .ok (.putfield 18, 3) := by decide +kernel
theorem d_Co_count_5 : decode b_Co_count 5 = .ok (.aload_n 0, 1) := by decide +kernel
theorem d_Co_count_6 : decode b_Co_count 6 = .ok (.iconst 0, 1) := by decide +kernel
theorem d_Co_count_7 : decode b_Co_count 7 = .ok (.putfield 22, 3) := by decide +kernel
theorem d_Co_count_10 : decode b_Co_count 10 = .ok (.iconst 0, 1) := by decide +kernel
theorem d_Co_count_11 : decode b_Co_count 11 = .ok (.istore 4, 2) := by decide +kernel
theorem d_Co_count_13 : decode b_Co_count 13 = .ok (.iload 4, 2) := by decide +kernel
theorem d_Co_count_15 : decode b_Co_count 15 = .ok (.bipush 15, 2) := by decide +kernel
theorem d_Co_count_17 : decode b_Co_count 17 = .ok (.if_icmp .gt 17, 3) := by decide +kernel
theorem d_Co_count_20 : decode b_Co_count 20 = .ok (.aload_n 0, 1) := by decide +kernel
theorem d_Co_count_21 : decode b_Co_count 21 = .ok (.getfield 11, 3) := by decide +kernel
theorem d_Co_count_24 : decode b_Co_count 24 = .ok (.iload 4, 2) := by decide +kernel
theorem d_Co_count_26 : decode b_Co_count 26 = .ok (.iconst 0, 1) := by decide +kernel
theorem d_Co_count_27 : decode b_Co_count 27 = .ok (.iastore, 1) := by decide +kernel
theorem d_Co_count_28 : decode b_Co_count 28 = .ok (.iinc 4 1, 3) := by decide +kernel
theorem d_Co_count_31 : decode b_Co_count 31 = .ok (.goto (-18), 3) := by decide +kernel
theorem d_Co_count_34 : decode b_Co_count 34 = .ok (.iconst 0, 1) := by decide +kernel
theorem d_Co_count_35 : decode b_Co_count 35 = .ok (.istore 4, 2) := by decide +kernel
theorem d_Co_count_37 : decode b_Co_count 37 = .ok (.iload 4, 2) := by decide +kernel
theorem d_Co_count_39 : decode b_Co_count 39 = .ok (.iload_n 3, 1) := by decide +kernel
theorem d_Co_count_40 : decode b_Co_count 40 = .ok (.if_icmp .ge 68, 3) := by decide +kernel
theorem d_Co_count_43 : decode b_Co_count 43 = .ok (.iload_n 2, 1) := by decide +kernel
theorem d_Co_count_44 : decode b_Co_count 44 = .ok (.iload 4, 2) := by decide +kernel
theorem d_Co_count_46 : decode b_Co_count 46 = .ok (.iadd, 1) := by decide +kernel
theorem d_Co_count_47 : decode b_Co_count 47 = .ok (.aload_n 1, 1) := by decide +kernel
theorem d_Co_count_48 : decode b_Co_count 48 = .ok (.arraylength, 1) := by decide +kernel
theorem d_Co_count_49 : decode b_Co_count 49 = .ok (.if_icmp .ge 59, 3) := by decide +kernel
theorem d_Co_count_52 : decode b_Co_count 52 = .ok (.aload_n 1, 1) := by decide +kernel
theorem d_Co_count_53 : decode b_Co_count 53 = .ok (.iload_n 2, 1) := by decide +kernel
theorem d_Co_count_54 : decode b_Co_count 54 = .ok (.iload 4, 2) := by decide +kernel
theorem d_Co_count_56 : decode b_Co_count 56 = .ok (.iadd, 1) := by decide +kernel
theorem d_Co_count_57 : decode b_Co_count 57 = .ok (.iaload, 1) := by decide +kernel
theorem d_Co_count_58 : decode b_Co_count 58 = .ok (.istore 5, 2) := by decide +kernel
theorem d_Co_count_60 : decode b_Co_count 60 = .ok (.iload 5, 2) := by decide +kernel
theorem d_Co_count_62 : decode b_Co_count 62 = .ok (.invokestatic 38, 3) := by decide +kernel
theorem d_Co_count_65 : decode b_Co_count 65 = .ok (.ifCond .eq 37, 3) := by decide +kernel
theorem d_Co_count_68 : decode b_Co_count 68 = .ok (.aload_n 0, 1) := by decide +kernel
theorem d_Co_count_69 : decode b_Co_count 69 = .ok (.getfield 11, 3) := by decide +kernel
theorem d_Co_count_72 : decode b_Co_count 72 = .ok (.iload 5, 2) := by decide +kernel
theorem d_Co_count_74 : decode b_Co_count 74 = .ok (.dup2, 1) := by decide +kernel
theorem d_Co_count_75 : decode b_Co_count 75 = .ok (.iaload, 1) := by decide +kernel
theorem d_Co_count_76 : decode b_Co_count 76 = .ok (.iconst 1, 1) := by decide +kernel
theorem d_Co_count_77 : decode b_Co_count 77 = .ok (.iadd, 1) := by decide +kernel
theorem d_Co_count_78 : decode b_Co_count 78 = .ok (.iastore, 1) := by decide +kernel
theorem d_Co_count_79 : decode b_Co_count 79 = .ok (.aload_n 0, 1) := by decide +kernel
theorem d_Co_count_80 : decode b_Co_count 80 = .ok (.dup, 1) := by decide +kernel
theorem d_Co_count_81 : decode b_Co_count 81 = .ok (.getfield 18, 3) := by decide +kernel
theorem d_Co_count_84 : decode b_Co_count 84 = .ok (.iconst 1, 1) := by decide +kernel
theorem d_Co_count_85 : decode b_Co_count 85 = .ok (.iadd, 1) := by decide +kernel
theorem d_Co_count_86 : decode b_Co_count 86 = .ok (.putfield 18, 3) := by decide +kernel
theorem d_Co_count_89 : decode b_Co_count 89 = .ok (.aload_n 0, 1) := by decide +kernel
theorem d_Co_count_90 : decode b_Co_count 90 = .ok (.aload_n 0, 1) := by decide +kernel
theorem d_Co_count_91 : decode b_Co_count 91 = .ok (.getfield 22, 3) := by decide +kernel
theorem d_Co_count_94 : decode b_Co_count 94 = .ok (.iload 5, 2) := by decide +kernel
theorem d_Co_count_96 : decode b_Co_count 96 = .ok (.invokestatic 25, 3) := by decide +kernel
theorem d_Co_count_99 : decode b_Co_count 99 = .ok (.putfield 22, 3) := by decide +kernel
theorem d_Co_count_102 : decode b_Co_count 102 = .ok (.iinc 4 1, 3) := by decide +kernel
theorem d_Co_count_105 : decode b_Co_count 105 = .ok (.goto (-68), 3) := by decide +kernel
theorem d_Co_count_108 : decode b_Co_count 108 = .ok (.return_, 1) := by decide +kernel
noncomputable def f_Co_count_L37  (n0 : Nat) : Nat → mH → Nat → Nat → Int32 → Int32 → Int32 → Option (Unit × mH)
  | 0, _, _, _, _, _, _ => none
  | n + 1, h0, a0, a1, x2, x3, x4 =>
    if x3 ≤ x4 then
      some ((), h0)
    else
      mln h0 a1 .int fun v5 =>
      if v5 ≤ (x2 + x4) then
        some ((), h0)
      else
        mai h0 a1 .int (x2 + x4) fun v7 =>
        mcl (f_Co_isLength n0 h0 v7) fun v9 h10 =>
        if v9 = 0 then
          mnm (x4 + 1) fun v12 =>
          (f_Co_count_L37 n0 n) h10 a0 a1 x2 x3 v12
        else
          mgr h10 a0 2 0 fun r13 =>
          mai h10 r13 .int v7 fun v14 =>
          mas h10 r13 .int v7 (v14 + 1) fun h15 =>
          mgi h15 a0 2 3 fun v16 =>
          mpt h15 a0 2 3 (.int (v16 + 1)) fun h17 =>
          mgi h17 a0 2 4 fun v18 =>
          mnm (if v18 < v7 then v7 else v18) fun v19 =>
          mpt h17 a0 2 4 (.int v19) fun h20 =>
          mnm (x4 + 1) fun v21 =>
          (f_Co_count_L37 n0 n) h20 a0 a1 x2 x3 v21
noncomputable def f_Co_count_L13  (n0 : Nat) : Nat → mH → Nat → Nat → Int32 → Int32 → Int32 → Option (Unit × mH)
  | 0, _, _, _, _, _, _ => none
  | n + 1, h0, a0, a1, x2, x3, x4 =>
    if 15 < x4 then
      f_Co_count_L37 n0 n0 h0 a0 a1 x2 x3 0
    else
      mgr h0 a0 2 0 fun r22 =>
      mas h0 r22 .int x4 0 fun h23 =>
      mnm (x4 + 1) fun v24 =>
      (f_Co_count_L13 n0 n) h23 a0 a1 x2 x3 v24
noncomputable def f_Co_count  (n0 : Nat) (h0 : mH) (a0 : Nat) (a1 : Nat) (x2 : Int32) (x3 : Int32) : Option (Unit × mH) :=
  mpt h0 a0 2 3 (.int 0) fun h1 =>
  mpt h1 a0 2 4 (.int 0) fun h2 =>
  f_Co_count_L13 n0 n0 h2 a0 a1 x2 x3 0
set_option maxHeartbeats 4000000 in
set_option maxRecDepth 100000 in
theorem cb_Co_count_L37 {X : mX} {ad : Nat → Nat} {ln : Launch} (O : mO X ad R_Co b_Co_count 6 (mR 1 21) ln) (r' : Unit) (h' : mH) (hE : mEnd X ad none none h') (n0 : Nat) : ∀ (n : Nat) (h0 : mH) (a0 : Nat) (a1 : Nat) (x2 : Int32) (x3 : Int32) (x4 : Int32), f_Co_count_L37 n0 n h0 a0 a1 x2 x3 x4 = some (r', h') → mAW X ad 0 0 37 [(0, .ref a0), (1, .ref a1), (2, .int x2), (3, .int x3), (4, .int x4)] [] h0 := by
  intro n
  induction n with
  | zero =>
    intro h0 a0 a1 x2 x3 x4 hf
    rw [f_Co_count_L37.eq_1] at hf
    cases hf
  | succ n ih =>
    intro h0 a0 a1 x2 x3 x4 hf
    rw [f_Co_count_L37.eq_2] at hf
    refine ax_iload O d_Co_count_37 4 rfl ?_
    refine ax_iload_n O d_Co_count_39 rfl 3 rfl ?_
    refine ax_icmp_ge (tgt := 108) O d_Co_count_40 (by decide) (fun q4 => ?_) (fun q4 => ?_)
    · rw [if_pos q4] at hf
      exact ax_vretE O hE hf d_Co_count_108
    · rw [if_neg q4] at hf
      refine ax_iload_n O d_Co_count_43 rfl 2 rfl ?_
      refine ax_iload O d_Co_count_44 4 rfl ?_
      refine ax_iadd O d_Co_count_46 ?_
      refine ax_aload_n O d_Co_count_47 rfl 1 rfl ?_
      obtain ⟨xv5, v5, cv5, kv5, hf⟩ := mln_some hf
      refine ax_alen O (by decide) cv5 kv5 d_Co_count_48 ?_
      refine ax_icmp_ge (tgt := 108) O d_Co_count_49 (by decide) (fun q6 => ?_) (fun q6 => ?_)
      · rw [if_pos q6] at hf
        exact ax_vretE O hE hf d_Co_count_108
      · rw [if_neg q6] at hf
        refine ax_aload_n O d_Co_count_52 rfl 1 rfl ?_
        refine ax_iload_n O d_Co_count_53 rfl 2 rfl ?_
        refine ax_iload O d_Co_count_54 4 rfl ?_
        refine ax_iadd O d_Co_count_56 ?_
        obtain ⟨nv7, fv7, v7, cv7, iv7, kv7, hf⟩ := mai_some hf
        refine ax_iald O cv7 iv7 kv7 d_Co_count_57 ?_
        refine ax_istore (lv' := [(5, .int v7), (0, .ref a0), (1, .ref a1), (2, .int x2), (3, .int x3), (4, .int x4)]) O d_Co_count_58 (by decide) rfl ?_
        refine ax_iload O d_Co_count_60 0 rfl ?_
        obtain ⟨v9, h10, mh10, hf⟩ := mcl_some hf
        refine ax_callS (As := [.int v7]) (rest := []) O cw_Co_isLength st_Co_isLength lk_Co_38 (c_Co_isLength mh10) rfl ⟨rfl, rfl⟩ (by decide) (by decide) (Nat.le_of_ble_eq_true rfl) d_Co_count_62 ?_
        refine ax_if_eq (tgt := 102) O d_Co_count_65 (by decide) (fun q11 => ?_) (fun q11 => ?_)
        · rw [if_pos q11] at hf
          obtain ⟨v12, ev12, hf⟩ := mnm_some hf
          refine ax_iinc (j := 5) (v := v12) (lv' := [(4, .int v12), (5, .int v7), (0, .ref a0), (1, .ref a1), (2, .int x2), (3, .int x3)]) O d_Co_count_102 rfl (by rw [ev12]; rfl) (by decide) rfl ?_
          refine ax_goto (tgt := 37) O d_Co_count_105 (by decide) ?_
          refine ax_sub [2, 3, 4, 5, 0] rfl ?_
          exact ih _ _ _ _ _ _ hf
        · rw [if_neg q11] at hf
          refine ax_aload_n O d_Co_count_68 rfl 1 rfl ?_
          obtain ⟨fr13, r13, cr13, kr13, hf⟩ := mgr_some hf
          refine ax_get O fg_Co_11 cr13 kr13 d_Co_count_69 ?_
          refine ax_iload O d_Co_count_72 0 rfl ?_
          refine ax_dup2 O d_Co_count_74 rfl rfl ?_
          obtain ⟨nv14, fv14, v14, cv14, iv14, kv14, hf⟩ := mai_some hf
          refine ax_iald O cv14 iv14 kv14 d_Co_count_75 ?_
          refine ax_iconst (v := 1) O d_Co_count_76 (by decide) ?_
          refine ax_iadd O d_Co_count_77 ?_
          obtain ⟨nh15, fh15, h15, ch15, ih15, eh15, hf⟩ := mas_some hf
          refine ax_iast O ch15 ih15 eh15 d_Co_count_78 ?_
          refine ax_aload_n O d_Co_count_79 rfl 1 rfl ?_
          refine ax_dup O d_Co_count_80 rfl ?_
          obtain ⟨fv16, v16, cv16, kv16, hf⟩ := mgi_some hf
          refine ax_get O fg_Co_18 cv16 kv16 d_Co_count_81 ?_
          refine ax_iconst (v := 1) O d_Co_count_84 (by decide) ?_
          refine ax_iadd O d_Co_count_85 ?_
          obtain ⟨fh17, h17, ch17, kh17, eh17, hf⟩ := mpt_some hf
          refine ax_put (v := .int (v16 + 1)) O fp_Co_18 ch17 kh17 eh17 rfl rfl d_Co_count_86 ?_
          refine ax_aload_n O d_Co_count_89 rfl 1 rfl ?_
          refine ax_aload_n O d_Co_count_90 rfl 1 rfl ?_
          obtain ⟨fv18, v18, cv18, kv18, hf⟩ := mgi_some hf
          refine ax_get O fg_Co_22 cv18 kv18 d_Co_count_91 ?_
          refine ax_iload O d_Co_count_94 0 rfl ?_
          obtain ⟨v19, ev19, hf⟩ := mnm_some hf
          refine ax_mmax O wd_0 (by decide) (Nat.le_of_ble_eq_true rfl) d_Co_count_96 ?_
          refine ax_nmi ev19 ?_
          obtain ⟨fh20, h20, ch20, kh20, eh20, hf⟩ := mpt_some hf
          refine ax_put (v := .int v19) O fp_Co_22 ch20 kh20 eh20 rfl rfl d_Co_count_99 ?_
          obtain ⟨v21, ev21, hf⟩ := mnm_some hf
          refine ax_iinc (j := 5) (v := v21) (lv' := [(4, .int v21), (5, .int v7), (0, .ref a0), (1, .ref a1), (2, .int x2), (3, .int x3)]) O d_Co_count_102 rfl (by rw [ev21]; rfl) (by decide) rfl ?_
          refine ax_goto (tgt := 37) O d_Co_count_105 (by decide) ?_
          refine ax_sub [2, 3, 4, 5, 0] rfl ?_
          exact ih _ _ _ _ _ _ hf
set_option maxHeartbeats 4000000 in
set_option maxRecDepth 100000 in
theorem cb_Co_count_L13 {X : mX} {ad : Nat → Nat} {ln : Launch} (O : mO X ad R_Co b_Co_count 6 (mR 1 21) ln) (r' : Unit) (h' : mH) (hE : mEnd X ad none none h') (n0 : Nat) : ∀ (n : Nat) (h0 : mH) (a0 : Nat) (a1 : Nat) (x2 : Int32) (x3 : Int32) (x4 : Int32), f_Co_count_L13 n0 n h0 a0 a1 x2 x3 x4 = some (r', h') → mAW X ad 0 0 13 [(0, .ref a0), (1, .ref a1), (2, .int x2), (3, .int x3), (4, .int x4)] [] h0 := by
  intro n
  induction n with
  | zero =>
    intro h0 a0 a1 x2 x3 x4 hf
    rw [f_Co_count_L13.eq_1] at hf
    cases hf
  | succ n ih =>
    intro h0 a0 a1 x2 x3 x4 hf
    rw [f_Co_count_L13.eq_2] at hf
    refine ax_iload O d_Co_count_13 4 rfl ?_
    refine ax_bipush (v := 15) O d_Co_count_15 (by decide) ?_
    refine ax_icmp_gt (tgt := 34) O d_Co_count_17 (by decide) (fun q3 => ?_) (fun q3 => ?_)
    · rw [if_pos q3] at hf
      refine ax_iconst (v := 0) O d_Co_count_34 (by decide) ?_
      refine ax_istore (lv' := [(4, .int 0), (0, .ref a0), (1, .ref a1), (2, .int x2), (3, .int x3)]) O d_Co_count_35 (by decide) rfl ?_
      refine ax_sub [1, 2, 3, 4, 0] rfl ?_
      exact cb_Co_count_L37 O _ _ hE n0 n0 _ _ _ _ _ _ hf
    · rw [if_neg q3] at hf
      refine ax_aload_n O d_Co_count_20 rfl 0 rfl ?_
      obtain ⟨fr22, r22, cr22, kr22, hf⟩ := mgr_some hf
      refine ax_get O fg_Co_11 cr22 kr22 d_Co_count_21 ?_
      refine ax_iload O d_Co_count_24 4 rfl ?_
      refine ax_iconst (v := 0) O d_Co_count_26 (by decide) ?_
      obtain ⟨nh23, fh23, h23, ch23, ih23, eh23, hf⟩ := mas_some hf
      refine ax_iast O ch23 ih23 eh23 d_Co_count_27 ?_
      obtain ⟨v24, ev24, hf⟩ := mnm_some hf
      refine ax_iinc (j := 4) (v := v24) (lv' := [(4, .int v24), (0, .ref a0), (1, .ref a1), (2, .int x2), (3, .int x3)]) O d_Co_count_28 rfl (by rw [ev24]; rfl) (by decide) rfl ?_
      refine ax_goto (tgt := 13) O d_Co_count_31 (by decide) ?_
      refine ax_sub [1, 2, 3, 4, 0] rfl ?_
      exact ih _ _ _ _ _ _ hf
set_option maxHeartbeats 4000000 in
set_option maxRecDepth 100000 in
theorem cb_Co_count {X : mX} {ad : Nat → Nat} {ln : Launch} (O : mO X ad R_Co b_Co_count 6 (mR 1 21) ln) (r' : Unit) (h' : mH) (hE : mEnd X ad none none h') (n0 : Nat) (h0 : mH) (a0 : Nat) (a1 : Nat) (x2 : Int32) (x3 : Int32) (hf : f_Co_count n0 h0 a0 a1 x2 x3 = some (r', h')) : mAW X ad 0 0 0 [(0, .ref a0), (1, .ref a1), (2, .int x2), (3, .int x3)] [] h0 := by
  unfold f_Co_count at hf
  refine ax_aload_n O d_Co_count_0 rfl 0 rfl ?_
  refine ax_iconst (v := 0) O d_Co_count_1 (by decide) ?_
  obtain ⟨fh1, h1, ch1, kh1, eh1, hf⟩ := mpt_some hf
  refine ax_put (v := .int 0) O fp_Co_18 ch1 kh1 eh1 rfl rfl d_Co_count_2 ?_
  refine ax_aload_n O d_Co_count_5 rfl 0 rfl ?_
  refine ax_iconst (v := 0) O d_Co_count_6 (by decide) ?_
  obtain ⟨fh2, h2, ch2, kh2, eh2, hf⟩ := mpt_some hf
  refine ax_put (v := .int 0) O fp_Co_22 ch2 kh2 eh2 rfl rfl d_Co_count_7 ?_
  refine ax_iconst (v := 0) O d_Co_count_10 (by decide) ?_
  refine ax_istore (lv' := [(4, .int 0), (0, .ref a0), (1, .ref a1), (2, .int x2), (3, .int x3)]) O d_Co_count_11 (by decide) rfl ?_
  refine ax_sub [1, 2, 3, 4, 0] rfl ?_
  exact cb_Co_count_L13 O _ _ hE n0 n0 _ _ _ _ _ _ hf
theorem c_Co_count {ln : Launch} {n0 : Nat} {h0 h' : mH} {a0 : Nat} {a1 : Nat} {x2 : Int32} {x3 : Int32} {r' : Unit} (hf : f_Co_count n0 h0 a0 a1 x2 x3 = some (r', h')) : mMet ln y_Co_count b_Co_count 6 none (mR 1 21) [.ref a0, .ref a1, .int x2, .int x3] h0 none h' := mMet_of (by decide +kernel) (Nat.le_of_ble_eq_true rfl) (fun X ad O hE => cb_Co_count O r' h' hE n0 h0 a0 a1 x2 x3 hf)
/-! ===== StreamFilters$Codes.build([III)V ===== -/
theorem d_Co_build_0 : decode b_Co_build 0 = .ok (.aload_n 0, 1) := by decide +kernel
theorem d_Co_build_1 : decode b_Co_build 1 = .ok (.aload_n 1, 1) := by decide +kernel
theorem d_Co_build_2 : decode b_Co_build 2 = .ok (.iload_n 2, 1) := by decide +kernel
theorem d_Co_build_3 : decode b_Co_build 3 = .ok (.iload_n 3, 1) := by decide +kernel
theorem d_Co_build_4 : decode b_Co_build 4 = .ok (.invokevirtual 34, 3) := by decide +kernel
theorem d_Co_build_7 : decode b_Co_build 7 = .ok (.aload_n 0, 1) := by decide +kernel
theorem d_Co_build_8 : decode b_Co_build 8 = .ok (.getfield 15, 3) := by decide +kernel
theorem d_Co_build_11 : decode b_Co_build 11 = .ok (.iconst 0, 1) := by decide +kernel
theorem d_Co_build_12 : decode b_Co_build 12 = .ok (.iconst 0, 1) := by decide +kernel
theorem d_Co_build_13 : decode b_Co_build 13 = .ok (.iastore, 1) := by decide +kernel
theorem d_Co_build_14 : decode b_Co_build 14 = .ok (.iconst 1, 1) := by decide +kernel
theorem d_Co_build_15 : decode b_Co_build 15 = .ok (.istore 4, 2) := by decide +kernel
theorem d_Co_build_17 : decode b_Co_build 17 = .ok (.iload 4, 2) := by decide +kernel
theorem d_Co_build_19 : decode b_Co_build 19 = .ok (.bipush 15, 2) := by decide +kernel
theorem d_Co_build_21 : decode b_Co_build 21 = .ok (.if_icmp .gt 35, 3) := by decide +kernel
theorem d_Co_build_24 : decode b_Co_build 24 = .ok (.aload_n 0, 1) := by decide +kernel
theorem d_Co_build_25 : decode b_Co_build 25 = .ok (.getfield 15, 3) := by decide +kernel
theorem d_Co_build_28 : decode b_Co_build 28 = .ok (.iload 4, 2) := by decide +kernel
theorem d_Co_build_30 : decode b_Co_build 30 = .ok (.aload_n 0, 1) := by decide +kernel
theorem d_Co_build_31 : decode b_Co_build 31 = .ok (.getfield 15, 3) := by decide +kernel
theorem d_Co_build_34 : decode b_Co_build 34 = .ok (.iload 4, 2) := by decide +kernel
theorem d_Co_build_36 : decode b_Co_build 36 = .ok (.iconst 1, 1) := by decide +kernel
theorem d_Co_build_37 : decode b_Co_build 37 = .ok (.isub, 1) := by decide +kernel
theorem d_Co_build_38 : decode b_Co_build 38 = .ok (.iaload, 1) := by decide +kernel
theorem d_Co_build_39 : decode b_Co_build 39 = .ok (.aload_n 0, 1) := by decide +kernel
theorem d_Co_build_40 : decode b_Co_build 40 = .ok (.getfield 11, 3) := by decide +kernel
theorem d_Co_build_43 : decode b_Co_build 43 = .ok (.iload 4, 2) := by decide +kernel
theorem d_Co_build_45 : decode b_Co_build 45 = .ok (.iconst 1, 1) := by decide +kernel
theorem d_Co_build_46 : decode b_Co_build 46 = .ok (.isub, 1) := by decide +kernel
theorem d_Co_build_47 : decode b_Co_build 47 = .ok (.iaload, 1) := by decide +kernel
theorem d_Co_build_48 : decode b_Co_build 48 = .ok (.iadd, 1) := by decide +kernel
theorem d_Co_build_49 : decode b_Co_build 49 = .ok (.iastore, 1) := by decide +kernel
theorem d_Co_build_50 : decode b_Co_build 50 = .ok (.iinc 4 1, 3) := by decide +kernel
theorem d_Co_build_53 : decode b_Co_build 53 = .ok (.goto (-36), 3) := by decide +kernel
theorem d_Co_build_56 : decode b_Co_build 56 = .ok (.iconst 0, 1) := by decide +kernel
theorem d_Co_build_57 : decode b_Co_build 57 = .ok (.istore 4, 2) := by decide +kernel
theorem d_Co_build_59 : decode b_Co_build 59 = .ok (.iload 4, 2) := by decide +kernel
theorem d_Co_build_61 : decode b_Co_build 61 = .ok (.iload_n 3, 1) := by decide +kernel
theorem d_Co_build_62 : decode b_Co_build 62 = .ok (.if_icmp .ge 74, 3) := by decide +kernel
theorem d_Co_build_65 : decode b_Co_build 65 = .ok (.iload_n 2, 1) := by decide +kernel
theorem d_Co_build_66 : decode b_Co_build 66 = .ok (.iload 4, 2) := by decide +kernel
theorem d_Co_build_68 : decode b_Co_build 68 = .ok (.iadd, 1) := by decide +kernel
theorem d_Co_build_69 : decode b_Co_build 69 = .ok (.aload_n 1, 1) := by decide +kernel
theorem d_Co_build_70 : decode b_Co_build 70 = .ok (.arraylength, 1) := by decide +kernel
theorem d_Co_build_71 : decode b_Co_build 71 = .ok (.if_icmp .ge 65, 3) := by decide +kernel
theorem d_Co_build_74 : decode b_Co_build 74 = .ok (.aload_n 1, 1) := by decide +kernel
theorem d_Co_build_75 : decode b_Co_build 75 = .ok (.iload_n 2, 1) := by decide +kernel
theorem d_Co_build_76 : decode b_Co_build 76 = .ok (.iload 4, 2) := by decide +kernel
theorem d_Co_build_78 : decode b_Co_build 78 = .ok (.iadd, 1) := by decide +kernel
theorem d_Co_build_79 : decode b_Co_build 79 = .ok (.iaload, 1) := by decide +kernel
theorem d_Co_build_80 : decode b_Co_build 80 = .ok (.istore 5, 2) := by decide +kernel
theorem d_Co_build_82 : decode b_Co_build 82 = .ok (.iload 5, 2) := by decide +kernel
theorem d_Co_build_84 : decode b_Co_build 84 = .ok (.invokestatic 38, 3) := by decide +kernel
theorem d_Co_build_87 : decode b_Co_build 87 = .ok (.ifCond .eq 43, 3) := by decide +kernel
theorem d_Co_build_90 : decode b_Co_build 90 = .ok (.aload_n 0, 1) := by decide +kernel
theorem d_Co_build_91 : decode b_Co_build 91 = .ok (.getfield 15, 3) := by decide +kernel
theorem d_Co_build_94 : decode b_Co_build 94 = .ok (.iload 5, 2) := by decide +kernel
theorem d_Co_build_96 : decode b_Co_build 96 = .ok (.iaload, 1) := by decide +kernel
theorem d_Co_build_97 : decode b_Co_build 97 = .ok (.aload_n 0, 1) := by decide +kernel
theorem d_Co_build_98 : decode b_Co_build 98 = .ok (.getfield 31, 3) := by decide +kernel
theorem d_Co_build_101 : decode b_Co_build 101 = .ok (.arraylength, 1) := by decide +kernel
theorem d_Co_build_102 : decode b_Co_build 102 = .ok (.if_icmp .ge 28, 3) := by decide +kernel
theorem d_Co_build_105 : decode b_Co_build 105 = .ok (.aload_n 0, 1) := by decide +kernel
theorem d_Co_build_106 : decode b_Co_build 106 = .ok (.getfield 31, 3) := by decide +kernel
theorem d_Co_build_109 : decode b_Co_build 109 = .ok (.aload_n 0, 1) := by decide +kernel
theorem d_Co_build_110 : decode b_Co_build 110 = .ok (.getfield 15, 3) := by decide +kernel
theorem d_Co_build_113 : decode b_Co_build 113 = .ok (.iload 5, 2) := by decide +kernel
theorem d_Co_build_115 : decode b_Co_build 115 = .ok (.iaload, 1) := by decide +kernel
theorem d_Co_build_116 : decode b_Co_build 116 = .ok (.iload 4, 2) := by decide +kernel
theorem d_Co_build_118 : decode b_Co_build 118 = .ok (.iastore, 1) := by decide +kernel
theorem d_Co_build_119 : decode b_Co_build 119 = .ok (.aload_n 0, 1) := by decide +kernel
theorem d_Co_build_120 : decode b_Co_build 120 = .ok (.getfield 15, 3) := by decide +kernel
theorem d_Co_build_123 : decode b_Co_build 123 = .ok (.iload 5, 2) := by decide +kernel
theorem d_Co_build_125 : decode b_Co_build 125 = .ok (.dup2, 1) := by decide +kernel
theorem d_Co_build_126 : decode b_Co_build 126 = .ok (.iaload, 1) := by decide +kernel
theorem d_Co_build_127 : decode b_Co_build 127 = .ok (.iconst 1, 1) := by decide +kernel
theorem d_Co_build_128 : decode b_Co_build 128 = .ok (.iadd, 1) := by decide +kernel
theorem d_Co_build_129 : decode b_Co_build 129 = .ok (.iastore, 1) := by decide +kernel
theorem d_Co_build_130 : decode b_Co_build 130 = .ok (.iinc 4 1, 3) := by decide +kernel
theorem d_Co_build_133 : decode b_Co_build 133 = .ok (.goto (-74), 3) := by decide +kernel
theorem d_Co_build_136 : decode b_Co_build 136 = .ok (.return_, 1) := by decide +kernel
noncomputable def f_Co_build_L59  (n0 : Nat) : Nat → mH → Nat → Nat → Int32 → Int32 → Int32 → Option (Unit × mH)
  | 0, _, _, _, _, _, _ => none
  | n + 1, h0, a0, a1, x2, x3, x4 =>
    if x3 ≤ x4 then
      some ((), h0)
    else
      mln h0 a1 .int fun v9 =>
      if v9 ≤ (x2 + x4) then
        some ((), h0)
      else
        mai h0 a1 .int (x2 + x4) fun v11 =>
        mcl (f_Co_isLength n0 h0 v11) fun v13 h14 =>
        if v13 = 0 then
          mnm (x4 + 1) fun v16 =>
          (f_Co_build_L59 n0 n) h14 a0 a1 x2 x3 v16
        else
          mgr h14 a0 2 1 fun r17 =>
          mai h14 r17 .int v11 fun v18 =>
          mgr h14 a0 2 2 fun r19 =>
          mln h14 r19 .int fun v20 =>
          if v20 ≤ v18 then
            mnm (x4 + 1) fun v22 =>
            (f_Co_build_L59 n0 n) h14 a0 a1 x2 x3 v22
          else
            mgr h14 a0 2 2 fun r23 =>
            mgr h14 a0 2 1 fun r24 =>
            mai h14 r24 .int v11 fun v25 =>
            mas h14 r23 .int v25 x4 fun h26 =>
            mgr h26 a0 2 1 fun r27 =>
            mai h26 r27 .int v11 fun v28 =>
            mas h26 r27 .int v11 (v28 + 1) fun h29 =>
            mnm (x4 + 1) fun v30 =>
            (f_Co_build_L59 n0 n) h29 a0 a1 x2 x3 v30
noncomputable def f_Co_build_L17  (n0 : Nat) : Nat → mH → Nat → Nat → Int32 → Int32 → Int32 → Option (Unit × mH)
  | 0, _, _, _, _, _, _ => none
  | n + 1, h0, a0, a1, x2, x3, x4 =>
    if 15 < x4 then
      f_Co_build_L59 n0 n0 h0 a0 a1 x2 x3 0
    else
      mgr h0 a0 2 1 fun r31 =>
      mgr h0 a0 2 1 fun r32 =>
      mai h0 r32 .int (x4 - 1) fun v33 =>
      mgr h0 a0 2 0 fun r34 =>
      mai h0 r34 .int (x4 - 1) fun v35 =>
      mas h0 r31 .int x4 (v33 + v35) fun h36 =>
      mnm (x4 + 1) fun v37 =>
      (f_Co_build_L17 n0 n) h36 a0 a1 x2 x3 v37
noncomputable def f_Co_build  (n0 : Nat) (h0 : mH) (a0 : Nat) (a1 : Nat) (x2 : Int32) (x3 : Int32) : Option (Unit × mH) :=
  mis h0 a0 2 <|
  mcl (f_Co_count n0 h0 a0 a1 x2 x3) fun _ h3 =>
  mgr h3 a0 2 1 fun r5 =>
  mas h3 r5 .int 0 0 fun h6 =>
  f_Co_build_L17 n0 n0 h6 a0 a1 x2 x3 1
set_option maxHeartbeats 4000000 in
set_option maxRecDepth 100000 in
theorem cb_Co_build_L59 {X : mX} {ad : Nat → Nat} {ln : Launch} (O : mO X ad R_Co b_Co_build 6 (mR 2 46) ln) (r' : Unit) (h' : mH) (hE : mEnd X ad none none h') (n0 : Nat) : ∀ (n : Nat) (h0 : mH) (a0 : Nat) (a1 : Nat) (x2 : Int32) (x3 : Int32) (x4 : Int32), f_Co_build_L59 n0 n h0 a0 a1 x2 x3 x4 = some (r', h') → mAW X ad 0 0 59 [(0, .ref a0), (1, .ref a1), (2, .int x2), (3, .int x3), (4, .int x4)] [] h0 := by
  intro n
  induction n with
  | zero =>
    intro h0 a0 a1 x2 x3 x4 hf
    rw [f_Co_build_L59.eq_1] at hf
    cases hf
  | succ n ih =>
    intro h0 a0 a1 x2 x3 x4 hf
    rw [f_Co_build_L59.eq_2] at hf
    refine ax_iload O d_Co_build_59 4 rfl ?_
    refine ax_iload_n O d_Co_build_61 rfl 3 rfl ?_
    refine ax_icmp_ge (tgt := 136) O d_Co_build_62 (by decide) (fun q8 => ?_) (fun q8 => ?_)
    · rw [if_pos q8] at hf
      exact ax_vretE O hE hf d_Co_build_136
    · rw [if_neg q8] at hf
      refine ax_iload_n O d_Co_build_65 rfl 2 rfl ?_
      refine ax_iload O d_Co_build_66 4 rfl ?_
      refine ax_iadd O d_Co_build_68 ?_
      refine ax_aload_n O d_Co_build_69 rfl 1 rfl ?_
      obtain ⟨xv9, v9, cv9, kv9, hf⟩ := mln_some hf
      refine ax_alen O (by decide) cv9 kv9 d_Co_build_70 ?_
      refine ax_icmp_ge (tgt := 136) O d_Co_build_71 (by decide) (fun q10 => ?_) (fun q10 => ?_)
      · rw [if_pos q10] at hf
        exact ax_vretE O hE hf d_Co_build_136
      · rw [if_neg q10] at hf
        refine ax_aload_n O d_Co_build_74 rfl 1 rfl ?_
        refine ax_iload_n O d_Co_build_75 rfl 2 rfl ?_
        refine ax_iload O d_Co_build_76 4 rfl ?_
        refine ax_iadd O d_Co_build_78 ?_
        obtain ⟨nv11, fv11, v11, cv11, iv11, kv11, hf⟩ := mai_some hf
        refine ax_iald O cv11 iv11 kv11 d_Co_build_79 ?_
        refine ax_istore (lv' := [(5, .int v11), (0, .ref a0), (1, .ref a1), (2, .int x2), (3, .int x3), (4, .int x4)]) O d_Co_build_80 (by decide) rfl ?_
        refine ax_iload O d_Co_build_82 0 rfl ?_
        obtain ⟨v13, h14, mh14, hf⟩ := mcl_some hf
        refine ax_callS (As := [.int v11]) (rest := []) O cw_Co_isLength st_Co_isLength lk_Co_38 (c_Co_isLength mh14) rfl ⟨rfl, rfl⟩ (by decide) (by decide) (Nat.le_of_ble_eq_true rfl) d_Co_build_84 ?_
        refine ax_if_eq (tgt := 130) O d_Co_build_87 (by decide) (fun q15 => ?_) (fun q15 => ?_)
        · rw [if_pos q15] at hf
          obtain ⟨v16, ev16, hf⟩ := mnm_some hf
          refine ax_iinc (j := 5) (v := v16) (lv' := [(4, .int v16), (5, .int v11), (0, .ref a0), (1, .ref a1), (2, .int x2), (3, .int x3)]) O d_Co_build_130 rfl (by rw [ev16]; rfl) (by decide) rfl ?_
          refine ax_goto (tgt := 59) O d_Co_build_133 (by decide) ?_
          refine ax_sub [2, 3, 4, 5, 0] rfl ?_
          exact ih _ _ _ _ _ _ hf
        · rw [if_neg q15] at hf
          refine ax_aload_n O d_Co_build_90 rfl 1 rfl ?_
          obtain ⟨fr17, r17, cr17, kr17, hf⟩ := mgr_some hf
          refine ax_get O fg_Co_15 cr17 kr17 d_Co_build_91 ?_
          refine ax_iload O d_Co_build_94 0 rfl ?_
          obtain ⟨nv18, fv18, v18, cv18, iv18, kv18, hf⟩ := mai_some hf
          refine ax_iald O cv18 iv18 kv18 d_Co_build_96 ?_
          refine ax_aload_n O d_Co_build_97 rfl 1 rfl ?_
          obtain ⟨fr19, r19, cr19, kr19, hf⟩ := mgr_some hf
          refine ax_get O fg_Co_31 cr19 kr19 d_Co_build_98 ?_
          obtain ⟨xv20, v20, cv20, kv20, hf⟩ := mln_some hf
          refine ax_alen O (by decide) cv20 kv20 d_Co_build_101 ?_
          refine ax_icmp_ge (tgt := 130) O d_Co_build_102 (by decide) (fun q21 => ?_) (fun q21 => ?_)
          · rw [if_pos q21] at hf
            obtain ⟨v22, ev22, hf⟩ := mnm_some hf
            refine ax_iinc (j := 5) (v := v22) (lv' := [(4, .int v22), (5, .int v11), (0, .ref a0), (1, .ref a1), (2, .int x2), (3, .int x3)]) O d_Co_build_130 rfl (by rw [ev22]; rfl) (by decide) rfl ?_
            refine ax_goto (tgt := 59) O d_Co_build_133 (by decide) ?_
            refine ax_sub [2, 3, 4, 5, 0] rfl ?_
            exact ih _ _ _ _ _ _ hf
          · rw [if_neg q21] at hf
            refine ax_aload_n O d_Co_build_105 rfl 1 rfl ?_
            obtain ⟨fr23, r23, cr23, kr23, hf⟩ := mgr_some hf
            refine ax_get O fg_Co_31 cr23 kr23 d_Co_build_106 ?_
            refine ax_aload_n O d_Co_build_109 rfl 1 rfl ?_
            obtain ⟨fr24, r24, cr24, kr24, hf⟩ := mgr_some hf
            refine ax_get O fg_Co_15 cr24 kr24 d_Co_build_110 ?_
            refine ax_iload O d_Co_build_113 0 rfl ?_
            obtain ⟨nv25, fv25, v25, cv25, iv25, kv25, hf⟩ := mai_some hf
            refine ax_iald O cv25 iv25 kv25 d_Co_build_115 ?_
            refine ax_iload O d_Co_build_116 5 rfl ?_
            obtain ⟨nh26, fh26, h26, ch26, ih26, eh26, hf⟩ := mas_some hf
            refine ax_iast O ch26 ih26 eh26 d_Co_build_118 ?_
            refine ax_aload_n O d_Co_build_119 rfl 1 rfl ?_
            obtain ⟨fr27, r27, cr27, kr27, hf⟩ := mgr_some hf
            refine ax_get O fg_Co_15 cr27 kr27 d_Co_build_120 ?_
            refine ax_iload O d_Co_build_123 0 rfl ?_
            refine ax_dup2 O d_Co_build_125 rfl rfl ?_
            obtain ⟨nv28, fv28, v28, cv28, iv28, kv28, hf⟩ := mai_some hf
            refine ax_iald O cv28 iv28 kv28 d_Co_build_126 ?_
            refine ax_iconst (v := 1) O d_Co_build_127 (by decide) ?_
            refine ax_iadd O d_Co_build_128 ?_
            obtain ⟨nh29, fh29, h29, ch29, ih29, eh29, hf⟩ := mas_some hf
            refine ax_iast O ch29 ih29 eh29 d_Co_build_129 ?_
            obtain ⟨v30, ev30, hf⟩ := mnm_some hf
            refine ax_iinc (j := 5) (v := v30) (lv' := [(4, .int v30), (5, .int v11), (0, .ref a0), (1, .ref a1), (2, .int x2), (3, .int x3)]) O d_Co_build_130 rfl (by rw [ev30]; rfl) (by decide) rfl ?_
            refine ax_goto (tgt := 59) O d_Co_build_133 (by decide) ?_
            refine ax_sub [2, 3, 4, 5, 0] rfl ?_
            exact ih _ _ _ _ _ _ hf
set_option maxHeartbeats 4000000 in
set_option maxRecDepth 100000 in
theorem cb_Co_build_L17 {X : mX} {ad : Nat → Nat} {ln : Launch} (O : mO X ad R_Co b_Co_build 6 (mR 2 46) ln) (r' : Unit) (h' : mH) (hE : mEnd X ad none none h') (n0 : Nat) : ∀ (n : Nat) (h0 : mH) (a0 : Nat) (a1 : Nat) (x2 : Int32) (x3 : Int32) (x4 : Int32), f_Co_build_L17 n0 n h0 a0 a1 x2 x3 x4 = some (r', h') → mAW X ad 0 0 17 [(0, .ref a0), (1, .ref a1), (2, .int x2), (3, .int x3), (4, .int x4)] [] h0 := by
  intro n
  induction n with
  | zero =>
    intro h0 a0 a1 x2 x3 x4 hf
    rw [f_Co_build_L17.eq_1] at hf
    cases hf
  | succ n ih =>
    intro h0 a0 a1 x2 x3 x4 hf
    rw [f_Co_build_L17.eq_2] at hf
    refine ax_iload O d_Co_build_17 4 rfl ?_
    refine ax_bipush (v := 15) O d_Co_build_19 (by decide) ?_
    refine ax_icmp_gt (tgt := 56) O d_Co_build_21 (by decide) (fun q7 => ?_) (fun q7 => ?_)
    · rw [if_pos q7] at hf
      refine ax_iconst (v := 0) O d_Co_build_56 (by decide) ?_
      refine ax_istore (lv' := [(4, .int 0), (0, .ref a0), (1, .ref a1), (2, .int x2), (3, .int x3)]) O d_Co_build_57 (by decide) rfl ?_
      refine ax_sub [1, 2, 3, 4, 0] rfl ?_
      exact cb_Co_build_L59 O _ _ hE n0 n0 _ _ _ _ _ _ hf
    · rw [if_neg q7] at hf
      refine ax_aload_n O d_Co_build_24 rfl 0 rfl ?_
      obtain ⟨fr31, r31, cr31, kr31, hf⟩ := mgr_some hf
      refine ax_get O fg_Co_15 cr31 kr31 d_Co_build_25 ?_
      refine ax_iload O d_Co_build_28 4 rfl ?_
      refine ax_aload_n O d_Co_build_30 rfl 0 rfl ?_
      obtain ⟨fr32, r32, cr32, kr32, hf⟩ := mgr_some hf
      refine ax_get O fg_Co_15 cr32 kr32 d_Co_build_31 ?_
      refine ax_iload O d_Co_build_34 4 rfl ?_
      refine ax_iconst (v := 1) O d_Co_build_36 (by decide) ?_
      refine ax_isub O d_Co_build_37 ?_
      obtain ⟨nv33, fv33, v33, cv33, iv33, kv33, hf⟩ := mai_some hf
      refine ax_iald O cv33 iv33 kv33 d_Co_build_38 ?_
      refine ax_aload_n O d_Co_build_39 rfl 0 rfl ?_
      obtain ⟨fr34, r34, cr34, kr34, hf⟩ := mgr_some hf
      refine ax_get O fg_Co_11 cr34 kr34 d_Co_build_40 ?_
      refine ax_iload O d_Co_build_43 4 rfl ?_
      refine ax_iconst (v := 1) O d_Co_build_45 (by decide) ?_
      refine ax_isub O d_Co_build_46 ?_
      obtain ⟨nv35, fv35, v35, cv35, iv35, kv35, hf⟩ := mai_some hf
      refine ax_iald O cv35 iv35 kv35 d_Co_build_47 ?_
      refine ax_iadd O d_Co_build_48 ?_
      obtain ⟨nh36, fh36, h36, ch36, ih36, eh36, hf⟩ := mas_some hf
      refine ax_iast O ch36 ih36 eh36 d_Co_build_49 ?_
      obtain ⟨v37, ev37, hf⟩ := mnm_some hf
      refine ax_iinc (j := 4) (v := v37) (lv' := [(4, .int v37), (0, .ref a0), (1, .ref a1), (2, .int x2), (3, .int x3)]) O d_Co_build_50 rfl (by rw [ev37]; rfl) (by decide) rfl ?_
      refine ax_goto (tgt := 17) O d_Co_build_53 (by decide) ?_
      refine ax_sub [1, 2, 3, 4, 0] rfl ?_
      exact ih _ _ _ _ _ _ hf
set_option maxHeartbeats 4000000 in
set_option maxRecDepth 100000 in
theorem cb_Co_build {X : mX} {ad : Nat → Nat} {ln : Launch} (O : mO X ad R_Co b_Co_build 6 (mR 2 46) ln) (r' : Unit) (h' : mH) (hE : mEnd X ad none none h') (n0 : Nat) (h0 : mH) (a0 : Nat) (a1 : Nat) (x2 : Int32) (x3 : Int32) (hf : f_Co_build n0 h0 a0 a1 x2 x3 = some (r', h')) : mAW X ad 0 0 0 [(0, .ref a0), (1, .ref a1), (2, .int x2), (3, .int x3)] [] h0 := by
  unfold f_Co_build at hf
  refine ax_aload_n O d_Co_build_0 rfl 0 rfl ?_
  refine ax_aload_n O d_Co_build_1 rfl 1 rfl ?_
  refine ax_iload_n O d_Co_build_2 rfl 2 rfl ?_
  refine ax_iload_n O d_Co_build_3 rfl 3 rfl ?_
  obtain ⟨fh3, ch3, hf⟩ := mis_some hf
  obtain ⟨u4, h3, mh3, hf⟩ := mcl_some hf
  refine ax_callV (As := [.ref a1, .int x2, .int x3]) (rest := []) O cw_Co_count (q := (R_Co, T_Co, 5)) rfl rfl in_Co_count se_Co_count lk_Co_34 ch3 (c_Co_count mh3) rfl ⟨rfl, rfl⟩ (by decide) (by decide) (Nat.le_of_ble_eq_true rfl) d_Co_build_4 ?_
  refine ax_aload_n O d_Co_build_7 rfl 0 rfl ?_
  obtain ⟨fr5, r5, cr5, kr5, hf⟩ := mgr_some hf
  refine ax_get O fg_Co_15 cr5 kr5 d_Co_build_8 ?_
  refine ax_iconst (v := 0) O d_Co_build_11 (by decide) ?_
  refine ax_iconst (v := 0) O d_Co_build_12 (by decide) ?_
  obtain ⟨nh6, fh6, h6, ch6, ih6, eh6, hf⟩ := mas_some hf
  refine ax_iast O ch6 ih6 eh6 d_Co_build_13 ?_
  refine ax_iconst (v := 1) O d_Co_build_14 (by decide) ?_
  refine ax_istore (lv' := [(4, .int 1), (0, .ref a0), (1, .ref a1), (2, .int x2), (3, .int x3)]) O d_Co_build_15 (by decide) rfl ?_
  refine ax_sub [1, 2, 3, 4, 0] rfl ?_
  exact cb_Co_build_L17 O _ _ hE n0 n0 _ _ _ _ _ _ hf
theorem c_Co_build {ln : Launch} {n0 : Nat} {h0 h' : mH} {a0 : Nat} {a1 : Nat} {x2 : Int32} {x3 : Int32} {r' : Unit} (hf : f_Co_build n0 h0 a0 a1 x2 x3 = some (r', h')) : mMet ln y_Co_build b_Co_build 6 none (mR 2 46) [.ref a0, .ref a1, .int x2, .int x3] h0 none h' := mMet_of (by decide +kernel) (Nat.le_of_ble_eq_true rfl) (fun X ad O hE => cb_Co_build O r' h' hE n0 h0 a0 a1 x2 x3 hf)
/-! ===== StreamFilters$Bytes.add(I)V ===== -/
theorem d_By_add_0 : decode b_By_add 0 = .ok (.aload_n 0, 1) := by decide +kernel
theorem d_By_add_1 : decode b_By_add 1 = .ok (.getfield 7, 3) := by decide +kernel
theorem d_By_add_4 : decode b_By_add 4 = .ok (.aload_n 0, 1) := by decide +kernel
theorem d_By_add_5 : decode b_By_add 5 = .ok (.getfield 19, 3) := by decide +kernel
theorem d_By_add_8 : decode b_By_add 8 = .ok (.arraylength, 1) := by decide +kernel
theorem d_By_add_9 : decode b_By_add 9 = .ok (.if_icmp .ge 24, 3) := by decide +kernel
theorem d_By_add_12 : decode b_By_add 12 = .ok (.aload_n 0, 1) := by decide +kernel
theorem d_By_add_13 : decode b_By_add 13 = .ok (.getfield 19, 3) := by decide +kernel
theorem d_By_add_16 : decode b_By_add 16 = .ok (.aload_n 0, 1) := by decide +kernel
theorem d_By_add_17 : decode b_By_add 17 = .ok (.getfield 7, 3) := by decide +kernel
theorem d_By_add_20 : decode b_By_add 20 = .ok (.iload_n 1, 1) := by decide +kernel
theorem d_By_add_21 : decode b_By_add 21 = .ok (.i2b, 1) := by decide +kernel
theorem d_By_add_22 : decode b_By_add 22 = .ok (.bastore, 1) := by decide +kernel
theorem d_By_add_23 : decode b_By_add 23 = .ok (.aload_n 0, 1) := by decide +kernel
theorem d_By_add_24 : decode b_By_add 24 = .ok (.dup, 1) := by decide +kernel
theorem d_By_add_25 : decode b_By_add 25 = .ok (.getfield 7, 3) := by decide +kernel
theorem d_By_add_28 : decode b_By_add 28 = .ok (.iconst 1, 1) := by decide +kernel
theorem d_By_add_29 : decode b_By_add 29 = .ok (.iadd, 1) := by decide +kernel
theorem d_By_add_30 : decode b_By_add 30 = .ok (.putfield 7, 3) := by decide +kernel
theorem d_By_add_33 : decode b_By_add 33 = .ok (.return_, 1) := by decide +kernel
noncomputable def f_By_add  (n0 : Nat) (h0 : mH) (a0 : Nat) (x1 : Int32) : Option (Unit × mH) :=
  mgi h0 a0 1 1 fun v1 =>
  mgr h0 a0 1 0 fun r2 =>
  mln h0 r2 .byte fun v3 =>
  if v3 ≤ v1 then
    some ((), h0)
  else
    mgr h0 a0 1 0 fun r5 =>
    mgi h0 a0 1 1 fun v6 =>
    mas h0 r5 .byte v6 (x1.toInt8.toInt32).toInt8.toInt32 fun h7 =>
    mgi h7 a0 1 1 fun v8 =>
    mpt h7 a0 1 1 (.int (v8 + 1)) fun h9 =>
    some ((), h9)
set_option maxHeartbeats 4000000 in
set_option maxRecDepth 100000 in
theorem cb_By_add {X : mX} {ad : Nat → Nat} {ln : Launch} (O : mO X ad R_By b_By_add 2 (mR 0 0) ln) (r' : Unit) (h' : mH) (hE : mEnd X ad none none h') (n0 : Nat) (h0 : mH) (a0 : Nat) (x1 : Int32) (hf : f_By_add n0 h0 a0 x1 = some (r', h')) : mAW X ad 0 0 0 [(0, .ref a0), (1, .int x1)] [] h0 := by
  unfold f_By_add at hf
  refine ax_aload_n O d_By_add_0 rfl 0 rfl ?_
  obtain ⟨fv1, v1, cv1, kv1, hf⟩ := mgi_some hf
  refine ax_get O fg_By_7 cv1 kv1 d_By_add_1 ?_
  refine ax_aload_n O d_By_add_4 rfl 0 rfl ?_
  obtain ⟨fr2, r2, cr2, kr2, hf⟩ := mgr_some hf
  refine ax_get O fg_By_19 cr2 kr2 d_By_add_5 ?_
  obtain ⟨xv3, v3, cv3, kv3, hf⟩ := mln_some hf
  refine ax_alen O (by decide) cv3 kv3 d_By_add_8 ?_
  refine ax_icmp_ge (tgt := 33) O d_By_add_9 (by decide) (fun q4 => ?_) (fun q4 => ?_)
  · rw [if_pos q4] at hf
    exact ax_vretE O hE hf d_By_add_33
  · rw [if_neg q4] at hf
    refine ax_aload_n O d_By_add_12 rfl 0 rfl ?_
    obtain ⟨fr5, r5, cr5, kr5, hf⟩ := mgr_some hf
    refine ax_get O fg_By_19 cr5 kr5 d_By_add_13 ?_
    refine ax_aload_n O d_By_add_16 rfl 0 rfl ?_
    obtain ⟨fv6, v6, cv6, kv6, hf⟩ := mgi_some hf
    refine ax_get O fg_By_7 cv6 kv6 d_By_add_17 ?_
    refine ax_iload_n O d_By_add_20 rfl 1 rfl ?_
    refine ax_i2b O d_By_add_21 ?_
    obtain ⟨nh7, fh7, h7, ch7, ih7, eh7, hf⟩ := mas_some hf
    refine ax_bast O ch7 ih7 eh7 d_By_add_22 ?_
    refine ax_aload_n O d_By_add_23 rfl 0 rfl ?_
    refine ax_dup O d_By_add_24 rfl ?_
    obtain ⟨fv8, v8, cv8, kv8, hf⟩ := mgi_some hf
    refine ax_get O fg_By_7 cv8 kv8 d_By_add_25 ?_
    refine ax_iconst (v := 1) O d_By_add_28 (by decide) ?_
    refine ax_iadd O d_By_add_29 ?_
    obtain ⟨fh9, h9, ch9, kh9, eh9, hf⟩ := mpt_some hf
    refine ax_put (v := .int (v8 + 1)) O fp_By_7 ch9 kh9 eh9 rfl rfl d_By_add_30 ?_
    exact ax_vretE O hE hf d_By_add_33
theorem c_By_add {ln : Launch} {n0 : Nat} {h0 h' : mH} {a0 : Nat} {x1 : Int32} {r' : Unit} (hf : f_By_add n0 h0 a0 x1 = some (r', h')) : mMet ln y_By_add b_By_add 2 none (mR 0 0) [.ref a0, .int x1] h0 none h' := mMet_of (by decide +kernel) (Nat.le_of_ble_eq_true rfl) (fun X ad O hE => cb_By_add O r' h' hE n0 h0 a0 x1 hf)
/-! ===== StreamFilters$Bytes.addFour(I)V ===== -/
theorem d_By_addFour_0 : decode b_By_addFour 0 = .ok (.bipush 24, 2) := by decide +kernel
theorem d_By_addFour_2 : decode b_By_addFour 2 = .ok (.istore_n 2, 1) := by decide +kernel
theorem d_By_addFour_3 : decode b_By_addFour 3 = .ok (.iload_n 2, 1) := by decide +kernel
theorem d_By_addFour_4 : decode b_By_addFour 4 = .ok (.ifCond .lt 16, 3) := by decide +kernel
theorem d_By_addFour_7 : decode b_By_addFour 7 = .ok (.aload_n 0, 1) := by decide +kernel
theorem d_By_addFour_8 : decode b_By_addFour 8 = .ok (.iload_n 1, 1) := by decide +kernel
theorem d_By_addFour_9 : decode b_By_addFour 9 = .ok (.iload_n 2, 1) := by decide +kernel
theorem d_By_addFour_10 : decode b_By_addFour 10 = .ok (.iushr, 1) := by decide +kernel
theorem d_By_addFour_11 : decode b_By_addFour 11 = .ok (.invokevirtual 23, 3) := by decide +kernel
theorem d_By_addFour_14 : decode b_By_addFour 14 = .ok (.iinc 2 (-8), 3) := by decide +kernel
theorem d_By_addFour_17 : decode b_By_addFour 17 = .ok (.goto (-14), 3) := by decide +kernel
theorem d_By_addFour_20 : decode b_By_addFour 20 = .ok (.return_, 1) := by decide +kernel
noncomputable def f_By_addFour_L3  (n0 : Nat) : Nat → mH → Nat → Int32 → Int32 → Option (Unit × mH)
  | 0, _, _, _, _ => none
  | n + 1, h0, a0, x1, x2 =>
    if x2 < 0 then
      some ((), h0)
    else
      mis h0 a0 1 <|
      mcl (f_By_add n0 h0 a0 ((x1.toUInt32 >>> (x2.toUInt32 &&& Int32.toUInt32 31)).toInt32)) fun _ h4 =>
      mnm (x2 + (-8)) fun v6 =>
      (f_By_addFour_L3 n0 n) h4 a0 x1 v6
noncomputable def f_By_addFour  (n0 : Nat) (h0 : mH) (a0 : Nat) (x1 : Int32) : Option (Unit × mH) :=
  f_By_addFour_L3 n0 n0 h0 a0 x1 24
set_option maxHeartbeats 4000000 in
set_option maxRecDepth 100000 in
theorem cb_By_addFour_L3 {X : mX} {ad : Nat → Nat} {ln : Launch} (O : mO X ad R_By b_By_addFour 3 (mR 1 21) ln) (r' : Unit) (h' : mH) (hE : mEnd X ad none none h') (n0 : Nat) : ∀ (n : Nat) (h0 : mH) (a0 : Nat) (x1 : Int32) (x2 : Int32), f_By_addFour_L3 n0 n h0 a0 x1 x2 = some (r', h') → mAW X ad 0 0 3 [(0, .ref a0), (1, .int x1), (2, .int x2)] [] h0 := by
  intro n
  induction n with
  | zero =>
    intro h0 a0 x1 x2 hf
    rw [f_By_addFour_L3.eq_1] at hf
    cases hf
  | succ n ih =>
    intro h0 a0 x1 x2 hf
    rw [f_By_addFour_L3.eq_2] at hf
    refine ax_iload_n O d_By_addFour_3 rfl 2 rfl ?_
    refine ax_if_lt (tgt := 20) O d_By_addFour_4 (by decide) (fun q1 => ?_) (fun q1 => ?_)
    · rw [if_pos q1] at hf
      exact ax_vretE O hE hf d_By_addFour_20
    · rw [if_neg q1] at hf
      refine ax_aload_n O d_By_addFour_7 rfl 0 rfl ?_
      refine ax_iload_n O d_By_addFour_8 rfl 1 rfl ?_
      refine ax_iload_n O d_By_addFour_9 rfl 2 rfl ?_
      refine ax_iushr O d_By_addFour_10 ?_
      obtain ⟨fh4, ch4, hf⟩ := mis_some hf
      obtain ⟨u5, h4, mh4, hf⟩ := mcl_some hf
      refine ax_callV (As := [.int ((x1.toUInt32 >>> (x2.toUInt32 &&& Int32.toUInt32 31)).toInt32)]) (rest := []) O cw_By_add (q := (R_By, T_By, 2)) rfl rfl in_By_add se_By_add lk_By_23 ch4 (c_By_add mh4) rfl ⟨rfl, rfl⟩ (by decide) (by decide) (Nat.le_of_ble_eq_true rfl) d_By_addFour_11 ?_
      obtain ⟨v6, ev6, hf⟩ := mnm_some hf
      refine ax_iinc (j := 2) (v := v6) (lv' := [(2, .int v6), (0, .ref a0), (1, .int x1)]) O d_By_addFour_14 rfl (by rw [ev6]; rfl) (by decide) rfl ?_
      refine ax_goto (tgt := 3) O d_By_addFour_17 (by decide) ?_
      refine ax_sub [1, 2, 0] rfl ?_
      exact ih _ _ _ _ hf
set_option maxHeartbeats 4000000 in
set_option maxRecDepth 100000 in
theorem cb_By_addFour {X : mX} {ad : Nat → Nat} {ln : Launch} (O : mO X ad R_By b_By_addFour 3 (mR 1 21) ln) (r' : Unit) (h' : mH) (hE : mEnd X ad none none h') (n0 : Nat) (h0 : mH) (a0 : Nat) (x1 : Int32) (hf : f_By_addFour n0 h0 a0 x1 = some (r', h')) : mAW X ad 0 0 0 [(0, .ref a0), (1, .int x1)] [] h0 := by
  unfold f_By_addFour at hf
  refine ax_bipush (v := 24) O d_By_addFour_0 (by decide) ?_
  refine ax_istore_n (lv' := [(2, .int 24), (0, .ref a0), (1, .int x1)]) O d_By_addFour_2 rfl (by decide) rfl ?_
  refine ax_sub [1, 2, 0] rfl ?_
  exact cb_By_addFour_L3 O _ _ hE n0 n0 _ _ _ _ hf
theorem c_By_addFour {ln : Launch} {n0 : Nat} {h0 h' : mH} {a0 : Nat} {x1 : Int32} {r' : Unit} (hf : f_By_addFour n0 h0 a0 x1 = some (r', h')) : mMet ln y_By_addFour b_By_addFour 3 none (mR 1 21) [.ref a0, .int x1] h0 none h' := mMet_of (by decide +kernel) (Nat.le_of_ble_eq_true rfl) (fun X ad O hE => cb_By_addFour O r' h' hE n0 h0 a0 x1 hf)
/-! ===== StreamFilters.feed(IIIII)I ===== -/
theorem d_SF_feed_0 : decode b_SF_feed 0 = .ok (.aload_n 0, 1) := by decide +kernel
theorem d_SF_feed_1 : decode b_SF_feed 1 = .ok (.getfield 14, 3) := by decide +kernel
theorem d_SF_feed_4 : decode b_SF_feed 4 = .ok (.getfield 97, 3) := by decide +kernel
theorem d_SF_feed_7 : decode b_SF_feed 7 = .ok (.bipush 20, 2) := by decide +kernel
theorem d_SF_feed_9 : decode b_SF_feed 9 = .ok (.iadd, 1) := by decide +kernel
theorem d_SF_feed_10 : decode b_SF_feed 10 = .ok (.sipush 16384, 3) := by decide +kernel
theorem d_SF_feed_13 : decode b_SF_feed 13 = .ok (.if_icmp .le 5, 3) := by decide +kernel
theorem d_SF_feed_16 : decode b_SF_feed 16 = .ok (.iconst (-1), 1) := by decide +kernel
theorem d_SF_feed_17 : decode b_SF_feed 17 = .ok (.ireturn, 1) := by decide +kernel
theorem d_SF_feed_18 : decode b_SF_feed 18 = .ok (.aload_n 0, 1) := by decide +kernel
theorem d_SF_feed_19 : decode b_SF_feed 19 = .ok (.getfield 14, 3) := by decide +kernel
theorem d_SF_feed_22 : decode b_SF_feed 22 = .ok (.iload_n 1, 1) := by decide +kernel
theorem d_SF_feed_23 : decode b_SF_feed 23 = .ok (.invokevirtual 100, 3) := by decide +kernel
theorem d_SF_feed_26 : decode b_SF_feed 26 = .ok (.aload_n 0, 1) := by decide +kernel
theorem d_SF_feed_27 : decode b_SF_feed 27 = .ok (.getfield 14, 3) := by decide +kernel
theorem d_SF_feed_30 : decode b_SF_feed 30 = .ok (.iload_n 2, 1) := by decide +kernel
theorem d_SF_feed_31 : decode b_SF_feed 31 = .ok (.invokevirtual 100, 3) := by decide +kernel
theorem d_SF_feed_34 : decode b_SF_feed 34 = .ok (.aload_n 0, 1) := by decide +kernel
theorem d_SF_feed_35 : decode b_SF_feed 35 = .ok (.getfield 14, 3) := by decide +kernel
theorem d_SF_feed_38 : decode b_SF_feed 38 = .ok (.iload_n 3, 1) := by decide +kernel
theorem d_SF_feed_39 : decode b_SF_feed 39 = .ok (.invokevirtual 100, 3) := by decide +kernel
theorem d_SF_feed_42 : decode b_SF_feed 42 = .ok (.aload_n 0, 1) := by decide +kernel
theorem d_SF_feed_43 : decode b_SF_feed 43 = .ok (.getfield 14, 3) := by decide +kernel
theorem d_SF_feed_46 : decode b_SF_feed 46 = .ok (.iload 4, 2) := by decide +kernel
theorem d_SF_feed_48 : decode b_SF_feed 48 = .ok (.invokevirtual 100, 3) := by decide +kernel
theorem d_SF_feed_51 : decode b_SF_feed 51 = .ok (.aload_n 0, 1) := by decide +kernel
theorem d_SF_feed_52 : decode b_SF_feed 52 = .ok (.getfield 14, 3) := by decide +kernel
theorem d_SF_feed_55 : decode b_SF_feed 55 = .ok (.iload 5, 2) := by decide +kernel
theorem d_SF_feed_57 : decode b_SF_feed 57 = .ok (.invokevirtual 100, 3) := by decide +kernel
theorem d_SF_feed_60 : decode b_SF_feed 60 = .ok (.aload_n 0, 1) := by decide +kernel
theorem d_SF_feed_61 : decode b_SF_feed 61 = .ok (.getfield 14, 3) := by decide +kernel
theorem d_SF_feed_64 : decode b_SF_feed 64 = .ok (.getfield 97, 3) := by decide +kernel
theorem d_SF_feed_67 : decode b_SF_feed 67 = .ok (.ireturn, 1) := by decide +kernel
noncomputable def f_SF_feed  (n0 : Nat) (h0 : mH) (a0 : Nat) (x1 : Int32) (x2 : Int32) (x3 : Int32) (x4 : Int32) (x5 : Int32) : Option (Int32 × mH) :=
  mgr h0 a0 0 0 fun r1 =>
  mgi h0 r1 1 1 fun v2 =>
  if (v2 + 20) ≤ 16384 then
    mgr h0 a0 0 0 fun r4 =>
    mis h0 r4 1 <|
    mcl (f_By_addFour n0 h0 r4 x1) fun _ h7 =>
    mgr h7 a0 0 0 fun r9 =>
    mis h7 r9 1 <|
    mcl (f_By_addFour n0 h7 r9 x2) fun _ h12 =>
    mgr h12 a0 0 0 fun r14 =>
    mis h12 r14 1 <|
    mcl (f_By_addFour n0 h12 r14 x3) fun _ h17 =>
    mgr h17 a0 0 0 fun r19 =>
    mis h17 r19 1 <|
    mcl (f_By_addFour n0 h17 r19 x4) fun _ h22 =>
    mgr h22 a0 0 0 fun r24 =>
    mis h22 r24 1 <|
    mcl (f_By_addFour n0 h22 r24 x5) fun _ h27 =>
    mgr h27 a0 0 0 fun r29 =>
    mgi h27 r29 1 1 fun v30 =>
    some (v30, h27)
  else
    some ((-1), h0)
set_option maxHeartbeats 4000000 in
set_option maxRecDepth 100000 in
theorem cb_SF_feed {X : mX} {ad : Nat → Nat} {ln : Launch} (O : mO X ad R_SF b_SF_feed 6 (mR 2 43) ln) (r' : Int32) (h' : mH) (hE : mEnd X ad (some .int) (some (.int r')) h') (n0 : Nat) (h0 : mH) (a0 : Nat) (x1 : Int32) (x2 : Int32) (x3 : Int32) (x4 : Int32) (x5 : Int32) (hf : f_SF_feed n0 h0 a0 x1 x2 x3 x4 x5 = some (r', h')) : mAW X ad 0 0 0 [(0, .ref a0), (1, .int x1), (2, .int x2), (3, .int x3), (4, .int x4), (5, .int x5)] [] h0 := by
  unfold f_SF_feed at hf
  refine ax_aload_n O d_SF_feed_0 rfl 0 rfl ?_
  obtain ⟨fr1, r1, cr1, kr1, hf⟩ := mgr_some hf
  refine ax_get O fg_SF_14 cr1 kr1 d_SF_feed_1 ?_
  obtain ⟨fv2, v2, cv2, kv2, hf⟩ := mgi_some hf
  refine ax_get O fg_SF_97 cv2 kv2 d_SF_feed_4 ?_
  refine ax_bipush (v := 20) O d_SF_feed_7 (by decide) ?_
  refine ax_iadd O d_SF_feed_9 ?_
  refine ax_sipush (v := 16384) O d_SF_feed_10 (by decide) ?_
  refine ax_icmp_le (tgt := 18) O d_SF_feed_13 (by decide) (fun q3 => ?_) (fun q3 => ?_)
  · rw [if_pos q3] at hf
    refine ax_aload_n O d_SF_feed_18 rfl 0 rfl ?_
    obtain ⟨fr4, r4, cr4, kr4, hf⟩ := mgr_some hf
    refine ax_get O fg_SF_14 cr4 kr4 d_SF_feed_19 ?_
    refine ax_iload_n O d_SF_feed_22 rfl 1 rfl ?_
    obtain ⟨fh7, ch7, hf⟩ := mis_some hf
    obtain ⟨u8, h7, mh7, hf⟩ := mcl_some hf
    refine ax_callV (As := [.int x1]) (rest := []) O cw_By_addFour (q := (R_By, T_By, 2)) rfl rfl in_By_addFour se_By_addFour lk_SF_100 ch7 (c_By_addFour mh7) rfl ⟨rfl, rfl⟩ (by decide) (by decide) (Nat.le_of_ble_eq_true rfl) d_SF_feed_23 ?_
    refine ax_aload_n O d_SF_feed_26 rfl 0 rfl ?_
    obtain ⟨fr9, r9, cr9, kr9, hf⟩ := mgr_some hf
    refine ax_get O fg_SF_14 cr9 kr9 d_SF_feed_27 ?_
    refine ax_iload_n O d_SF_feed_30 rfl 2 rfl ?_
    obtain ⟨fh12, ch12, hf⟩ := mis_some hf
    obtain ⟨u13, h12, mh12, hf⟩ := mcl_some hf
    refine ax_callV (As := [.int x2]) (rest := []) O cw_By_addFour (q := (R_By, T_By, 2)) rfl rfl in_By_addFour se_By_addFour lk_SF_100 ch12 (c_By_addFour mh12) rfl ⟨rfl, rfl⟩ (by decide) (by decide) (Nat.le_of_ble_eq_true rfl) d_SF_feed_31 ?_
    refine ax_aload_n O d_SF_feed_34 rfl 0 rfl ?_
    obtain ⟨fr14, r14, cr14, kr14, hf⟩ := mgr_some hf
    refine ax_get O fg_SF_14 cr14 kr14 d_SF_feed_35 ?_
    refine ax_iload_n O d_SF_feed_38 rfl 3 rfl ?_
    obtain ⟨fh17, ch17, hf⟩ := mis_some hf
    obtain ⟨u18, h17, mh17, hf⟩ := mcl_some hf
    refine ax_callV (As := [.int x3]) (rest := []) O cw_By_addFour (q := (R_By, T_By, 2)) rfl rfl in_By_addFour se_By_addFour lk_SF_100 ch17 (c_By_addFour mh17) rfl ⟨rfl, rfl⟩ (by decide) (by decide) (Nat.le_of_ble_eq_true rfl) d_SF_feed_39 ?_
    refine ax_aload_n O d_SF_feed_42 rfl 0 rfl ?_
    obtain ⟨fr19, r19, cr19, kr19, hf⟩ := mgr_some hf
    refine ax_get O fg_SF_14 cr19 kr19 d_SF_feed_43 ?_
    refine ax_iload O d_SF_feed_46 4 rfl ?_
    obtain ⟨fh22, ch22, hf⟩ := mis_some hf
    obtain ⟨u23, h22, mh22, hf⟩ := mcl_some hf
    refine ax_callV (As := [.int x4]) (rest := []) O cw_By_addFour (q := (R_By, T_By, 2)) rfl rfl in_By_addFour se_By_addFour lk_SF_100 ch22 (c_By_addFour mh22) rfl ⟨rfl, rfl⟩ (by decide) (by decide) (Nat.le_of_ble_eq_true rfl) d_SF_feed_48 ?_
    refine ax_aload_n O d_SF_feed_51 rfl 0 rfl ?_
    obtain ⟨fr24, r24, cr24, kr24, hf⟩ := mgr_some hf
    refine ax_get O fg_SF_14 cr24 kr24 d_SF_feed_52 ?_
    refine ax_iload O d_SF_feed_55 5 rfl ?_
    obtain ⟨fh27, ch27, hf⟩ := mis_some hf
    obtain ⟨u28, h27, mh27, hf⟩ := mcl_some hf
    refine ax_callV (As := [.int x5]) (rest := []) O cw_By_addFour (q := (R_By, T_By, 2)) rfl rfl in_By_addFour se_By_addFour lk_SF_100 ch27 (c_By_addFour mh27) rfl ⟨rfl, rfl⟩ (by decide) (by decide) (Nat.le_of_ble_eq_true rfl) d_SF_feed_57 ?_
    refine ax_aload_n O d_SF_feed_60 rfl 0 rfl ?_
    obtain ⟨fr29, r29, cr29, kr29, hf⟩ := mgr_some hf
    refine ax_get O fg_SF_14 cr29 kr29 d_SF_feed_61 ?_
    obtain ⟨fv30, v30, cv30, kv30, hf⟩ := mgi_some hf
    refine ax_get O fg_SF_97 cv30 kv30 d_SF_feed_64 ?_
    exact ax_retE O hE hf rfl d_SF_feed_67
  · rw [if_neg q3] at hf
    refine ax_iconst (v := (-1)) O d_SF_feed_16 (by decide) ?_
    exact ax_retE O hE hf rfl d_SF_feed_17
theorem c_SF_feed {ln : Launch} {n0 : Nat} {h0 h' : mH} {a0 : Nat} {x1 : Int32} {x2 : Int32} {x3 : Int32} {x4 : Int32} {x5 : Int32} {r' : Int32} (hf : f_SF_feed n0 h0 a0 x1 x2 x3 x4 x5 = some (r', h')) : mMet ln y_SF_feed b_SF_feed 6 (some .int) (mR 2 43) [.ref a0, .int x1, .int x2, .int x3, .int x4, .int x5] h0 (some (.int r')) h' := mMet_of (by decide +kernel) (Nat.le_of_ble_eq_true rfl) (fun X ad O hE => cb_SF_feed O r' h' hE n0 h0 a0 x1 x2 x3 x4 x5 hf)
/-! ===== StreamFilters$Bytes.byteAt(I)I ===== -/
theorem d_By_byteAt_0 : decode b_By_byteAt 0 = .ok (.iload_n 1, 1) := by decide +kernel
theorem d_By_byteAt_1 : decode b_By_byteAt 1 = .ok (.ifCond .lt 25, 3) := by decide +kernel
theorem d_By_byteAt_4 : decode b_By_byteAt 4 = .ok (.iload_n 1, 1) := by decide +kernel
theorem d_By_byteAt_5 : decode b_By_byteAt 5 = .ok (.aload_n 0, 1) := by decide +kernel
theorem d_By_byteAt_6 : decode b_By_byteAt 6 = .ok (.getfield 19, 3) := by decide +kernel
theorem d_By_byteAt_9 : decode b_By_byteAt 9 = .ok (.arraylength, 1) := by decide +kernel
theorem d_By_byteAt_10 : decode b_By_byteAt 10 = .ok (.if_icmp .ge 16, 3) := by decide +kernel
theorem d_By_byteAt_13 : decode b_By_byteAt 13 = .ok (.aload_n 0, 1) := by decide +kernel
theorem d_By_byteAt_14 : decode b_By_byteAt 14 = .ok (.getfield 19, 3) := by decide +kernel
theorem d_By_byteAt_17 : decode b_By_byteAt 17 = .ok (.iload_n 1, 1) := by decide +kernel
theorem d_By_byteAt_18 : decode b_By_byteAt 18 = .ok (.baload, 1) := by decide +kernel
theorem d_By_byteAt_19 : decode b_By_byteAt 19 = .ok (.sipush 255, 3) := by decide +kernel
theorem d_By_byteAt_22 : decode b_By_byteAt 22 = .ok (.iand, 1) := by decide +kernel
theorem d_By_byteAt_23 : decode b_By_byteAt 23 = .ok (.goto 4, 3) := by decide +kernel
theorem d_By_byteAt_26 : decode b_By_byteAt 26 = .ok (.iconst 0, 1) := by decide +kernel
theorem d_By_byteAt_27 : decode b_By_byteAt 27 = .ok (.ireturn, 1) := by decide +kernel
noncomputable def f_By_byteAt  (n0 : Nat) (h0 : mH) (a0 : Nat) (x1 : Int32) : Option (Int32 × mH) :=
  if x1 < 0 then
    some (0, h0)
  else
    mgr h0 a0 1 0 fun r2 =>
    mln h0 r2 .byte fun v3 =>
    if v3 ≤ x1 then
      some (0, h0)
    else
      mgr h0 a0 1 0 fun r5 =>
      mai h0 r5 .byte x1 fun v6 =>
      some (v6 &&& 255, h0)
set_option maxHeartbeats 4000000 in
set_option maxRecDepth 100000 in
theorem cb_By_byteAt {X : mX} {ad : Nat → Nat} {ln : Launch} (O : mO X ad R_By b_By_byteAt 2 (mR 0 0) ln) (r' : Int32) (h' : mH) (hE : mEnd X ad (some .int) (some (.int r')) h') (n0 : Nat) (h0 : mH) (a0 : Nat) (x1 : Int32) (hf : f_By_byteAt n0 h0 a0 x1 = some (r', h')) : mAW X ad 0 0 0 [(0, .ref a0), (1, .int x1)] [] h0 := by
  unfold f_By_byteAt at hf
  refine ax_iload_n O d_By_byteAt_0 rfl 1 rfl ?_
  refine ax_if_lt (tgt := 26) O d_By_byteAt_1 (by decide) (fun q1 => ?_) (fun q1 => ?_)
  · rw [if_pos q1] at hf
    refine ax_iconst (v := 0) O d_By_byteAt_26 (by decide) ?_
    exact ax_retE O hE hf rfl d_By_byteAt_27
  · rw [if_neg q1] at hf
    refine ax_iload_n O d_By_byteAt_4 rfl 1 rfl ?_
    refine ax_aload_n O d_By_byteAt_5 rfl 0 rfl ?_
    obtain ⟨fr2, r2, cr2, kr2, hf⟩ := mgr_some hf
    refine ax_get O fg_By_19 cr2 kr2 d_By_byteAt_6 ?_
    obtain ⟨xv3, v3, cv3, kv3, hf⟩ := mln_some hf
    refine ax_alen O (by decide) cv3 kv3 d_By_byteAt_9 ?_
    refine ax_icmp_ge (tgt := 26) O d_By_byteAt_10 (by decide) (fun q4 => ?_) (fun q4 => ?_)
    · rw [if_pos q4] at hf
      refine ax_iconst (v := 0) O d_By_byteAt_26 (by decide) ?_
      exact ax_retE O hE hf rfl d_By_byteAt_27
    · rw [if_neg q4] at hf
      refine ax_aload_n O d_By_byteAt_13 rfl 0 rfl ?_
      obtain ⟨fr5, r5, cr5, kr5, hf⟩ := mgr_some hf
      refine ax_get O fg_By_19 cr5 kr5 d_By_byteAt_14 ?_
      refine ax_iload_n O d_By_byteAt_17 rfl 1 rfl ?_
      obtain ⟨nv6, fv6, v6, cv6, iv6, kv6, hf⟩ := mai_some hf
      refine ax_bald O cv6 iv6 kv6 d_By_byteAt_18 ?_
      refine ax_sipush (v := 255) O d_By_byteAt_19 (by decide) ?_
      refine ax_iand O d_By_byteAt_22 ?_
      refine ax_goto (tgt := 27) O d_By_byteAt_23 (by decide) ?_
      exact ax_retE O hE hf rfl d_By_byteAt_27
theorem c_By_byteAt {ln : Launch} {n0 : Nat} {h0 h' : mH} {a0 : Nat} {x1 : Int32} {r' : Int32} (hf : f_By_byteAt n0 h0 a0 x1 = some (r', h')) : mMet ln y_By_byteAt b_By_byteAt 2 (some .int) (mR 0 0) [.ref a0, .int x1] h0 (some (.int r')) h' := mMet_of (by decide +kernel) (Nat.le_of_ble_eq_true rfl) (fun X ad O hE => cb_By_byteAt O r' h' hE n0 h0 a0 x1 hf)
/-! ===== StreamFilters$Bytes.change(II)V ===== -/
theorem d_By_change_0 : decode b_By_change 0 = .ok (.iload_n 1, 1) := by decide +kernel
theorem d_By_change_1 : decode b_By_change 1 = .ok (.ifCond .lt 20, 3) := by decide +kernel
theorem d_By_change_4 : decode b_By_change 4 = .ok (.iload_n 1, 1) := by decide +kernel
theorem d_By_change_5 : decode b_By_change 5 = .ok (.aload_n 0, 1) := by decide +kernel
theorem d_By_change_6 : decode b_By_change 6 = .ok (.getfield 19, 3) := by decide +kernel
theorem d_By_change_9 : decode b_By_change 9 = .ok (.arraylength, 1) := by decide +kernel
theorem d_By_change_10 : decode b_By_change 10 = .ok (.if_icmp .ge 11, 3) := by decide +kernel
theorem d_By_change_13 : decode b_By_change 13 = .ok (.aload_n 0, 1) := by decide +kernel
theorem d_By_change_14 : decode b_By_change 14 = .ok (.getfield 19, 3) := by decide +kernel
theorem d_By_change_17 : decode b_By_change 17 = .ok (.iload_n 1, 1) := by decide +kernel
theorem d_By_change_18 : decode b_By_change 18 = .ok (.iload_n 2, 1) := by decide +kernel
theorem d_By_change_19 : decode b_By_change 19 = .ok (.i2b, 1) := by decide +kernel
theorem d_By_change_20 : decode b_By_change 20 = .ok (.bastore, 1) := by decide +kernel
theorem d_By_change_21 : decode b_By_change 21 = .ok (.return_, 1) := by decide +kernel
noncomputable def f_By_change  (n0 : Nat) (h0 : mH) (a0 : Nat) (x1 : Int32) (x2 : Int32) : Option (Unit × mH) :=
  if x1 < 0 then
    some ((), h0)
  else
    mgr h0 a0 1 0 fun r2 =>
    mln h0 r2 .byte fun v3 =>
    if v3 ≤ x1 then
      some ((), h0)
    else
      mgr h0 a0 1 0 fun r5 =>
      mas h0 r5 .byte x1 (x2.toInt8.toInt32).toInt8.toInt32 fun h6 =>
      some ((), h6)
set_option maxHeartbeats 4000000 in
set_option maxRecDepth 100000 in
theorem cb_By_change {X : mX} {ad : Nat → Nat} {ln : Launch} (O : mO X ad R_By b_By_change 3 (mR 0 0) ln) (r' : Unit) (h' : mH) (hE : mEnd X ad none none h') (n0 : Nat) (h0 : mH) (a0 : Nat) (x1 : Int32) (x2 : Int32) (hf : f_By_change n0 h0 a0 x1 x2 = some (r', h')) : mAW X ad 0 0 0 [(0, .ref a0), (1, .int x1), (2, .int x2)] [] h0 := by
  unfold f_By_change at hf
  refine ax_iload_n O d_By_change_0 rfl 1 rfl ?_
  refine ax_if_lt (tgt := 21) O d_By_change_1 (by decide) (fun q1 => ?_) (fun q1 => ?_)
  · rw [if_pos q1] at hf
    exact ax_vretE O hE hf d_By_change_21
  · rw [if_neg q1] at hf
    refine ax_iload_n O d_By_change_4 rfl 1 rfl ?_
    refine ax_aload_n O d_By_change_5 rfl 0 rfl ?_
    obtain ⟨fr2, r2, cr2, kr2, hf⟩ := mgr_some hf
    refine ax_get O fg_By_19 cr2 kr2 d_By_change_6 ?_
    obtain ⟨xv3, v3, cv3, kv3, hf⟩ := mln_some hf
    refine ax_alen O (by decide) cv3 kv3 d_By_change_9 ?_
    refine ax_icmp_ge (tgt := 21) O d_By_change_10 (by decide) (fun q4 => ?_) (fun q4 => ?_)
    · rw [if_pos q4] at hf
      exact ax_vretE O hE hf d_By_change_21
    · rw [if_neg q4] at hf
      refine ax_aload_n O d_By_change_13 rfl 0 rfl ?_
      obtain ⟨fr5, r5, cr5, kr5, hf⟩ := mgr_some hf
      refine ax_get O fg_By_19 cr5 kr5 d_By_change_14 ?_
      refine ax_iload_n O d_By_change_17 rfl 1 rfl ?_
      refine ax_iload_n O d_By_change_18 rfl 2 rfl ?_
      refine ax_i2b O d_By_change_19 ?_
      obtain ⟨nh6, fh6, h6, ch6, ih6, eh6, hf⟩ := mas_some hf
      refine ax_bast O ch6 ih6 eh6 d_By_change_20 ?_
      exact ax_vretE O hE hf d_By_change_21
theorem c_By_change {ln : Launch} {n0 : Nat} {h0 h' : mH} {a0 : Nat} {x1 : Int32} {x2 : Int32} {r' : Unit} (hf : f_By_change n0 h0 a0 x1 x2 = some (r', h')) : mMet ln y_By_change b_By_change 3 none (mR 0 0) [.ref a0, .int x1, .int x2] h0 none h' := mMet_of (by decide +kernel) (Nat.le_of_ble_eq_true rfl) (fun X ad O hE => cb_By_change O r' h' hE n0 h0 a0 x1 x2 hf)
