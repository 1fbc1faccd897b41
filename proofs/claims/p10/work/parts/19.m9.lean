/-! ===== StreamFiltersModel.wideCode(I)I ===== -/
theorem d_Mo_wideCode_0 : decode b_Mo_wideCode 0 = .ok (.iconst 0, 1) := by decide +kernel
theorem d_Mo_wideCode_1 : decode b_Mo_wideCode 1 = .ok (.istore_n 2, 1) := by decide +kernel
theorem d_Mo_wideCode_2 : decode b_Mo_wideCode 2 = .ok (.iconst 0, 1) := by decide +kernel
theorem d_Mo_wideCode_3 : decode b_Mo_wideCode 3 = .ok (.istore_n 3, 1) := by decide +kernel
theorem d_Mo_wideCode_4 : decode b_Mo_wideCode 4 = .ok (.iload_n 3, 1) := by decide +kernel
theorem d_Mo_wideCode_5 : decode b_Mo_wideCode 5 = .ok (.iload_n 1, 1) := by decide +kernel
theorem d_Mo_wideCode_6 : decode b_Mo_wideCode 6 = .ok (.if_icmp .ge 63, 3) := by decide +kernel
theorem d_Mo_wideCode_9 : decode b_Mo_wideCode 9 = .ok (.aload_n 0, 1) := by decide +kernel
theorem d_Mo_wideCode_10 : decode b_Mo_wideCode 10 = .ok (.invokevirtual 89, 3) := by decide +kernel
theorem d_Mo_wideCode_13 : decode b_Mo_wideCode 13 = .ok (.ifCond .eq 56, 3) := by decide +kernel
theorem d_Mo_wideCode_16 : decode b_Mo_wideCode 16 = .ok (.aload_n 0, 1) := by decide +kernel
theorem d_Mo_wideCode_17 : decode b_Mo_wideCode 17 = .ok (.getfield 109, 3) := by decide +kernel
theorem d_Mo_wideCode_20 : decode b_Mo_wideCode 20 = .ok (.ifCond .ne 17, 3) := by decide +kernel
theorem d_Mo_wideCode_23 : decode b_Mo_wideCode 23 = .ok (.aload_n 0, 1) := by decide +kernel
theorem d_Mo_wideCode_24 : decode b_Mo_wideCode 24 = .ok (.aload_n 0, 1) := by decide +kernel
theorem d_Mo_wideCode_25 : decode b_Mo_wideCode 25 = .ok (.invokevirtual 112, 3) := by decide +kernel
theorem d_Mo_wideCode_28 : decode b_Mo_wideCode 28 = .ok (.putfield 116, 3) := by decide +kernel
theorem d_Mo_wideCode_31 : decode b_Mo_wideCode 31 = .ok (.aload_n 0, 1) := by decide +kernel
theorem d_Mo_wideCode_32 : decode b_Mo_wideCode 32 = .ok (.bipush 8, 2) := by decide +kernel
theorem d_Mo_wideCode_34 : decode b_Mo_wideCode 34 = .ok (.putfield 109, 3) := by decide +kernel
theorem d_Mo_wideCode_37 : decode b_Mo_wideCode 37 = .ok (.aload_n 0, 1) := by decide +kernel
theorem d_Mo_wideCode_38 : decode b_Mo_wideCode 38 = .ok (.dup, 1) := by decide +kernel
theorem d_Mo_wideCode_39 : decode b_Mo_wideCode 39 = .ok (.getfield 109, 3) := by decide +kernel
theorem d_Mo_wideCode_42 : decode b_Mo_wideCode 42 = .ok (.iconst 1, 1) := by decide +kernel
theorem d_Mo_wideCode_43 : decode b_Mo_wideCode 43 = .ok (.isub, 1) := by decide +kernel
theorem d_Mo_wideCode_44 : decode b_Mo_wideCode 44 = .ok (.putfield 109, 3) := by decide +kernel
theorem d_Mo_wideCode_47 : decode b_Mo_wideCode 47 = .ok (.iload_n 2, 1) := by decide +kernel
theorem d_Mo_wideCode_48 : decode b_Mo_wideCode 48 = .ok (.iconst 1, 1) := by decide +kernel
theorem d_Mo_wideCode_49 : decode b_Mo_wideCode 49 = .ok (.ishl, 1) := by decide +kernel
theorem d_Mo_wideCode_50 : decode b_Mo_wideCode 50 = .ok (.aload_n 0, 1) := by decide +kernel
theorem d_Mo_wideCode_51 : decode b_Mo_wideCode 51 = .ok (.getfield 116, 3) := by decide +kernel
theorem d_Mo_wideCode_54 : decode b_Mo_wideCode 54 = .ok (.aload_n 0, 1) := by decide +kernel
theorem d_Mo_wideCode_55 : decode b_Mo_wideCode 55 = .ok (.getfield 109, 3) := by decide +kernel
theorem d_Mo_wideCode_58 : decode b_Mo_wideCode 58 = .ok (.ishr, 1) := by decide +kernel
theorem d_Mo_wideCode_59 : decode b_Mo_wideCode 59 = .ok (.iconst 1, 1) := by decide +kernel
theorem d_Mo_wideCode_60 : decode b_Mo_wideCode 60 = .ok (.iand, 1) := by decide +kernel
theorem d_Mo_wideCode_61 : decode b_Mo_wideCode 61 = .ok (.ior, 1) := by decide +kernel
theorem d_Mo_wideCode_62 : decode b_Mo_wideCode 62 = .ok (.istore_n 2, 1) := by decide +kernel
theorem d_Mo_wideCode_63 : decode b_Mo_wideCode 63 = .ok (.iinc 3 1, 3) := by decide +kernel
theorem d_Mo_wideCode_66 : decode b_Mo_wideCode 66 = .ok (.goto (-62), 3) := by decide +kernel
theorem d_Mo_wideCode_69 : decode b_Mo_wideCode 69 = .ok (.iload_n 2, 1) := by decide +kernel
theorem d_Mo_wideCode_70 : decode b_Mo_wideCode 70 = .ok (.ireturn, 1) := by decide +kernel
noncomputable def f_Mo_wideCode_B37 (K4 : mH → Nat → Int32 → Int32 → Int32 → Option (Int32 × mH)) (n0 : Nat) (h0 : mH) (a0 : Nat) (x1 : Int32) (x2 : Int32) (x3 : Int32) : Option (Int32 × mH) :=
  mgi h0 a0 10 19 fun v8 =>
  mpt h0 a0 10 19 (.int (v8 - 1)) fun h9 =>
  mgi h9 a0 10 18 fun v10 =>
  mgi h9 a0 10 19 fun v11 =>
  mnm ((x2 <<< (1 &&& 31)) ||| ((v10 >>> (v11 &&& 31)) &&& 1)) fun v12 =>
  mnm (x3 + 1) fun v13 =>
  K4 h9 a0 x1 v12 v13
noncomputable def f_Mo_wideCode_L4  (n0 : Nat) : Nat → mH → Nat → Int32 → Int32 → Int32 → Option (Int32 × mH)
  | 0, _, _, _, _, _ => none
  | n + 1, h0, a0, x1, x2, x3 =>
    if x1 ≤ x3 then
      some (x2, h0)
    else
      mis h0 a0 10 <|
      mcl (f_Mo_isGood n0 h0 a0) fun v3 h4 =>
      if v3 = 0 then
        some (x2, h4)
      else
        mgi h4 a0 10 19 fun v6 =>
        if v6 = 0 then
          mis h4 a0 10 <|
          mcl (f_Mo_next n0 h4 a0) fun v15 h16 =>
          mpt h16 a0 10 18 (.int v15) fun h17 =>
          mpt h17 a0 10 19 (.int 8) fun h18 =>
          f_Mo_wideCode_B37 (f_Mo_wideCode_L4 n0 n) n0 h18 a0 x1 x2 x3
        else
          f_Mo_wideCode_B37 (f_Mo_wideCode_L4 n0 n) n0 h4 a0 x1 x2 x3
noncomputable def f_Mo_wideCode  (n0 : Nat) (h0 : mH) (a0 : Nat) (x1 : Int32) : Option (Int32 × mH) :=
  f_Mo_wideCode_L4 n0 n0 h0 a0 x1 0 0
set_option maxHeartbeats 4000000 in
set_option maxRecDepth 100000 in
theorem cb_Mo_wideCode_B37 {X : mX} {ad : Nat → Nat} {ln : Launch} (O : mO X ad R_Mo b_Mo_wideCode 4 (mR 2 41) ln) (K4 : mH → Nat → Int32 → Int32 → Int32 → Option (Int32 × mH)) (r' : Int32) (h' : mH) (hE : mEnd X ad (some .int) (some (.int r')) h') (hK4 : ∀ (h : mH) (a0 : Nat) (x1 : Int32) (x2 : Int32) (x3 : Int32), K4 h a0 x1 x2 x3 = some (r', h') → mAW X ad 0 0 4 [(0, .ref a0), (1, .int x1), (2, .int x2), (3, .int x3)] [] h) (n0 : Nat) (h0 : mH) (a0 : Nat) (x1 : Int32) (x2 : Int32) (x3 : Int32) (hf : f_Mo_wideCode_B37 K4 n0 h0 a0 x1 x2 x3 = some (r', h')) : mAW X ad 0 0 37 [(0, .ref a0), (1, .int x1), (2, .int x2), (3, .int x3)] [] h0 := by
  unfold f_Mo_wideCode_B37 at hf
  refine ax_aload_n O d_Mo_wideCode_37 rfl 0 rfl ?_
  refine ax_dup O d_Mo_wideCode_38 rfl ?_
  obtain ⟨fv8, v8, cv8, kv8, hf⟩ := mgi_some hf
  refine ax_get O fg_Mo_109 cv8 kv8 d_Mo_wideCode_39 ?_
  refine ax_iconst (v := 1) O d_Mo_wideCode_42 (by decide) ?_
  refine ax_isub O d_Mo_wideCode_43 ?_
  obtain ⟨fh9, h9, ch9, kh9, eh9, hf⟩ := mpt_some hf
  refine ax_put (v := .int (v8 - 1)) O fp_Mo_109 ch9 kh9 eh9 rfl rfl d_Mo_wideCode_44 ?_
  refine ax_iload_n O d_Mo_wideCode_47 rfl 2 rfl ?_
  refine ax_iconst (v := 1) O d_Mo_wideCode_48 (by decide) ?_
  refine ax_ishl O d_Mo_wideCode_49 ?_
  refine ax_aload_n O d_Mo_wideCode_50 rfl 0 rfl ?_
  obtain ⟨fv10, v10, cv10, kv10, hf⟩ := mgi_some hf
  refine ax_get O fg_Mo_116 cv10 kv10 d_Mo_wideCode_51 ?_
  refine ax_aload_n O d_Mo_wideCode_54 rfl 0 rfl ?_
  obtain ⟨fv11, v11, cv11, kv11, hf⟩ := mgi_some hf
  refine ax_get O fg_Mo_109 cv11 kv11 d_Mo_wideCode_55 ?_
  refine ax_ishr O d_Mo_wideCode_58 ?_
  refine ax_iconst (v := 1) O d_Mo_wideCode_59 (by decide) ?_
  refine ax_iand O d_Mo_wideCode_60 ?_
  refine ax_ior O d_Mo_wideCode_61 ?_
  obtain ⟨v12, ev12, hf⟩ := mnm_some hf
  refine ax_nmi ev12 ?_
  refine ax_istore_n (lv' := [(2, .int v12), (0, .ref a0), (1, .int x1), (3, .int x3)]) O d_Mo_wideCode_62 rfl (by decide) rfl ?_
  obtain ⟨v13, ev13, hf⟩ := mnm_some hf
  refine ax_iinc (j := 3) (v := v13) (lv' := [(3, .int v13), (2, .int v12), (0, .ref a0), (1, .int x1)]) O d_Mo_wideCode_63 rfl (by rw [ev13]; rfl) (by decide) rfl ?_
  refine ax_goto (tgt := 4) O d_Mo_wideCode_66 (by decide) ?_
  refine ax_sub [2, 3, 1, 0] rfl ?_
  exact hK4 _ _ _ _ _ hf
set_option maxHeartbeats 4000000 in
set_option maxRecDepth 100000 in
theorem cb_Mo_wideCode_L4 {X : mX} {ad : Nat → Nat} {ln : Launch} (O : mO X ad R_Mo b_Mo_wideCode 4 (mR 2 41) ln) (r' : Int32) (h' : mH) (hE : mEnd X ad (some .int) (some (.int r')) h') (n0 : Nat) : ∀ (n : Nat) (h0 : mH) (a0 : Nat) (x1 : Int32) (x2 : Int32) (x3 : Int32), f_Mo_wideCode_L4 n0 n h0 a0 x1 x2 x3 = some (r', h') → mAW X ad 0 0 4 [(0, .ref a0), (1, .int x1), (2, .int x2), (3, .int x3)] [] h0 := by
  intro n
  induction n with
  | zero =>
    intro h0 a0 x1 x2 x3 hf
    rw [f_Mo_wideCode_L4.eq_1] at hf
    cases hf
  | succ n ih =>
    intro h0 a0 x1 x2 x3 hf
    rw [f_Mo_wideCode_L4.eq_2] at hf
    refine ax_iload_n O d_Mo_wideCode_4 rfl 3 rfl ?_
    refine ax_iload_n O d_Mo_wideCode_5 rfl 1 rfl ?_
    refine ax_icmp_ge (tgt := 69) O d_Mo_wideCode_6 (by decide) (fun q1 => ?_) (fun q1 => ?_)
    · rw [if_pos q1] at hf
      refine ax_iload_n O d_Mo_wideCode_69 rfl 2 rfl ?_
      exact ax_retE O hE hf rfl d_Mo_wideCode_70
    · rw [if_neg q1] at hf
      refine ax_aload_n O d_Mo_wideCode_9 rfl 0 rfl ?_
      obtain ⟨fh4, ch4, hf⟩ := mis_some hf
      obtain ⟨v3, h4, mh4, hf⟩ := mcl_some hf
      refine ax_callV (As := []) (rest := []) O cw_Mo_isGood (q := (R_Mo, T_Mo, 31)) rfl rfl in_Mo_isGood se_Mo_isGood lk_Mo_89 ch4 (c_Mo_isGood mh4) rfl ⟨rfl, rfl⟩ (by decide) (by decide) (Nat.le_of_ble_eq_true rfl) d_Mo_wideCode_10 ?_
      refine ax_if_eq (tgt := 69) O d_Mo_wideCode_13 (by decide) (fun q5 => ?_) (fun q5 => ?_)
      · rw [if_pos q5] at hf
        refine ax_iload_n O d_Mo_wideCode_69 rfl 2 rfl ?_
        exact ax_retE O hE hf rfl d_Mo_wideCode_70
      · rw [if_neg q5] at hf
        refine ax_aload_n O d_Mo_wideCode_16 rfl 0 rfl ?_
        obtain ⟨fv6, v6, cv6, kv6, hf⟩ := mgi_some hf
        refine ax_get O fg_Mo_109 cv6 kv6 d_Mo_wideCode_17 ?_
        refine ax_if_ne (tgt := 37) O d_Mo_wideCode_20 (by decide) (fun q7 => ?_) (fun q7 => ?_)
        · rw [if_neg q7] at hf
          exact cb_Mo_wideCode_B37 O (f_Mo_wideCode_L4 n0 n) _ _ hE ih n0 _ _ _ _ _ hf
        · rw [if_pos q7] at hf
          refine ax_aload_n O d_Mo_wideCode_23 rfl 0 rfl ?_
          refine ax_aload_n O d_Mo_wideCode_24 rfl 0 rfl ?_
          obtain ⟨fh16, ch16, hf⟩ := mis_some hf
          obtain ⟨v15, h16, mh16, hf⟩ := mcl_some hf
          refine ax_callV (As := []) (rest := [.ref a0]) O cw_Mo_next (q := (R_Mo, T_Mo, 31)) rfl rfl in_Mo_next se_Mo_next lk_Mo_112 ch16 (c_Mo_next mh16) rfl ⟨rfl, rfl⟩ (by decide) (by decide) (Nat.le_of_ble_eq_true rfl) d_Mo_wideCode_25 ?_
          obtain ⟨fh17, h17, ch17, kh17, eh17, hf⟩ := mpt_some hf
          refine ax_put (v := .int v15) O fp_Mo_116 ch17 kh17 eh17 rfl rfl d_Mo_wideCode_28 ?_
          refine ax_aload_n O d_Mo_wideCode_31 rfl 0 rfl ?_
          refine ax_bipush (v := 8) O d_Mo_wideCode_32 (by decide) ?_
          obtain ⟨fh18, h18, ch18, kh18, eh18, hf⟩ := mpt_some hf
          refine ax_put (v := .int 8) O fp_Mo_109 ch18 kh18 eh18 rfl rfl d_Mo_wideCode_34 ?_
          exact cb_Mo_wideCode_B37 O (f_Mo_wideCode_L4 n0 n) _ _ hE ih n0 _ _ _ _ _ hf
set_option maxHeartbeats 4000000 in
set_option maxRecDepth 100000 in
theorem cb_Mo_wideCode {X : mX} {ad : Nat → Nat} {ln : Launch} (O : mO X ad R_Mo b_Mo_wideCode 4 (mR 2 41) ln) (r' : Int32) (h' : mH) (hE : mEnd X ad (some .int) (some (.int r')) h') (n0 : Nat) (h0 : mH) (a0 : Nat) (x1 : Int32) (hf : f_Mo_wideCode n0 h0 a0 x1 = some (r', h')) : mAW X ad 0 0 0 [(0, .ref a0), (1, .int x1)] [] h0 := by
  unfold f_Mo_wideCode at hf
  refine ax_iconst (v := 0) O d_Mo_wideCode_0 (by decide) ?_
  refine ax_istore_n (lv' := [(2, .int 0), (0, .ref a0), (1, .int x1)]) O d_Mo_wideCode_1 rfl (by decide) rfl ?_
  refine ax_iconst (v := 0) O d_Mo_wideCode_2 (by decide) ?_
  refine ax_istore_n (lv' := [(3, .int 0), (2, .int 0), (0, .ref a0), (1, .int x1)]) O d_Mo_wideCode_3 rfl (by decide) rfl ?_
  refine ax_sub [2, 3, 1, 0] rfl ?_
  exact cb_Mo_wideCode_L4 O _ _ hE n0 n0 _ _ _ _ _ hf
theorem c_Mo_wideCode {ln : Launch} {n0 : Nat} {h0 h' : mH} {a0 : Nat} {x1 : Int32} {r' : Int32} (hf : f_Mo_wideCode n0 h0 a0 x1 = some (r', h')) : mMet ln y_Mo_wideCode b_Mo_wideCode 4 (some .int) (mR 2 41) [.ref a0, .int x1] h0 (some (.int r')) h' := mMet_of (by decide +kernel) (Nat.le_of_ble_eq_true rfl) (fun X ad O hE => cb_Mo_wideCode O r' h' hE n0 h0 a0 x1 hf)
/-! ===== StreamFiltersModel.firstOf(I)I ===== -/
theorem d_Mo_firstOf_0 : decode b_Mo_firstOf 0 = .ok (.iload_n 1, 1) := by decide +kernel
theorem d_Mo_firstOf_1 : decode b_Mo_firstOf 1 = .ok (.istore_n 2, 1) := by decide +kernel
theorem d_Mo_firstOf_2 : decode b_Mo_firstOf 2 = .ok (.iload_n 2, 1) := by decide +kernel
theorem d_Mo_firstOf_3 : decode b_Mo_firstOf 3 = .ok (.sipush 257, 3) := by decide +kernel
theorem d_Mo_firstOf_6 : decode b_Mo_firstOf 6 = .ok (.if_icmp .le 13, 3) := by decide +kernel
theorem d_Mo_firstOf_9 : decode b_Mo_firstOf 9 = .ok (.aload_n 0, 1) := by decide +kernel
theorem d_Mo_firstOf_10 : decode b_Mo_firstOf 10 = .ok (.getfield 48, 3) := by decide +kernel
theorem d_Mo_firstOf_13 : decode b_Mo_firstOf 13 = .ok (.iload_n 2, 1) := by decide +kernel
theorem d_Mo_firstOf_14 : decode b_Mo_firstOf 14 = .ok (.iaload, 1) := by decide +kernel
theorem d_Mo_firstOf_15 : decode b_Mo_firstOf 15 = .ok (.istore_n 2, 1) := by decide +kernel
theorem d_Mo_firstOf_16 : decode b_Mo_firstOf 16 = .ok (.goto (-14), 3) := by decide +kernel
theorem d_Mo_firstOf_19 : decode b_Mo_firstOf 19 = .ok (.iload_n 2, 1) := by decide +kernel
theorem d_Mo_firstOf_20 : decode b_Mo_firstOf 20 = .ok (.ireturn, 1) := by decide +kernel
noncomputable def f_Mo_firstOf_L2  (n0 : Nat) : Nat → mH → Nat → Int32 → Option (Int32 × mH)
  | 0, _, _, _ => none
  | n + 1, h0, a0, x2 =>
    if x2 ≤ 257 then
      some (x2, h0)
    else
      mgr h0 a0 10 22 fun r2 =>
      mai h0 r2 .int x2 fun v3 =>
      (f_Mo_firstOf_L2 n0 n) h0 a0 v3
noncomputable def f_Mo_firstOf  (n0 : Nat) (h0 : mH) (a0 : Nat) (x1 : Int32) : Option (Int32 × mH) :=
  f_Mo_firstOf_L2 n0 n0 h0 a0 x1
set_option maxHeartbeats 4000000 in
set_option maxRecDepth 100000 in
theorem cb_Mo_firstOf_L2 {X : mX} {ad : Nat → Nat} {ln : Launch} (O : mO X ad R_Mo b_Mo_firstOf 3 (mR 0 0) ln) (r' : Int32) (h' : mH) (hE : mEnd X ad (some .int) (some (.int r')) h') (n0 : Nat) : ∀ (n : Nat) (h0 : mH) (a0 : Nat) (x2 : Int32), f_Mo_firstOf_L2 n0 n h0 a0 x2 = some (r', h') → mAW X ad 0 0 2 [(0, .ref a0), (2, .int x2)] [] h0 := by
  intro n
  induction n with
  | zero =>
    intro h0 a0 x2 hf
    rw [f_Mo_firstOf_L2.eq_1] at hf
    cases hf
  | succ n ih =>
    intro h0 a0 x2 hf
    rw [f_Mo_firstOf_L2.eq_2] at hf
    refine ax_iload_n O d_Mo_firstOf_2 rfl 1 rfl ?_
    refine ax_sipush (v := 257) O d_Mo_firstOf_3 (by decide) ?_
    refine ax_icmp_le (tgt := 19) O d_Mo_firstOf_6 (by decide) (fun q1 => ?_) (fun q1 => ?_)
    · rw [if_pos q1] at hf
      refine ax_iload_n O d_Mo_firstOf_19 rfl 1 rfl ?_
      exact ax_retE O hE hf rfl d_Mo_firstOf_20
    · rw [if_neg q1] at hf
      refine ax_aload_n O d_Mo_firstOf_9 rfl 0 rfl ?_
      obtain ⟨fr2, r2, cr2, kr2, hf⟩ := mgr_some hf
      refine ax_get O fg_Mo_48 cr2 kr2 d_Mo_firstOf_10 ?_
      refine ax_iload_n O d_Mo_firstOf_13 rfl 1 rfl ?_
      obtain ⟨nv3, fv3, v3, cv3, iv3, kv3, hf⟩ := mai_some hf
      refine ax_iald O cv3 iv3 kv3 d_Mo_firstOf_14 ?_
      refine ax_istore_n (lv' := [(2, .int v3), (0, .ref a0)]) O d_Mo_firstOf_15 rfl (by decide) rfl ?_
      refine ax_goto (tgt := 2) O d_Mo_firstOf_16 (by decide) ?_
      refine ax_sub [1, 0] rfl ?_
      exact ih _ _ _ hf
set_option maxHeartbeats 4000000 in
set_option maxRecDepth 100000 in
theorem cb_Mo_firstOf {X : mX} {ad : Nat → Nat} {ln : Launch} (O : mO X ad R_Mo b_Mo_firstOf 3 (mR 0 0) ln) (r' : Int32) (h' : mH) (hE : mEnd X ad (some .int) (some (.int r')) h') (n0 : Nat) (h0 : mH) (a0 : Nat) (x1 : Int32) (hf : f_Mo_firstOf n0 h0 a0 x1 = some (r', h')) : mAW X ad 0 0 0 [(0, .ref a0), (1, .int x1)] [] h0 := by
  unfold f_Mo_firstOf at hf
  refine ax_iload_n O d_Mo_firstOf_0 rfl 1 rfl ?_
  refine ax_istore_n (lv' := [(2, .int x1), (0, .ref a0), (1, .int x1)]) O d_Mo_firstOf_1 rfl (by decide) rfl ?_
  refine ax_sub [1, 0] rfl ?_
  exact cb_Mo_firstOf_L2 O _ _ hE n0 n0 _ _ _ hf
theorem c_Mo_firstOf {ln : Launch} {n0 : Nat} {h0 h' : mH} {a0 : Nat} {x1 : Int32} {r' : Int32} (hf : f_Mo_firstOf n0 h0 a0 x1 = some (r', h')) : mMet ln y_Mo_firstOf b_Mo_firstOf 3 (some .int) (mR 0 0) [.ref a0, .int x1] h0 (some (.int r')) h' := mMet_of (by decide +kernel) (Nat.le_of_ble_eq_true rfl) (fun X ad O hE => cb_Mo_firstOf O r' h' hE n0 h0 a0 x1 hf)
/-! ===== StreamFiltersModel.byteOf(II)I ===== -/
theorem d_Mo_byteOf_0 : decode b_Mo_byteOf 0 = .ok (.iload_n 1, 1) := by decide +kernel
theorem d_Mo_byteOf_1 : decode b_Mo_byteOf 1 = .ok (.istore_n 3, 1) := by decide +kernel
theorem d_Mo_byteOf_2 : decode b_Mo_byteOf 2 = .ok (.iload_n 3, 1) := by decide +kernel
theorem d_Mo_byteOf_3 : decode b_Mo_byteOf 3 = .ok (.sipush 257, 3) := by decide +kernel
theorem d_Mo_byteOf_6 : decode b_Mo_byteOf 6 = .ok (.if_icmp .le 25, 3) := by decide +kernel
theorem d_Mo_byteOf_9 : decode b_Mo_byteOf 9 = .ok (.aload_n 0, 1) := by decide +kernel
theorem d_Mo_byteOf_10 : decode b_Mo_byteOf 10 = .ok (.getfield 54, 3) := by decide +kernel
theorem d_Mo_byteOf_13 : decode b_Mo_byteOf 13 = .ok (.iload_n 3, 1) := by decide +kernel
theorem d_Mo_byteOf_14 : decode b_Mo_byteOf 14 = .ok (.iaload, 1) := by decide +kernel
theorem d_Mo_byteOf_15 : decode b_Mo_byteOf 15 = .ok (.iload_n 2, 1) := by decide +kernel
theorem d_Mo_byteOf_16 : decode b_Mo_byteOf 16 = .ok (.iconst 1, 1) := by decide +kernel
theorem d_Mo_byteOf_17 : decode b_Mo_byteOf 17 = .ok (.iadd, 1) := by decide +kernel
theorem d_Mo_byteOf_18 : decode b_Mo_byteOf 18 = .ok (.if_icmp .le 13, 3) := by decide +kernel
theorem d_Mo_byteOf_21 : decode b_Mo_byteOf 21 = .ok (.aload_n 0, 1) := by decide +kernel
theorem d_Mo_byteOf_22 : decode b_Mo_byteOf 22 = .ok (.getfield 48, 3) := by decide +kernel
theorem d_Mo_byteOf_25 : decode b_Mo_byteOf 25 = .ok (.iload_n 3, 1) := by decide +kernel
theorem d_Mo_byteOf_26 : decode b_Mo_byteOf 26 = .ok (.iaload, 1) := by decide +kernel
theorem d_Mo_byteOf_27 : decode b_Mo_byteOf 27 = .ok (.istore_n 3, 1) := by decide +kernel
theorem d_Mo_byteOf_28 : decode b_Mo_byteOf 28 = .ok (.goto (-26), 3) := by decide +kernel
theorem d_Mo_byteOf_31 : decode b_Mo_byteOf 31 = .ok (.iload_n 3, 1) := by decide +kernel
theorem d_Mo_byteOf_32 : decode b_Mo_byteOf 32 = .ok (.sipush 257, 3) := by decide +kernel
theorem d_Mo_byteOf_35 : decode b_Mo_byteOf 35 = .ok (.if_icmp .le 12, 3) := by decide +kernel
theorem d_Mo_byteOf_38 : decode b_Mo_byteOf 38 = .ok (.aload_n 0, 1) := by decide +kernel
theorem d_Mo_byteOf_39 : decode b_Mo_byteOf 39 = .ok (.getfield 51, 3) := by decide +kernel
theorem d_Mo_byteOf_42 : decode b_Mo_byteOf 42 = .ok (.iload_n 3, 1) := by decide +kernel
theorem d_Mo_byteOf_43 : decode b_Mo_byteOf 43 = .ok (.iaload, 1) := by decide +kernel
theorem d_Mo_byteOf_44 : decode b_Mo_byteOf 44 = .ok (.goto 4, 3) := by decide +kernel
theorem d_Mo_byteOf_47 : decode b_Mo_byteOf 47 = .ok (.iload_n 3, 1) := by decide +kernel
theorem d_Mo_byteOf_48 : decode b_Mo_byteOf 48 = .ok (.ireturn, 1) := by decide +kernel
noncomputable def f_Mo_byteOf_B31  (n0 : Nat) (h0 : mH) (a0 : Nat) (x3 : Int32) : Option (Int32 × mH) :=
  if x3 ≤ 257 then
    some (x3, h0)
  else
    mgr h0 a0 10 23 fun r3 =>
    mai h0 r3 .int x3 fun v4 =>
    some (v4, h0)
noncomputable def f_Mo_byteOf_L2  (n0 : Nat) : Nat → mH → Nat → Int32 → Int32 → Option (Int32 × mH)
  | 0, _, _, _, _ => none
  | n + 1, h0, a0, x2, x3 =>
    if x3 ≤ 257 then
      f_Mo_byteOf_B31 n0 h0 a0 x3
    else
      mgr h0 a0 10 24 fun r5 =>
      mai h0 r5 .int x3 fun v6 =>
      if v6 ≤ (x2 + 1) then
        f_Mo_byteOf_B31 n0 h0 a0 x3
      else
        mgr h0 a0 10 22 fun r8 =>
        mai h0 r8 .int x3 fun v9 =>
        (f_Mo_byteOf_L2 n0 n) h0 a0 x2 v9
noncomputable def f_Mo_byteOf  (n0 : Nat) (h0 : mH) (a0 : Nat) (x1 : Int32) (x2 : Int32) : Option (Int32 × mH) :=
  f_Mo_byteOf_L2 n0 n0 h0 a0 x2 x1
set_option maxHeartbeats 4000000 in
set_option maxRecDepth 100000 in
theorem cb_Mo_byteOf_B31 {X : mX} {ad : Nat → Nat} {ln : Launch} (O : mO X ad R_Mo b_Mo_byteOf 4 (mR 0 0) ln) (r' : Int32) (h' : mH) (hE : mEnd X ad (some .int) (some (.int r')) h') (n0 : Nat) (h0 : mH) (a0 : Nat) (x3 : Int32) (hf : f_Mo_byteOf_B31 n0 h0 a0 x3 = some (r', h')) : mAW X ad 0 0 31 [(0, .ref a0), (3, .int x3)] [] h0 := by
  unfold f_Mo_byteOf_B31 at hf
  refine ax_iload_n O d_Mo_byteOf_31 rfl 1 rfl ?_
  refine ax_sipush (v := 257) O d_Mo_byteOf_32 (by decide) ?_
  refine ax_icmp_le (tgt := 47) O d_Mo_byteOf_35 (by decide) (fun q2 => ?_) (fun q2 => ?_)
  · rw [if_pos q2] at hf
    refine ax_iload_n O d_Mo_byteOf_47 rfl 1 rfl ?_
    exact ax_retE O hE hf rfl d_Mo_byteOf_48
  · rw [if_neg q2] at hf
    refine ax_aload_n O d_Mo_byteOf_38 rfl 0 rfl ?_
    obtain ⟨fr3, r3, cr3, kr3, hf⟩ := mgr_some hf
    refine ax_get O fg_Mo_51 cr3 kr3 d_Mo_byteOf_39 ?_
    refine ax_iload_n O d_Mo_byteOf_42 rfl 1 rfl ?_
    obtain ⟨nv4, fv4, v4, cv4, iv4, kv4, hf⟩ := mai_some hf
    refine ax_iald O cv4 iv4 kv4 d_Mo_byteOf_43 ?_
    refine ax_goto (tgt := 48) O d_Mo_byteOf_44 (by decide) ?_
    exact ax_retE O hE hf rfl d_Mo_byteOf_48
set_option maxHeartbeats 4000000 in
set_option maxRecDepth 100000 in
theorem cb_Mo_byteOf_L2 {X : mX} {ad : Nat → Nat} {ln : Launch} (O : mO X ad R_Mo b_Mo_byteOf 4 (mR 0 0) ln) (r' : Int32) (h' : mH) (hE : mEnd X ad (some .int) (some (.int r')) h') (n0 : Nat) : ∀ (n : Nat) (h0 : mH) (a0 : Nat) (x2 : Int32) (x3 : Int32), f_Mo_byteOf_L2 n0 n h0 a0 x2 x3 = some (r', h') → mAW X ad 0 0 2 [(0, .ref a0), (2, .int x2), (3, .int x3)] [] h0 := by
  intro n
  induction n with
  | zero =>
    intro h0 a0 x2 x3 hf
    rw [f_Mo_byteOf_L2.eq_1] at hf
    cases hf
  | succ n ih =>
    intro h0 a0 x2 x3 hf
    rw [f_Mo_byteOf_L2.eq_2] at hf
    refine ax_iload_n O d_Mo_byteOf_2 rfl 2 rfl ?_
    refine ax_sipush (v := 257) O d_Mo_byteOf_3 (by decide) ?_
    refine ax_icmp_le (tgt := 31) O d_Mo_byteOf_6 (by decide) (fun q1 => ?_) (fun q1 => ?_)
    · rw [if_pos q1] at hf
      refine ax_sub [0, 2] rfl ?_
      exact cb_Mo_byteOf_B31 O _ _ hE n0 _ _ _ hf
    · rw [if_neg q1] at hf
      refine ax_aload_n O d_Mo_byteOf_9 rfl 0 rfl ?_
      obtain ⟨fr5, r5, cr5, kr5, hf⟩ := mgr_some hf
      refine ax_get O fg_Mo_54 cr5 kr5 d_Mo_byteOf_10 ?_
      refine ax_iload_n O d_Mo_byteOf_13 rfl 2 rfl ?_
      obtain ⟨nv6, fv6, v6, cv6, iv6, kv6, hf⟩ := mai_some hf
      refine ax_iald O cv6 iv6 kv6 d_Mo_byteOf_14 ?_
      refine ax_iload_n O d_Mo_byteOf_15 rfl 1 rfl ?_
      refine ax_iconst (v := 1) O d_Mo_byteOf_16 (by decide) ?_
      refine ax_iadd O d_Mo_byteOf_17 ?_
      refine ax_icmp_le (tgt := 31) O d_Mo_byteOf_18 (by decide) (fun q7 => ?_) (fun q7 => ?_)
      · rw [if_pos q7] at hf
        refine ax_sub [0, 2] rfl ?_
        exact cb_Mo_byteOf_B31 O _ _ hE n0 _ _ _ hf
      · rw [if_neg q7] at hf
        refine ax_aload_n O d_Mo_byteOf_21 rfl 0 rfl ?_
        obtain ⟨fr8, r8, cr8, kr8, hf⟩ := mgr_some hf
        refine ax_get O fg_Mo_48 cr8 kr8 d_Mo_byteOf_22 ?_
        refine ax_iload_n O d_Mo_byteOf_25 rfl 2 rfl ?_
        obtain ⟨nv9, fv9, v9, cv9, iv9, kv9, hf⟩ := mai_some hf
        refine ax_iald O cv9 iv9 kv9 d_Mo_byteOf_26 ?_
        refine ax_istore_n (lv' := [(3, .int v9), (0, .ref a0), (2, .int x2)]) O d_Mo_byteOf_27 rfl (by decide) rfl ?_
        refine ax_goto (tgt := 2) O d_Mo_byteOf_28 (by decide) ?_
        refine ax_sub [1, 2, 0] rfl ?_
        exact ih _ _ _ _ hf
set_option maxHeartbeats 4000000 in
set_option maxRecDepth 100000 in
theorem cb_Mo_byteOf {X : mX} {ad : Nat → Nat} {ln : Launch} (O : mO X ad R_Mo b_Mo_byteOf 4 (mR 0 0) ln) (r' : Int32) (h' : mH) (hE : mEnd X ad (some .int) (some (.int r')) h') (n0 : Nat) (h0 : mH) (a0 : Nat) (x1 : Int32) (x2 : Int32) (hf : f_Mo_byteOf n0 h0 a0 x1 x2 = some (r', h')) : mAW X ad 0 0 0 [(0, .ref a0), (1, .int x1), (2, .int x2)] [] h0 := by
  unfold f_Mo_byteOf at hf
  refine ax_iload_n O d_Mo_byteOf_0 rfl 1 rfl ?_
  refine ax_istore_n (lv' := [(3, .int x1), (0, .ref a0), (1, .int x1), (2, .int x2)]) O d_Mo_byteOf_1 rfl (by decide) rfl ?_
  refine ax_sub [1, 3, 0] rfl ?_
  exact cb_Mo_byteOf_L2 O _ _ hE n0 n0 _ _ _ _ hf
theorem c_Mo_byteOf {ln : Launch} {n0 : Nat} {h0 h' : mH} {a0 : Nat} {x1 : Int32} {x2 : Int32} {r' : Int32} (hf : f_Mo_byteOf n0 h0 a0 x1 x2 = some (r', h')) : mMet ln y_Mo_byteOf b_Mo_byteOf 4 (some .int) (mR 0 0) [.ref a0, .int x1, .int x2] h0 (some (.int r')) h' := mMet_of (by decide +kernel) (Nat.le_of_ble_eq_true rfl) (fun X ad O hE => cb_Mo_byteOf O r' h' hE n0 h0 a0 x1 x2 hf)
/-! ===== StreamFiltersModel.widthOf(I)I ===== -/
theorem d_Mo_widthOf_0 : decode b_Mo_widthOf 0 = .ok (.iload_n 0, 1) := by decide +kernel
theorem d_Mo_widthOf_1 : decode b_Mo_widthOf 1 = .ok (.sipush 2048, 3) := by decide +kernel
theorem d_Mo_widthOf_4 : decode b_Mo_widthOf 4 = .ok (.if_icmp .lt 8, 3) := by decide +kernel
theorem d_Mo_widthOf_7 : decode b_Mo_widthOf 7 = .ok (.bipush 12, 2) := by decide +kernel
theorem d_Mo_widthOf_9 : decode b_Mo_widthOf 9 = .ok (.goto 29, 3) := by decide +kernel
theorem d_Mo_widthOf_12 : decode b_Mo_widthOf 12 = .ok (.iload_n 0, 1) := by decide +kernel
theorem d_Mo_widthOf_13 : decode b_Mo_widthOf 13 = .ok (.sipush 1024, 3) := by decide +kernel
theorem d_Mo_widthOf_16 : decode b_Mo_widthOf 16 = .ok (.if_icmp .lt 8, 3) := by decide +kernel
theorem d_Mo_widthOf_19 : decode b_Mo_widthOf 19 = .ok (.bipush 11, 2) := by decide +kernel
theorem d_Mo_widthOf_21 : decode b_Mo_widthOf 21 = .ok (.goto 17, 3) := by decide +kernel
theorem d_Mo_widthOf_24 : decode b_Mo_widthOf 24 = .ok (.iload_n 0, 1) := by decide +kernel
theorem d_Mo_widthOf_25 : decode b_Mo_widthOf 25 = .ok (.sipush 512, 3) := by decide +kernel
theorem d_Mo_widthOf_28 : decode b_Mo_widthOf 28 = .ok (.if_icmp .lt 8, 3) := by decide +kernel
theorem d_Mo_widthOf_31 : decode b_Mo_widthOf 31 = .ok (.bipush 10, 2) := by decide +kernel
theorem d_Mo_widthOf_33 : decode b_Mo_widthOf 33 = .ok (.goto 5, 3) := by decide +kernel
theorem d_Mo_widthOf_36 : decode b_Mo_widthOf 36 = .ok (.bipush 9, 2) := by decide +kernel
theorem d_Mo_widthOf_38 : decode b_Mo_widthOf 38 = .ok (.ireturn, 1) := by decide +kernel
noncomputable def f_Mo_widthOf  (n0 : Nat) (h0 : mH) (x0 : Int32) : Option (Int32 × mH) :=
  if x0 < 2048 then
    if x0 < 1024 then
      if x0 < 512 then
        some (9, h0)
      else
        some (10, h0)
    else
      some (11, h0)
  else
    some (12, h0)
set_option maxHeartbeats 4000000 in
set_option maxRecDepth 100000 in
theorem cb_Mo_widthOf {X : mX} {ad : Nat → Nat} {ln : Launch} (O : mO X ad R_Mo b_Mo_widthOf 1 (mR 0 0) ln) (r' : Int32) (h' : mH) (hE : mEnd X ad (some .int) (some (.int r')) h') (n0 : Nat) (h0 : mH) (x0 : Int32) (hf : f_Mo_widthOf n0 h0 x0 = some (r', h')) : mAW X ad 0 0 0 [(0, .int x0)] [] h0 := by
  unfold f_Mo_widthOf at hf
  refine ax_iload_n O d_Mo_widthOf_0 rfl 0 rfl ?_
  refine ax_sipush (v := 2048) O d_Mo_widthOf_1 (by decide) ?_
  refine ax_icmp_lt (tgt := 12) O d_Mo_widthOf_4 (by decide) (fun q1 => ?_) (fun q1 => ?_)
  · rw [if_pos q1] at hf
    refine ax_iload_n O d_Mo_widthOf_12 rfl 0 rfl ?_
    refine ax_sipush (v := 1024) O d_Mo_widthOf_13 (by decide) ?_
    refine ax_icmp_lt (tgt := 24) O d_Mo_widthOf_16 (by decide) (fun q2 => ?_) (fun q2 => ?_)
    · rw [if_pos q2] at hf
      refine ax_iload_n O d_Mo_widthOf_24 rfl 0 rfl ?_
      refine ax_sipush (v := 512) O d_Mo_widthOf_25 (by decide) ?_
      refine ax_icmp_lt (tgt := 36) O d_Mo_widthOf_28 (by decide) (fun q3 => ?_) (fun q3 => ?_)
      · rw [if_pos q3] at hf
        refine ax_bipush (v := 9) O d_Mo_widthOf_36 (by decide) ?_
        exact ax_retE O hE hf rfl d_Mo_widthOf_38
      · rw [if_neg q3] at hf
        refine ax_bipush (v := 10) O d_Mo_widthOf_31 (by decide) ?_
        refine ax_goto (tgt := 38) O d_Mo_widthOf_33 (by decide) ?_
        exact ax_retE O hE hf rfl d_Mo_widthOf_38
    · rw [if_neg q2] at hf
      refine ax_bipush (v := 11) O d_Mo_widthOf_19 (by decide) ?_
      refine ax_goto (tgt := 38) O d_Mo_widthOf_21 (by decide) ?_
      exact ax_retE O hE hf rfl d_Mo_widthOf_38
  · rw [if_neg q1] at hf
    refine ax_bipush (v := 12) O d_Mo_widthOf_7 (by decide) ?_
    refine ax_goto (tgt := 38) O d_Mo_widthOf_9 (by decide) ?_
    exact ax_retE O hE hf rfl d_Mo_widthOf_38
theorem c_Mo_widthOf {ln : Launch} {n0 : Nat} {h0 h' : mH} {x0 : Int32} {r' : Int32} (hf : f_Mo_widthOf n0 h0 x0 = some (r', h')) : mMet ln y_Mo_widthOf b_Mo_widthOf 1 (some .int) (mR 0 0) [.int x0] h0 (some (.int r')) h' := mMet_of (by decide +kernel) (Nat.le_of_ble_eq_true rfl) (fun X ad O hE => cb_Mo_widthOf O r' h' hE n0 h0 x0 hf)
/-! ===== StreamFiltersModel.lzw(I)V ===== -/
theorem d_Mo_lzw_0 : decode b_Mo_lzw 0 = .ok (.sipush 258, 3) := by decide +kernel
theorem d_Mo_lzw_3 : decode b_Mo_lzw 3 = .ok (.istore_n 2, 1) := by decide +kernel
theorem d_Mo_lzw_4 : decode b_Mo_lzw 4 = .ok (.iconst (-1), 1) := by decide +kernel
theorem d_Mo_lzw_5 : decode b_Mo_lzw 5 = .ok (.istore_n 3, 1) := by decide +kernel
theorem d_Mo_lzw_6 : decode b_Mo_lzw 6 = .ok (.iconst 1, 1) := by decide +kernel
theorem d_Mo_lzw_7 : decode b_Mo_lzw 7 = .ok (.istore 4, 2) := by decide +kernel
theorem d_Mo_lzw_9 : decode b_Mo_lzw 9 = .ok (.iload 4, 2) := by decide +kernel
theorem d_Mo_lzw_11 : decode b_Mo_lzw 11 = .ok (.ifCond .eq 248, 3) := by decide +kernel
theorem d_Mo_lzw_14 : decode b_Mo_lzw 14 = .ok (.aload_n 0, 1) := by decide +kernel
theorem d_Mo_lzw_15 : decode b_Mo_lzw 15 = .ok (.invokevirtual 89, 3) := by decide +kernel
theorem d_Mo_lzw_18 : decode b_Mo_lzw 18 = .ok (.ifCond .eq 241, 3) := by decide +kernel
theorem d_Mo_lzw_21 : decode b_Mo_lzw 21 = .ok (.aload_n 0, 1) := by decide +kernel
theorem d_Mo_lzw_22 : decode b_Mo_lzw 22 = .ok (.iload_n 2, 1) := by decide +kernel
theorem d_Mo_lzw_23 : decode b_Mo_lzw 23 = .ok (.iload_n 1, 1) := by decide +kernel
theorem d_Mo_lzw_24 : decode b_Mo_lzw 24 = .ok (.iadd, 1) := by decide +kernel
theorem d_Mo_lzw_25 : decode b_Mo_lzw 25 = .ok (.invokestatic 189, 3) := by decide +kernel
theorem d_Mo_lzw_28 : decode b_Mo_lzw 28 = .ok (.invokevirtual 192, 3) := by decide +kernel
theorem d_Mo_lzw_31 : decode b_Mo_lzw 31 = .ok (.istore 5, 2) := by decide +kernel
theorem d_Mo_lzw_33 : decode b_Mo_lzw 33 = .ok (.aload_n 0, 1) := by decide +kernel
theorem d_Mo_lzw_34 : decode b_Mo_lzw 34 = .ok (.invokevirtual 89, 3) := by decide +kernel
theorem d_Mo_lzw_37 : decode b_Mo_lzw 37 = .ok (.ifCond .eq 11, 3) := by decide +kernel
theorem d_Mo_lzw_40 : decode b_Mo_lzw 40 = .ok (.iload 5, 2) := by decide +kernel
theorem d_Mo_lzw_42 : decode b_Mo_lzw 42 = .ok (.sipush 257, 3) := by decide +kernel
theorem d_Mo_lzw_45 : decode b_Mo_lzw 45 = .ok (.if_icmp .ne 9, 3) := by decide +kernel
theorem d_Mo_lzw_48 : decode b_Mo_lzw 48 = .ok (.iconst 0, 1) := by decide +kernel
theorem d_Mo_lzw_49 : decode b_Mo_lzw 49 = .ok (.istore 4, 2) := by decide +kernel
theorem d_Mo_lzw_51 : decode b_Mo_lzw 51 = .ok (.goto 205, 3) := by decide +kernel
theorem d_Mo_lzw_54 : decode b_Mo_lzw 54 = .ok (.iload 5, 2) := by decide +kernel
theorem d_Mo_lzw_56 : decode b_Mo_lzw 56 = .ok (.sipush 256, 3) := by decide +kernel
theorem d_Mo_lzw_59 : decode b_Mo_lzw 59 = .ok (.if_icmp .ne 12, 3) := by decide +kernel
theorem d_Mo_lzw_62 : decode b_Mo_lzw 62 = .ok (.sipush 258, 3) := by decide +kernel
theorem d_Mo_lzw_65 : decode b_Mo_lzw 65 = .ok (.istore_n 2, 1) := by decide +kernel
theorem d_Mo_lzw_66 : decode b_Mo_lzw 66 = .ok (.iconst (-1), 1) := by decide +kernel
theorem d_Mo_lzw_67 : decode b_Mo_lzw 67 = .ok (.istore_n 3, 1) := by decide +kernel
theorem d_Mo_lzw_68 : decode b_Mo_lzw 68 = .ok (.goto 188, 3) := by decide +kernel
theorem d_Mo_lzw_71 : decode b_Mo_lzw 71 = .ok (.iload_n 3, 1) := by decide +kernel
theorem d_Mo_lzw_72 : decode b_Mo_lzw 72 = .ok (.ifCond .lt 14, 3) := by decide +kernel
theorem d_Mo_lzw_75 : decode b_Mo_lzw 75 = .ok (.iload_n 2, 1) := by decide +kernel
theorem d_Mo_lzw_76 : decode b_Mo_lzw 76 = .ok (.sipush 4095, 3) := by decide +kernel
theorem d_Mo_lzw_79 : decode b_Mo_lzw 79 = .ok (.if_icmp .gt 7, 3) := by decide +kernel
theorem d_Mo_lzw_82 : decode b_Mo_lzw 82 = .ok (.iconst 1, 1) := by decide +kernel
theorem d_Mo_lzw_83 : decode b_Mo_lzw 83 = .ok (.goto 4, 3) := by decide +kernel
theorem d_Mo_lzw_86 : decode b_Mo_lzw 86 = .ok (.iconst 0, 1) := by decide +kernel
theorem d_Mo_lzw_87 : decode b_Mo_lzw 87 = .ok (.istore 6, 2) := by decide +kernel
theorem d_Mo_lzw_89 : decode b_Mo_lzw 89 = .ok (.iload 5, 2) := by decide +kernel
theorem d_Mo_lzw_91 : decode b_Mo_lzw 91 = .ok (.sipush 256, 3) := by decide +kernel
theorem d_Mo_lzw_94 : decode b_Mo_lzw 94 = .ok (.if_icmp .lt 20, 3) := by decide +kernel
theorem d_Mo_lzw_97 : decode b_Mo_lzw 97 = .ok (.iload 5, 2) := by decide +kernel
theorem d_Mo_lzw_99 : decode b_Mo_lzw 99 = .ok (.iload_n 2, 1) := by decide +kernel
theorem d_Mo_lzw_100 : decode b_Mo_lzw 100 = .ok (.if_icmp .lt 14, 3) := by decide +kernel
theorem d_Mo_lzw_103 : decode b_Mo_lzw 103 = .ok (.iload 5, 2) := by decide +kernel
theorem d_Mo_lzw_105 : decode b_Mo_lzw 105 = .ok (.iload_n 2, 1) := by decide +kernel
theorem d_Mo_lzw_106 : decode b_Mo_lzw 106 = .ok (.if_icmp .ne 12, 3) := by decide +kernel
theorem d_Mo_lzw_109 : decode b_Mo_lzw 109 = .ok (.iload 6, 2) := by decide +kernel
theorem d_Mo_lzw_111 : decode b_Mo_lzw 111 = .ok (.ifCond .eq 7, 3) := by decide +kernel
theorem d_Mo_lzw_114 : decode b_Mo_lzw 114 = .ok (.iconst 1, 1) := by decide +kernel
theorem d_Mo_lzw_115 : decode b_Mo_lzw 115 = .ok (.goto 4, 3) := by decide +kernel
theorem d_Mo_lzw_118 : decode b_Mo_lzw 118 = .ok (.iconst 0, 1) := by decide +kernel
theorem d_Mo_lzw_119 : decode b_Mo_lzw 119 = .ok (.istore 7, 2) := by decide +kernel
theorem d_Mo_lzw_121 : decode b_Mo_lzw 121 = .ok (.iload 7, 2) := by decide +kernel
theorem d_Mo_lzw_123 : decode b_Mo_lzw 123 = .ok (.ifCond .ne 12, 3) := by decide +kernel
theorem d_Mo_lzw_126 : decode b_Mo_lzw 126 = .ok (.aload_n 0, 1) := by decide +kernel
theorem d_Mo_lzw_127 : decode b_Mo_lzw 127 = .ok (.bipush 10, 2) := by decide +kernel
theorem d_Mo_lzw_129 : decode b_Mo_lzw 129 = .ok (.invokevirtual 99, 3) := by decide +kernel
theorem d_Mo_lzw_132 : decode b_Mo_lzw 132 = .ok (.goto 124, 3) := by decide +kernel
theorem d_Mo_lzw_135 : decode b_Mo_lzw 135 = .ok (.iload 6, 2) := by decide +kernel
theorem d_Mo_lzw_137 : decode b_Mo_lzw 137 = .ok (.ifCond .eq 60, 3) := by decide +kernel
theorem d_Mo_lzw_140 : decode b_Mo_lzw 140 = .ok (.aload_n 0, 1) := by decide +kernel
theorem d_Mo_lzw_141 : decode b_Mo_lzw 141 = .ok (.getfield 48, 3) := by decide +kernel
theorem d_Mo_lzw_144 : decode b_Mo_lzw 144 = .ok (.iload_n 2, 1) := by decide +kernel
theorem d_Mo_lzw_145 : decode b_Mo_lzw 145 = .ok (.iload_n 3, 1) := by decide +kernel
theorem d_Mo_lzw_146 : decode b_Mo_lzw 146 = .ok (.iastore, 1) := by decide +kernel
theorem d_Mo_lzw_147 : decode b_Mo_lzw 147 = .ok (.aload_n 0, 1) := by decide +kernel
theorem d_Mo_lzw_148 : decode b_Mo_lzw 148 = .ok (.getfield 54, 3) := by decide +kernel
theorem d_Mo_lzw_151 : decode b_Mo_lzw 151 = .ok (.iload_n 2, 1) := by decide +kernel
theorem d_Mo_lzw_152 : decode b_Mo_lzw 152 = .ok (.iload_n 3, 1) := by decide +kernel
theorem d_Mo_lzw_153 : decode b_Mo_lzw 153 = .ok (.sipush 257, 3) := by decide +kernel
theorem d_Mo_lzw_156 : decode b_Mo_lzw 156 = .ok (.if_icmp .le 12, 3) := by decide +kernel
theorem d_Mo_lzw_159 : decode b_Mo_lzw 159 = .ok (.aload_n 0, 1) := by decide +kernel
theorem d_Mo_lzw_160 : decode b_Mo_lzw 160 = .ok (.getfield 54, 3) := by decide +kernel
theorem d_Mo_lzw_163 : decode b_Mo_lzw 163 = .ok (.iload_n 3, 1) := by decide +kernel
theorem d_Mo_lzw_164 : decode b_Mo_lzw 164 = .ok (.iaload, 1) := by decide +kernel
theorem d_Mo_lzw_165 : decode b_Mo_lzw 165 = .ok (.goto 4, 3) := by decide +kernel
theorem d_Mo_lzw_168 : decode b_Mo_lzw 168 = .ok (.iconst 1, 1) := by decide +kernel
theorem d_Mo_lzw_169 : decode b_Mo_lzw 169 = .ok (.iconst 1, 1) := by decide +kernel
theorem d_Mo_lzw_170 : decode b_Mo_lzw 170 = .ok (.iadd, 1) := by decide +kernel
theorem d_Mo_lzw_171 : decode b_Mo_lzw 171 = .ok (.iastore, 1) := by decide +kernel
theorem d_Mo_lzw_172 : decode b_Mo_lzw 172 = .ok (.aload_n 0, 1) := by decide +kernel
theorem d_Mo_lzw_173 : decode b_Mo_lzw 173 = .ok (.getfield 51, 3) := by decide +kernel
theorem d_Mo_lzw_176 : decode b_Mo_lzw 176 = .ok (.iload_n 2, 1) := by decide +kernel
theorem d_Mo_lzw_177 : decode b_Mo_lzw 177 = .ok (.aload_n 0, 1) := by decide +kernel
theorem d_Mo_lzw_178 : decode b_Mo_lzw 178 = .ok (.iload 5, 2) := by decide +kernel
theorem d_Mo_lzw_180 : decode b_Mo_lzw 180 = .ok (.iload_n 2, 1) := by decide +kernel
theorem d_Mo_lzw_181 : decode b_Mo_lzw 181 = .ok (.if_icmp .ne 7, 3) := by decide +kernel
theorem d_Mo_lzw_184 : decode b_Mo_lzw 184 = .ok (.iload_n 3, 1) := by decide +kernel
theorem d_Mo_lzw_185 : decode b_Mo_lzw 185 = .ok (.goto 5, 3) := by decide +kernel
theorem d_Mo_lzw_188 : decode b_Mo_lzw 188 = .ok (.iload 5, 2) := by decide +kernel
theorem d_Mo_lzw_190 : decode b_Mo_lzw 190 = .ok (.invokevirtual 195, 3) := by decide +kernel
theorem d_Mo_lzw_193 : decode b_Mo_lzw 193 = .ok (.iastore, 1) := by decide +kernel
theorem d_Mo_lzw_194 : decode b_Mo_lzw 194 = .ok (.iinc 2 1, 3) := by decide +kernel
theorem d_Mo_lzw_197 : decode b_Mo_lzw 197 = .ok (.iload 5, 2) := by decide +kernel
theorem d_Mo_lzw_199 : decode b_Mo_lzw 199 = .ok (.sipush 257, 3) := by decide +kernel
theorem d_Mo_lzw_202 : decode b_Mo_lzw 202 = .ok (.if_icmp .le 13, 3) := by decide +kernel
theorem d_Mo_lzw_205 : decode b_Mo_lzw 205 = .ok (.aload_n 0, 1) := by decide +kernel
theorem d_Mo_lzw_206 : decode b_Mo_lzw 206 = .ok (.getfield 54, 3) := by decide +kernel
theorem d_Mo_lzw_209 : decode b_Mo_lzw 209 = .ok (.iload 5, 2) := by decide +kernel
theorem d_Mo_lzw_211 : decode b_Mo_lzw 211 = .ok (.iaload, 1) := by decide +kernel
theorem d_Mo_lzw_212 : decode b_Mo_lzw 212 = .ok (.goto 4, 3) := by decide +kernel
theorem d_Mo_lzw_215 : decode b_Mo_lzw 215 = .ok (.iconst 1, 1) := by decide +kernel
theorem d_Mo_lzw_216 : decode b_Mo_lzw 216 = .ok (.istore 8, 2) := by decide +kernel
theorem d_Mo_lzw_218 : decode b_Mo_lzw 218 = .ok (.iconst 0, 1) := by decide +kernel
theorem d_Mo_lzw_219 : decode b_Mo_lzw 219 = .ok (.istore 9, 2) := by decide +kernel
theorem d_Mo_lzw_221 : decode b_Mo_lzw 221 = .ok (.iload 9, 2) := by decide +kernel
theorem d_Mo_lzw_223 : decode b_Mo_lzw 223 = .ok (.iload 8, 2) := by decide +kernel
theorem d_Mo_lzw_225 : decode b_Mo_lzw 225 = .ok (.if_icmp .ge 28, 3) := by decide +kernel
theorem d_Mo_lzw_228 : decode b_Mo_lzw 228 = .ok (.aload_n 0, 1) := by decide +kernel
theorem d_Mo_lzw_229 : decode b_Mo_lzw 229 = .ok (.invokevirtual 89, 3) := by decide +kernel
theorem d_Mo_lzw_232 : decode b_Mo_lzw 232 = .ok (.ifCond .eq 21, 3) := by decide +kernel
theorem d_Mo_lzw_235 : decode b_Mo_lzw 235 = .ok (.aload_n 0, 1) := by decide +kernel
theorem d_Mo_lzw_236 : decode b_Mo_lzw 236 = .ok (.aload_n 0, 1) := by decide +kernel
theorem d_Mo_lzw_237 : decode b_Mo_lzw 237 = .ok (.iload 5, 2) := by decide +kernel
theorem d_Mo_lzw_239 : decode b_Mo_lzw 239 = .ok (.iload 9, 2) := by decide +kernel
theorem d_Mo_lzw_241 : decode b_Mo_lzw 241 = .ok (.invokevirtual 198, 3) := by decide +kernel
theorem d_Mo_lzw_244 : decode b_Mo_lzw 244 = .ok (.invokevirtual 157, 3) := by decide +kernel
theorem d_Mo_lzw_247 : decode b_Mo_lzw 247 = .ok (.iinc 9 1, 3) := by decide +kernel
theorem d_Mo_lzw_250 : decode b_Mo_lzw 250 = .ok (.goto (-29), 3) := by decide +kernel
theorem d_Mo_lzw_253 : decode b_Mo_lzw 253 = .ok (.iload 5, 2) := by decide +kernel
theorem d_Mo_lzw_255 : decode b_Mo_lzw 255 = .ok (.istore_n 3, 1) := by decide +kernel
theorem d_Mo_lzw_256 : decode b_Mo_lzw 256 = .ok (.goto (-247), 3) := by decide +kernel
theorem d_Mo_lzw_259 : decode b_Mo_lzw 259 = .ok (.return_, 1) := by decide +kernel
noncomputable def f_Mo_lzw_B48 (K9 : mH → Nat → Int32 → Int32 → Int32 → Int32 → Option (Unit × mH)) (n0 : Nat) (h0 : mH) (a0 : Nat) (x1 : Int32) (x2 : Int32) (x3 : Int32) : Option (Unit × mH) :=
  K9 h0 a0 x1 x2 x3 0
noncomputable def f_Mo_lzw_L221 (K9 : mH → Nat → Int32 → Int32 → Int32 → Int32 → Option (Unit × mH)) (n0 : Nat) : Nat → mH → Nat → Int32 → Int32 → Int32 → Int32 → Int32 → Int32 → Option (Unit × mH)
  | 0, _, _, _, _, _, _, _, _ => none
  | n + 1, h0, a0, x1, x2, x4, x5, x8, x9 =>
    if x8 ≤ x9 then
      K9 h0 a0 x1 x2 x5 x4
    else
      mis h0 a0 10 <|
      mcl (f_Mo_isGood n0 h0 a0) fun v25 h26 =>
      if v25 = 0 then
        K9 h26 a0 x1 x2 x5 x4
      else
        mis h26 a0 10 <|
        mcl (f_Mo_byteOf n0 h26 a0 x5 x9) fun v29 h30 =>
        mis h30 a0 10 <|
        mcl (f_Mo_give n0 h30 a0 v29) fun _ h33 =>
        mnm (x9 + 1) fun v35 =>
        (f_Mo_lzw_L221 K9 n0 n) h33 a0 x1 x2 x4 x5 x8 v35
noncomputable def f_Mo_lzw_B216 (K9 : mH → Nat → Int32 → Int32 → Int32 → Int32 → Option (Unit × mH)) (n0 : Nat) (h0 : mH) (a0 : Nat) (x1 : Int32) (x2 : Int32) (x4 : Int32) (x5 : Int32) (p0 : Int32) : Option (Unit × mH) :=
  f_Mo_lzw_L221 K9 n0 n0 h0 a0 x1 x2 x4 x5 p0 0
noncomputable def f_Mo_lzw_B197 (K9 : mH → Nat → Int32 → Int32 → Int32 → Int32 → Option (Unit × mH)) (n0 : Nat) (h0 : mH) (a0 : Nat) (x1 : Int32) (x2 : Int32) (x4 : Int32) (x5 : Int32) : Option (Unit × mH) :=
  if x5 ≤ 257 then
    f_Mo_lzw_B216 K9 n0 h0 a0 x1 x2 x4 x5 1
  else
    mgr h0 a0 10 24 fun r36 =>
    mai h0 r36 .int x5 fun v37 =>
    f_Mo_lzw_B216 K9 n0 h0 a0 x1 x2 x4 x5 v37
noncomputable def f_Mo_lzw_B190 (K9 : mH → Nat → Int32 → Int32 → Int32 → Int32 → Option (Unit × mH)) (n0 : Nat) (h0 : mH) (a0 : Nat) (x1 : Int32) (x2 : Int32) (x4 : Int32) (x5 : Int32) (p0 : Int32) (b1 : Nat) (p2 : Int32) (b3 : Nat) : Option (Unit × mH) :=
  mis h0 b1 10 <|
  mcl (f_Mo_firstOf n0 h0 b1 p0) fun v46 h47 =>
  mas h47 b3 .int p2 v46 fun h48 =>
  mnm (x2 + 1) fun v49 =>
  f_Mo_lzw_B197 K9 n0 h48 a0 x1 v49 x4 x5
noncomputable def f_Mo_lzw_B169 (K9 : mH → Nat → Int32 → Int32 → Int32 → Int32 → Option (Unit × mH)) (n0 : Nat) (h0 : mH) (a0 : Nat) (x1 : Int32) (x2 : Int32) (x3 : Int32) (x4 : Int32) (x5 : Int32) (p0 : Int32) (p1 : Int32) (b2 : Nat) : Option (Unit × mH) :=
  mas h0 b2 .int p1 (p0 + 1) fun h42 =>
  mgr h42 a0 10 23 fun r43 =>
  if x5 = x2 then
    f_Mo_lzw_B190 K9 n0 h42 a0 x1 x2 x4 x5 x3 a0 x2 r43
  else
    f_Mo_lzw_B190 K9 n0 h42 a0 x1 x2 x4 x5 x5 a0 x2 r43
noncomputable def f_Mo_lzw_B119 (K9 : mH → Nat → Int32 → Int32 → Int32 → Int32 → Option (Unit × mH)) (n0 : Nat) (h0 : mH) (a0 : Nat) (x1 : Int32) (x2 : Int32) (x3 : Int32) (x4 : Int32) (x5 : Int32) (x6 : Int32) (p0 : Int32) : Option (Unit × mH) :=
  if p0 = 0 then
    mis h0 a0 10 <|
    mcl (f_Mo_fail n0 h0 a0 10) fun _ h54 =>
    K9 h54 a0 x1 x2 x3 x4
  else
    if x6 = 0 then
      f_Mo_lzw_B197 K9 n0 h0 a0 x1 x2 x4 x5
    else
      mgr h0 a0 10 22 fun r38 =>
      mas h0 r38 .int x2 x3 fun h39 =>
      mgr h39 a0 10 24 fun r40 =>
      if x3 ≤ 257 then
        f_Mo_lzw_B169 K9 n0 h39 a0 x1 x2 x3 x4 x5 1 x2 r40
      else
        mgr h39 a0 10 24 fun r50 =>
        mai h39 r50 .int x3 fun v51 =>
        f_Mo_lzw_B169 K9 n0 h39 a0 x1 x2 x3 x4 x5 v51 x2 r40
noncomputable def f_Mo_lzw_B114 (K9 : mH → Nat → Int32 → Int32 → Int32 → Int32 → Option (Unit × mH)) (n0 : Nat) (h0 : mH) (a0 : Nat) (x1 : Int32) (x2 : Int32) (x3 : Int32) (x4 : Int32) (x5 : Int32) (x6 : Int32) : Option (Unit × mH) :=
  f_Mo_lzw_B119 K9 n0 h0 a0 x1 x2 x3 x4 x5 x6 1
noncomputable def f_Mo_lzw_B118 (K9 : mH → Nat → Int32 → Int32 → Int32 → Int32 → Option (Unit × mH)) (n0 : Nat) (h0 : mH) (a0 : Nat) (x1 : Int32) (x2 : Int32) (x3 : Int32) (x4 : Int32) (x5 : Int32) (x6 : Int32) : Option (Unit × mH) :=
  f_Mo_lzw_B119 K9 n0 h0 a0 x1 x2 x3 x4 x5 x6 0
noncomputable def f_Mo_lzw_B87 (K9 : mH → Nat → Int32 → Int32 → Int32 → Int32 → Option (Unit × mH)) (n0 : Nat) (h0 : mH) (a0 : Nat) (x1 : Int32) (x2 : Int32) (x3 : Int32) (x4 : Int32) (x5 : Int32) (p0 : Int32) : Option (Unit × mH) :=
  if x5 < 256 then
    f_Mo_lzw_B114 K9 n0 h0 a0 x1 x2 x3 x4 x5 p0
  else
    if x5 < x2 then
      f_Mo_lzw_B114 K9 n0 h0 a0 x1 x2 x3 x4 x5 p0
    else
      if x5 = x2 then
        if p0 = 0 then
          f_Mo_lzw_B118 K9 n0 h0 a0 x1 x2 x3 x4 x5 p0
        else
          f_Mo_lzw_B114 K9 n0 h0 a0 x1 x2 x3 x4 x5 p0
      else
        f_Mo_lzw_B118 K9 n0 h0 a0 x1 x2 x3 x4 x5 p0
noncomputable def f_Mo_lzw_B86 (K9 : mH → Nat → Int32 → Int32 → Int32 → Int32 → Option (Unit × mH)) (n0 : Nat) (h0 : mH) (a0 : Nat) (x1 : Int32) (x2 : Int32) (x3 : Int32) (x4 : Int32) (x5 : Int32) : Option (Unit × mH) :=
  f_Mo_lzw_B87 K9 n0 h0 a0 x1 x2 x3 x4 x5 0
noncomputable def f_Mo_lzw_L9  (n0 : Nat) : Nat → mH → Nat → Int32 → Int32 → Int32 → Int32 → Option (Unit × mH)
  | 0, _, _, _, _, _, _ => none
  | n + 1, h0, a0, x1, x2, x3, x4 =>
    if x4 = 0 then
      some ((), h0)
    else
      mis h0 a0 10 <|
      mcl (f_Mo_isGood n0 h0 a0) fun v3 h4 =>
      if v3 = 0 then
        some ((), h4)
      else
        mcl (f_Mo_widthOf n0 h4 (x2 + x1)) fun v7 h8 =>
        mis h8 a0 10 <|
        mcl (f_Mo_wideCode n0 h8 a0 v7) fun v10 h11 =>
        mis h11 a0 10 <|
        mcl (f_Mo_isGood n0 h11 a0) fun v13 h14 =>
        if v13 = 0 then
          f_Mo_lzw_B48 (f_Mo_lzw_L9 n0 n) n0 h14 a0 x1 x2 x3
        else
          if v10 = 257 then
            f_Mo_lzw_B48 (f_Mo_lzw_L9 n0 n) n0 h14 a0 x1 x2 x3
          else
            if v10 = 256 then
              (f_Mo_lzw_L9 n0 n) h14 a0 x1 258 (-1) x4
            else
              if x3 < 0 then
                f_Mo_lzw_B86 (f_Mo_lzw_L9 n0 n) n0 h14 a0 x1 x2 x3 x4 v10
              else
                if 4095 < x2 then
                  f_Mo_lzw_B86 (f_Mo_lzw_L9 n0 n) n0 h14 a0 x1 x2 x3 x4 v10
                else
                  f_Mo_lzw_B87 (f_Mo_lzw_L9 n0 n) n0 h14 a0 x1 x2 x3 x4 v10 1
noncomputable def f_Mo_lzw  (n0 : Nat) (h0 : mH) (a0 : Nat) (x1 : Int32) : Option (Unit × mH) :=
  f_Mo_lzw_L9 n0 n0 h0 a0 x1 258 (-1) 1
set_option maxHeartbeats 4000000 in
set_option maxRecDepth 100000 in
theorem cb_Mo_lzw_B48 {X : mX} {ad : Nat → Nat} {ln : Launch} (O : mO X ad R_Mo b_Mo_lzw 10 (mR 3 64) ln) (K9 : mH → Nat → Int32 → Int32 → Int32 → Int32 → Option (Unit × mH)) (r' : Unit) (h' : mH) (hE : mEnd X ad none none h') (hK9 : ∀ (h : mH) (a0 : Nat) (x1 : Int32) (x2 : Int32) (x3 : Int32) (x4 : Int32), K9 h a0 x1 x2 x3 x4 = some (r', h') → mAW X ad 0 0 9 [(0, .ref a0), (1, .int x1), (2, .int x2), (3, .int x3), (4, .int x4)] [] h) (n0 : Nat) (h0 : mH) (a0 : Nat) (x1 : Int32) (x2 : Int32) (x3 : Int32) (hf : f_Mo_lzw_B48 K9 n0 h0 a0 x1 x2 x3 = some (r', h')) : mAW X ad 0 0 48 [(0, .ref a0), (1, .int x1), (2, .int x2), (3, .int x3)] [] h0 := by
  unfold f_Mo_lzw_B48 at hf
  refine ax_iconst (v := 0) O d_Mo_lzw_48 (by decide) ?_
  refine ax_istore (lv' := [(4, .int 0), (0, .ref a0), (1, .int x1), (2, .int x2), (3, .int x3)]) O d_Mo_lzw_49 (by decide) rfl ?_
  refine ax_goto (tgt := 256) O d_Mo_lzw_51 (by decide) ?_
  refine ax_goto (tgt := 9) O d_Mo_lzw_256 (by decide) ?_
  refine ax_sub [1, 2, 3, 4, 0] rfl ?_
  exact hK9 _ _ _ _ _ _ hf
set_option maxHeartbeats 4000000 in
set_option maxRecDepth 100000 in
theorem cb_Mo_lzw_L221 {X : mX} {ad : Nat → Nat} {ln : Launch} (O : mO X ad R_Mo b_Mo_lzw 10 (mR 3 64) ln) (K9 : mH → Nat → Int32 → Int32 → Int32 → Int32 → Option (Unit × mH)) (r' : Unit) (h' : mH) (hE : mEnd X ad none none h') (hK9 : ∀ (h : mH) (a0 : Nat) (x1 : Int32) (x2 : Int32) (x3 : Int32) (x4 : Int32), K9 h a0 x1 x2 x3 x4 = some (r', h') → mAW X ad 0 0 9 [(0, .ref a0), (1, .int x1), (2, .int x2), (3, .int x3), (4, .int x4)] [] h) (n0 : Nat) : ∀ (n : Nat) (h0 : mH) (a0 : Nat) (x1 : Int32) (x2 : Int32) (x4 : Int32) (x5 : Int32) (x8 : Int32) (x9 : Int32), f_Mo_lzw_L221 K9 n0 n h0 a0 x1 x2 x4 x5 x8 x9 = some (r', h') → mAW X ad 0 0 221 [(0, .ref a0), (1, .int x1), (2, .int x2), (4, .int x4), (5, .int x5), (8, .int x8), (9, .int x9)] [] h0 := by
  intro n
  induction n with
  | zero =>
    intro h0 a0 x1 x2 x4 x5 x8 x9 hf
    rw [f_Mo_lzw_L221.eq_1] at hf
    cases hf
  | succ n ih =>
    intro h0 a0 x1 x2 x4 x5 x8 x9 hf
    rw [f_Mo_lzw_L221.eq_2] at hf
    refine ax_iload O d_Mo_lzw_221 6 rfl ?_
    refine ax_iload O d_Mo_lzw_223 5 rfl ?_
    refine ax_icmp_ge (tgt := 253) O d_Mo_lzw_225 (by decide) (fun q23 => ?_) (fun q23 => ?_)
    · rw [if_pos q23] at hf
      refine ax_iload O d_Mo_lzw_253 4 rfl ?_
      refine ax_istore_n (lv' := [(3, .int x5), (0, .ref a0), (1, .int x1), (2, .int x2), (4, .int x4), (5, .int x5), (8, .int x8), (9, .int x9)]) O d_Mo_lzw_255 rfl (by decide) rfl ?_
      refine ax_goto (tgt := 9) O d_Mo_lzw_256 (by decide) ?_
      refine ax_sub [1, 2, 3, 0, 4] rfl ?_
      exact hK9 _ _ _ _ _ _ hf
    · rw [if_neg q23] at hf
      refine ax_aload_n O d_Mo_lzw_228 rfl 0 rfl ?_
      obtain ⟨fh26, ch26, hf⟩ := mis_some hf
      obtain ⟨v25, h26, mh26, hf⟩ := mcl_some hf
      refine ax_callV (As := []) (rest := []) O cw_Mo_isGood (q := (R_Mo, T_Mo, 31)) rfl rfl in_Mo_isGood se_Mo_isGood lk_Mo_89 ch26 (c_Mo_isGood mh26) rfl ⟨rfl, rfl⟩ (by decide) (by decide) (Nat.le_of_ble_eq_true rfl) d_Mo_lzw_229 ?_
      refine ax_if_eq (tgt := 253) O d_Mo_lzw_232 (by decide) (fun q27 => ?_) (fun q27 => ?_)
      · rw [if_pos q27] at hf
        refine ax_iload O d_Mo_lzw_253 4 rfl ?_
        refine ax_istore_n (lv' := [(3, .int x5), (0, .ref a0), (1, .int x1), (2, .int x2), (4, .int x4), (5, .int x5), (8, .int x8), (9, .int x9)]) O d_Mo_lzw_255 rfl (by decide) rfl ?_
        refine ax_goto (tgt := 9) O d_Mo_lzw_256 (by decide) ?_
        refine ax_sub [1, 2, 3, 0, 4] rfl ?_
        exact hK9 _ _ _ _ _ _ hf
      · rw [if_neg q27] at hf
        refine ax_aload_n O d_Mo_lzw_235 rfl 0 rfl ?_
        refine ax_aload_n O d_Mo_lzw_236 rfl 0 rfl ?_
        refine ax_iload O d_Mo_lzw_237 4 rfl ?_
        refine ax_iload O d_Mo_lzw_239 6 rfl ?_
        obtain ⟨fh30, ch30, hf⟩ := mis_some hf
        obtain ⟨v29, h30, mh30, hf⟩ := mcl_some hf
        refine ax_callV (As := [.int x5, .int x9]) (rest := [.ref a0]) O cw_Mo_byteOf (q := (R_Mo, T_Mo, 31)) rfl rfl in_Mo_byteOf se_Mo_byteOf lk_Mo_198 ch30 (c_Mo_byteOf mh30) rfl ⟨rfl, rfl⟩ (by decide) (by decide) (Nat.le_of_ble_eq_true rfl) d_Mo_lzw_241 ?_
        obtain ⟨fh33, ch33, hf⟩ := mis_some hf
        obtain ⟨u34, h33, mh33, hf⟩ := mcl_some hf
        refine ax_callV (As := [.int v29]) (rest := []) O cw_Mo_give (q := (R_Mo, T_Mo, 31)) rfl rfl in_Mo_give se_Mo_give lk_Mo_157 ch33 (c_Mo_give mh33) rfl ⟨rfl, rfl⟩ (by decide) (by decide) (Nat.le_of_ble_eq_true rfl) d_Mo_lzw_244 ?_
        obtain ⟨v35, ev35, hf⟩ := mnm_some hf
        refine ax_iinc (j := 6) (v := v35) (lv' := [(9, .int v35), (0, .ref a0), (1, .int x1), (2, .int x2), (4, .int x4), (5, .int x5), (8, .int x8)]) O d_Mo_lzw_247 rfl (by rw [ev35]; rfl) (by decide) rfl ?_
        refine ax_goto (tgt := 221) O d_Mo_lzw_250 (by decide) ?_
        refine ax_sub [1, 2, 3, 4, 5, 6, 0] rfl ?_
        exact ih _ _ _ _ _ _ _ _ hf
set_option maxHeartbeats 4000000 in
set_option maxRecDepth 100000 in
theorem cb_Mo_lzw_B216 {X : mX} {ad : Nat → Nat} {ln : Launch} (O : mO X ad R_Mo b_Mo_lzw 10 (mR 3 64) ln) (K9 : mH → Nat → Int32 → Int32 → Int32 → Int32 → Option (Unit × mH)) (r' : Unit) (h' : mH) (hE : mEnd X ad none none h') (hK9 : ∀ (h : mH) (a0 : Nat) (x1 : Int32) (x2 : Int32) (x3 : Int32) (x4 : Int32), K9 h a0 x1 x2 x3 x4 = some (r', h') → mAW X ad 0 0 9 [(0, .ref a0), (1, .int x1), (2, .int x2), (3, .int x3), (4, .int x4)] [] h) (n0 : Nat) (h0 : mH) (a0 : Nat) (x1 : Int32) (x2 : Int32) (x4 : Int32) (x5 : Int32) (p0 : Int32) (hf : f_Mo_lzw_B216 K9 n0 h0 a0 x1 x2 x4 x5 p0 = some (r', h')) : mAW X ad 0 0 216 [(0, .ref a0), (1, .int x1), (2, .int x2), (4, .int x4), (5, .int x5)] [.int p0] h0 := by
  unfold f_Mo_lzw_B216 at hf
  refine ax_istore (lv' := [(8, .int p0), (0, .ref a0), (1, .int x1), (2, .int x2), (4, .int x4), (5, .int x5)]) O d_Mo_lzw_216 (by decide) rfl ?_
  refine ax_iconst (v := 0) O d_Mo_lzw_218 (by decide) ?_
  refine ax_istore (lv' := [(9, .int 0), (8, .int p0), (0, .ref a0), (1, .int x1), (2, .int x2), (4, .int x4), (5, .int x5)]) O d_Mo_lzw_219 (by decide) rfl ?_
  refine ax_sub [2, 3, 4, 5, 6, 1, 0] rfl ?_
  exact cb_Mo_lzw_L221 O K9 _ _ hE hK9 n0 n0 _ _ _ _ _ _ _ _ hf
set_option maxHeartbeats 4000000 in
set_option maxRecDepth 100000 in
theorem cb_Mo_lzw_B197 {X : mX} {ad : Nat → Nat} {ln : Launch} (O : mO X ad R_Mo b_Mo_lzw 10 (mR 3 64) ln) (K9 : mH → Nat → Int32 → Int32 → Int32 → Int32 → Option (Unit × mH)) (r' : Unit) (h' : mH) (hE : mEnd X ad none none h') (hK9 : ∀ (h : mH) (a0 : Nat) (x1 : Int32) (x2 : Int32) (x3 : Int32) (x4 : Int32), K9 h a0 x1 x2 x3 x4 = some (r', h') → mAW X ad 0 0 9 [(0, .ref a0), (1, .int x1), (2, .int x2), (3, .int x3), (4, .int x4)] [] h) (n0 : Nat) (h0 : mH) (a0 : Nat) (x1 : Int32) (x2 : Int32) (x4 : Int32) (x5 : Int32) (hf : f_Mo_lzw_B197 K9 n0 h0 a0 x1 x2 x4 x5 = some (r', h')) : mAW X ad 0 0 197 [(0, .ref a0), (1, .int x1), (2, .int x2), (4, .int x4), (5, .int x5)] [] h0 := by
  unfold f_Mo_lzw_B197 at hf
  refine ax_iload O d_Mo_lzw_197 4 rfl ?_
  refine ax_sipush (v := 257) O d_Mo_lzw_199 (by decide) ?_
  refine ax_icmp_le (tgt := 215) O d_Mo_lzw_202 (by decide) (fun q22 => ?_) (fun q22 => ?_)
  · rw [if_pos q22] at hf
    refine ax_iconst (v := 1) O d_Mo_lzw_215 (by decide) ?_
    exact cb_Mo_lzw_B216 O K9 _ _ hE hK9 n0 _ _ _ _ _ _ _ hf
  · rw [if_neg q22] at hf
    refine ax_aload_n O d_Mo_lzw_205 rfl 0 rfl ?_
    obtain ⟨fr36, r36, cr36, kr36, hf⟩ := mgr_some hf
    refine ax_get O fg_Mo_54 cr36 kr36 d_Mo_lzw_206 ?_
    refine ax_iload O d_Mo_lzw_209 4 rfl ?_
    obtain ⟨nv37, fv37, v37, cv37, iv37, kv37, hf⟩ := mai_some hf
    refine ax_iald O cv37 iv37 kv37 d_Mo_lzw_211 ?_
    refine ax_goto (tgt := 216) O d_Mo_lzw_212 (by decide) ?_
    exact cb_Mo_lzw_B216 O K9 _ _ hE hK9 n0 _ _ _ _ _ _ _ hf
set_option maxHeartbeats 4000000 in
set_option maxRecDepth 100000 in
theorem cb_Mo_lzw_B190 {X : mX} {ad : Nat → Nat} {ln : Launch} (O : mO X ad R_Mo b_Mo_lzw 10 (mR 3 64) ln) (K9 : mH → Nat → Int32 → Int32 → Int32 → Int32 → Option (Unit × mH)) (r' : Unit) (h' : mH) (hE : mEnd X ad none none h') (hK9 : ∀ (h : mH) (a0 : Nat) (x1 : Int32) (x2 : Int32) (x3 : Int32) (x4 : Int32), K9 h a0 x1 x2 x3 x4 = some (r', h') → mAW X ad 0 0 9 [(0, .ref a0), (1, .int x1), (2, .int x2), (3, .int x3), (4, .int x4)] [] h) (n0 : Nat) (h0 : mH) (a0 : Nat) (x1 : Int32) (x2 : Int32) (x4 : Int32) (x5 : Int32) (p0 : Int32) (b1 : Nat) (p2 : Int32) (b3 : Nat) (hf : f_Mo_lzw_B190 K9 n0 h0 a0 x1 x2 x4 x5 p0 b1 p2 b3 = some (r', h')) : mAW X ad 0 0 190 [(0, .ref a0), (1, .int x1), (2, .int x2), (4, .int x4), (5, .int x5)] [.int p0, .ref b1, .int p2, .ref b3] h0 := by
  unfold f_Mo_lzw_B190 at hf
  obtain ⟨fh47, ch47, hf⟩ := mis_some hf
  obtain ⟨v46, h47, mh47, hf⟩ := mcl_some hf
  refine ax_callV (As := [.int p0]) (rest := [.int p2, .ref b3]) O cw_Mo_firstOf (q := (R_Mo, T_Mo, 31)) rfl rfl in_Mo_firstOf se_Mo_firstOf lk_Mo_195 ch47 (c_Mo_firstOf mh47) rfl ⟨rfl, rfl⟩ (by decide) (by decide) (Nat.le_of_ble_eq_true rfl) d_Mo_lzw_190 ?_
  obtain ⟨nh48, fh48, h48, ch48, ih48, eh48, hf⟩ := mas_some hf
  refine ax_iast O ch48 ih48 eh48 d_Mo_lzw_193 ?_
  obtain ⟨v49, ev49, hf⟩ := mnm_some hf
  refine ax_iinc (j := 2) (v := v49) (lv' := [(2, .int v49), (0, .ref a0), (1, .int x1), (4, .int x4), (5, .int x5)]) O d_Mo_lzw_194 rfl (by rw [ev49]; rfl) (by decide) rfl ?_
  refine ax_sub [1, 2, 0, 3, 4] rfl ?_
  exact cb_Mo_lzw_B197 O K9 _ _ hE hK9 n0 _ _ _ _ _ _ hf
set_option maxHeartbeats 4000000 in
set_option maxRecDepth 100000 in
theorem cb_Mo_lzw_B169 {X : mX} {ad : Nat → Nat} {ln : Launch} (O : mO X ad R_Mo b_Mo_lzw 10 (mR 3 64) ln) (K9 : mH → Nat → Int32 → Int32 → Int32 → Int32 → Option (Unit × mH)) (r' : Unit) (h' : mH) (hE : mEnd X ad none none h') (hK9 : ∀ (h : mH) (a0 : Nat) (x1 : Int32) (x2 : Int32) (x3 : Int32) (x4 : Int32), K9 h a0 x1 x2 x3 x4 = some (r', h') → mAW X ad 0 0 9 [(0, .ref a0), (1, .int x1), (2, .int x2), (3, .int x3), (4, .int x4)] [] h) (n0 : Nat) (h0 : mH) (a0 : Nat) (x1 : Int32) (x2 : Int32) (x3 : Int32) (x4 : Int32) (x5 : Int32) (p0 : Int32) (p1 : Int32) (b2 : Nat) (hf : f_Mo_lzw_B169 K9 n0 h0 a0 x1 x2 x3 x4 x5 p0 p1 b2 = some (r', h')) : mAW X ad 0 0 169 [(0, .ref a0), (1, .int x1), (2, .int x2), (3, .int x3), (4, .int x4), (5, .int x5)] [.int p0, .int p1, .ref b2] h0 := by
  unfold f_Mo_lzw_B169 at hf
  refine ax_iconst (v := 1) O d_Mo_lzw_169 (by decide) ?_
  refine ax_iadd O d_Mo_lzw_170 ?_
  obtain ⟨nh42, fh42, h42, ch42, ih42, eh42, hf⟩ := mas_some hf
  refine ax_iast O ch42 ih42 eh42 d_Mo_lzw_171 ?_
  refine ax_aload_n O d_Mo_lzw_172 rfl 0 rfl ?_
  obtain ⟨fr43, r43, cr43, kr43, hf⟩ := mgr_some hf
  refine ax_get O fg_Mo_51 cr43 kr43 d_Mo_lzw_173 ?_
  refine ax_iload_n O d_Mo_lzw_176 rfl 2 rfl ?_
  refine ax_aload_n O d_Mo_lzw_177 rfl 0 rfl ?_
  refine ax_iload O d_Mo_lzw_178 5 rfl ?_
  refine ax_iload_n O d_Mo_lzw_180 rfl 2 rfl ?_
  refine ax_icmp_ne (tgt := 188) O d_Mo_lzw_181 (by decide) (fun q44 => ?_) (fun q44 => ?_)
  · rw [if_neg q44] at hf
    refine ax_iload O d_Mo_lzw_188 5 rfl ?_
    refine ax_sub [0, 1, 2, 4, 5] rfl ?_
    exact cb_Mo_lzw_B190 O K9 _ _ hE hK9 n0 _ _ _ _ _ _ _ _ _ _ hf
  · rw [if_pos q44] at hf
    refine ax_iload_n O d_Mo_lzw_184 rfl 3 rfl ?_
    refine ax_goto (tgt := 190) O d_Mo_lzw_185 (by decide) ?_
    refine ax_sub [0, 1, 2, 4, 5] rfl ?_
    exact cb_Mo_lzw_B190 O K9 _ _ hE hK9 n0 _ _ _ _ _ _ _ _ _ _ hf
set_option maxHeartbeats 4000000 in
set_option maxRecDepth 100000 in
theorem cb_Mo_lzw_B119 {X : mX} {ad : Nat → Nat} {ln : Launch} (O : mO X ad R_Mo b_Mo_lzw 10 (mR 3 64) ln) (K9 : mH → Nat → Int32 → Int32 → Int32 → Int32 → Option (Unit × mH)) (r' : Unit) (h' : mH) (hE : mEnd X ad none none h') (hK9 : ∀ (h : mH) (a0 : Nat) (x1 : Int32) (x2 : Int32) (x3 : Int32) (x4 : Int32), K9 h a0 x1 x2 x3 x4 = some (r', h') → mAW X ad 0 0 9 [(0, .ref a0), (1, .int x1), (2, .int x2), (3, .int x3), (4, .int x4)] [] h) (n0 : Nat) (h0 : mH) (a0 : Nat) (x1 : Int32) (x2 : Int32) (x3 : Int32) (x4 : Int32) (x5 : Int32) (x6 : Int32) (p0 : Int32) (hf : f_Mo_lzw_B119 K9 n0 h0 a0 x1 x2 x3 x4 x5 x6 p0 = some (r', h')) : mAW X ad 0 0 119 [(0, .ref a0), (1, .int x1), (2, .int x2), (3, .int x3), (4, .int x4), (5, .int x5), (6, .int x6)] [.int p0] h0 := by
  unfold f_Mo_lzw_B119 at hf
  refine ax_istore (lv' := [(7, .int p0), (0, .ref a0), (1, .int x1), (2, .int x2), (3, .int x3), (4, .int x4), (5, .int x5), (6, .int x6)]) O d_Mo_lzw_119 (by decide) rfl ?_
  refine ax_iload O d_Mo_lzw_121 0 rfl ?_
  refine ax_if_ne (tgt := 135) O d_Mo_lzw_123 (by decide) (fun q20 => ?_) (fun q20 => ?_)
  · rw [if_neg q20] at hf
    refine ax_iload O d_Mo_lzw_135 7 rfl ?_
    refine ax_if_eq (tgt := 197) O d_Mo_lzw_137 (by decide) (fun q21 => ?_) (fun q21 => ?_)
    · rw [if_pos q21] at hf
      refine ax_sub [1, 2, 3, 5, 6] rfl ?_
      exact cb_Mo_lzw_B197 O K9 _ _ hE hK9 n0 _ _ _ _ _ _ hf
    · rw [if_neg q21] at hf
      refine ax_aload_n O d_Mo_lzw_140 rfl 1 rfl ?_
      obtain ⟨fr38, r38, cr38, kr38, hf⟩ := mgr_some hf
      refine ax_get O fg_Mo_48 cr38 kr38 d_Mo_lzw_141 ?_
      refine ax_iload_n O d_Mo_lzw_144 rfl 3 rfl ?_
      refine ax_iload_n O d_Mo_lzw_145 rfl 4 rfl ?_
      obtain ⟨nh39, fh39, h39, ch39, ih39, eh39, hf⟩ := mas_some hf
      refine ax_iast O ch39 ih39 eh39 d_Mo_lzw_146 ?_
      refine ax_aload_n O d_Mo_lzw_147 rfl 1 rfl ?_
      obtain ⟨fr40, r40, cr40, kr40, hf⟩ := mgr_some hf
      refine ax_get O fg_Mo_54 cr40 kr40 d_Mo_lzw_148 ?_
      refine ax_iload_n O d_Mo_lzw_151 rfl 3 rfl ?_
      refine ax_iload_n O d_Mo_lzw_152 rfl 4 rfl ?_
      refine ax_sipush (v := 257) O d_Mo_lzw_153 (by decide) ?_
      refine ax_icmp_le (tgt := 168) O d_Mo_lzw_156 (by decide) (fun q41 => ?_) (fun q41 => ?_)
      · rw [if_pos q41] at hf
        refine ax_iconst (v := 1) O d_Mo_lzw_168 (by decide) ?_
        refine ax_sub [1, 2, 3, 4, 5, 6] rfl ?_
        exact cb_Mo_lzw_B169 O K9 _ _ hE hK9 n0 _ _ _ _ _ _ _ _ _ _ hf
      · rw [if_neg q41] at hf
        refine ax_aload_n O d_Mo_lzw_159 rfl 1 rfl ?_
        obtain ⟨fr50, r50, cr50, kr50, hf⟩ := mgr_some hf
        refine ax_get O fg_Mo_54 cr50 kr50 d_Mo_lzw_160 ?_
        refine ax_iload_n O d_Mo_lzw_163 rfl 4 rfl ?_
        obtain ⟨nv51, fv51, v51, cv51, iv51, kv51, hf⟩ := mai_some hf
        refine ax_iald O cv51 iv51 kv51 d_Mo_lzw_164 ?_
        refine ax_goto (tgt := 169) O d_Mo_lzw_165 (by decide) ?_
        refine ax_sub [1, 2, 3, 4, 5, 6] rfl ?_
        exact cb_Mo_lzw_B169 O K9 _ _ hE hK9 n0 _ _ _ _ _ _ _ _ _ _ hf
  · rw [if_pos q20] at hf
    refine ax_aload_n O d_Mo_lzw_126 rfl 1 rfl ?_
    refine ax_bipush (v := 10) O d_Mo_lzw_127 (by decide) ?_
    obtain ⟨fh54, ch54, hf⟩ := mis_some hf
    obtain ⟨u55, h54, mh54, hf⟩ := mcl_some hf
    refine ax_callV (As := [.int 10]) (rest := []) O cw_Mo_fail (q := (R_Mo, T_Mo, 31)) rfl rfl in_Mo_fail se_Mo_fail lk_Mo_99 ch54 (c_Mo_fail mh54) rfl ⟨rfl, rfl⟩ (by decide) (by decide) (Nat.le_of_ble_eq_true rfl) d_Mo_lzw_129 ?_
    refine ax_goto (tgt := 256) O d_Mo_lzw_132 (by decide) ?_
    refine ax_goto (tgt := 9) O d_Mo_lzw_256 (by decide) ?_
    refine ax_sub [1, 2, 3, 4, 5] rfl ?_
    exact hK9 _ _ _ _ _ _ hf
set_option maxHeartbeats 4000000 in
set_option maxRecDepth 100000 in
theorem cb_Mo_lzw_B114 {X : mX} {ad : Nat → Nat} {ln : Launch} (O : mO X ad R_Mo b_Mo_lzw 10 (mR 3 64) ln) (K9 : mH → Nat → Int32 → Int32 → Int32 → Int32 → Option (Unit × mH)) (r' : Unit) (h' : mH) (hE : mEnd X ad none none h') (hK9 : ∀ (h : mH) (a0 : Nat) (x1 : Int32) (x2 : Int32) (x3 : Int32) (x4 : Int32), K9 h a0 x1 x2 x3 x4 = some (r', h') → mAW X ad 0 0 9 [(0, .ref a0), (1, .int x1), (2, .int x2), (3, .int x3), (4, .int x4)] [] h) (n0 : Nat) (h0 : mH) (a0 : Nat) (x1 : Int32) (x2 : Int32) (x3 : Int32) (x4 : Int32) (x5 : Int32) (x6 : Int32) (hf : f_Mo_lzw_B114 K9 n0 h0 a0 x1 x2 x3 x4 x5 x6 = some (r', h')) : mAW X ad 0 0 114 [(0, .ref a0), (1, .int x1), (2, .int x2), (3, .int x3), (4, .int x4), (5, .int x5), (6, .int x6)] [] h0 := by
  unfold f_Mo_lzw_B114 at hf
  refine ax_iconst (v := 1) O d_Mo_lzw_114 (by decide) ?_
  refine ax_goto (tgt := 119) O d_Mo_lzw_115 (by decide) ?_
  exact cb_Mo_lzw_B119 O K9 _ _ hE hK9 n0 _ _ _ _ _ _ _ _ _ hf
set_option maxHeartbeats 4000000 in
set_option maxRecDepth 100000 in
theorem cb_Mo_lzw_B118 {X : mX} {ad : Nat → Nat} {ln : Launch} (O : mO X ad R_Mo b_Mo_lzw 10 (mR 3 64) ln) (K9 : mH → Nat → Int32 → Int32 → Int32 → Int32 → Option (Unit × mH)) (r' : Unit) (h' : mH) (hE : mEnd X ad none none h') (hK9 : ∀ (h : mH) (a0 : Nat) (x1 : Int32) (x2 : Int32) (x3 : Int32) (x4 : Int32), K9 h a0 x1 x2 x3 x4 = some (r', h') → mAW X ad 0 0 9 [(0, .ref a0), (1, .int x1), (2, .int x2), (3, .int x3), (4, .int x4)] [] h) (n0 : Nat) (h0 : mH) (a0 : Nat) (x1 : Int32) (x2 : Int32) (x3 : Int32) (x4 : Int32) (x5 : Int32) (x6 : Int32) (hf : f_Mo_lzw_B118 K9 n0 h0 a0 x1 x2 x3 x4 x5 x6 = some (r', h')) : mAW X ad 0 0 118 [(0, .ref a0), (1, .int x1), (2, .int x2), (3, .int x3), (4, .int x4), (5, .int x5), (6, .int x6)] [] h0 := by
  unfold f_Mo_lzw_B118 at hf
  refine ax_iconst (v := 0) O d_Mo_lzw_118 (by decide) ?_
  exact cb_Mo_lzw_B119 O K9 _ _ hE hK9 n0 _ _ _ _ _ _ _ _ _ hf
set_option maxHeartbeats 4000000 in
set_option maxRecDepth 100000 in
theorem cb_Mo_lzw_B87 {X : mX} {ad : Nat → Nat} {ln : Launch} (O : mO X ad R_Mo b_Mo_lzw 10 (mR 3 64) ln) (K9 : mH → Nat → Int32 → Int32 → Int32 → Int32 → Option (Unit × mH)) (r' : Unit) (h' : mH) (hE : mEnd X ad none none h') (hK9 : ∀ (h : mH) (a0 : Nat) (x1 : Int32) (x2 : Int32) (x3 : Int32) (x4 : Int32), K9 h a0 x1 x2 x3 x4 = some (r', h') → mAW X ad 0 0 9 [(0, .ref a0), (1, .int x1), (2, .int x2), (3, .int x3), (4, .int x4)] [] h) (n0 : Nat) (h0 : mH) (a0 : Nat) (x1 : Int32) (x2 : Int32) (x3 : Int32) (x4 : Int32) (x5 : Int32) (p0 : Int32) (hf : f_Mo_lzw_B87 K9 n0 h0 a0 x1 x2 x3 x4 x5 p0 = some (r', h')) : mAW X ad 0 0 87 [(0, .ref a0), (1, .int x1), (2, .int x2), (3, .int x3), (4, .int x4), (5, .int x5)] [.int p0] h0 := by
  unfold f_Mo_lzw_B87 at hf
  refine ax_istore (lv' := [(6, .int p0), (0, .ref a0), (1, .int x1), (2, .int x2), (3, .int x3), (4, .int x4), (5, .int x5)]) O d_Mo_lzw_87 (by decide) rfl ?_
  refine ax_iload O d_Mo_lzw_89 6 rfl ?_
  refine ax_sipush (v := 256) O d_Mo_lzw_91 (by decide) ?_
  refine ax_icmp_lt (tgt := 114) O d_Mo_lzw_94 (by decide) (fun q19 => ?_) (fun q19 => ?_)
  · rw [if_pos q19] at hf
    refine ax_sub [1, 2, 3, 4, 5, 6, 0] rfl ?_
    exact cb_Mo_lzw_B114 O K9 _ _ hE hK9 n0 _ _ _ _ _ _ _ _ hf
  · rw [if_neg q19] at hf
    refine ax_iload O d_Mo_lzw_97 6 rfl ?_
    refine ax_iload_n O d_Mo_lzw_99 rfl 3 rfl ?_
    refine ax_icmp_lt (tgt := 114) O d_Mo_lzw_100 (by decide) (fun q56 => ?_) (fun q56 => ?_)
    · rw [if_pos q56] at hf
      refine ax_sub [1, 2, 3, 4, 5, 6, 0] rfl ?_
      exact cb_Mo_lzw_B114 O K9 _ _ hE hK9 n0 _ _ _ _ _ _ _ _ hf
    · rw [if_neg q56] at hf
      refine ax_iload O d_Mo_lzw_103 6 rfl ?_
      refine ax_iload_n O d_Mo_lzw_105 rfl 3 rfl ?_
      refine ax_icmp_ne (tgt := 118) O d_Mo_lzw_106 (by decide) (fun q57 => ?_) (fun q57 => ?_)
      · rw [if_neg q57] at hf
        refine ax_sub [1, 2, 3, 4, 5, 6, 0] rfl ?_
        exact cb_Mo_lzw_B118 O K9 _ _ hE hK9 n0 _ _ _ _ _ _ _ _ hf
      · rw [if_pos q57] at hf
        refine ax_iload O d_Mo_lzw_109 0 rfl ?_
        refine ax_if_eq (tgt := 118) O d_Mo_lzw_111 (by decide) (fun q58 => ?_) (fun q58 => ?_)
        · rw [if_pos q58] at hf
          refine ax_sub [1, 2, 3, 4, 5, 6, 0] rfl ?_
          exact cb_Mo_lzw_B118 O K9 _ _ hE hK9 n0 _ _ _ _ _ _ _ _ hf
        · rw [if_neg q58] at hf
          refine ax_sub [1, 2, 3, 4, 5, 6, 0] rfl ?_
          exact cb_Mo_lzw_B114 O K9 _ _ hE hK9 n0 _ _ _ _ _ _ _ _ hf
set_option maxHeartbeats 4000000 in
set_option maxRecDepth 100000 in
theorem cb_Mo_lzw_B86 {X : mX} {ad : Nat → Nat} {ln : Launch} (O : mO X ad R_Mo b_Mo_lzw 10 (mR 3 64) ln) (K9 : mH → Nat → Int32 → Int32 → Int32 → Int32 → Option (Unit × mH)) (r' : Unit) (h' : mH) (hE : mEnd X ad none none h') (hK9 : ∀ (h : mH) (a0 : Nat) (x1 : Int32) (x2 : Int32) (x3 : Int32) (x4 : Int32), K9 h a0 x1 x2 x3 x4 = some (r', h') → mAW X ad 0 0 9 [(0, .ref a0), (1, .int x1), (2, .int x2), (3, .int x3), (4, .int x4)] [] h) (n0 : Nat) (h0 : mH) (a0 : Nat) (x1 : Int32) (x2 : Int32) (x3 : Int32) (x4 : Int32) (x5 : Int32) (hf : f_Mo_lzw_B86 K9 n0 h0 a0 x1 x2 x3 x4 x5 = some (r', h')) : mAW X ad 0 0 86 [(0, .ref a0), (1, .int x1), (2, .int x2), (3, .int x3), (4, .int x4), (5, .int x5)] [] h0 := by
  unfold f_Mo_lzw_B86 at hf
  refine ax_iconst (v := 0) O d_Mo_lzw_86 (by decide) ?_
  exact cb_Mo_lzw_B87 O K9 _ _ hE hK9 n0 _ _ _ _ _ _ _ _ hf
set_option maxHeartbeats 4000000 in
set_option maxRecDepth 100000 in
theorem cb_Mo_lzw_L9 {X : mX} {ad : Nat → Nat} {ln : Launch} (O : mO X ad R_Mo b_Mo_lzw 10 (mR 3 64) ln) (r' : Unit) (h' : mH) (hE : mEnd X ad none none h') (n0 : Nat) : ∀ (n : Nat) (h0 : mH) (a0 : Nat) (x1 : Int32) (x2 : Int32) (x3 : Int32) (x4 : Int32), f_Mo_lzw_L9 n0 n h0 a0 x1 x2 x3 x4 = some (r', h') → mAW X ad 0 0 9 [(0, .ref a0), (1, .int x1), (2, .int x2), (3, .int x3), (4, .int x4)] [] h0 := by
  intro n
  induction n with
  | zero =>
    intro h0 a0 x1 x2 x3 x4 hf
    rw [f_Mo_lzw_L9.eq_1] at hf
    cases hf
  | succ n ih =>
    intro h0 a0 x1 x2 x3 x4 hf
    rw [f_Mo_lzw_L9.eq_2] at hf
    refine ax_iload O d_Mo_lzw_9 4 rfl ?_
    refine ax_if_eq (tgt := 259) O d_Mo_lzw_11 (by decide) (fun q1 => ?_) (fun q1 => ?_)
    · rw [if_pos q1] at hf
      exact ax_vretE O hE hf d_Mo_lzw_259
    · rw [if_neg q1] at hf
      refine ax_aload_n O d_Mo_lzw_14 rfl 0 rfl ?_
      obtain ⟨fh4, ch4, hf⟩ := mis_some hf
      obtain ⟨v3, h4, mh4, hf⟩ := mcl_some hf
      refine ax_callV (As := []) (rest := []) O cw_Mo_isGood (q := (R_Mo, T_Mo, 31)) rfl rfl in_Mo_isGood se_Mo_isGood lk_Mo_89 ch4 (c_Mo_isGood mh4) rfl ⟨rfl, rfl⟩ (by decide) (by decide) (Nat.le_of_ble_eq_true rfl) d_Mo_lzw_15 ?_
      refine ax_if_eq (tgt := 259) O d_Mo_lzw_18 (by decide) (fun q5 => ?_) (fun q5 => ?_)
      · rw [if_pos q5] at hf
        exact ax_vretE O hE hf d_Mo_lzw_259
      · rw [if_neg q5] at hf
        refine ax_aload_n O d_Mo_lzw_21 rfl 0 rfl ?_
        refine ax_iload_n O d_Mo_lzw_22 rfl 2 rfl ?_
        refine ax_iload_n O d_Mo_lzw_23 rfl 1 rfl ?_
        refine ax_iadd O d_Mo_lzw_24 ?_
        obtain ⟨v7, h8, mh8, hf⟩ := mcl_some hf
        refine ax_callS (As := [.int (x2 + x1)]) (rest := [.ref a0]) O cw_Mo_widthOf st_Mo_widthOf lk_Mo_189 (c_Mo_widthOf mh8) rfl ⟨rfl, rfl⟩ (by decide) (by decide) (Nat.le_of_ble_eq_true rfl) d_Mo_lzw_25 ?_
        obtain ⟨fh11, ch11, hf⟩ := mis_some hf
        obtain ⟨v10, h11, mh11, hf⟩ := mcl_some hf
        refine ax_callV (As := [.int v7]) (rest := []) O cw_Mo_wideCode (q := (R_Mo, T_Mo, 31)) rfl rfl in_Mo_wideCode se_Mo_wideCode lk_Mo_192 ch11 (c_Mo_wideCode mh11) rfl ⟨rfl, rfl⟩ (by decide) (by decide) (Nat.le_of_ble_eq_true rfl) d_Mo_lzw_28 ?_
        refine ax_istore (lv' := [(5, .int v10), (0, .ref a0), (1, .int x1), (2, .int x2), (3, .int x3), (4, .int x4)]) O d_Mo_lzw_31 (by decide) rfl ?_
        refine ax_aload_n O d_Mo_lzw_33 rfl 1 rfl ?_
        obtain ⟨fh14, ch14, hf⟩ := mis_some hf
        obtain ⟨v13, h14, mh14, hf⟩ := mcl_some hf
        refine ax_callV (As := []) (rest := []) O cw_Mo_isGood (q := (R_Mo, T_Mo, 31)) rfl rfl in_Mo_isGood se_Mo_isGood lk_Mo_89 ch14 (c_Mo_isGood mh14) rfl ⟨rfl, rfl⟩ (by decide) (by decide) (Nat.le_of_ble_eq_true rfl) d_Mo_lzw_34 ?_
        refine ax_if_eq (tgt := 48) O d_Mo_lzw_37 (by decide) (fun q15 => ?_) (fun q15 => ?_)
        · rw [if_pos q15] at hf
          refine ax_sub [1, 2, 3, 4] rfl ?_
          exact cb_Mo_lzw_B48 O (f_Mo_lzw_L9 n0 n) _ _ hE ih n0 _ _ _ _ _ hf
        · rw [if_neg q15] at hf
          refine ax_iload O d_Mo_lzw_40 0 rfl ?_
          refine ax_sipush (v := 257) O d_Mo_lzw_42 (by decide) ?_
          refine ax_icmp_ne (tgt := 54) O d_Mo_lzw_45 (by decide) (fun q16 => ?_) (fun q16 => ?_)
          · rw [if_neg q16] at hf
            refine ax_iload O d_Mo_lzw_54 0 rfl ?_
            refine ax_sipush (v := 256) O d_Mo_lzw_56 (by decide) ?_
            refine ax_icmp_ne (tgt := 71) O d_Mo_lzw_59 (by decide) (fun q17 => ?_) (fun q17 => ?_)
            · rw [if_neg q17] at hf
              refine ax_iload_n O d_Mo_lzw_71 rfl 4 rfl ?_
              refine ax_if_lt (tgt := 86) O d_Mo_lzw_72 (by decide) (fun q18 => ?_) (fun q18 => ?_)
              · rw [if_pos q18] at hf
                refine ax_sub [1, 2, 3, 4, 5, 0] rfl ?_
                exact cb_Mo_lzw_B86 O (f_Mo_lzw_L9 n0 n) _ _ hE ih n0 _ _ _ _ _ _ _ hf
              · rw [if_neg q18] at hf
                refine ax_iload_n O d_Mo_lzw_75 rfl 3 rfl ?_
                refine ax_sipush (v := 4095) O d_Mo_lzw_76 (by decide) ?_
                refine ax_icmp_gt (tgt := 86) O d_Mo_lzw_79 (by decide) (fun q59 => ?_) (fun q59 => ?_)
                · rw [if_pos q59] at hf
                  refine ax_sub [1, 2, 3, 4, 5, 0] rfl ?_
                  exact cb_Mo_lzw_B86 O (f_Mo_lzw_L9 n0 n) _ _ hE ih n0 _ _ _ _ _ _ _ hf
                · rw [if_neg q59] at hf
                  refine ax_iconst (v := 1) O d_Mo_lzw_82 (by decide) ?_
                  refine ax_goto (tgt := 87) O d_Mo_lzw_83 (by decide) ?_
                  refine ax_sub [1, 2, 3, 4, 5, 0] rfl ?_
                  exact cb_Mo_lzw_B87 O (f_Mo_lzw_L9 n0 n) _ _ hE ih n0 _ _ _ _ _ _ _ _ hf
            · rw [if_pos q17] at hf
              refine ax_sipush (v := 258) O d_Mo_lzw_62 (by decide) ?_
              refine ax_istore_n (lv' := [(2, .int 258), (5, .int v10), (0, .ref a0), (1, .int x1), (3, .int x3), (4, .int x4)]) O d_Mo_lzw_65 rfl (by decide) rfl ?_
              refine ax_iconst (v := (-1)) O d_Mo_lzw_66 (by decide) ?_
              refine ax_istore_n (lv' := [(3, .int (-1)), (2, .int 258), (5, .int v10), (0, .ref a0), (1, .int x1), (4, .int x4)]) O d_Mo_lzw_67 rfl (by decide) rfl ?_
              refine ax_goto (tgt := 256) O d_Mo_lzw_68 (by decide) ?_
              refine ax_goto (tgt := 9) O d_Mo_lzw_256 (by decide) ?_
              refine ax_sub [3, 4, 1, 0, 5] rfl ?_
              exact ih _ _ _ _ _ _ hf
          · rw [if_pos q16] at hf
            refine ax_sub [1, 2, 3, 4] rfl ?_
            exact cb_Mo_lzw_B48 O (f_Mo_lzw_L9 n0 n) _ _ hE ih n0 _ _ _ _ _ hf
set_option maxHeartbeats 4000000 in
set_option maxRecDepth 100000 in
theorem cb_Mo_lzw {X : mX} {ad : Nat → Nat} {ln : Launch} (O : mO X ad R_Mo b_Mo_lzw 10 (mR 3 64) ln) (r' : Unit) (h' : mH) (hE : mEnd X ad none none h') (n0 : Nat) (h0 : mH) (a0 : Nat) (x1 : Int32) (hf : f_Mo_lzw n0 h0 a0 x1 = some (r', h')) : mAW X ad 0 0 0 [(0, .ref a0), (1, .int x1)] [] h0 := by
  unfold f_Mo_lzw at hf
  refine ax_sipush (v := 258) O d_Mo_lzw_0 (by decide) ?_
  refine ax_istore_n (lv' := [(2, .int 258), (0, .ref a0), (1, .int x1)]) O d_Mo_lzw_3 rfl (by decide) rfl ?_
  refine ax_iconst (v := (-1)) O d_Mo_lzw_4 (by decide) ?_
  refine ax_istore_n (lv' := [(3, .int (-1)), (2, .int 258), (0, .ref a0), (1, .int x1)]) O d_Mo_lzw_5 rfl (by decide) rfl ?_
  refine ax_iconst (v := 1) O d_Mo_lzw_6 (by decide) ?_
  refine ax_istore (lv' := [(4, .int 1), (3, .int (-1)), (2, .int 258), (0, .ref a0), (1, .int x1)]) O d_Mo_lzw_7 (by decide) rfl ?_
  refine ax_sub [3, 4, 2, 1, 0] rfl ?_
  exact cb_Mo_lzw_L9 O _ _ hE n0 n0 _ _ _ _ _ _ hf
theorem c_Mo_lzw {ln : Launch} {n0 : Nat} {h0 h' : mH} {a0 : Nat} {x1 : Int32} {r' : Unit} (hf : f_Mo_lzw n0 h0 a0 x1 = some (r', h')) : mMet ln y_Mo_lzw b_Mo_lzw 10 none (mR 3 64) [.ref a0, .int x1] h0 none h' := mMet_of (by decide +kernel) (Nat.le_of_ble_eq_true rfl) (fun X ad O hE => cb_Mo_lzw O r' h' hE n0 h0 a0 x1 hf)
