/-! ===== StreamFilters$Codes.isEmpty()Z ===== -/
theorem d_Co_isEmpty_0 : decode b_Co_isEmpty 0 = .ok (.aload_n 0, 1) := by decide +kernel
theorem d_Co_isEmpty_1 : decode b_Co_isEmpty 1 = .ok (.getfield 18, 3) := by decide +kernel
theorem d_Co_isEmpty_4 : decode b_Co_isEmpty 4 = .ok (.ifCond .ne 7, 3) := by decide +kernel
theorem d_Co_isEmpty_7 : decode b_Co_isEmpty 7 = .ok (.iconst 1, 1) := by decide +kernel
theorem d_Co_isEmpty_8 : decode b_Co_isEmpty 8 = .ok (.goto 4, 3) := by decide +kernel
theorem d_Co_isEmpty_11 : decode b_Co_isEmpty 11 = .ok (.iconst 0, 1) := by decide +kernel
theorem d_Co_isEmpty_12 : decode b_Co_isEmpty 12 = .ok (.ireturn, 1) := by decide +kernel
noncomputable def f_Co_isEmpty  (n0 : Nat) (h0 : mH) (a0 : Nat) : Option (Int32 × mH) :=
  mgi h0 a0 2 3 fun v1 =>
  if v1 = 0 then
    some (1, h0)
  else
    some (0, h0)
set_option maxHeartbeats 4000000 in
set_option maxRecDepth 100000 in
theorem cb_Co_isEmpty {X : mX} {ad : Nat → Nat} {ln : Launch} (O : mO X ad R_Co b_Co_isEmpty 1 (mR 0 0) ln) (r' : Int32) (h' : mH) (hE : mEnd X ad (some .boolean) (some (.int r')) h') (n0 : Nat) (h0 : mH) (a0 : Nat) (hf : f_Co_isEmpty n0 h0 a0 = some (r', h')) : mAW X ad 0 0 0 [(0, .ref a0)] [] h0 := by
  unfold f_Co_isEmpty at hf
  refine ax_aload_n O d_Co_isEmpty_0 rfl 0 rfl ?_
  obtain ⟨fv1, v1, cv1, kv1, hf⟩ := mgi_some hf
  refine ax_get O fg_Co_18 cv1 kv1 d_Co_isEmpty_1 ?_
  refine ax_if_ne (tgt := 11) O d_Co_isEmpty_4 (by decide) (fun q2 => ?_) (fun q2 => ?_)
  · rw [if_neg q2] at hf
    refine ax_iconst (v := 0) O d_Co_isEmpty_11 (by decide) ?_
    exact ax_retE O hE hf rfl d_Co_isEmpty_12
  · rw [if_pos q2] at hf
    refine ax_iconst (v := 1) O d_Co_isEmpty_7 (by decide) ?_
    refine ax_goto (tgt := 12) O d_Co_isEmpty_8 (by decide) ?_
    exact ax_retE O hE hf rfl d_Co_isEmpty_12
theorem c_Co_isEmpty {ln : Launch} {n0 : Nat} {h0 h' : mH} {a0 : Nat} {r' : Int32} (hf : f_Co_isEmpty n0 h0 a0 = some (r', h')) : mMet ln y_Co_isEmpty b_Co_isEmpty 1 (some .boolean) (mR 0 0) [.ref a0] h0 (some (.int r')) h' := mMet_of (by decide +kernel) (Nat.le_of_ble_eq_true rfl) (fun X ad O hE => cb_Co_isEmpty O r' h' hE n0 h0 a0 hf)
/-! ===== StreamFilters$Codes.isGood()Z ===== -/
theorem d_Co_isGood_0 : decode b_Co_isGood 0 = .ok (.aload_n 0, 1) := by decide +kernel
theorem d_Co_isGood_1 : decode b_Co_isGood 1 = .ok (.getfield 18, 3) := by decide +kernel
theorem d_Co_isGood_4 : decode b_Co_isGood 4 = .ok (.iconst 1, 1) := by decide +kernel
theorem d_Co_isGood_5 : decode b_Co_isGood 5 = .ok (.if_icmp .ne 15, 3) := by decide +kernel
theorem d_Co_isGood_8 : decode b_Co_isGood 8 = .ok (.aload_n 0, 1) := by decide +kernel
theorem d_Co_isGood_9 : decode b_Co_isGood 9 = .ok (.getfield 11, 3) := by decide +kernel
theorem d_Co_isGood_12 : decode b_Co_isGood 12 = .ok (.iconst 1, 1) := by decide +kernel
theorem d_Co_isGood_13 : decode b_Co_isGood 13 = .ok (.iaload, 1) := by decide +kernel
theorem d_Co_isGood_14 : decode b_Co_isGood 14 = .ok (.iconst 1, 1) := by decide +kernel
theorem d_Co_isGood_15 : decode b_Co_isGood 15 = .ok (.if_icmp .ne 5, 3) := by decide +kernel
theorem d_Co_isGood_18 : decode b_Co_isGood 18 = .ok (.iconst 1, 1) := by decide +kernel
theorem d_Co_isGood_19 : decode b_Co_isGood 19 = .ok (.ireturn, 1) := by decide +kernel
theorem d_Co_isGood_20 : decode b_Co_isGood 20 = .ok (.iconst 0, 1) := by decide +kernel
theorem d_Co_isGood_21 : decode b_Co_isGood 21 = .ok (.istore_n 1, 1) := by decide +kernel
theorem d_Co_isGood_22 : decode b_Co_isGood 22 = .ok (.iconst 1, 1) := by decide +kernel
theorem d_Co_isGood_23 : decode b_Co_isGood 23 = .ok (.istore_n 2, 1) := by decide +kernel
theorem d_Co_isGood_24 : decode b_Co_isGood 24 = .ok (.iload_n 2, 1) := by decide +kernel
theorem d_Co_isGood_25 : decode b_Co_isGood 25 = .ok (.bipush 15, 2) := by decide +kernel
theorem d_Co_isGood_27 : decode b_Co_isGood 27 = .ok (.if_icmp .gt 23, 3) := by decide +kernel
theorem d_Co_isGood_30 : decode b_Co_isGood 30 = .ok (.iload_n 1, 1) := by decide +kernel
theorem d_Co_isGood_31 : decode b_Co_isGood 31 = .ok (.aload_n 0, 1) := by decide +kernel
theorem d_Co_isGood_32 : decode b_Co_isGood 32 = .ok (.getfield 11, 3) := by decide +kernel
theorem d_Co_isGood_35 : decode b_Co_isGood 35 = .ok (.iload_n 2, 1) := by decide +kernel
theorem d_Co_isGood_36 : decode b_Co_isGood 36 = .ok (.iaload, 1) := by decide +kernel
theorem d_Co_isGood_37 : decode b_Co_isGood 37 = .ok (.bipush 15, 2) := by decide +kernel
theorem d_Co_isGood_39 : decode b_Co_isGood 39 = .ok (.iload_n 2, 1) := by decide +kernel
theorem d_Co_isGood_40 : decode b_Co_isGood 40 = .ok (.isub, 1) := by decide +kernel
theorem d_Co_isGood_41 : decode b_Co_isGood 41 = .ok (.ishl, 1) := by decide +kernel
theorem d_Co_isGood_42 : decode b_Co_isGood 42 = .ok (.iadd, 1) := by decide +kernel
theorem d_Co_isGood_43 : decode b_Co_isGood 43 = .ok (.istore_n 1, 1) := by decide +kernel
theorem d_Co_isGood_44 : decode b_Co_isGood 44 = .ok (.iinc 2 1, 3) := by decide +kernel
theorem d_Co_isGood_47 : decode b_Co_isGood 47 = .ok (.goto (-23), 3) := by decide +kernel
theorem d_Co_isGood_50 : decode b_Co_isGood 50 = .ok (.iload_n 1, 1) := by decide +kernel
theorem d_Co_isGood_51 : decode b_Co_isGood 51 = .ok (.ldc 42, 2) := by decide +kernel
theorem d_Co_isGood_53 : decode b_Co_isGood 53 = .ok (.if_icmp .ne 7, 3) := by decide +kernel
theorem d_Co_isGood_56 : decode b_Co_isGood 56 = .ok (.iconst 1, 1) := by decide +kernel
theorem d_Co_isGood_57 : decode b_Co_isGood 57 = .ok (.goto 4, 3) := by decide +kernel
theorem d_Co_isGood_60 : decode b_Co_isGood 60 = .ok (.iconst 0, 1) := by decide +kernel
theorem d_Co_isGood_61 : decode b_Co_isGood 61 = .ok (.ireturn, 1) := by decide +kernel
noncomputable def f_Co_isGood_L24  (n0 : Nat) : Nat → mH → Nat → Int32 → Int32 → Option (Int32 × mH)
  | 0, _, _, _, _ => none
  | n + 1, h0, a0, x1, x2 =>
    if 15 < x2 then
      if x1 = 32768 then
        some (1, h0)
      else
        some (0, h0)
    else
      mgr h0 a0 2 0 fun r5 =>
      mai h0 r5 .int x2 fun v6 =>
      mnm (x1 + (v6 <<< ((15 - x2) &&& 31))) fun v7 =>
      mnm (x2 + 1) fun v8 =>
      (f_Co_isGood_L24 n0 n) h0 a0 v7 v8
noncomputable def f_Co_isGood_B20  (n0 : Nat) (h0 : mH) (a0 : Nat) : Option (Int32 × mH) :=
  f_Co_isGood_L24 n0 n0 h0 a0 0 1
noncomputable def f_Co_isGood  (n0 : Nat) (h0 : mH) (a0 : Nat) : Option (Int32 × mH) :=
  mgi h0 a0 2 3 fun v1 =>
  if v1 = 1 then
    mgr h0 a0 2 0 fun r9 =>
    mai h0 r9 .int 1 fun v10 =>
    if v10 = 1 then
      some (1, h0)
    else
      f_Co_isGood_B20 n0 h0 a0
  else
    f_Co_isGood_B20 n0 h0 a0
set_option maxHeartbeats 4000000 in
set_option maxRecDepth 100000 in
theorem cb_Co_isGood_L24 {X : mX} {ad : Nat → Nat} {ln : Launch} (O : mO X ad R_Co b_Co_isGood 3 (mR 0 0) ln) (r' : Int32) (h' : mH) (hE : mEnd X ad (some .boolean) (some (.int r')) h') (n0 : Nat) : ∀ (n : Nat) (h0 : mH) (a0 : Nat) (x1 : Int32) (x2 : Int32), f_Co_isGood_L24 n0 n h0 a0 x1 x2 = some (r', h') → mAW X ad 0 0 24 [(0, .ref a0), (1, .int x1), (2, .int x2)] [] h0 := by
  intro n
  induction n with
  | zero =>
    intro h0 a0 x1 x2 hf
    rw [f_Co_isGood_L24.eq_1] at hf
    cases hf
  | succ n ih =>
    intro h0 a0 x1 x2 hf
    rw [f_Co_isGood_L24.eq_2] at hf
    refine ax_iload_n O d_Co_isGood_24 rfl 2 rfl ?_
    refine ax_bipush (v := 15) O d_Co_isGood_25 (by decide) ?_
    refine ax_icmp_gt (tgt := 50) O d_Co_isGood_27 (by decide) (fun q3 => ?_) (fun q3 => ?_)
    · rw [if_pos q3] at hf
      refine ax_iload_n O d_Co_isGood_50 rfl 1 rfl ?_
      refine ax_ldc (v := 32768) O d_Co_isGood_51 wd_18 ?_
      refine ax_icmp_ne (tgt := 60) O d_Co_isGood_53 (by decide) (fun q4 => ?_) (fun q4 => ?_)
      · rw [if_neg q4] at hf
        refine ax_iconst (v := 0) O d_Co_isGood_60 (by decide) ?_
        exact ax_retE O hE hf rfl d_Co_isGood_61
      · rw [if_pos q4] at hf
        refine ax_iconst (v := 1) O d_Co_isGood_56 (by decide) ?_
        refine ax_goto (tgt := 61) O d_Co_isGood_57 (by decide) ?_
        exact ax_retE O hE hf rfl d_Co_isGood_61
    · rw [if_neg q3] at hf
      refine ax_iload_n O d_Co_isGood_30 rfl 1 rfl ?_
      refine ax_aload_n O d_Co_isGood_31 rfl 0 rfl ?_
      obtain ⟨fr5, r5, cr5, kr5, hf⟩ := mgr_some hf
      refine ax_get O fg_Co_11 cr5 kr5 d_Co_isGood_32 ?_
      refine ax_iload_n O d_Co_isGood_35 rfl 2 rfl ?_
      obtain ⟨nv6, fv6, v6, cv6, iv6, kv6, hf⟩ := mai_some hf
      refine ax_iald O cv6 iv6 kv6 d_Co_isGood_36 ?_
      refine ax_bipush (v := 15) O d_Co_isGood_37 (by decide) ?_
      refine ax_iload_n O d_Co_isGood_39 rfl 2 rfl ?_
      refine ax_isub O d_Co_isGood_40 ?_
      refine ax_ishl O d_Co_isGood_41 ?_
      refine ax_iadd O d_Co_isGood_42 ?_
      obtain ⟨v7, ev7, hf⟩ := mnm_some hf
      refine ax_nmi ev7 ?_
      refine ax_istore_n (lv' := [(1, .int v7), (0, .ref a0), (2, .int x2)]) O d_Co_isGood_43 rfl (by decide) rfl ?_
      obtain ⟨v8, ev8, hf⟩ := mnm_some hf
      refine ax_iinc (j := 2) (v := v8) (lv' := [(2, .int v8), (1, .int v7), (0, .ref a0)]) O d_Co_isGood_44 rfl (by rw [ev8]; rfl) (by decide) rfl ?_
      refine ax_goto (tgt := 24) O d_Co_isGood_47 (by decide) ?_
      refine ax_sub [2, 1, 0] rfl ?_
      exact ih _ _ _ _ hf
set_option maxHeartbeats 4000000 in
set_option maxRecDepth 100000 in
theorem cb_Co_isGood_B20 {X : mX} {ad : Nat → Nat} {ln : Launch} (O : mO X ad R_Co b_Co_isGood 3 (mR 0 0) ln) (r' : Int32) (h' : mH) (hE : mEnd X ad (some .boolean) (some (.int r')) h') (n0 : Nat) (h0 : mH) (a0 : Nat) (hf : f_Co_isGood_B20 n0 h0 a0 = some (r', h')) : mAW X ad 0 0 20 [(0, .ref a0)] [] h0 := by
  unfold f_Co_isGood_B20 at hf
  refine ax_iconst (v := 0) O d_Co_isGood_20 (by decide) ?_
  refine ax_istore_n (lv' := [(1, .int 0), (0, .ref a0)]) O d_Co_isGood_21 rfl (by decide) rfl ?_
  refine ax_iconst (v := 1) O d_Co_isGood_22 (by decide) ?_
  refine ax_istore_n (lv' := [(2, .int 1), (1, .int 0), (0, .ref a0)]) O d_Co_isGood_23 rfl (by decide) rfl ?_
  refine ax_sub [2, 1, 0] rfl ?_
  exact cb_Co_isGood_L24 O _ _ hE n0 n0 _ _ _ _ hf
set_option maxHeartbeats 4000000 in
set_option maxRecDepth 100000 in
theorem cb_Co_isGood {X : mX} {ad : Nat → Nat} {ln : Launch} (O : mO X ad R_Co b_Co_isGood 3 (mR 0 0) ln) (r' : Int32) (h' : mH) (hE : mEnd X ad (some .boolean) (some (.int r')) h') (n0 : Nat) (h0 : mH) (a0 : Nat) (hf : f_Co_isGood n0 h0 a0 = some (r', h')) : mAW X ad 0 0 0 [(0, .ref a0)] [] h0 := by
  unfold f_Co_isGood at hf
  refine ax_aload_n O d_Co_isGood_0 rfl 0 rfl ?_
  obtain ⟨fv1, v1, cv1, kv1, hf⟩ := mgi_some hf
  refine ax_get O fg_Co_18 cv1 kv1 d_Co_isGood_1 ?_
  refine ax_iconst (v := 1) O d_Co_isGood_4 (by decide) ?_
  refine ax_icmp_ne (tgt := 20) O d_Co_isGood_5 (by decide) (fun q2 => ?_) (fun q2 => ?_)
  · rw [if_neg q2] at hf
    exact cb_Co_isGood_B20 O _ _ hE n0 _ _ hf
  · rw [if_pos q2] at hf
    refine ax_aload_n O d_Co_isGood_8 rfl 0 rfl ?_
    obtain ⟨fr9, r9, cr9, kr9, hf⟩ := mgr_some hf
    refine ax_get O fg_Co_11 cr9 kr9 d_Co_isGood_9 ?_
    refine ax_iconst (v := 1) O d_Co_isGood_12 (by decide) ?_
    obtain ⟨nv10, fv10, v10, cv10, iv10, kv10, hf⟩ := mai_some hf
    refine ax_iald O cv10 iv10 kv10 d_Co_isGood_13 ?_
    refine ax_iconst (v := 1) O d_Co_isGood_14 (by decide) ?_
    refine ax_icmp_ne (tgt := 20) O d_Co_isGood_15 (by decide) (fun q11 => ?_) (fun q11 => ?_)
    · rw [if_neg q11] at hf
      exact cb_Co_isGood_B20 O _ _ hE n0 _ _ hf
    · rw [if_pos q11] at hf
      refine ax_iconst (v := 1) O d_Co_isGood_18 (by decide) ?_
      exact ax_retE O hE hf rfl d_Co_isGood_19
theorem c_Co_isGood {ln : Launch} {n0 : Nat} {h0 h' : mH} {a0 : Nat} {r' : Int32} (hf : f_Co_isGood n0 h0 a0 = some (r', h')) : mMet ln y_Co_isGood b_Co_isGood 3 (some .boolean) (mR 0 0) [.ref a0] h0 (some (.int r')) h' := mMet_of (by decide +kernel) (Nat.le_of_ble_eq_true rfl) (fun X ad O hE => cb_Co_isGood O r' h' hE n0 h0 a0 hf)
/-! ===== StreamFilters$Pass.nextByte()I ===== -/
theorem d_Pa_nextByte_0 : decode b_Pa_nextByte 0 = .ok (.aload_n 0, 1) := by decide +kernel
theorem d_Pa_nextByte_1 : decode b_Pa_nextByte 1 = .ok (.iconst 0, 1) := by decide +kernel
theorem d_Pa_nextByte_2 : decode b_Pa_nextByte 2 = .ok (.putfield 30, 3) := by decide +kernel
theorem d_Pa_nextByte_5 : decode b_Pa_nextByte 5 = .ok (.aload_n 0, 1) := by decide +kernel
theorem d_Pa_nextByte_6 : decode b_Pa_nextByte 6 = .ok (.getfield 23, 3) := by decide +kernel
theorem d_Pa_nextByte_9 : decode b_Pa_nextByte 9 = .ok (.aload_n 0, 1) := by decide +kernel
theorem d_Pa_nextByte_10 : decode b_Pa_nextByte 10 = .ok (.getfield 14, 3) := by decide +kernel
theorem d_Pa_nextByte_13 : decode b_Pa_nextByte 13 = .ok (.getfield 39, 3) := by decide +kernel
theorem d_Pa_nextByte_16 : decode b_Pa_nextByte 16 = .ok (.if_icmp .ge 18, 3) := by decide +kernel
theorem d_Pa_nextByte_19 : decode b_Pa_nextByte 19 = .ok (.aload_n 0, 1) := by decide +kernel
theorem d_Pa_nextByte_20 : decode b_Pa_nextByte 20 = .ok (.getfield 23, 3) := by decide +kernel
theorem d_Pa_nextByte_23 : decode b_Pa_nextByte 23 = .ok (.aload_n 0, 1) := by decide +kernel
theorem d_Pa_nextByte_24 : decode b_Pa_nextByte 24 = .ok (.getfield 14, 3) := by decide +kernel
theorem d_Pa_nextByte_27 : decode b_Pa_nextByte 27 = .ok (.getfield 42, 3) := by decide +kernel
theorem d_Pa_nextByte_30 : decode b_Pa_nextByte 30 = .ok (.arraylength, 1) := by decide +kernel
theorem d_Pa_nextByte_31 : decode b_Pa_nextByte 31 = .ok (.if_icmp .lt 10, 3) := by decide +kernel
theorem d_Pa_nextByte_34 : decode b_Pa_nextByte 34 = .ok (.aload_n 0, 1) := by decide +kernel
theorem d_Pa_nextByte_35 : decode b_Pa_nextByte 35 = .ok (.iconst 1, 1) := by decide +kernel
theorem d_Pa_nextByte_36 : decode b_Pa_nextByte 36 = .ok (.putfield 33, 3) := by decide +kernel
theorem d_Pa_nextByte_39 : decode b_Pa_nextByte 39 = .ok (.iconst (-1), 1) := by decide +kernel
theorem d_Pa_nextByte_40 : decode b_Pa_nextByte 40 = .ok (.ireturn, 1) := by decide +kernel
theorem d_Pa_nextByte_41 : decode b_Pa_nextByte 41 = .ok (.aload_n 0, 1) := by decide +kernel
theorem d_Pa_nextByte_42 : decode b_Pa_nextByte 42 = .ok (.aload_n 0, 1) := by decide +kernel
theorem d_Pa_nextByte_43 : decode b_Pa_nextByte 43 = .ok (.getfield 14, 3) := by decide +kernel
theorem d_Pa_nextByte_46 : decode b_Pa_nextByte 46 = .ok (.getfield 42, 3) := by decide +kernel
theorem d_Pa_nextByte_49 : decode b_Pa_nextByte 49 = .ok (.aload_n 0, 1) := by decide +kernel
theorem d_Pa_nextByte_50 : decode b_Pa_nextByte 50 = .ok (.getfield 23, 3) := by decide +kernel
theorem d_Pa_nextByte_53 : decode b_Pa_nextByte 53 = .ok (.baload, 1) := by decide +kernel
theorem d_Pa_nextByte_54 : decode b_Pa_nextByte 54 = .ok (.sipush 255, 3) := by decide +kernel
theorem d_Pa_nextByte_57 : decode b_Pa_nextByte 57 = .ok (.iand, 1) := by decide +kernel
theorem d_Pa_nextByte_58 : decode b_Pa_nextByte 58 = .ok (.putfield 27, 3) := by decide +kernel
theorem d_Pa_nextByte_61 : decode b_Pa_nextByte 61 = .ok (.aload_n 0, 1) := by decide +kernel
theorem d_Pa_nextByte_62 : decode b_Pa_nextByte 62 = .ok (.dup, 1) := by decide +kernel
theorem d_Pa_nextByte_63 : decode b_Pa_nextByte 63 = .ok (.getfield 23, 3) := by decide +kernel
theorem d_Pa_nextByte_66 : decode b_Pa_nextByte 66 = .ok (.iconst 1, 1) := by decide +kernel
theorem d_Pa_nextByte_67 : decode b_Pa_nextByte 67 = .ok (.iadd, 1) := by decide +kernel
theorem d_Pa_nextByte_68 : decode b_Pa_nextByte 68 = .ok (.putfield 23, 3) := by decide +kernel
theorem d_Pa_nextByte_71 : decode b_Pa_nextByte 71 = .ok (.aload_n 0, 1) := by decide +kernel
theorem d_Pa_nextByte_72 : decode b_Pa_nextByte 72 = .ok (.getfield 27, 3) := by decide +kernel
theorem d_Pa_nextByte_75 : decode b_Pa_nextByte 75 = .ok (.ireturn, 1) := by decide +kernel
noncomputable def f_Pa_nextByte  (n0 : Nat) (h0 : mH) (a0 : Nat) : Option (Int32 × mH) :=
  mpt h0 a0 8 4 (.int 0) fun h1 =>
  mgi h1 a0 8 2 fun v2 =>
  mgr h1 a0 8 0 fun r3 =>
  mgi h1 r3 1 1 fun v4 =>
  if v4 ≤ v2 then
    mpt h1 a0 8 5 (.int 1) fun h6 =>
    some ((-1), h6)
  else
    mgi h1 a0 8 2 fun v7 =>
    mgr h1 a0 8 0 fun r8 =>
    mgr h1 r8 1 0 fun r9 =>
    mln h1 r9 .byte fun v10 =>
    if v7 < v10 then
      mgr h1 a0 8 0 fun r12 =>
      mgr h1 r12 1 0 fun r13 =>
      mgi h1 a0 8 2 fun v14 =>
      mai h1 r13 .byte v14 fun v15 =>
      mpt h1 a0 8 3 (.int (v15 &&& 255)) fun h16 =>
      mgi h16 a0 8 2 fun v17 =>
      mpt h16 a0 8 2 (.int (v17 + 1)) fun h18 =>
      mgi h18 a0 8 3 fun v19 =>
      some (v19, h18)
    else
      mpt h1 a0 8 5 (.int 1) fun h20 =>
      some ((-1), h20)
set_option maxHeartbeats 4000000 in
set_option maxRecDepth 100000 in
theorem cb_Pa_nextByte {X : mX} {ad : Nat → Nat} {ln : Launch} (O : mO X ad R_Pa b_Pa_nextByte 1 (mR 0 0) ln) (r' : Int32) (h' : mH) (hE : mEnd X ad (some .int) (some (.int r')) h') (n0 : Nat) (h0 : mH) (a0 : Nat) (hf : f_Pa_nextByte n0 h0 a0 = some (r', h')) : mAW X ad 0 0 0 [(0, .ref a0)] [] h0 := by
  unfold f_Pa_nextByte at hf
  refine ax_aload_n O d_Pa_nextByte_0 rfl 0 rfl ?_
  refine ax_iconst (v := 0) O d_Pa_nextByte_1 (by decide) ?_
  obtain ⟨fh1, h1, ch1, kh1, eh1, hf⟩ := mpt_some hf
  refine ax_put (v := .int 0) O fp_Pa_30 ch1 kh1 eh1 rfl rfl d_Pa_nextByte_2 ?_
  refine ax_aload_n O d_Pa_nextByte_5 rfl 0 rfl ?_
  obtain ⟨fv2, v2, cv2, kv2, hf⟩ := mgi_some hf
  refine ax_get O fg_Pa_23 cv2 kv2 d_Pa_nextByte_6 ?_
  refine ax_aload_n O d_Pa_nextByte_9 rfl 0 rfl ?_
  obtain ⟨fr3, r3, cr3, kr3, hf⟩ := mgr_some hf
  refine ax_get O fg_Pa_14 cr3 kr3 d_Pa_nextByte_10 ?_
  obtain ⟨fv4, v4, cv4, kv4, hf⟩ := mgi_some hf
  refine ax_get O fg_Pa_39 cv4 kv4 d_Pa_nextByte_13 ?_
  refine ax_icmp_ge (tgt := 34) O d_Pa_nextByte_16 (by decide) (fun q5 => ?_) (fun q5 => ?_)
  · rw [if_pos q5] at hf
    refine ax_aload_n O d_Pa_nextByte_34 rfl 0 rfl ?_
    refine ax_iconst (v := 1) O d_Pa_nextByte_35 (by decide) ?_
    obtain ⟨fh6, h6, ch6, kh6, eh6, hf⟩ := mpt_some hf
    refine ax_put (v := .int 1) O fp_Pa_33 ch6 kh6 eh6 rfl rfl d_Pa_nextByte_36 ?_
    refine ax_iconst (v := (-1)) O d_Pa_nextByte_39 (by decide) ?_
    exact ax_retE O hE hf rfl d_Pa_nextByte_40
  · rw [if_neg q5] at hf
    refine ax_aload_n O d_Pa_nextByte_19 rfl 0 rfl ?_
    obtain ⟨fv7, v7, cv7, kv7, hf⟩ := mgi_some hf
    refine ax_get O fg_Pa_23 cv7 kv7 d_Pa_nextByte_20 ?_
    refine ax_aload_n O d_Pa_nextByte_23 rfl 0 rfl ?_
    obtain ⟨fr8, r8, cr8, kr8, hf⟩ := mgr_some hf
    refine ax_get O fg_Pa_14 cr8 kr8 d_Pa_nextByte_24 ?_
    obtain ⟨fr9, r9, cr9, kr9, hf⟩ := mgr_some hf
    refine ax_get O fg_Pa_42 cr9 kr9 d_Pa_nextByte_27 ?_
    obtain ⟨xv10, v10, cv10, kv10, hf⟩ := mln_some hf
    refine ax_alen O (by decide) cv10 kv10 d_Pa_nextByte_30 ?_
    refine ax_icmp_lt (tgt := 41) O d_Pa_nextByte_31 (by decide) (fun q11 => ?_) (fun q11 => ?_)
    · rw [if_pos q11] at hf
      refine ax_aload_n O d_Pa_nextByte_41 rfl 0 rfl ?_
      refine ax_aload_n O d_Pa_nextByte_42 rfl 0 rfl ?_
      obtain ⟨fr12, r12, cr12, kr12, hf⟩ := mgr_some hf
      refine ax_get O fg_Pa_14 cr12 kr12 d_Pa_nextByte_43 ?_
      obtain ⟨fr13, r13, cr13, kr13, hf⟩ := mgr_some hf
      refine ax_get O fg_Pa_42 cr13 kr13 d_Pa_nextByte_46 ?_
      refine ax_aload_n O d_Pa_nextByte_49 rfl 0 rfl ?_
      obtain ⟨fv14, v14, cv14, kv14, hf⟩ := mgi_some hf
      refine ax_get O fg_Pa_23 cv14 kv14 d_Pa_nextByte_50 ?_
      obtain ⟨nv15, fv15, v15, cv15, iv15, kv15, hf⟩ := mai_some hf
      refine ax_bald O cv15 iv15 kv15 d_Pa_nextByte_53 ?_
      refine ax_sipush (v := 255) O d_Pa_nextByte_54 (by decide) ?_
      refine ax_iand O d_Pa_nextByte_57 ?_
      obtain ⟨fh16, h16, ch16, kh16, eh16, hf⟩ := mpt_some hf
      refine ax_put (v := .int (v15 &&& 255)) O fp_Pa_27 ch16 kh16 eh16 rfl rfl d_Pa_nextByte_58 ?_
      refine ax_aload_n O d_Pa_nextByte_61 rfl 0 rfl ?_
      refine ax_dup O d_Pa_nextByte_62 rfl ?_
      obtain ⟨fv17, v17, cv17, kv17, hf⟩ := mgi_some hf
      refine ax_get O fg_Pa_23 cv17 kv17 d_Pa_nextByte_63 ?_
      refine ax_iconst (v := 1) O d_Pa_nextByte_66 (by decide) ?_
      refine ax_iadd O d_Pa_nextByte_67 ?_
      obtain ⟨fh18, h18, ch18, kh18, eh18, hf⟩ := mpt_some hf
      refine ax_put (v := .int (v17 + 1)) O fp_Pa_23 ch18 kh18 eh18 rfl rfl d_Pa_nextByte_68 ?_
      refine ax_aload_n O d_Pa_nextByte_71 rfl 0 rfl ?_
      obtain ⟨fv19, v19, cv19, kv19, hf⟩ := mgi_some hf
      refine ax_get O fg_Pa_27 cv19 kv19 d_Pa_nextByte_72 ?_
      exact ax_retE O hE hf rfl d_Pa_nextByte_75
    · rw [if_neg q11] at hf
      refine ax_aload_n O d_Pa_nextByte_34 rfl 0 rfl ?_
      refine ax_iconst (v := 1) O d_Pa_nextByte_35 (by decide) ?_
      obtain ⟨fh20, h20, ch20, kh20, eh20, hf⟩ := mpt_some hf
      refine ax_put (v := .int 1) O fp_Pa_33 ch20 kh20 eh20 rfl rfl d_Pa_nextByte_36 ?_
      refine ax_iconst (v := (-1)) O d_Pa_nextByte_39 (by decide) ?_
      exact ax_retE O hE hf rfl d_Pa_nextByte_40
theorem c_Pa_nextByte {ln : Launch} {n0 : Nat} {h0 h' : mH} {a0 : Nat} {r' : Int32} (hf : f_Pa_nextByte n0 h0 a0 = some (r', h')) : mMet ln y_Pa_nextByte b_Pa_nextByte 1 (some .int) (mR 0 0) [.ref a0] h0 (some (.int r')) h' := mMet_of (by decide +kernel) (Nat.le_of_ble_eq_true rfl) (fun X ad O hE => cb_Pa_nextByte O r' h' hE n0 h0 a0 hf)
/-! ===== StreamFilters$Pass.nextBit(Z)I ===== -/
theorem d_Pa_nextBit_0 : decode b_Pa_nextBit 0 = .ok (.aload_n 0, 1) := by decide +kernel
theorem d_Pa_nextBit_1 : decode b_Pa_nextBit 1 = .ok (.getfield 30, 3) := by decide +kernel
theorem d_Pa_nextBit_4 : decode b_Pa_nextBit 4 = .ok (.ifCond .ne 19, 3) := by decide +kernel
theorem d_Pa_nextBit_7 : decode b_Pa_nextBit 7 = .ok (.aload_n 0, 1) := by decide +kernel
theorem d_Pa_nextBit_8 : decode b_Pa_nextBit 8 = .ok (.invokevirtual 47, 3) := by decide +kernel
theorem d_Pa_nextBit_11 : decode b_Pa_nextBit 11 = .ok (.iconst (-1), 1) := by decide +kernel
theorem d_Pa_nextBit_12 : decode b_Pa_nextBit 12 = .ok (.if_icmp .ne 5, 3) := by decide +kernel
theorem d_Pa_nextBit_15 : decode b_Pa_nextBit 15 = .ok (.iconst (-1), 1) := by decide +kernel
theorem d_Pa_nextBit_16 : decode b_Pa_nextBit 16 = .ok (.ireturn, 1) := by decide +kernel
theorem d_Pa_nextBit_17 : decode b_Pa_nextBit 17 = .ok (.aload_n 0, 1) := by decide +kernel
theorem d_Pa_nextBit_18 : decode b_Pa_nextBit 18 = .ok (.bipush 8, 2) := by decide +kernel
theorem d_Pa_nextBit_20 : decode b_Pa_nextBit 20 = .ok (.putfield 30, 3) := by decide +kernel
theorem d_Pa_nextBit_23 : decode b_Pa_nextBit 23 = .ok (.aload_n 0, 1) := by decide +kernel
theorem d_Pa_nextBit_24 : decode b_Pa_nextBit 24 = .ok (.dup, 1) := by decide +kernel
theorem d_Pa_nextBit_25 : decode b_Pa_nextBit 25 = .ok (.getfield 30, 3) := by decide +kernel
theorem d_Pa_nextBit_28 : decode b_Pa_nextBit 28 = .ok (.iconst 1, 1) := by decide +kernel
theorem d_Pa_nextBit_29 : decode b_Pa_nextBit 29 = .ok (.isub, 1) := by decide +kernel
theorem d_Pa_nextBit_30 : decode b_Pa_nextBit 30 = .ok (.putfield 30, 3) := by decide +kernel
theorem d_Pa_nextBit_33 : decode b_Pa_nextBit 33 = .ok (.aload_n 0, 1) := by decide +kernel
theorem d_Pa_nextBit_34 : decode b_Pa_nextBit 34 = .ok (.getfield 27, 3) := by decide +kernel
theorem d_Pa_nextBit_37 : decode b_Pa_nextBit 37 = .ok (.iload_n 1, 1) := by decide +kernel
theorem d_Pa_nextBit_38 : decode b_Pa_nextBit 38 = .ok (.ifCond .eq 13, 3) := by decide +kernel
theorem d_Pa_nextBit_41 : decode b_Pa_nextBit 41 = .ok (.bipush 7, 2) := by decide +kernel
theorem d_Pa_nextBit_43 : decode b_Pa_nextBit 43 = .ok (.aload_n 0, 1) := by decide +kernel
theorem d_Pa_nextBit_44 : decode b_Pa_nextBit 44 = .ok (.getfield 30, 3) := by decide +kernel
theorem d_Pa_nextBit_47 : decode b_Pa_nextBit 47 = .ok (.isub, 1) := by decide +kernel
theorem d_Pa_nextBit_48 : decode b_Pa_nextBit 48 = .ok (.goto 7, 3) := by decide +kernel
theorem d_Pa_nextBit_51 : decode b_Pa_nextBit 51 = .ok (.aload_n 0, 1) := by decide +kernel
theorem d_Pa_nextBit_52 : decode b_Pa_nextBit 52 = .ok (.getfield 30, 3) := by decide +kernel
theorem d_Pa_nextBit_55 : decode b_Pa_nextBit 55 = .ok (.ishr, 1) := by decide +kernel
theorem d_Pa_nextBit_56 : decode b_Pa_nextBit 56 = .ok (.iconst 1, 1) := by decide +kernel
theorem d_Pa_nextBit_57 : decode b_Pa_nextBit 57 = .ok (.iand, 1) := by decide +kernel
theorem d_Pa_nextBit_58 : decode b_Pa_nextBit 58 = .ok (.ireturn, 1) := by decide +kernel
noncomputable def f_Pa_nextBit_B23  (n0 : Nat) (h0 : mH) (a0 : Nat) (x1 : Int32) : Option (Int32 × mH) :=
  mgi h0 a0 8 4 fun v3 =>
  mpt h0 a0 8 4 (.int (v3 - 1)) fun h4 =>
  mgi h4 a0 8 3 fun v5 =>
  if x1 = 0 then
    mgi h4 a0 8 4 fun v7 =>
    some ((v5 >>> (v7 &&& 31)) &&& 1, h4)
  else
    mgi h4 a0 8 4 fun v8 =>
    some ((v5 >>> ((7 - v8) &&& 31)) &&& 1, h4)
noncomputable def f_Pa_nextBit  (n0 : Nat) (h0 : mH) (a0 : Nat) (x1 : Int32) : Option (Int32 × mH) :=
  mgi h0 a0 8 4 fun v1 =>
  if v1 = 0 then
    mis h0 a0 8 <|
    mcl (f_Pa_nextByte n0 h0 a0) fun v10 h11 =>
    if v10 = (-1) then
      some ((-1), h11)
    else
      mpt h11 a0 8 4 (.int 8) fun h13 =>
      f_Pa_nextBit_B23 n0 h13 a0 x1
  else
    f_Pa_nextBit_B23 n0 h0 a0 x1
set_option maxHeartbeats 4000000 in
set_option maxRecDepth 100000 in
theorem cb_Pa_nextBit_B23 {X : mX} {ad : Nat → Nat} {ln : Launch} (O : mO X ad R_Pa b_Pa_nextBit 2 (mR 1 20) ln) (r' : Int32) (h' : mH) (hE : mEnd X ad (some .int) (some (.int r')) h') (n0 : Nat) (h0 : mH) (a0 : Nat) (x1 : Int32) (hf : f_Pa_nextBit_B23 n0 h0 a0 x1 = some (r', h')) : mAW X ad 0 0 23 [(0, .ref a0), (1, .int x1)] [] h0 := by
  unfold f_Pa_nextBit_B23 at hf
  refine ax_aload_n O d_Pa_nextBit_23 rfl 0 rfl ?_
  refine ax_dup O d_Pa_nextBit_24 rfl ?_
  obtain ⟨fv3, v3, cv3, kv3, hf⟩ := mgi_some hf
  refine ax_get O fg_Pa_30 cv3 kv3 d_Pa_nextBit_25 ?_
  refine ax_iconst (v := 1) O d_Pa_nextBit_28 (by decide) ?_
  refine ax_isub O d_Pa_nextBit_29 ?_
  obtain ⟨fh4, h4, ch4, kh4, eh4, hf⟩ := mpt_some hf
  refine ax_put (v := .int (v3 - 1)) O fp_Pa_30 ch4 kh4 eh4 rfl rfl d_Pa_nextBit_30 ?_
  refine ax_aload_n O d_Pa_nextBit_33 rfl 0 rfl ?_
  obtain ⟨fv5, v5, cv5, kv5, hf⟩ := mgi_some hf
  refine ax_get O fg_Pa_27 cv5 kv5 d_Pa_nextBit_34 ?_
  refine ax_iload_n O d_Pa_nextBit_37 rfl 1 rfl ?_
  refine ax_if_eq (tgt := 51) O d_Pa_nextBit_38 (by decide) (fun q6 => ?_) (fun q6 => ?_)
  · rw [if_pos q6] at hf
    refine ax_aload_n O d_Pa_nextBit_51 rfl 0 rfl ?_
    obtain ⟨fv7, v7, cv7, kv7, hf⟩ := mgi_some hf
    refine ax_get O fg_Pa_30 cv7 kv7 d_Pa_nextBit_52 ?_
    refine ax_ishr O d_Pa_nextBit_55 ?_
    refine ax_iconst (v := 1) O d_Pa_nextBit_56 (by decide) ?_
    refine ax_iand O d_Pa_nextBit_57 ?_
    exact ax_retE O hE hf rfl d_Pa_nextBit_58
  · rw [if_neg q6] at hf
    refine ax_bipush (v := 7) O d_Pa_nextBit_41 (by decide) ?_
    refine ax_aload_n O d_Pa_nextBit_43 rfl 0 rfl ?_
    obtain ⟨fv8, v8, cv8, kv8, hf⟩ := mgi_some hf
    refine ax_get O fg_Pa_30 cv8 kv8 d_Pa_nextBit_44 ?_
    refine ax_isub O d_Pa_nextBit_47 ?_
    refine ax_goto (tgt := 55) O d_Pa_nextBit_48 (by decide) ?_
    refine ax_ishr O d_Pa_nextBit_55 ?_
    refine ax_iconst (v := 1) O d_Pa_nextBit_56 (by decide) ?_
    refine ax_iand O d_Pa_nextBit_57 ?_
    exact ax_retE O hE hf rfl d_Pa_nextBit_58
set_option maxHeartbeats 4000000 in
set_option maxRecDepth 100000 in
theorem cb_Pa_nextBit {X : mX} {ad : Nat → Nat} {ln : Launch} (O : mO X ad R_Pa b_Pa_nextBit 2 (mR 1 20) ln) (r' : Int32) (h' : mH) (hE : mEnd X ad (some .int) (some (.int r')) h') (n0 : Nat) (h0 : mH) (a0 : Nat) (x1 : Int32) (hf : f_Pa_nextBit n0 h0 a0 x1 = some (r', h')) : mAW X ad 0 0 0 [(0, .ref a0), (1, .int x1)] [] h0 := by
  unfold f_Pa_nextBit at hf
  refine ax_aload_n O d_Pa_nextBit_0 rfl 0 rfl ?_
  obtain ⟨fv1, v1, cv1, kv1, hf⟩ := mgi_some hf
  refine ax_get O fg_Pa_30 cv1 kv1 d_Pa_nextBit_1 ?_
  refine ax_if_ne (tgt := 23) O d_Pa_nextBit_4 (by decide) (fun q2 => ?_) (fun q2 => ?_)
  · rw [if_neg q2] at hf
    exact cb_Pa_nextBit_B23 O _ _ hE n0 _ _ _ hf
  · rw [if_pos q2] at hf
    refine ax_aload_n O d_Pa_nextBit_7 rfl 0 rfl ?_
    obtain ⟨fh11, ch11, hf⟩ := mis_some hf
    obtain ⟨v10, h11, mh11, hf⟩ := mcl_some hf
    refine ax_callV (As := []) (rest := []) O cw_Pa_nextByte (q := (R_Pa, T_Pa, 7)) rfl rfl in_Pa_nextByte se_Pa_nextByte lk_Pa_47 ch11 (c_Pa_nextByte mh11) rfl ⟨rfl, rfl⟩ (by decide) (by decide) (Nat.le_of_ble_eq_true rfl) d_Pa_nextBit_8 ?_
    refine ax_iconst (v := (-1)) O d_Pa_nextBit_11 (by decide) ?_
    refine ax_icmp_ne (tgt := 17) O d_Pa_nextBit_12 (by decide) (fun q12 => ?_) (fun q12 => ?_)
    · rw [if_neg q12] at hf
      refine ax_aload_n O d_Pa_nextBit_17 rfl 0 rfl ?_
      refine ax_bipush (v := 8) O d_Pa_nextBit_18 (by decide) ?_
      obtain ⟨fh13, h13, ch13, kh13, eh13, hf⟩ := mpt_some hf
      refine ax_put (v := .int 8) O fp_Pa_30 ch13 kh13 eh13 rfl rfl d_Pa_nextBit_20 ?_
      exact cb_Pa_nextBit_B23 O _ _ hE n0 _ _ _ hf
    · rw [if_pos q12] at hf
      refine ax_iconst (v := (-1)) O d_Pa_nextBit_15 (by decide) ?_
      exact ax_retE O hE hf rfl d_Pa_nextBit_16
theorem c_Pa_nextBit {ln : Launch} {n0 : Nat} {h0 h' : mH} {a0 : Nat} {x1 : Int32} {r' : Int32} (hf : f_Pa_nextBit n0 h0 a0 x1 = some (r', h')) : mMet ln y_Pa_nextBit b_Pa_nextBit 2 (some .int) (mR 1 20) [.ref a0, .int x1] h0 (some (.int r')) h' := mMet_of (by decide +kernel) (Nat.le_of_ble_eq_true rfl) (fun X ad O hE => cb_Pa_nextBit O r' h' hE n0 h0 a0 x1 hf)
/-! ===== StreamFilters$Pass.fail(I)Z ===== -/
theorem d_Pa_fail_0 : decode b_Pa_fail 0 = .ok (.aload_n 0, 1) := by decide +kernel
theorem d_Pa_fail_1 : decode b_Pa_fail 1 = .ok (.iload_n 1, 1) := by decide +kernel
theorem d_Pa_fail_2 : decode b_Pa_fail 2 = .ok (.putfield 33, 3) := by decide +kernel
theorem d_Pa_fail_5 : decode b_Pa_fail 5 = .ok (.iconst 0, 1) := by decide +kernel
theorem d_Pa_fail_6 : decode b_Pa_fail 6 = .ok (.ireturn, 1) := by decide +kernel
noncomputable def f_Pa_fail  (n0 : Nat) (h0 : mH) (a0 : Nat) (x1 : Int32) : Option (Int32 × mH) :=
  mpt h0 a0 8 5 (.int x1) fun h1 =>
  some (0, h1)
set_option maxHeartbeats 4000000 in
set_option maxRecDepth 100000 in
theorem cb_Pa_fail {X : mX} {ad : Nat → Nat} {ln : Launch} (O : mO X ad R_Pa b_Pa_fail 2 (mR 0 0) ln) (r' : Int32) (h' : mH) (hE : mEnd X ad (some .boolean) (some (.int r')) h') (n0 : Nat) (h0 : mH) (a0 : Nat) (x1 : Int32) (hf : f_Pa_fail n0 h0 a0 x1 = some (r', h')) : mAW X ad 0 0 0 [(0, .ref a0), (1, .int x1)] [] h0 := by
  unfold f_Pa_fail at hf
  refine ax_aload_n O d_Pa_fail_0 rfl 0 rfl ?_
  refine ax_iload_n O d_Pa_fail_1 rfl 1 rfl ?_
  obtain ⟨fh1, h1, ch1, kh1, eh1, hf⟩ := mpt_some hf
  refine ax_put (v := .int x1) O fp_Pa_33 ch1 kh1 eh1 rfl rfl d_Pa_fail_2 ?_
  refine ax_iconst (v := 0) O d_Pa_fail_5 (by decide) ?_
  exact ax_retE O hE hf rfl d_Pa_fail_6
theorem c_Pa_fail {ln : Launch} {n0 : Nat} {h0 h' : mH} {a0 : Nat} {x1 : Int32} {r' : Int32} (hf : f_Pa_fail n0 h0 a0 x1 = some (r', h')) : mMet ln y_Pa_fail b_Pa_fail 2 (some .boolean) (mR 0 0) [.ref a0, .int x1] h0 (some (.int r')) h' := mMet_of (by decide +kernel) (Nat.le_of_ble_eq_true rfl) (fun X ad O hE => cb_Pa_fail O r' h' hE n0 h0 a0 x1 hf)
/-! ===== StreamFilters$Codes.read(LStreamFilters$Pass;)I ===== -/
theorem d_Co_read_0 : decode b_Co_read 0 = .ok (.iconst 0, 1) := by decide +kernel
theorem d_Co_read_1 : decode b_Co_read 1 = .ok (.istore_n 2, 1) := by decide +kernel
theorem d_Co_read_2 : decode b_Co_read 2 = .ok (.iconst 0, 1) := by decide +kernel
theorem d_Co_read_3 : decode b_Co_read 3 = .ok (.istore_n 3, 1) := by decide +kernel
theorem d_Co_read_4 : decode b_Co_read 4 = .ok (.iconst 0, 1) := by decide +kernel
theorem d_Co_read_5 : decode b_Co_read 5 = .ok (.istore 4, 2) := by decide +kernel
theorem d_Co_read_7 : decode b_Co_read 7 = .ok (.iconst 1, 1) := by decide +kernel
theorem d_Co_read_8 : decode b_Co_read 8 = .ok (.istore 5, 2) := by decide +kernel
theorem d_Co_read_10 : decode b_Co_read 10 = .ok (.iload 5, 2) := by decide +kernel
theorem d_Co_read_12 : decode b_Co_read 12 = .ok (.aload_n 0, 1) := by decide +kernel
theorem d_Co_read_13 : decode b_Co_read 13 = .ok (.getfield 22, 3) := by decide +kernel
theorem d_Co_read_16 : decode b_Co_read 16 = .ok (.if_icmp .gt 109, 3) := by decide +kernel
theorem d_Co_read_19 : decode b_Co_read 19 = .ok (.iload 5, 2) := by decide +kernel
theorem d_Co_read_21 : decode b_Co_read 21 = .ok (.aload_n 0, 1) := by decide +kernel
theorem d_Co_read_22 : decode b_Co_read 22 = .ok (.getfield 11, 3) := by decide +kernel
theorem d_Co_read_25 : decode b_Co_read 25 = .ok (.arraylength, 1) := by decide +kernel
theorem d_Co_read_26 : decode b_Co_read 26 = .ok (.if_icmp .ge 99, 3) := by decide +kernel
theorem d_Co_read_29 : decode b_Co_read 29 = .ok (.aload_n 1, 1) := by decide +kernel
theorem d_Co_read_30 : decode b_Co_read 30 = .ok (.iconst 1, 1) := by decide +kernel
theorem d_Co_read_31 : decode b_Co_read 31 = .ok (.invokevirtual 43, 3) := by decide +kernel
theorem d_Co_read_34 : decode b_Co_read 34 = .ok (.istore 6, 2) := by decide +kernel
theorem d_Co_read_36 : decode b_Co_read 36 = .ok (.iload 6, 2) := by decide +kernel
theorem d_Co_read_38 : decode b_Co_read 38 = .ok (.iconst (-1), 1) := by decide +kernel
theorem d_Co_read_39 : decode b_Co_read 39 = .ok (.if_icmp .ne 5, 3) := by decide +kernel
theorem d_Co_read_42 : decode b_Co_read 42 = .ok (.iconst (-1), 1) := by decide +kernel
theorem d_Co_read_43 : decode b_Co_read 43 = .ok (.ireturn, 1) := by decide +kernel
theorem d_Co_read_44 : decode b_Co_read 44 = .ok (.iload_n 2, 1) := by decide +kernel
theorem d_Co_read_45 : decode b_Co_read 45 = .ok (.iconst 2, 1) := by decide +kernel
theorem d_Co_read_46 : decode b_Co_read 46 = .ok (.imul, 1) := by decide +kernel
theorem d_Co_read_47 : decode b_Co_read 47 = .ok (.iload 6, 2) := by decide +kernel
theorem d_Co_read_49 : decode b_Co_read 49 = .ok (.iadd, 1) := by decide +kernel
theorem d_Co_read_50 : decode b_Co_read 50 = .ok (.istore_n 2, 1) := by decide +kernel
theorem d_Co_read_51 : decode b_Co_read 51 = .ok (.iload 4, 2) := by decide +kernel
theorem d_Co_read_53 : decode b_Co_read 53 = .ok (.iload_n 2, 1) := by decide +kernel
theorem d_Co_read_54 : decode b_Co_read 54 = .ok (.iadd, 1) := by decide +kernel
theorem d_Co_read_55 : decode b_Co_read 55 = .ok (.iload_n 3, 1) := by decide +kernel
theorem d_Co_read_56 : decode b_Co_read 56 = .ok (.isub, 1) := by decide +kernel
theorem d_Co_read_57 : decode b_Co_read 57 = .ok (.istore 7, 2) := by decide +kernel
theorem d_Co_read_59 : decode b_Co_read 59 = .ok (.iload_n 2, 1) := by decide +kernel
theorem d_Co_read_60 : decode b_Co_read 60 = .ok (.iload_n 3, 1) := by decide +kernel
theorem d_Co_read_61 : decode b_Co_read 61 = .ok (.aload_n 0, 1) := by decide +kernel
theorem d_Co_read_62 : decode b_Co_read 62 = .ok (.getfield 11, 3) := by decide +kernel
theorem d_Co_read_65 : decode b_Co_read 65 = .ok (.iload 5, 2) := by decide +kernel
theorem d_Co_read_67 : decode b_Co_read 67 = .ok (.iaload, 1) := by decide +kernel
theorem d_Co_read_68 : decode b_Co_read 68 = .ok (.iadd, 1) := by decide +kernel
theorem d_Co_read_69 : decode b_Co_read 69 = .ok (.if_icmp .ge 26, 3) := by decide +kernel
theorem d_Co_read_72 : decode b_Co_read 72 = .ok (.iload 7, 2) := by decide +kernel
theorem d_Co_read_74 : decode b_Co_read 74 = .ok (.ifCond .lt 21, 3) := by decide +kernel
theorem d_Co_read_77 : decode b_Co_read 77 = .ok (.iload 7, 2) := by decide +kernel
theorem d_Co_read_79 : decode b_Co_read 79 = .ok (.aload_n 0, 1) := by decide +kernel
theorem d_Co_read_80 : decode b_Co_read 80 = .ok (.getfield 31, 3) := by decide +kernel
theorem d_Co_read_83 : decode b_Co_read 83 = .ok (.arraylength, 1) := by decide +kernel
theorem d_Co_read_84 : decode b_Co_read 84 = .ok (.if_icmp .ge 11, 3) := by decide +kernel
theorem d_Co_read_87 : decode b_Co_read 87 = .ok (.aload_n 0, 1) := by decide +kernel
theorem d_Co_read_88 : decode b_Co_read 88 = .ok (.getfield 31, 3) := by decide +kernel
theorem d_Co_read_91 : decode b_Co_read 91 = .ok (.iload 7, 2) := by decide +kernel
theorem d_Co_read_93 : decode b_Co_read 93 = .ok (.iaload, 1) := by decide +kernel
theorem d_Co_read_94 : decode b_Co_read 94 = .ok (.ireturn, 1) := by decide +kernel
theorem d_Co_read_95 : decode b_Co_read 95 = .ok (.iload 4, 2) := by decide +kernel
theorem d_Co_read_97 : decode b_Co_read 97 = .ok (.aload_n 0, 1) := by decide +kernel
theorem d_Co_read_98 : decode b_Co_read 98 = .ok (.getfield 11, 3) := by decide +kernel
theorem d_Co_read_101 : decode b_Co_read 101 = .ok (.iload 5, 2) := by decide +kernel
theorem d_Co_read_103 : decode b_Co_read 103 = .ok (.iaload, 1) := by decide +kernel
theorem d_Co_read_104 : decode b_Co_read 104 = .ok (.iadd, 1) := by decide +kernel
theorem d_Co_read_105 : decode b_Co_read 105 = .ok (.istore 4, 2) := by decide +kernel
theorem d_Co_read_107 : decode b_Co_read 107 = .ok (.iload_n 3, 1) := by decide +kernel
theorem d_Co_read_108 : decode b_Co_read 108 = .ok (.aload_n 0, 1) := by decide +kernel
theorem d_Co_read_109 : decode b_Co_read 109 = .ok (.getfield 11, 3) := by decide +kernel
theorem d_Co_read_112 : decode b_Co_read 112 = .ok (.iload 5, 2) := by decide +kernel
theorem d_Co_read_114 : decode b_Co_read 114 = .ok (.iaload, 1) := by decide +kernel
theorem d_Co_read_115 : decode b_Co_read 115 = .ok (.iadd, 1) := by decide +kernel
theorem d_Co_read_116 : decode b_Co_read 116 = .ok (.iconst 2, 1) := by decide +kernel
theorem d_Co_read_117 : decode b_Co_read 117 = .ok (.imul, 1) := by decide +kernel
theorem d_Co_read_118 : decode b_Co_read 118 = .ok (.istore_n 3, 1) := by decide +kernel
theorem d_Co_read_119 : decode b_Co_read 119 = .ok (.iinc 5 1, 3) := by decide +kernel
theorem d_Co_read_122 : decode b_Co_read 122 = .ok (.goto (-112), 3) := by decide +kernel
theorem d_Co_read_125 : decode b_Co_read 125 = .ok (.aload_n 1, 1) := by decide +kernel
theorem d_Co_read_126 : decode b_Co_read 126 = .ok (.bipush 7, 2) := by decide +kernel
theorem d_Co_read_128 : decode b_Co_read 128 = .ok (.invokevirtual 49, 3) := by decide +kernel
theorem d_Co_read_131 : decode b_Co_read 131 = .ok (.pop, 1) := by decide +kernel
theorem d_Co_read_132 : decode b_Co_read 132 = .ok (.iconst (-1), 1) := by decide +kernel
theorem d_Co_read_133 : decode b_Co_read 133 = .ok (.ireturn, 1) := by decide +kernel
noncomputable def f_Co_read_B125  (n0 : Nat) (h0 : mH) (a1 : Nat) : Option (Int32 × mH) :=
  mis h0 a1 8 <|
  mcl (f_Pa_fail n0 h0 a1 7) fun v4 h5 =>
  some ((-1), h5)
noncomputable def f_Co_read_B95 (K10 : mH → Nat → Nat → Int32 → Int32 → Int32 → Int32 → Option (Int32 × mH)) (n0 : Nat) (h0 : mH) (a0 : Nat) (a1 : Nat) (x2 : Int32) (x3 : Int32) (x4 : Int32) (x5 : Int32) : Option (Int32 × mH) :=
  mgr h0 a0 2 0 fun r18 =>
  mai h0 r18 .int x5 fun v19 =>
  mnm (x4 + v19) fun v20 =>
  mgr h0 a0 2 0 fun r21 =>
  mai h0 r21 .int x5 fun v22 =>
  mnm ((x3 + v22) * 2) fun v23 =>
  mnm (x5 + 1) fun v24 =>
  K10 h0 a0 a1 x2 v23 v20 v24
noncomputable def f_Co_read_L10  (n0 : Nat) : Nat → mH → Nat → Nat → Int32 → Int32 → Int32 → Int32 → Option (Int32 × mH)
  | 0, _, _, _, _, _, _, _ => none
  | n + 1, h0, a0, a1, x2, x3, x4, x5 =>
    mgi h0 a0 2 4 fun v1 =>
    if v1 < x5 then
      f_Co_read_B125 n0 h0 a1
    else
      mgr h0 a0 2 0 fun r6 =>
      mln h0 r6 .int fun v7 =>
      if v7 ≤ x5 then
        f_Co_read_B125 n0 h0 a1
      else
        mis h0 a1 8 <|
        mcl (f_Pa_nextBit n0 h0 a1 1) fun v10 h11 =>
        if v10 = (-1) then
          some ((-1), h11)
        else
          mnm ((x2 * 2) + v10) fun v13 =>
          mnm ((x4 + v13) - x3) fun v14 =>
          mgr h11 a0 2 0 fun r15 =>
          mai h11 r15 .int x5 fun v16 =>
          if (x3 + v16) ≤ v13 then
            f_Co_read_B95 (f_Co_read_L10 n0 n) n0 h11 a0 a1 v13 x3 x4 x5
          else
            if v14 < 0 then
              f_Co_read_B95 (f_Co_read_L10 n0 n) n0 h11 a0 a1 v13 x3 x4 x5
            else
              mgr h11 a0 2 2 fun r26 =>
              mln h11 r26 .int fun v27 =>
              if v27 ≤ v14 then
                f_Co_read_B95 (f_Co_read_L10 n0 n) n0 h11 a0 a1 v13 x3 x4 x5
              else
                mgr h11 a0 2 2 fun r29 =>
                mai h11 r29 .int v14 fun v30 =>
                some (v30, h11)
noncomputable def f_Co_read  (n0 : Nat) (h0 : mH) (a0 : Nat) (a1 : Nat) : Option (Int32 × mH) :=
  f_Co_read_L10 n0 n0 h0 a0 a1 0 0 0 1
set_option maxHeartbeats 4000000 in
set_option maxRecDepth 100000 in
theorem cb_Co_read_B125 {X : mX} {ad : Nat → Nat} {ln : Launch} (O : mO X ad R_Co b_Co_read 8 (mR 2 41) ln) (r' : Int32) (h' : mH) (hE : mEnd X ad (some .int) (some (.int r')) h') (n0 : Nat) (h0 : mH) (a1 : Nat) (hf : f_Co_read_B125 n0 h0 a1 = some (r', h')) : mAW X ad 0 0 125 [(1, .ref a1)] [] h0 := by
  unfold f_Co_read_B125 at hf
  refine ax_aload_n O d_Co_read_125 rfl 0 rfl ?_
  refine ax_bipush (v := 7) O d_Co_read_126 (by decide) ?_
  obtain ⟨fh5, ch5, hf⟩ := mis_some hf
  obtain ⟨v4, h5, mh5, hf⟩ := mcl_some hf
  refine ax_callV (As := [.int 7]) (rest := []) O cw_Pa_fail (q := (R_Pa, T_Pa, 7)) rfl rfl in_Pa_fail se_Pa_fail lk_Co_49 ch5 (c_Pa_fail mh5) rfl ⟨rfl, rfl⟩ (by decide) (by decide) (Nat.le_of_ble_eq_true rfl) d_Co_read_128 ?_
  refine ax_pop O d_Co_read_131 rfl ?_
  refine ax_iconst (v := (-1)) O d_Co_read_132 (by decide) ?_
  exact ax_retE O hE hf rfl d_Co_read_133
set_option maxHeartbeats 4000000 in
set_option maxRecDepth 100000 in
theorem cb_Co_read_B95 {X : mX} {ad : Nat → Nat} {ln : Launch} (O : mO X ad R_Co b_Co_read 8 (mR 2 41) ln) (K10 : mH → Nat → Nat → Int32 → Int32 → Int32 → Int32 → Option (Int32 × mH)) (r' : Int32) (h' : mH) (hE : mEnd X ad (some .int) (some (.int r')) h') (hK10 : ∀ (h : mH) (a0 : Nat) (a1 : Nat) (x2 : Int32) (x3 : Int32) (x4 : Int32) (x5 : Int32), K10 h a0 a1 x2 x3 x4 x5 = some (r', h') → mAW X ad 0 0 10 [(0, .ref a0), (1, .ref a1), (2, .int x2), (3, .int x3), (4, .int x4), (5, .int x5)] [] h) (n0 : Nat) (h0 : mH) (a0 : Nat) (a1 : Nat) (x2 : Int32) (x3 : Int32) (x4 : Int32) (x5 : Int32) (hf : f_Co_read_B95 K10 n0 h0 a0 a1 x2 x3 x4 x5 = some (r', h')) : mAW X ad 0 0 95 [(0, .ref a0), (1, .ref a1), (2, .int x2), (3, .int x3), (4, .int x4), (5, .int x5)] [] h0 := by
  unfold f_Co_read_B95 at hf
  refine ax_iload O d_Co_read_95 4 rfl ?_
  refine ax_aload_n O d_Co_read_97 rfl 0 rfl ?_
  obtain ⟨fr18, r18, cr18, kr18, hf⟩ := mgr_some hf
  refine ax_get O fg_Co_11 cr18 kr18 d_Co_read_98 ?_
  refine ax_iload O d_Co_read_101 5 rfl ?_
  obtain ⟨nv19, fv19, v19, cv19, iv19, kv19, hf⟩ := mai_some hf
  refine ax_iald O cv19 iv19 kv19 d_Co_read_103 ?_
  refine ax_iadd O d_Co_read_104 ?_
  obtain ⟨v20, ev20, hf⟩ := mnm_some hf
  refine ax_nmi ev20 ?_
  refine ax_istore (lv' := [(4, .int v20), (0, .ref a0), (1, .ref a1), (2, .int x2), (3, .int x3), (5, .int x5)]) O d_Co_read_105 (by decide) rfl ?_
  refine ax_iload_n O d_Co_read_107 rfl 4 rfl ?_
  refine ax_aload_n O d_Co_read_108 rfl 1 rfl ?_
  obtain ⟨fr21, r21, cr21, kr21, hf⟩ := mgr_some hf
  refine ax_get O fg_Co_11 cr21 kr21 d_Co_read_109 ?_
  refine ax_iload O d_Co_read_112 5 rfl ?_
  obtain ⟨nv22, fv22, v22, cv22, iv22, kv22, hf⟩ := mai_some hf
  refine ax_iald O cv22 iv22 kv22 d_Co_read_114 ?_
  refine ax_iadd O d_Co_read_115 ?_
  refine ax_iconst (v := 2) O d_Co_read_116 (by decide) ?_
  refine ax_imul O d_Co_read_117 ?_
  obtain ⟨v23, ev23, hf⟩ := mnm_some hf
  refine ax_nmi ev23 ?_
  refine ax_istore_n (lv' := [(3, .int v23), (4, .int v20), (0, .ref a0), (1, .ref a1), (2, .int x2), (5, .int x5)]) O d_Co_read_118 rfl (by decide) rfl ?_
  obtain ⟨v24, ev24, hf⟩ := mnm_some hf
  refine ax_iinc (j := 5) (v := v24) (lv' := [(5, .int v24), (3, .int v23), (4, .int v20), (0, .ref a0), (1, .ref a1), (2, .int x2)]) O d_Co_read_119 rfl (by rw [ev24]; rfl) (by decide) rfl ?_
  refine ax_goto (tgt := 10) O d_Co_read_122 (by decide) ?_
  refine ax_sub [3, 4, 5, 1, 2, 0] rfl ?_
  exact hK10 _ _ _ _ _ _ _ hf
set_option maxHeartbeats 4000000 in
set_option maxRecDepth 100000 in
theorem cb_Co_read_L10 {X : mX} {ad : Nat → Nat} {ln : Launch} (O : mO X ad R_Co b_Co_read 8 (mR 2 41) ln) (r' : Int32) (h' : mH) (hE : mEnd X ad (some .int) (some (.int r')) h') (n0 : Nat) : ∀ (n : Nat) (h0 : mH) (a0 : Nat) (a1 : Nat) (x2 : Int32) (x3 : Int32) (x4 : Int32) (x5 : Int32), f_Co_read_L10 n0 n h0 a0 a1 x2 x3 x4 x5 = some (r', h') → mAW X ad 0 0 10 [(0, .ref a0), (1, .ref a1), (2, .int x2), (3, .int x3), (4, .int x4), (5, .int x5)] [] h0 := by
  intro n
  induction n with
  | zero =>
    intro h0 a0 a1 x2 x3 x4 x5 hf
    rw [f_Co_read_L10.eq_1] at hf
    cases hf
  | succ n ih =>
    intro h0 a0 a1 x2 x3 x4 x5 hf
    rw [f_Co_read_L10.eq_2] at hf
    refine ax_iload O d_Co_read_10 5 rfl ?_
    refine ax_aload_n O d_Co_read_12 rfl 0 rfl ?_
    obtain ⟨fv1, v1, cv1, kv1, hf⟩ := mgi_some hf
    refine ax_get O fg_Co_22 cv1 kv1 d_Co_read_13 ?_
    refine ax_icmp_gt (tgt := 125) O d_Co_read_16 (by decide) (fun q2 => ?_) (fun q2 => ?_)
    · rw [if_pos q2] at hf
      refine ax_sub [1] rfl ?_
      exact cb_Co_read_B125 O _ _ hE n0 _ _ hf
    · rw [if_neg q2] at hf
      refine ax_iload O d_Co_read_19 5 rfl ?_
      refine ax_aload_n O d_Co_read_21 rfl 0 rfl ?_
      obtain ⟨fr6, r6, cr6, kr6, hf⟩ := mgr_some hf
      refine ax_get O fg_Co_11 cr6 kr6 d_Co_read_22 ?_
      obtain ⟨xv7, v7, cv7, kv7, hf⟩ := mln_some hf
      refine ax_alen O (by decide) cv7 kv7 d_Co_read_25 ?_
      refine ax_icmp_ge (tgt := 125) O d_Co_read_26 (by decide) (fun q8 => ?_) (fun q8 => ?_)
      · rw [if_pos q8] at hf
        refine ax_sub [1] rfl ?_
        exact cb_Co_read_B125 O _ _ hE n0 _ _ hf
      · rw [if_neg q8] at hf
        refine ax_aload_n O d_Co_read_29 rfl 1 rfl ?_
        refine ax_iconst (v := 1) O d_Co_read_30 (by decide) ?_
        obtain ⟨fh11, ch11, hf⟩ := mis_some hf
        obtain ⟨v10, h11, mh11, hf⟩ := mcl_some hf
        refine ax_callV (As := [.int 1]) (rest := []) O cw_Pa_nextBit (q := (R_Pa, T_Pa, 7)) rfl rfl in_Pa_nextBit se_Pa_nextBit lk_Co_43 ch11 (c_Pa_nextBit mh11) rfl ⟨rfl, rfl⟩ (by decide) (by decide) (Nat.le_of_ble_eq_true rfl) d_Co_read_31 ?_
        refine ax_istore (lv' := [(6, .int v10), (0, .ref a0), (1, .ref a1), (2, .int x2), (3, .int x3), (4, .int x4), (5, .int x5)]) O d_Co_read_34 (by decide) rfl ?_
        refine ax_iload O d_Co_read_36 0 rfl ?_
        refine ax_iconst (v := (-1)) O d_Co_read_38 (by decide) ?_
        refine ax_icmp_ne (tgt := 44) O d_Co_read_39 (by decide) (fun q12 => ?_) (fun q12 => ?_)
        · rw [if_neg q12] at hf
          refine ax_iload_n O d_Co_read_44 rfl 3 rfl ?_
          refine ax_iconst (v := 2) O d_Co_read_45 (by decide) ?_
          refine ax_imul O d_Co_read_46 ?_
          refine ax_iload O d_Co_read_47 0 rfl ?_
          refine ax_iadd O d_Co_read_49 ?_
          obtain ⟨v13, ev13, hf⟩ := mnm_some hf
          refine ax_nmi ev13 ?_
          refine ax_istore_n (lv' := [(2, .int v13), (6, .int v10), (0, .ref a0), (1, .ref a1), (3, .int x3), (4, .int x4), (5, .int x5)]) O d_Co_read_50 rfl (by decide) rfl ?_
          refine ax_iload O d_Co_read_51 5 rfl ?_
          refine ax_iload_n O d_Co_read_53 rfl 0 rfl ?_
          refine ax_iadd O d_Co_read_54 ?_
          refine ax_iload_n O d_Co_read_55 rfl 4 rfl ?_
          refine ax_isub O d_Co_read_56 ?_
          obtain ⟨v14, ev14, hf⟩ := mnm_some hf
          refine ax_nmi ev14 ?_
          refine ax_istore (lv' := [(7, .int v14), (2, .int v13), (6, .int v10), (0, .ref a0), (1, .ref a1), (3, .int x3), (4, .int x4), (5, .int x5)]) O d_Co_read_57 (by decide) rfl ?_
          refine ax_iload_n O d_Co_read_59 rfl 1 rfl ?_
          refine ax_iload_n O d_Co_read_60 rfl 5 rfl ?_
          refine ax_aload_n O d_Co_read_61 rfl 3 rfl ?_
          obtain ⟨fr15, r15, cr15, kr15, hf⟩ := mgr_some hf
          refine ax_get O fg_Co_11 cr15 kr15 d_Co_read_62 ?_
          refine ax_iload O d_Co_read_65 7 rfl ?_
          obtain ⟨nv16, fv16, v16, cv16, iv16, kv16, hf⟩ := mai_some hf
          refine ax_iald O cv16 iv16 kv16 d_Co_read_67 ?_
          refine ax_iadd O d_Co_read_68 ?_
          refine ax_icmp_ge (tgt := 95) O d_Co_read_69 (by decide) (fun q17 => ?_) (fun q17 => ?_)
          · rw [if_pos q17] at hf
            refine ax_sub [3, 4, 1, 5, 6, 7] rfl ?_
            exact cb_Co_read_B95 O (f_Co_read_L10 n0 n) _ _ hE ih n0 _ _ _ _ _ _ _ hf
          · rw [if_neg q17] at hf
            refine ax_iload O d_Co_read_72 0 rfl ?_
            refine ax_if_lt (tgt := 95) O d_Co_read_74 (by decide) (fun q25 => ?_) (fun q25 => ?_)
            · rw [if_pos q25] at hf
              refine ax_sub [3, 4, 1, 5, 6, 7] rfl ?_
              exact cb_Co_read_B95 O (f_Co_read_L10 n0 n) _ _ hE ih n0 _ _ _ _ _ _ _ hf
            · rw [if_neg q25] at hf
              refine ax_iload O d_Co_read_77 0 rfl ?_
              refine ax_aload_n O d_Co_read_79 rfl 3 rfl ?_
              obtain ⟨fr26, r26, cr26, kr26, hf⟩ := mgr_some hf
              refine ax_get O fg_Co_31 cr26 kr26 d_Co_read_80 ?_
              obtain ⟨xv27, v27, cv27, kv27, hf⟩ := mln_some hf
              refine ax_alen O (by decide) cv27 kv27 d_Co_read_83 ?_
              refine ax_icmp_ge (tgt := 95) O d_Co_read_84 (by decide) (fun q28 => ?_) (fun q28 => ?_)
              · rw [if_pos q28] at hf
                refine ax_sub [3, 4, 1, 5, 6, 7] rfl ?_
                exact cb_Co_read_B95 O (f_Co_read_L10 n0 n) _ _ hE ih n0 _ _ _ _ _ _ _ hf
              · rw [if_neg q28] at hf
                refine ax_aload_n O d_Co_read_87 rfl 3 rfl ?_
                obtain ⟨fr29, r29, cr29, kr29, hf⟩ := mgr_some hf
                refine ax_get O fg_Co_31 cr29 kr29 d_Co_read_88 ?_
                refine ax_iload O d_Co_read_91 0 rfl ?_
                obtain ⟨nv30, fv30, v30, cv30, iv30, kv30, hf⟩ := mai_some hf
                refine ax_iald O cv30 iv30 kv30 d_Co_read_93 ?_
                exact ax_retE O hE hf rfl d_Co_read_94
        · rw [if_pos q12] at hf
          refine ax_iconst (v := (-1)) O d_Co_read_42 (by decide) ?_
          exact ax_retE O hE hf rfl d_Co_read_43
set_option maxHeartbeats 4000000 in
set_option maxRecDepth 100000 in
theorem cb_Co_read {X : mX} {ad : Nat → Nat} {ln : Launch} (O : mO X ad R_Co b_Co_read 8 (mR 2 41) ln) (r' : Int32) (h' : mH) (hE : mEnd X ad (some .int) (some (.int r')) h') (n0 : Nat) (h0 : mH) (a0 : Nat) (a1 : Nat) (hf : f_Co_read n0 h0 a0 a1 = some (r', h')) : mAW X ad 0 0 0 [(0, .ref a0), (1, .ref a1)] [] h0 := by
  unfold f_Co_read at hf
  refine ax_iconst (v := 0) O d_Co_read_0 (by decide) ?_
  refine ax_istore_n (lv' := [(2, .int 0), (0, .ref a0), (1, .ref a1)]) O d_Co_read_1 rfl (by decide) rfl ?_
  refine ax_iconst (v := 0) O d_Co_read_2 (by decide) ?_
  refine ax_istore_n (lv' := [(3, .int 0), (2, .int 0), (0, .ref a0), (1, .ref a1)]) O d_Co_read_3 rfl (by decide) rfl ?_
  refine ax_iconst (v := 0) O d_Co_read_4 (by decide) ?_
  refine ax_istore (lv' := [(4, .int 0), (3, .int 0), (2, .int 0), (0, .ref a0), (1, .ref a1)]) O d_Co_read_5 (by decide) rfl ?_
  refine ax_iconst (v := 1) O d_Co_read_7 (by decide) ?_
  refine ax_istore (lv' := [(5, .int 1), (4, .int 0), (3, .int 0), (2, .int 0), (0, .ref a0), (1, .ref a1)]) O d_Co_read_8 (by decide) rfl ?_
  refine ax_sub [4, 5, 3, 2, 1, 0] rfl ?_
  exact cb_Co_read_L10 O _ _ hE n0 n0 _ _ _ _ _ _ _ hf
theorem c_Co_read {ln : Launch} {n0 : Nat} {h0 h' : mH} {a0 : Nat} {a1 : Nat} {r' : Int32} (hf : f_Co_read n0 h0 a0 a1 = some (r', h')) : mMet ln y_Co_read b_Co_read 8 (some .int) (mR 2 41) [.ref a0, .ref a1] h0 (some (.int r')) h' := mMet_of (by decide +kernel) (Nat.le_of_ble_eq_true rfl) (fun X ad O hE => cb_Co_read O r' h' hE n0 h0 a0 a1 hf)
/-! ===== StreamFilters$Flate.readHeader(LStreamFilters$Pass;)Z ===== -/
theorem d_Fl_readHeader_0 : decode b_Fl_readHeader 0 = .ok (.aload_n 0, 1) := by decide +kernel
theorem d_Fl_readHeader_1 : decode b_Fl_readHeader 1 = .ok (.invokevirtual 72, 3) := by decide +kernel
theorem d_Fl_readHeader_4 : decode b_Fl_readHeader 4 = .ok (.istore_n 1, 1) := by decide +kernel
theorem d_Fl_readHeader_5 : decode b_Fl_readHeader 5 = .ok (.aload_n 0, 1) := by decide +kernel
theorem d_Fl_readHeader_6 : decode b_Fl_readHeader 6 = .ok (.invokevirtual 72, 3) := by decide +kernel
theorem d_Fl_readHeader_9 : decode b_Fl_readHeader 9 = .ok (.istore_n 2, 1) := by decide +kernel
theorem d_Fl_readHeader_10 : decode b_Fl_readHeader 10 = .ok (.iload_n 1, 1) := by decide +kernel
theorem d_Fl_readHeader_11 : decode b_Fl_readHeader 11 = .ok (.iconst (-1), 1) := by decide +kernel
theorem d_Fl_readHeader_12 : decode b_Fl_readHeader 12 = .ok (.if_icmp .eq 8, 3) := by decide +kernel
theorem d_Fl_readHeader_15 : decode b_Fl_readHeader 15 = .ok (.iload_n 2, 1) := by decide +kernel
theorem d_Fl_readHeader_16 : decode b_Fl_readHeader 16 = .ok (.iconst (-1), 1) := by decide +kernel
theorem d_Fl_readHeader_17 : decode b_Fl_readHeader 17 = .ok (.if_icmp .ne 5, 3) := by decide +kernel
theorem d_Fl_readHeader_20 : decode b_Fl_readHeader 20 = .ok (.iconst 0, 1) := by decide +kernel
theorem d_Fl_readHeader_21 : decode b_Fl_readHeader 21 = .ok (.ireturn, 1) := by decide +kernel
theorem d_Fl_readHeader_22 : decode b_Fl_readHeader 22 = .ok (.iload_n 1, 1) := by decide +kernel
theorem d_Fl_readHeader_23 : decode b_Fl_readHeader 23 = .ok (.bipush 15, 2) := by decide +kernel
theorem d_Fl_readHeader_25 : decode b_Fl_readHeader 25 = .ok (.iand, 1) := by decide +kernel
theorem d_Fl_readHeader_26 : decode b_Fl_readHeader 26 = .ok (.bipush 8, 2) := by decide +kernel
theorem d_Fl_readHeader_28 : decode b_Fl_readHeader 28 = .ok (.if_icmp .ne 36, 3) := by decide +kernel
theorem d_Fl_readHeader_31 : decode b_Fl_readHeader 31 = .ok (.iload_n 1, 1) := by decide +kernel
theorem d_Fl_readHeader_32 : decode b_Fl_readHeader 32 = .ok (.bipush 16, 2) := by decide +kernel
theorem d_Fl_readHeader_34 : decode b_Fl_readHeader 34 = .ok (.idiv, 1) := by decide +kernel
theorem d_Fl_readHeader_35 : decode b_Fl_readHeader 35 = .ok (.bipush 7, 2) := by decide +kernel
theorem d_Fl_readHeader_37 : decode b_Fl_readHeader 37 = .ok (.if_icmp .gt 27, 3) := by decide +kernel
theorem d_Fl_readHeader_40 : decode b_Fl_readHeader 40 = .ok (.sipush 256, 3) := by decide +kernel
theorem d_Fl_readHeader_43 : decode b_Fl_readHeader 43 = .ok (.iload_n 1, 1) := by decide +kernel
theorem d_Fl_readHeader_44 : decode b_Fl_readHeader 44 = .ok (.imul, 1) := by decide +kernel
theorem d_Fl_readHeader_45 : decode b_Fl_readHeader 45 = .ok (.iload_n 2, 1) := by decide +kernel
theorem d_Fl_readHeader_46 : decode b_Fl_readHeader 46 = .ok (.iadd, 1) := by decide +kernel
theorem d_Fl_readHeader_47 : decode b_Fl_readHeader 47 = .ok (.bipush 31, 2) := by decide +kernel
theorem d_Fl_readHeader_49 : decode b_Fl_readHeader 49 = .ok (.irem, 1) := by decide +kernel
theorem d_Fl_readHeader_50 : decode b_Fl_readHeader 50 = .ok (.ifCond .ne 14, 3) := by decide +kernel
theorem d_Fl_readHeader_53 : decode b_Fl_readHeader 53 = .ok (.iload_n 2, 1) := by decide +kernel
theorem d_Fl_readHeader_54 : decode b_Fl_readHeader 54 = .ok (.bipush 32, 2) := by decide +kernel
theorem d_Fl_readHeader_56 : decode b_Fl_readHeader 56 = .ok (.iand, 1) := by decide +kernel
theorem d_Fl_readHeader_57 : decode b_Fl_readHeader 57 = .ok (.ifCond .ne 7, 3) := by decide +kernel
theorem d_Fl_readHeader_60 : decode b_Fl_readHeader 60 = .ok (.iconst 1, 1) := by decide +kernel
theorem d_Fl_readHeader_61 : decode b_Fl_readHeader 61 = .ok (.goto 4, 3) := by decide +kernel
theorem d_Fl_readHeader_64 : decode b_Fl_readHeader 64 = .ok (.iconst 0, 1) := by decide +kernel
theorem d_Fl_readHeader_65 : decode b_Fl_readHeader 65 = .ok (.istore_n 3, 1) := by decide +kernel
theorem d_Fl_readHeader_66 : decode b_Fl_readHeader 66 = .ok (.iload_n 3, 1) := by decide +kernel
theorem d_Fl_readHeader_67 : decode b_Fl_readHeader 67 = .ok (.ifCond .ne 11, 3) := by decide +kernel
theorem d_Fl_readHeader_70 : decode b_Fl_readHeader 70 = .ok (.aload_n 0, 1) := by decide +kernel
theorem d_Fl_readHeader_71 : decode b_Fl_readHeader 71 = .ok (.iconst 3, 1) := by decide +kernel
theorem d_Fl_readHeader_72 : decode b_Fl_readHeader 72 = .ok (.invokevirtual 64, 3) := by decide +kernel
theorem d_Fl_readHeader_75 : decode b_Fl_readHeader 75 = .ok (.ifCond .eq 7, 3) := by decide +kernel
theorem d_Fl_readHeader_78 : decode b_Fl_readHeader 78 = .ok (.iconst 1, 1) := by decide +kernel
theorem d_Fl_readHeader_79 : decode b_Fl_readHeader 79 = .ok (.goto 4, 3) := by decide +kernel
theorem d_Fl_readHeader_82 : decode b_Fl_readHeader 82 = .ok (.iconst 0, 1) := by decide +kernel
theorem d_Fl_readHeader_83 : decode b_Fl_readHeader 83 = .ok (.ireturn, 1) := by decide +kernel
noncomputable def f_Fl_readHeader_B65  (n0 : Nat) (h0 : mH) (a0 : Nat) (p0 : Int32) : Option (Int32 × mH) :=
  if p0 = 0 then
    mis h0 a0 8 <|
    mcl (f_Pa_fail n0 h0 a0 3) fun v12 h13 =>
    if v12 = 0 then
      some (0, h13)
    else
      some (1, h13)
  else
    some (1, h0)
noncomputable def f_Fl_readHeader_B64  (n0 : Nat) (h0 : mH) (a0 : Nat) : Option (Int32 × mH) :=
  f_Fl_readHeader_B65 n0 h0 a0 0
noncomputable def f_Fl_readHeader  (n0 : Nat) (h0 : mH) (a0 : Nat) : Option (Int32 × mH) :=
  mis h0 a0 8 <|
  mcl (f_Pa_nextByte n0 h0 a0) fun v2 h3 =>
  mis h3 a0 8 <|
  mcl (f_Pa_nextByte n0 h3 a0) fun v5 h6 =>
  if v2 = (-1) then
    some (0, h6)
  else
    if v5 = (-1) then
      some (0, h6)
    else
      if (v2 &&& 15) = 8 then
        if 7 < (v2 / 16) then
          f_Fl_readHeader_B64 n0 h6 a0
        else
          if (((256 * v2) + v5) - ((256 * v2) + v5) / 31 * 31) = 0 then
            if (v5 &&& 32) = 0 then
              f_Fl_readHeader_B65 n0 h6 a0 1
            else
              f_Fl_readHeader_B64 n0 h6 a0
          else
            f_Fl_readHeader_B64 n0 h6 a0
      else
        f_Fl_readHeader_B64 n0 h6 a0
set_option maxHeartbeats 4000000 in
set_option maxRecDepth 100000 in
theorem cb_Fl_readHeader_B65 {X : mX} {ad : Nat → Nat} {ln : Launch} (O : mO X ad R_Fl b_Fl_readHeader 4 (mR 1 21) ln) (r' : Int32) (h' : mH) (hE : mEnd X ad (some .boolean) (some (.int r')) h') (n0 : Nat) (h0 : mH) (a0 : Nat) (p0 : Int32) (hf : f_Fl_readHeader_B65 n0 h0 a0 p0 = some (r', h')) : mAW X ad 0 0 65 [(0, .ref a0)] [.int p0] h0 := by
  unfold f_Fl_readHeader_B65 at hf
  refine ax_istore_n (lv' := [(3, .int p0), (0, .ref a0)]) O d_Fl_readHeader_65 rfl (by decide) rfl ?_
  refine ax_iload_n O d_Fl_readHeader_66 rfl 0 rfl ?_
  refine ax_if_ne (tgt := 78) O d_Fl_readHeader_67 (by decide) (fun q10 => ?_) (fun q10 => ?_)
  · rw [if_neg q10] at hf
    refine ax_iconst (v := 1) O d_Fl_readHeader_78 (by decide) ?_
    refine ax_goto (tgt := 83) O d_Fl_readHeader_79 (by decide) ?_
    exact ax_retE O hE hf rfl d_Fl_readHeader_83
  · rw [if_pos q10] at hf
    refine ax_aload_n O d_Fl_readHeader_70 rfl 1 rfl ?_
    refine ax_iconst (v := 3) O d_Fl_readHeader_71 (by decide) ?_
    obtain ⟨fh13, ch13, hf⟩ := mis_some hf
    obtain ⟨v12, h13, mh13, hf⟩ := mcl_some hf
    refine ax_callV (As := [.int 3]) (rest := []) O cw_Pa_fail (q := (R_Pa, T_Pa, 7)) rfl rfl in_Pa_fail se_Pa_fail lk_Fl_64 ch13 (c_Pa_fail mh13) rfl ⟨rfl, rfl⟩ (by decide) (by decide) (Nat.le_of_ble_eq_true rfl) d_Fl_readHeader_72 ?_
    refine ax_if_eq (tgt := 82) O d_Fl_readHeader_75 (by decide) (fun q14 => ?_) (fun q14 => ?_)
    · rw [if_pos q14] at hf
      refine ax_iconst (v := 0) O d_Fl_readHeader_82 (by decide) ?_
      exact ax_retE O hE hf rfl d_Fl_readHeader_83
    · rw [if_neg q14] at hf
      refine ax_iconst (v := 1) O d_Fl_readHeader_78 (by decide) ?_
      refine ax_goto (tgt := 83) O d_Fl_readHeader_79 (by decide) ?_
      exact ax_retE O hE hf rfl d_Fl_readHeader_83
set_option maxHeartbeats 4000000 in
set_option maxRecDepth 100000 in
theorem cb_Fl_readHeader_B64 {X : mX} {ad : Nat → Nat} {ln : Launch} (O : mO X ad R_Fl b_Fl_readHeader 4 (mR 1 21) ln) (r' : Int32) (h' : mH) (hE : mEnd X ad (some .boolean) (some (.int r')) h') (n0 : Nat) (h0 : mH) (a0 : Nat) (hf : f_Fl_readHeader_B64 n0 h0 a0 = some (r', h')) : mAW X ad 0 0 64 [(0, .ref a0)] [] h0 := by
  unfold f_Fl_readHeader_B64 at hf
  refine ax_iconst (v := 0) O d_Fl_readHeader_64 (by decide) ?_
  exact cb_Fl_readHeader_B65 O _ _ hE n0 _ _ _ hf
set_option maxHeartbeats 4000000 in
set_option maxRecDepth 100000 in
theorem cb_Fl_readHeader {X : mX} {ad : Nat → Nat} {ln : Launch} (O : mO X ad R_Fl b_Fl_readHeader 4 (mR 1 21) ln) (r' : Int32) (h' : mH) (hE : mEnd X ad (some .boolean) (some (.int r')) h') (n0 : Nat) (h0 : mH) (a0 : Nat) (hf : f_Fl_readHeader n0 h0 a0 = some (r', h')) : mAW X ad 0 0 0 [(0, .ref a0)] [] h0 := by
  unfold f_Fl_readHeader at hf
  refine ax_aload_n O d_Fl_readHeader_0 rfl 0 rfl ?_
  obtain ⟨fh3, ch3, hf⟩ := mis_some hf
  obtain ⟨v2, h3, mh3, hf⟩ := mcl_some hf
  refine ax_callV (As := []) (rest := []) O cw_Pa_nextByte (q := (R_Pa, T_Pa, 7)) rfl rfl in_Pa_nextByte se_Pa_nextByte lk_Fl_72 ch3 (c_Pa_nextByte mh3) rfl ⟨rfl, rfl⟩ (by decide) (by decide) (Nat.le_of_ble_eq_true rfl) d_Fl_readHeader_1 ?_
  refine ax_istore_n (lv' := [(1, .int v2), (0, .ref a0)]) O d_Fl_readHeader_4 rfl (by decide) rfl ?_
  refine ax_aload_n O d_Fl_readHeader_5 rfl 1 rfl ?_
  obtain ⟨fh6, ch6, hf⟩ := mis_some hf
  obtain ⟨v5, h6, mh6, hf⟩ := mcl_some hf
  refine ax_callV (As := []) (rest := []) O cw_Pa_nextByte (q := (R_Pa, T_Pa, 7)) rfl rfl in_Pa_nextByte se_Pa_nextByte lk_Fl_72 ch6 (c_Pa_nextByte mh6) rfl ⟨rfl, rfl⟩ (by decide) (by decide) (Nat.le_of_ble_eq_true rfl) d_Fl_readHeader_6 ?_
  refine ax_istore_n (lv' := [(2, .int v5), (1, .int v2), (0, .ref a0)]) O d_Fl_readHeader_9 rfl (by decide) rfl ?_
  refine ax_iload_n O d_Fl_readHeader_10 rfl 1 rfl ?_
  refine ax_iconst (v := (-1)) O d_Fl_readHeader_11 (by decide) ?_
  refine ax_icmp_eq (tgt := 20) O d_Fl_readHeader_12 (by decide) (fun q7 => ?_) (fun q7 => ?_)
  · rw [if_pos q7] at hf
    refine ax_iconst (v := 0) O d_Fl_readHeader_20 (by decide) ?_
    exact ax_retE O hE hf rfl d_Fl_readHeader_21
  · rw [if_neg q7] at hf
    refine ax_iload_n O d_Fl_readHeader_15 rfl 0 rfl ?_
    refine ax_iconst (v := (-1)) O d_Fl_readHeader_16 (by decide) ?_
    refine ax_icmp_ne (tgt := 22) O d_Fl_readHeader_17 (by decide) (fun q8 => ?_) (fun q8 => ?_)
    · rw [if_neg q8] at hf
      refine ax_iload_n O d_Fl_readHeader_22 rfl 1 rfl ?_
      refine ax_bipush (v := 15) O d_Fl_readHeader_23 (by decide) ?_
      refine ax_iand O d_Fl_readHeader_25 ?_
      refine ax_bipush (v := 8) O d_Fl_readHeader_26 (by decide) ?_
      refine ax_icmp_ne (tgt := 64) O d_Fl_readHeader_28 (by decide) (fun q9 => ?_) (fun q9 => ?_)
      · rw [if_neg q9] at hf
        refine ax_sub [2] rfl ?_
        exact cb_Fl_readHeader_B64 O _ _ hE n0 _ _ hf
      · rw [if_pos q9] at hf
        refine ax_iload_n O d_Fl_readHeader_31 rfl 1 rfl ?_
        refine ax_bipush (v := 16) O d_Fl_readHeader_32 (by decide) ?_
        refine ax_idiv O d_Fl_readHeader_34 (by decide) ?_
        refine ax_bipush (v := 7) O d_Fl_readHeader_35 (by decide) ?_
        refine ax_icmp_gt (tgt := 64) O d_Fl_readHeader_37 (by decide) (fun q15 => ?_) (fun q15 => ?_)
        · rw [if_pos q15] at hf
          refine ax_sub [2] rfl ?_
          exact cb_Fl_readHeader_B64 O _ _ hE n0 _ _ hf
        · rw [if_neg q15] at hf
          refine ax_sipush (v := 256) O d_Fl_readHeader_40 (by decide) ?_
          refine ax_iload_n O d_Fl_readHeader_43 rfl 1 rfl ?_
          refine ax_imul O d_Fl_readHeader_44 ?_
          refine ax_iload_n O d_Fl_readHeader_45 rfl 0 rfl ?_
          refine ax_iadd O d_Fl_readHeader_46 ?_
          refine ax_bipush (v := 31) O d_Fl_readHeader_47 (by decide) ?_
          refine ax_irem O d_Fl_readHeader_49 (by decide) ?_
          refine ax_if_ne (tgt := 64) O d_Fl_readHeader_50 (by decide) (fun q16 => ?_) (fun q16 => ?_)
          · rw [if_neg q16] at hf
            refine ax_sub [2] rfl ?_
            exact cb_Fl_readHeader_B64 O _ _ hE n0 _ _ hf
          · rw [if_pos q16] at hf
            refine ax_iload_n O d_Fl_readHeader_53 rfl 0 rfl ?_
            refine ax_bipush (v := 32) O d_Fl_readHeader_54 (by decide) ?_
            refine ax_iand O d_Fl_readHeader_56 ?_
            refine ax_if_ne (tgt := 64) O d_Fl_readHeader_57 (by decide) (fun q17 => ?_) (fun q17 => ?_)
            · rw [if_neg q17] at hf
              refine ax_sub [2] rfl ?_
              exact cb_Fl_readHeader_B64 O _ _ hE n0 _ _ hf
            · rw [if_pos q17] at hf
              refine ax_iconst (v := 1) O d_Fl_readHeader_60 (by decide) ?_
              refine ax_goto (tgt := 65) O d_Fl_readHeader_61 (by decide) ?_
              refine ax_sub [2] rfl ?_
              exact cb_Fl_readHeader_B65 O _ _ hE n0 _ _ _ hf
    · rw [if_pos q8] at hf
      refine ax_iconst (v := 0) O d_Fl_readHeader_20 (by decide) ?_
      exact ax_retE O hE hf rfl d_Fl_readHeader_21
theorem c_Fl_readHeader {ln : Launch} {n0 : Nat} {h0 h' : mH} {a0 : Nat} {r' : Int32} (hf : f_Fl_readHeader n0 h0 a0 = some (r', h')) : mMet ln y_Fl_readHeader b_Fl_readHeader 4 (some .boolean) (mR 1 21) [.ref a0] h0 (some (.int r')) h' := mMet_of (by decide +kernel) (Nat.le_of_ble_eq_true rfl) (fun X ad O hE => cb_Fl_readHeader O r' h' hE n0 h0 a0 hf)
