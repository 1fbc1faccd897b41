/-! ===== StreamFilters$Lzw.clear()V ===== -/
theorem d_Lz_clear_0 : decode b_Lz_clear 0 = .ok (.aload_n 0, 1) := by decide +kernel
theorem d_Lz_clear_1 : decode b_Lz_clear 1 = .ok (.sipush 258, 3) := by decide +kernel
theorem d_Lz_clear_4 : decode b_Lz_clear 4 = .ok (.putfield 18, 3) := by decide +kernel
theorem d_Lz_clear_7 : decode b_Lz_clear 7 = .ok (.aload_n 0, 1) := by decide +kernel
theorem d_Lz_clear_8 : decode b_Lz_clear 8 = .ok (.iconst 0, 1) := by decide +kernel
theorem d_Lz_clear_9 : decode b_Lz_clear 9 = .ok (.putfield 25, 3) := by decide +kernel
theorem d_Lz_clear_12 : decode b_Lz_clear 12 = .ok (.return_, 1) := by decide +kernel
noncomputable def f_Lz_clear  (n0 : Nat) (h0 : mH) (a0 : Nat) : Option (Unit × mH) :=
  mpt h0 a0 7 2 (.int 258) fun h1 =>
  mpt h1 a0 7 4 (.int 0) fun h2 =>
  some ((), h2)
set_option maxHeartbeats 4000000 in
set_option maxRecDepth 100000 in
theorem cb_Lz_clear {X : mX} {ad : Nat → Nat} {ln : Launch} (O : mO X ad R_Lz b_Lz_clear 1 (mR 0 0) ln) (r' : Unit) (h' : mH) (hE : mEnd X ad none none h') (n0 : Nat) (h0 : mH) (a0 : Nat) (hf : f_Lz_clear n0 h0 a0 = some (r', h')) : mAW X ad 0 0 0 [(0, .ref a0)] [] h0 := by
  unfold f_Lz_clear at hf
  refine ax_aload_n O d_Lz_clear_0 rfl 0 rfl ?_
  refine ax_sipush (v := 258) O d_Lz_clear_1 (by decide) ?_
  obtain ⟨fh1, h1, ch1, kh1, eh1, hf⟩ := mpt_some hf
  refine ax_put (v := .int 258) O fp_Lz_18 ch1 kh1 eh1 rfl rfl d_Lz_clear_4 ?_
  refine ax_aload_n O d_Lz_clear_7 rfl 0 rfl ?_
  refine ax_iconst (v := 0) O d_Lz_clear_8 (by decide) ?_
  obtain ⟨fh2, h2, ch2, kh2, eh2, hf⟩ := mpt_some hf
  refine ax_put (v := .int 0) O fp_Lz_25 ch2 kh2 eh2 rfl rfl d_Lz_clear_9 ?_
  exact ax_vretE O hE hf d_Lz_clear_12
theorem c_Lz_clear {ln : Launch} {n0 : Nat} {h0 h' : mH} {a0 : Nat} {r' : Unit} (hf : f_Lz_clear n0 h0 a0 = some (r', h')) : mMet ln y_Lz_clear b_Lz_clear 1 none (mR 0 0) [.ref a0] h0 none h' := mMet_of (by decide +kernel) (Nat.le_of_ble_eq_true rfl) (fun X ad O hE => cb_Lz_clear O r' h' hE n0 h0 a0 hf)
/-! ===== StreamFilters$Lzw.widthFor(I)I ===== -/
theorem d_Lz_widthFor_0 : decode b_Lz_widthFor 0 = .ok (.iload_n 0, 1) := by decide +kernel
theorem d_Lz_widthFor_1 : decode b_Lz_widthFor 1 = .ok (.sipush 2048, 3) := by decide +kernel
theorem d_Lz_widthFor_4 : decode b_Lz_widthFor 4 = .ok (.if_icmp .lt 8, 3) := by decide +kernel
theorem d_Lz_widthFor_7 : decode b_Lz_widthFor 7 = .ok (.bipush 12, 2) := by decide +kernel
theorem d_Lz_widthFor_9 : decode b_Lz_widthFor 9 = .ok (.goto 29, 3) := by decide +kernel
theorem d_Lz_widthFor_12 : decode b_Lz_widthFor 12 = .ok (.iload_n 0, 1) := by decide +kernel
theorem d_Lz_widthFor_13 : decode b_Lz_widthFor 13 = .ok (.sipush 1024, 3) := by decide +kernel
theorem d_Lz_widthFor_16 : decode b_Lz_widthFor 16 = .ok (.if_icmp .lt 8, 3) := by decide +kernel
theorem d_Lz_widthFor_19 : decode b_Lz_widthFor 19 = .ok (.bipush 11, 2) := by decide +kernel
theorem d_Lz_widthFor_21 : decode b_Lz_widthFor 21 = .ok (.goto 17, 3) := by decide +kernel
theorem d_Lz_widthFor_24 : decode b_Lz_widthFor 24 = .ok (.iload_n 0, 1) := by decide +kernel
theorem d_Lz_widthFor_25 : decode b_Lz_widthFor 25 = .ok (.sipush 512, 3) := by decide +kernel
theorem d_Lz_widthFor_28 : decode b_Lz_widthFor 28 = .ok (.if_icmp .lt 8, 3) := by decide +kernel
theorem d_Lz_widthFor_31 : decode b_Lz_widthFor 31 = .ok (.bipush 10, 2) := by decide +kernel
theorem d_Lz_widthFor_33 : decode b_Lz_widthFor 33 = .ok (.goto 5, 3) := by decide +kernel
theorem d_Lz_widthFor_36 : decode b_Lz_widthFor 36 = .ok (.bipush 9, 2) := by decide +kernel
theorem d_Lz_widthFor_38 : decode b_Lz_widthFor 38 = .ok (.ireturn, 1) := by decide +kernel
noncomputable def f_Lz_widthFor  (n0 : Nat) (h0 : mH) (x0 : Int32) : Option (Int32 × mH) :=
  if x0 < 2048 then
    if x0 < 1024 then
      if x0 < 512 then
        some (9, h0)
      else
        some (10, h0)
    else
      some (11, h0)
  else
    some (12, h0)
set_option maxHeartbeats 4000000 in
set_option maxRecDepth 100000 in
theorem cb_Lz_widthFor {X : mX} {ad : Nat → Nat} {ln : Launch} (O : mO X ad R_Lz b_Lz_widthFor 1 (mR 0 0) ln) (r' : Int32) (h' : mH) (hE : mEnd X ad (some .int) (some (.int r')) h') (n0 : Nat) (h0 : mH) (x0 : Int32) (hf : f_Lz_widthFor n0 h0 x0 = some (r', h')) : mAW X ad 0 0 0 [(0, .int x0)] [] h0 := by
  unfold f_Lz_widthFor at hf
  refine ax_iload_n O d_Lz_widthFor_0 rfl 0 rfl ?_
  refine ax_sipush (v := 2048) O d_Lz_widthFor_1 (by decide) ?_
  refine ax_icmp_lt (tgt := 12) O d_Lz_widthFor_4 (by decide) (fun q1 => ?_) (fun q1 => ?_)
  · rw [if_pos q1] at hf
    refine ax_iload_n O d_Lz_widthFor_12 rfl 0 rfl ?_
    refine ax_sipush (v := 1024) O d_Lz_widthFor_13 (by decide) ?_
    refine ax_icmp_lt (tgt := 24) O d_Lz_widthFor_16 (by decide) (fun q2 => ?_) (fun q2 => ?_)
    · rw [if_pos q2] at hf
      refine ax_iload_n O d_Lz_widthFor_24 rfl 0 rfl ?_
      refine ax_sipush (v := 512) O d_Lz_widthFor_25 (by decide) ?_
      refine ax_icmp_lt (tgt := 36) O d_Lz_widthFor_28 (by decide) (fun q3 => ?_) (fun q3 => ?_)
      · rw [if_pos q3] at hf
        refine ax_bipush (v := 9) O d_Lz_widthFor_36 (by decide) ?_
        exact ax_retE O hE hf rfl d_Lz_widthFor_38
      · rw [if_neg q3] at hf
        refine ax_bipush (v := 10) O d_Lz_widthFor_31 (by decide) ?_
        refine ax_goto (tgt := 38) O d_Lz_widthFor_33 (by decide) ?_
        exact ax_retE O hE hf rfl d_Lz_widthFor_38
    · rw [if_neg q2] at hf
      refine ax_bipush (v := 11) O d_Lz_widthFor_19 (by decide) ?_
      refine ax_goto (tgt := 38) O d_Lz_widthFor_21 (by decide) ?_
      exact ax_retE O hE hf rfl d_Lz_widthFor_38
  · rw [if_neg q1] at hf
    refine ax_bipush (v := 12) O d_Lz_widthFor_7 (by decide) ?_
    refine ax_goto (tgt := 38) O d_Lz_widthFor_9 (by decide) ?_
    exact ax_retE O hE hf rfl d_Lz_widthFor_38
theorem c_Lz_widthFor {ln : Launch} {n0 : Nat} {h0 h' : mH} {x0 : Int32} {r' : Int32} (hf : f_Lz_widthFor n0 h0 x0 = some (r', h')) : mMet ln y_Lz_widthFor b_Lz_widthFor 1 (some .int) (mR 0 0) [.int x0] h0 (some (.int r')) h' := mMet_of (by decide +kernel) (Nat.le_of_ble_eq_true rfl) (fun X ad O hE => cb_Lz_widthFor O r' h' hE n0 h0 x0 hf)
/-! ===== StreamFilters$Pass.highNumber(I)I ===== -/
theorem d_Pa_highNumber_0 : decode b_Pa_highNumber 0 = .ok (.iconst 0, 1) := by decide +kernel
theorem d_Pa_highNumber_1 : decode b_Pa_highNumber 1 = .ok (.istore_n 2, 1) := by decide +kernel
theorem d_Pa_highNumber_2 : decode b_Pa_highNumber 2 = .ok (.iconst 0, 1) := by decide +kernel
theorem d_Pa_highNumber_3 : decode b_Pa_highNumber 3 = .ok (.istore_n 3, 1) := by decide +kernel
theorem d_Pa_highNumber_4 : decode b_Pa_highNumber 4 = .ok (.iload_n 3, 1) := by decide +kernel
theorem d_Pa_highNumber_5 : decode b_Pa_highNumber 5 = .ok (.iload_n 1, 1) := by decide +kernel
theorem d_Pa_highNumber_6 : decode b_Pa_highNumber 6 = .ok (.if_icmp .ge 31, 3) := by decide +kernel
theorem d_Pa_highNumber_9 : decode b_Pa_highNumber 9 = .ok (.aload_n 0, 1) := by decide +kernel
theorem d_Pa_highNumber_10 : decode b_Pa_highNumber 10 = .ok (.iconst 0, 1) := by decide +kernel
theorem d_Pa_highNumber_11 : decode b_Pa_highNumber 11 = .ok (.invokevirtual 55, 3) := by decide +kernel
theorem d_Pa_highNumber_14 : decode b_Pa_highNumber 14 = .ok (.istore 4, 2) := by decide +kernel
theorem d_Pa_highNumber_16 : decode b_Pa_highNumber 16 = .ok (.iload 4, 2) := by decide +kernel
theorem d_Pa_highNumber_18 : decode b_Pa_highNumber 18 = .ok (.iconst (-1), 1) := by decide +kernel
theorem d_Pa_highNumber_19 : decode b_Pa_highNumber 19 = .ok (.if_icmp .ne 5, 3) := by decide +kernel
theorem d_Pa_highNumber_22 : decode b_Pa_highNumber 22 = .ok (.iconst (-1), 1) := by decide +kernel
theorem d_Pa_highNumber_23 : decode b_Pa_highNumber 23 = .ok (.ireturn, 1) := by decide +kernel
theorem d_Pa_highNumber_24 : decode b_Pa_highNumber 24 = .ok (.iload_n 2, 1) := by decide +kernel
theorem d_Pa_highNumber_25 : decode b_Pa_highNumber 25 = .ok (.iconst 2, 1) := by decide +kernel
theorem d_Pa_highNumber_26 : decode b_Pa_highNumber 26 = .ok (.imul, 1) := by decide +kernel
theorem d_Pa_highNumber_27 : decode b_Pa_highNumber 27 = .ok (.iload 4, 2) := by decide +kernel
theorem d_Pa_highNumber_29 : decode b_Pa_highNumber 29 = .ok (.iadd, 1) := by decide +kernel
theorem d_Pa_highNumber_30 : decode b_Pa_highNumber 30 = .ok (.istore_n 2, 1) := by decide +kernel
theorem d_Pa_highNumber_31 : decode b_Pa_highNumber 31 = .ok (.iinc 3 1, 3) := by decide +kernel
theorem d_Pa_highNumber_34 : decode b_Pa_highNumber 34 = .ok (.goto (-30), 3) := by decide +kernel
theorem d_Pa_highNumber_37 : decode b_Pa_highNumber 37 = .ok (.iload_n 2, 1) := by decide +kernel
theorem d_Pa_highNumber_38 : decode b_Pa_highNumber 38 = .ok (.ireturn, 1) := by decide +kernel
noncomputable def f_Pa_highNumber_L4  (n0 : Nat) : Nat → mH → Nat → Int32 → Int32 → Int32 → Option (Int32 × mH)
  | 0, _, _, _, _, _ => none
  | n + 1, h0, a0, x1, x2, x3 =>
    if x1 ≤ x3 then
      some (x2, h0)
    else
      mis h0 a0 8 <|
      mcl (f_Pa_nextBit n0 h0 a0 0) fun v3 h4 =>
      if v3 = (-1) then
        some ((-1), h4)
      else
        mnm ((x2 * 2) + v3) fun v6 =>
        mnm (x3 + 1) fun v7 =>
        (f_Pa_highNumber_L4 n0 n) h4 a0 x1 v6 v7
noncomputable def f_Pa_highNumber  (n0 : Nat) (h0 : mH) (a0 : Nat) (x1 : Int32) : Option (Int32 × mH) :=
  f_Pa_highNumber_L4 n0 n0 h0 a0 x1 0 0
set_option maxHeartbeats 4000000 in
set_option maxRecDepth 100000 in
theorem cb_Pa_highNumber_L4 {X : mX} {ad : Nat → Nat} {ln : Launch} (O : mO X ad R_Pa b_Pa_highNumber 5 (mR 2 41) ln) (r' : Int32) (h' : mH) (hE : mEnd X ad (some .int) (some (.int r')) h') (n0 : Nat) : ∀ (n : Nat) (h0 : mH) (a0 : Nat) (x1 : Int32) (x2 : Int32) (x3 : Int32), f_Pa_highNumber_L4 n0 n h0 a0 x1 x2 x3 = some (r', h') → mAW X ad 0 0 4 [(0, .ref a0), (1, .int x1), (2, .int x2), (3, .int x3)] [] h0 := by
  intro n
  induction n with
  | zero =>
    intro h0 a0 x1 x2 x3 hf
    rw [f_Pa_highNumber_L4.eq_1] at hf
    cases hf
  | succ n ih =>
    intro h0 a0 x1 x2 x3 hf
    rw [f_Pa_highNumber_L4.eq_2] at hf
    refine ax_iload_n O d_Pa_highNumber_4 rfl 3 rfl ?_
    refine ax_iload_n O d_Pa_highNumber_5 rfl 1 rfl ?_
    refine ax_icmp_ge (tgt := 37) O d_Pa_highNumber_6 (by decide) (fun q1 => ?_) (fun q1 => ?_)
    · rw [if_pos q1] at hf
      refine ax_iload_n O d_Pa_highNumber_37 rfl 2 rfl ?_
      exact ax_retE O hE hf rfl d_Pa_highNumber_38
    · rw [if_neg q1] at hf
      refine ax_aload_n O d_Pa_highNumber_9 rfl 0 rfl ?_
      refine ax_iconst (v := 0) O d_Pa_highNumber_10 (by decide) ?_
      obtain ⟨fh4, ch4, hf⟩ := mis_some hf
      obtain ⟨v3, h4, mh4, hf⟩ := mcl_some hf
      refine ax_callV (As := [.int 0]) (rest := []) O cw_Pa_nextBit (q := (R_Pa, T_Pa, 7)) rfl rfl in_Pa_nextBit se_Pa_nextBit lk_Pa_55 ch4 (c_Pa_nextBit mh4) rfl ⟨rfl, rfl⟩ (by decide) (by decide) (Nat.le_of_ble_eq_true rfl) d_Pa_highNumber_11 ?_
      refine ax_istore (lv' := [(4, .int v3), (0, .ref a0), (1, .int x1), (2, .int x2), (3, .int x3)]) O d_Pa_highNumber_14 (by decide) rfl ?_
      refine ax_iload O d_Pa_highNumber_16 0 rfl ?_
      refine ax_iconst (v := (-1)) O d_Pa_highNumber_18 (by decide) ?_
      refine ax_icmp_ne (tgt := 24) O d_Pa_highNumber_19 (by decide) (fun q5 => ?_) (fun q5 => ?_)
      · rw [if_neg q5] at hf
        refine ax_iload_n O d_Pa_highNumber_24 rfl 3 rfl ?_
        refine ax_iconst (v := 2) O d_Pa_highNumber_25 (by decide) ?_
        refine ax_imul O d_Pa_highNumber_26 ?_
        refine ax_iload O d_Pa_highNumber_27 0 rfl ?_
        refine ax_iadd O d_Pa_highNumber_29 ?_
        obtain ⟨v6, ev6, hf⟩ := mnm_some hf
        refine ax_nmi ev6 ?_
        refine ax_istore_n (lv' := [(2, .int v6), (4, .int v3), (0, .ref a0), (1, .int x1), (3, .int x3)]) O d_Pa_highNumber_30 rfl (by decide) rfl ?_
        obtain ⟨v7, ev7, hf⟩ := mnm_some hf
        refine ax_iinc (j := 4) (v := v7) (lv' := [(3, .int v7), (2, .int v6), (4, .int v3), (0, .ref a0), (1, .int x1)]) O d_Pa_highNumber_31 rfl (by rw [ev7]; rfl) (by decide) rfl ?_
        refine ax_goto (tgt := 4) O d_Pa_highNumber_34 (by decide) ?_
        refine ax_sub [3, 4, 1, 0] rfl ?_
        exact ih _ _ _ _ _ hf
      · rw [if_pos q5] at hf
        refine ax_iconst (v := (-1)) O d_Pa_highNumber_22 (by decide) ?_
        exact ax_retE O hE hf rfl d_Pa_highNumber_23
set_option maxHeartbeats 4000000 in
set_option maxRecDepth 100000 in
theorem cb_Pa_highNumber {X : mX} {ad : Nat → Nat} {ln : Launch} (O : mO X ad R_Pa b_Pa_highNumber 5 (mR 2 41) ln) (r' : Int32) (h' : mH) (hE : mEnd X ad (some .int) (some (.int r')) h') (n0 : Nat) (h0 : mH) (a0 : Nat) (x1 : Int32) (hf : f_Pa_highNumber n0 h0 a0 x1 = some (r', h')) : mAW X ad 0 0 0 [(0, .ref a0), (1, .int x1)] [] h0 := by
  unfold f_Pa_highNumber at hf
  refine ax_iconst (v := 0) O d_Pa_highNumber_0 (by decide) ?_
  refine ax_istore_n (lv' := [(2, .int 0), (0, .ref a0), (1, .int x1)]) O d_Pa_highNumber_1 rfl (by decide) rfl ?_
  refine ax_iconst (v := 0) O d_Pa_highNumber_2 (by decide) ?_
  refine ax_istore_n (lv' := [(3, .int 0), (2, .int 0), (0, .ref a0), (1, .int x1)]) O d_Pa_highNumber_3 rfl (by decide) rfl ?_
  refine ax_sub [2, 3, 1, 0] rfl ?_
  exact cb_Pa_highNumber_L4 O _ _ hE n0 n0 _ _ _ _ _ hf
theorem c_Pa_highNumber {ln : Launch} {n0 : Nat} {h0 h' : mH} {a0 : Nat} {x1 : Int32} {r' : Int32} (hf : f_Pa_highNumber n0 h0 a0 x1 = some (r', h')) : mMet ln y_Pa_highNumber b_Pa_highNumber 5 (some .int) (mR 2 41) [.ref a0, .int x1] h0 (some (.int r')) h' := mMet_of (by decide +kernel) (Nat.le_of_ble_eq_true rfl) (fun X ad O hE => cb_Pa_highNumber O r' h' hE n0 h0 a0 x1 hf)
/-! ===== StreamFilters$Lzw.sizeOf(I)I ===== -/
theorem d_Lz_sizeOf_0 : decode b_Lz_sizeOf 0 = .ok (.iload_n 1, 1) := by decide +kernel
theorem d_Lz_sizeOf_1 : decode b_Lz_sizeOf 1 = .ok (.sipush 256, 3) := by decide +kernel
theorem d_Lz_sizeOf_4 : decode b_Lz_sizeOf 4 = .ok (.if_icmp .ge 5, 3) := by decide +kernel
theorem d_Lz_sizeOf_7 : decode b_Lz_sizeOf 7 = .ok (.iconst 1, 1) := by decide +kernel
theorem d_Lz_sizeOf_8 : decode b_Lz_sizeOf 8 = .ok (.ireturn, 1) := by decide +kernel
theorem d_Lz_sizeOf_9 : decode b_Lz_sizeOf 9 = .ok (.iload_n 1, 1) := by decide +kernel
theorem d_Lz_sizeOf_10 : decode b_Lz_sizeOf 10 = .ok (.sipush 258, 3) := by decide +kernel
theorem d_Lz_sizeOf_13 : decode b_Lz_sizeOf 13 = .ok (.if_icmp .lt 27, 3) := by decide +kernel
theorem d_Lz_sizeOf_16 : decode b_Lz_sizeOf 16 = .ok (.iload_n 1, 1) := by decide +kernel
theorem d_Lz_sizeOf_17 : decode b_Lz_sizeOf 17 = .ok (.aload_n 0, 1) := by decide +kernel
theorem d_Lz_sizeOf_18 : decode b_Lz_sizeOf 18 = .ok (.getfield 18, 3) := by decide +kernel
theorem d_Lz_sizeOf_21 : decode b_Lz_sizeOf 21 = .ok (.if_icmp .ge 19, 3) := by decide +kernel
theorem d_Lz_sizeOf_24 : decode b_Lz_sizeOf 24 = .ok (.iload_n 1, 1) := by decide +kernel
theorem d_Lz_sizeOf_25 : decode b_Lz_sizeOf 25 = .ok (.aload_n 0, 1) := by decide +kernel
theorem d_Lz_sizeOf_26 : decode b_Lz_sizeOf 26 = .ok (.getfield 15, 3) := by decide +kernel
theorem d_Lz_sizeOf_29 : decode b_Lz_sizeOf 29 = .ok (.arraylength, 1) := by decide +kernel
theorem d_Lz_sizeOf_30 : decode b_Lz_sizeOf 30 = .ok (.if_icmp .ge 10, 3) := by decide +kernel
theorem d_Lz_sizeOf_33 : decode b_Lz_sizeOf 33 = .ok (.aload_n 0, 1) := by decide +kernel
theorem d_Lz_sizeOf_34 : decode b_Lz_sizeOf 34 = .ok (.getfield 15, 3) := by decide +kernel
theorem d_Lz_sizeOf_37 : decode b_Lz_sizeOf 37 = .ok (.iload_n 1, 1) := by decide +kernel
theorem d_Lz_sizeOf_38 : decode b_Lz_sizeOf 38 = .ok (.iaload, 1) := by decide +kernel
theorem d_Lz_sizeOf_39 : decode b_Lz_sizeOf 39 = .ok (.ireturn, 1) := by decide +kernel
theorem d_Lz_sizeOf_40 : decode b_Lz_sizeOf 40 = .ok (.iload_n 1, 1) := by decide +kernel
theorem d_Lz_sizeOf_41 : decode b_Lz_sizeOf 41 = .ok (.aload_n 0, 1) := by decide +kernel
theorem d_Lz_sizeOf_42 : decode b_Lz_sizeOf 42 = .ok (.getfield 18, 3) := by decide +kernel
theorem d_Lz_sizeOf_45 : decode b_Lz_sizeOf 45 = .ok (.if_icmp .ne 19, 3) := by decide +kernel
theorem d_Lz_sizeOf_48 : decode b_Lz_sizeOf 48 = .ok (.aload_n 0, 1) := by decide +kernel
theorem d_Lz_sizeOf_49 : decode b_Lz_sizeOf 49 = .ok (.getfield 25, 3) := by decide +kernel
theorem d_Lz_sizeOf_52 : decode b_Lz_sizeOf 52 = .ok (.ifCond .le 12, 3) := by decide +kernel
theorem d_Lz_sizeOf_55 : decode b_Lz_sizeOf 55 = .ok (.aload_n 0, 1) := by decide +kernel
theorem d_Lz_sizeOf_56 : decode b_Lz_sizeOf 56 = .ok (.getfield 25, 3) := by decide +kernel
theorem d_Lz_sizeOf_59 : decode b_Lz_sizeOf 59 = .ok (.iconst 1, 1) := by decide +kernel
theorem d_Lz_sizeOf_60 : decode b_Lz_sizeOf 60 = .ok (.iadd, 1) := by decide +kernel
theorem d_Lz_sizeOf_61 : decode b_Lz_sizeOf 61 = .ok (.goto 4, 3) := by decide +kernel
theorem d_Lz_sizeOf_64 : decode b_Lz_sizeOf 64 = .ok (.iconst 0, 1) := by decide +kernel
theorem d_Lz_sizeOf_65 : decode b_Lz_sizeOf 65 = .ok (.ireturn, 1) := by decide +kernel
noncomputable def f_Lz_sizeOf_B40  (n0 : Nat) (h0 : mH) (a0 : Nat) (x1 : Int32) : Option (Int32 × mH) :=
  mgi h0 a0 7 2 fun v3 =>
  if x1 = v3 then
    mgi h0 a0 7 4 fun v5 =>
    if v5 ≤ 0 then
      some (0, h0)
    else
      mgi h0 a0 7 4 fun v7 =>
      some (v7 + 1, h0)
  else
    some (0, h0)
noncomputable def f_Lz_sizeOf  (n0 : Nat) (h0 : mH) (a0 : Nat) (x1 : Int32) : Option (Int32 × mH) :=
  if 256 ≤ x1 then
    if x1 < 258 then
      f_Lz_sizeOf_B40 n0 h0 a0 x1
    else
      mgi h0 a0 7 2 fun v8 =>
      if v8 ≤ x1 then
        f_Lz_sizeOf_B40 n0 h0 a0 x1
      else
        mgr h0 a0 7 1 fun r10 =>
        mln h0 r10 .int fun v11 =>
        if v11 ≤ x1 then
          f_Lz_sizeOf_B40 n0 h0 a0 x1
        else
          mgr h0 a0 7 1 fun r13 =>
          mai h0 r13 .int x1 fun v14 =>
          some (v14, h0)
  else
    some (1, h0)
set_option maxHeartbeats 4000000 in
set_option maxRecDepth 100000 in
theorem cb_Lz_sizeOf_B40 {X : mX} {ad : Nat → Nat} {ln : Launch} (O : mO X ad R_Lz b_Lz_sizeOf 2 (mR 0 0) ln) (r' : Int32) (h' : mH) (hE : mEnd X ad (some .int) (some (.int r')) h') (n0 : Nat) (h0 : mH) (a0 : Nat) (x1 : Int32) (hf : f_Lz_sizeOf_B40 n0 h0 a0 x1 = some (r', h')) : mAW X ad 0 0 40 [(0, .ref a0), (1, .int x1)] [] h0 := by
  unfold f_Lz_sizeOf_B40 at hf
  refine ax_iload_n O d_Lz_sizeOf_40 rfl 1 rfl ?_
  refine ax_aload_n O d_Lz_sizeOf_41 rfl 0 rfl ?_
  obtain ⟨fv3, v3, cv3, kv3, hf⟩ := mgi_some hf
  refine ax_get O fg_Lz_18 cv3 kv3 d_Lz_sizeOf_42 ?_
  refine ax_icmp_ne (tgt := 64) O d_Lz_sizeOf_45 (by decide) (fun q4 => ?_) (fun q4 => ?_)
  · rw [if_neg q4] at hf
    refine ax_iconst (v := 0) O d_Lz_sizeOf_64 (by decide) ?_
    exact ax_retE O hE hf rfl d_Lz_sizeOf_65
  · rw [if_pos q4] at hf
    refine ax_aload_n O d_Lz_sizeOf_48 rfl 0 rfl ?_
    obtain ⟨fv5, v5, cv5, kv5, hf⟩ := mgi_some hf
    refine ax_get O fg_Lz_25 cv5 kv5 d_Lz_sizeOf_49 ?_
    refine ax_if_le (tgt := 64) O d_Lz_sizeOf_52 (by decide) (fun q6 => ?_) (fun q6 => ?_)
    · rw [if_pos q6] at hf
      refine ax_iconst (v := 0) O d_Lz_sizeOf_64 (by decide) ?_
      exact ax_retE O hE hf rfl d_Lz_sizeOf_65
    · rw [if_neg q6] at hf
      refine ax_aload_n O d_Lz_sizeOf_55 rfl 0 rfl ?_
      obtain ⟨fv7, v7, cv7, kv7, hf⟩ := mgi_some hf
      refine ax_get O fg_Lz_25 cv7 kv7 d_Lz_sizeOf_56 ?_
      refine ax_iconst (v := 1) O d_Lz_sizeOf_59 (by decide) ?_
      refine ax_iadd O d_Lz_sizeOf_60 ?_
      refine ax_goto (tgt := 65) O d_Lz_sizeOf_61 (by decide) ?_
      exact ax_retE O hE hf rfl d_Lz_sizeOf_65
set_option maxHeartbeats 4000000 in
set_option maxRecDepth 100000 in
theorem cb_Lz_sizeOf {X : mX} {ad : Nat → Nat} {ln : Launch} (O : mO X ad R_Lz b_Lz_sizeOf 2 (mR 0 0) ln) (r' : Int32) (h' : mH) (hE : mEnd X ad (some .int) (some (.int r')) h') (n0 : Nat) (h0 : mH) (a0 : Nat) (x1 : Int32) (hf : f_Lz_sizeOf n0 h0 a0 x1 = some (r', h')) : mAW X ad 0 0 0 [(0, .ref a0), (1, .int x1)] [] h0 := by
  unfold f_Lz_sizeOf at hf
  refine ax_iload_n O d_Lz_sizeOf_0 rfl 1 rfl ?_
  refine ax_sipush (v := 256) O d_Lz_sizeOf_1 (by decide) ?_
  refine ax_icmp_ge (tgt := 9) O d_Lz_sizeOf_4 (by decide) (fun q1 => ?_) (fun q1 => ?_)
  · rw [if_pos q1] at hf
    refine ax_iload_n O d_Lz_sizeOf_9 rfl 1 rfl ?_
    refine ax_sipush (v := 258) O d_Lz_sizeOf_10 (by decide) ?_
    refine ax_icmp_lt (tgt := 40) O d_Lz_sizeOf_13 (by decide) (fun q2 => ?_) (fun q2 => ?_)
    · rw [if_pos q2] at hf
      exact cb_Lz_sizeOf_B40 O _ _ hE n0 _ _ _ hf
    · rw [if_neg q2] at hf
      refine ax_iload_n O d_Lz_sizeOf_16 rfl 1 rfl ?_
      refine ax_aload_n O d_Lz_sizeOf_17 rfl 0 rfl ?_
      obtain ⟨fv8, v8, cv8, kv8, hf⟩ := mgi_some hf
      refine ax_get O fg_Lz_18 cv8 kv8 d_Lz_sizeOf_18 ?_
      refine ax_icmp_ge (tgt := 40) O d_Lz_sizeOf_21 (by decide) (fun q9 => ?_) (fun q9 => ?_)
      · rw [if_pos q9] at hf
        exact cb_Lz_sizeOf_B40 O _ _ hE n0 _ _ _ hf
      · rw [if_neg q9] at hf
        refine ax_iload_n O d_Lz_sizeOf_24 rfl 1 rfl ?_
        refine ax_aload_n O d_Lz_sizeOf_25 rfl 0 rfl ?_
        obtain ⟨fr10, r10, cr10, kr10, hf⟩ := mgr_some hf
        refine ax_get O fg_Lz_15 cr10 kr10 d_Lz_sizeOf_26 ?_
        obtain ⟨xv11, v11, cv11, kv11, hf⟩ := mln_some hf
        refine ax_alen O (by decide) cv11 kv11 d_Lz_sizeOf_29 ?_
        refine ax_icmp_ge (tgt := 40) O d_Lz_sizeOf_30 (by decide) (fun q12 => ?_) (fun q12 => ?_)
        · rw [if_pos q12] at hf
          exact cb_Lz_sizeOf_B40 O _ _ hE n0 _ _ _ hf
        · rw [if_neg q12] at hf
          refine ax_aload_n O d_Lz_sizeOf_33 rfl 0 rfl ?_
          obtain ⟨fr13, r13, cr13, kr13, hf⟩ := mgr_some hf
          refine ax_get O fg_Lz_15 cr13 kr13 d_Lz_sizeOf_34 ?_
          refine ax_iload_n O d_Lz_sizeOf_37 rfl 1 rfl ?_
          obtain ⟨nv14, fv14, v14, cv14, iv14, kv14, hf⟩ := mai_some hf
          refine ax_iald O cv14 iv14 kv14 d_Lz_sizeOf_38 ?_
          exact ax_retE O hE hf rfl d_Lz_sizeOf_39
  · rw [if_neg q1] at hf
    refine ax_iconst (v := 1) O d_Lz_sizeOf_7 (by decide) ?_
    exact ax_retE O hE hf rfl d_Lz_sizeOf_8
theorem c_Lz_sizeOf {ln : Launch} {n0 : Nat} {h0 h' : mH} {a0 : Nat} {x1 : Int32} {r' : Int32} (hf : f_Lz_sizeOf n0 h0 a0 x1 = some (r', h')) : mMet ln y_Lz_sizeOf b_Lz_sizeOf 2 (some .int) (mR 0 0) [.ref a0, .int x1] h0 (some (.int r')) h' := mMet_of (by decide +kernel) (Nat.le_of_ble_eq_true rfl) (fun X ad O hE => cb_Lz_sizeOf O r' h' hE n0 h0 a0 x1 hf)
/-! ===== StreamFilters$Lzw.startOf(I)I ===== -/
theorem d_Lz_startOf_0 : decode b_Lz_startOf 0 = .ok (.iload_n 1, 1) := by decide +kernel
theorem d_Lz_startOf_1 : decode b_Lz_startOf 1 = .ok (.ifCond .lt 29, 3) := by decide +kernel
theorem d_Lz_startOf_4 : decode b_Lz_startOf 4 = .ok (.iload_n 1, 1) := by decide +kernel
theorem d_Lz_startOf_5 : decode b_Lz_startOf 5 = .ok (.aload_n 0, 1) := by decide +kernel
theorem d_Lz_startOf_6 : decode b_Lz_startOf 6 = .ok (.getfield 18, 3) := by decide +kernel
theorem d_Lz_startOf_9 : decode b_Lz_startOf 9 = .ok (.if_icmp .ge 21, 3) := by decide +kernel
theorem d_Lz_startOf_12 : decode b_Lz_startOf 12 = .ok (.iload_n 1, 1) := by decide +kernel
theorem d_Lz_startOf_13 : decode b_Lz_startOf 13 = .ok (.aload_n 0, 1) := by decide +kernel
theorem d_Lz_startOf_14 : decode b_Lz_startOf 14 = .ok (.getfield 11, 3) := by decide +kernel
theorem d_Lz_startOf_17 : decode b_Lz_startOf 17 = .ok (.arraylength, 1) := by decide +kernel
theorem d_Lz_startOf_18 : decode b_Lz_startOf 18 = .ok (.if_icmp .ge 12, 3) := by decide +kernel
theorem d_Lz_startOf_21 : decode b_Lz_startOf 21 = .ok (.aload_n 0, 1) := by decide +kernel
theorem d_Lz_startOf_22 : decode b_Lz_startOf 22 = .ok (.getfield 11, 3) := by decide +kernel
theorem d_Lz_startOf_25 : decode b_Lz_startOf 25 = .ok (.iload_n 1, 1) := by decide +kernel
theorem d_Lz_startOf_26 : decode b_Lz_startOf 26 = .ok (.iaload, 1) := by decide +kernel
theorem d_Lz_startOf_27 : decode b_Lz_startOf 27 = .ok (.goto 7, 3) := by decide +kernel
theorem d_Lz_startOf_30 : decode b_Lz_startOf 30 = .ok (.aload_n 0, 1) := by decide +kernel
theorem d_Lz_startOf_31 : decode b_Lz_startOf 31 = .ok (.getfield 22, 3) := by decide +kernel
theorem d_Lz_startOf_34 : decode b_Lz_startOf 34 = .ok (.ireturn, 1) := by decide +kernel
noncomputable def f_Lz_startOf  (n0 : Nat) (h0 : mH) (a0 : Nat) (x1 : Int32) : Option (Int32 × mH) :=
  if x1 < 0 then
    mgi h0 a0 7 3 fun v2 =>
    some (v2, h0)
  else
    mgi h0 a0 7 2 fun v3 =>
    if v3 ≤ x1 then
      mgi h0 a0 7 3 fun v5 =>
      some (v5, h0)
    else
      mgr h0 a0 7 0 fun r6 =>
      mln h0 r6 .int fun v7 =>
      if v7 ≤ x1 then
        mgi h0 a0 7 3 fun v9 =>
        some (v9, h0)
      else
        mgr h0 a0 7 0 fun r10 =>
        mai h0 r10 .int x1 fun v11 =>
        some (v11, h0)
set_option maxHeartbeats 4000000 in
set_option maxRecDepth 100000 in
theorem cb_Lz_startOf {X : mX} {ad : Nat → Nat} {ln : Launch} (O : mO X ad R_Lz b_Lz_startOf 2 (mR 0 0) ln) (r' : Int32) (h' : mH) (hE : mEnd X ad (some .int) (some (.int r')) h') (n0 : Nat) (h0 : mH) (a0 : Nat) (x1 : Int32) (hf : f_Lz_startOf n0 h0 a0 x1 = some (r', h')) : mAW X ad 0 0 0 [(0, .ref a0), (1, .int x1)] [] h0 := by
  unfold f_Lz_startOf at hf
  refine ax_iload_n O d_Lz_startOf_0 rfl 1 rfl ?_
  refine ax_if_lt (tgt := 30) O d_Lz_startOf_1 (by decide) (fun q1 => ?_) (fun q1 => ?_)
  · rw [if_pos q1] at hf
    refine ax_aload_n O d_Lz_startOf_30 rfl 0 rfl ?_
    obtain ⟨fv2, v2, cv2, kv2, hf⟩ := mgi_some hf
    refine ax_get O fg_Lz_22 cv2 kv2 d_Lz_startOf_31 ?_
    exact ax_retE O hE hf rfl d_Lz_startOf_34
  · rw [if_neg q1] at hf
    refine ax_iload_n O d_Lz_startOf_4 rfl 1 rfl ?_
    refine ax_aload_n O d_Lz_startOf_5 rfl 0 rfl ?_
    obtain ⟨fv3, v3, cv3, kv3, hf⟩ := mgi_some hf
    refine ax_get O fg_Lz_18 cv3 kv3 d_Lz_startOf_6 ?_
    refine ax_icmp_ge (tgt := 30) O d_Lz_startOf_9 (by decide) (fun q4 => ?_) (fun q4 => ?_)
    · rw [if_pos q4] at hf
      refine ax_aload_n O d_Lz_startOf_30 rfl 0 rfl ?_
      obtain ⟨fv5, v5, cv5, kv5, hf⟩ := mgi_some hf
      refine ax_get O fg_Lz_22 cv5 kv5 d_Lz_startOf_31 ?_
      exact ax_retE O hE hf rfl d_Lz_startOf_34
    · rw [if_neg q4] at hf
      refine ax_iload_n O d_Lz_startOf_12 rfl 1 rfl ?_
      refine ax_aload_n O d_Lz_startOf_13 rfl 0 rfl ?_
      obtain ⟨fr6, r6, cr6, kr6, hf⟩ := mgr_some hf
      refine ax_get O fg_Lz_11 cr6 kr6 d_Lz_startOf_14 ?_
      obtain ⟨xv7, v7, cv7, kv7, hf⟩ := mln_some hf
      refine ax_alen O (by decide) cv7 kv7 d_Lz_startOf_17 ?_
      refine ax_icmp_ge (tgt := 30) O d_Lz_startOf_18 (by decide) (fun q8 => ?_) (fun q8 => ?_)
      · rw [if_pos q8] at hf
        refine ax_aload_n O d_Lz_startOf_30 rfl 0 rfl ?_
        obtain ⟨fv9, v9, cv9, kv9, hf⟩ := mgi_some hf
        refine ax_get O fg_Lz_22 cv9 kv9 d_Lz_startOf_31 ?_
        exact ax_retE O hE hf rfl d_Lz_startOf_34
      · rw [if_neg q8] at hf
        refine ax_aload_n O d_Lz_startOf_21 rfl 0 rfl ?_
        obtain ⟨fr10, r10, cr10, kr10, hf⟩ := mgr_some hf
        refine ax_get O fg_Lz_11 cr10 kr10 d_Lz_startOf_22 ?_
        refine ax_iload_n O d_Lz_startOf_25 rfl 1 rfl ?_
        obtain ⟨nv11, fv11, v11, cv11, iv11, kv11, hf⟩ := mai_some hf
        refine ax_iald O cv11 iv11 kv11 d_Lz_startOf_26 ?_
        refine ax_goto (tgt := 34) O d_Lz_startOf_27 (by decide) ?_
        exact ax_retE O hE hf rfl d_Lz_startOf_34
theorem c_Lz_startOf {ln : Launch} {n0 : Nat} {h0 h' : mH} {a0 : Nat} {x1 : Int32} {r' : Int32} (hf : f_Lz_startOf n0 h0 a0 x1 = some (r', h')) : mMet ln y_Lz_startOf b_Lz_startOf 2 (some .int) (mR 0 0) [.ref a0, .int x1] h0 (some (.int r')) h' := mMet_of (by decide +kernel) (Nat.le_of_ble_eq_true rfl) (fun X ad O hE => cb_Lz_startOf O r' h' hE n0 h0 a0 x1 hf)
/-! ===== StreamFilters$Lzw.makeString()V ===== -/
theorem d_Lz_makeString_0 : decode b_Lz_makeString 0 = .ok (.aload_n 0, 1) := by decide +kernel
theorem d_Lz_makeString_1 : decode b_Lz_makeString 1 = .ok (.getfield 25, 3) := by decide +kernel
theorem d_Lz_makeString_4 : decode b_Lz_makeString 4 = .ok (.ifCond .le 65, 3) := by decide +kernel
theorem d_Lz_makeString_7 : decode b_Lz_makeString 7 = .ok (.aload_n 0, 1) := by decide +kernel
theorem d_Lz_makeString_8 : decode b_Lz_makeString 8 = .ok (.getfield 18, 3) := by decide +kernel
theorem d_Lz_makeString_11 : decode b_Lz_makeString 11 = .ok (.aload_n 0, 1) := by decide +kernel
theorem d_Lz_makeString_12 : decode b_Lz_makeString 12 = .ok (.getfield 11, 3) := by decide +kernel
theorem d_Lz_makeString_15 : decode b_Lz_makeString 15 = .ok (.arraylength, 1) := by decide +kernel
theorem d_Lz_makeString_16 : decode b_Lz_makeString 16 = .ok (.if_icmp .ge 53, 3) := by decide +kernel
theorem d_Lz_makeString_19 : decode b_Lz_makeString 19 = .ok (.aload_n 0, 1) := by decide +kernel
theorem d_Lz_makeString_20 : decode b_Lz_makeString 20 = .ok (.getfield 18, 3) := by decide +kernel
theorem d_Lz_makeString_23 : decode b_Lz_makeString 23 = .ok (.aload_n 0, 1) := by decide +kernel
theorem d_Lz_makeString_24 : decode b_Lz_makeString 24 = .ok (.getfield 15, 3) := by decide +kernel
theorem d_Lz_makeString_27 : decode b_Lz_makeString 27 = .ok (.arraylength, 1) := by decide +kernel
theorem d_Lz_makeString_28 : decode b_Lz_makeString 28 = .ok (.if_icmp .ge 41, 3) := by decide +kernel
theorem d_Lz_makeString_31 : decode b_Lz_makeString 31 = .ok (.aload_n 0, 1) := by decide +kernel
theorem d_Lz_makeString_32 : decode b_Lz_makeString 32 = .ok (.getfield 11, 3) := by decide +kernel
theorem d_Lz_makeString_35 : decode b_Lz_makeString 35 = .ok (.aload_n 0, 1) := by decide +kernel
theorem d_Lz_makeString_36 : decode b_Lz_makeString 36 = .ok (.getfield 18, 3) := by decide +kernel
theorem d_Lz_makeString_39 : decode b_Lz_makeString 39 = .ok (.aload_n 0, 1) := by decide +kernel
theorem d_Lz_makeString_40 : decode b_Lz_makeString 40 = .ok (.getfield 22, 3) := by decide +kernel
theorem d_Lz_makeString_43 : decode b_Lz_makeString 43 = .ok (.iastore, 1) := by decide +kernel
theorem d_Lz_makeString_44 : decode b_Lz_makeString 44 = .ok (.aload_n 0, 1) := by decide +kernel
theorem d_Lz_makeString_45 : decode b_Lz_makeString 45 = .ok (.getfield 15, 3) := by decide +kernel
theorem d_Lz_makeString_48 : decode b_Lz_makeString 48 = .ok (.aload_n 0, 1) := by decide +kernel
theorem d_Lz_makeString_49 : decode b_Lz_makeString 49 = .ok (.getfield 18, 3) := by decide +kernel
theorem d_Lz_makeString_52 : decode b_Lz_makeString 52 = .ok (.aload_n 0, 1) := by decide +kernel
theorem d_Lz_makeString_53 : decode b_Lz_makeString 53 = .ok (.getfield 25, 3) := by decide +kernel
theorem d_Lz_makeString_56 : decode b_Lz_makeString 56 = .ok (.iconst 1, 1) := by decide +kernel
theorem d_Lz_makeString_57 : decode b_Lz_makeString 57 = .ok (.iadd, 1) := by decide +kernel
theorem d_Lz_makeString_58 : decode b_Lz_makeString 58 = .ok (.iastore, 1) := by decide +kernel
theorem d_Lz_makeString_59 : decode b_Lz_makeString 59 = .ok (.aload_n 0, 1) := by decide +kernel
theorem d_Lz_makeString_60 : decode b_Lz_makeString 60 = .ok (.dup, 1) := by decide +kernel
theorem d_Lz_makeString_61 : decode b_Lz_makeString 61 = .ok (.getfield 18, 3) := by decide +kernel
theorem d_Lz_makeString_64 : decode b_Lz_makeString 64 = .ok (.iconst 1, 1) := by decide +kernel
theorem d_Lz_makeString_65 : decode b_Lz_makeString 65 = .ok (.iadd, 1) := by decide +kernel
theorem d_Lz_makeString_66 : decode b_Lz_makeString 66 = .ok (.putfield 18, 3) := by decide +kernel
theorem d_Lz_makeString_69 : decode b_Lz_makeString 69 = .ok (.return_, 1) := by decide +kernel
noncomputable def f_Lz_makeString  (n0 : Nat) (h0 : mH) (a0 : Nat) : Option (Unit × mH) :=
  mgi h0 a0 7 4 fun v1 =>
  if v1 ≤ 0 then
    some ((), h0)
  else
    mgi h0 a0 7 2 fun v3 =>
    mgr h0 a0 7 0 fun r4 =>
    mln h0 r4 .int fun v5 =>
    if v5 ≤ v3 then
      some ((), h0)
    else
      mgi h0 a0 7 2 fun v7 =>
      mgr h0 a0 7 1 fun r8 =>
      mln h0 r8 .int fun v9 =>
      if v9 ≤ v7 then
        some ((), h0)
      else
        mgr h0 a0 7 0 fun r11 =>
        mgi h0 a0 7 2 fun v12 =>
        mgi h0 a0 7 3 fun v13 =>
        mas h0 r11 .int v12 v13 fun h14 =>
        mgr h14 a0 7 1 fun r15 =>
        mgi h14 a0 7 2 fun v16 =>
        mgi h14 a0 7 4 fun v17 =>
        mas h14 r15 .int v16 (v17 + 1) fun h18 =>
        mgi h18 a0 7 2 fun v19 =>
        mpt h18 a0 7 2 (.int (v19 + 1)) fun h20 =>
        some ((), h20)
set_option maxHeartbeats 4000000 in
set_option maxRecDepth 100000 in
theorem cb_Lz_makeString {X : mX} {ad : Nat → Nat} {ln : Launch} (O : mO X ad R_Lz b_Lz_makeString 1 (mR 0 0) ln) (r' : Unit) (h' : mH) (hE : mEnd X ad none none h') (n0 : Nat) (h0 : mH) (a0 : Nat) (hf : f_Lz_makeString n0 h0 a0 = some (r', h')) : mAW X ad 0 0 0 [(0, .ref a0)] [] h0 := by
  unfold f_Lz_makeString at hf
  refine ax_aload_n O d_Lz_makeString_0 rfl 0 rfl ?_
  obtain ⟨fv1, v1, cv1, kv1, hf⟩ := mgi_some hf
  refine ax_get O fg_Lz_25 cv1 kv1 d_Lz_makeString_1 ?_
  refine ax_if_le (tgt := 69) O d_Lz_makeString_4 (by decide) (fun q2 => ?_) (fun q2 => ?_)
  · rw [if_pos q2] at hf
    exact ax_vretE O hE hf d_Lz_makeString_69
  · rw [if_neg q2] at hf
    refine ax_aload_n O d_Lz_makeString_7 rfl 0 rfl ?_
    obtain ⟨fv3, v3, cv3, kv3, hf⟩ := mgi_some hf
    refine ax_get O fg_Lz_18 cv3 kv3 d_Lz_makeString_8 ?_
    refine ax_aload_n O d_Lz_makeString_11 rfl 0 rfl ?_
    obtain ⟨fr4, r4, cr4, kr4, hf⟩ := mgr_some hf
    refine ax_get O fg_Lz_11 cr4 kr4 d_Lz_makeString_12 ?_
    obtain ⟨xv5, v5, cv5, kv5, hf⟩ := mln_some hf
    refine ax_alen O (by decide) cv5 kv5 d_Lz_makeString_15 ?_
    refine ax_icmp_ge (tgt := 69) O d_Lz_makeString_16 (by decide) (fun q6 => ?_) (fun q6 => ?_)
    · rw [if_pos q6] at hf
      exact ax_vretE O hE hf d_Lz_makeString_69
    · rw [if_neg q6] at hf
      refine ax_aload_n O d_Lz_makeString_19 rfl 0 rfl ?_
      obtain ⟨fv7, v7, cv7, kv7, hf⟩ := mgi_some hf
      refine ax_get O fg_Lz_18 cv7 kv7 d_Lz_makeString_20 ?_
      refine ax_aload_n O d_Lz_makeString_23 rfl 0 rfl ?_
      obtain ⟨fr8, r8, cr8, kr8, hf⟩ := mgr_some hf
      refine ax_get O fg_Lz_15 cr8 kr8 d_Lz_makeString_24 ?_
      obtain ⟨xv9, v9, cv9, kv9, hf⟩ := mln_some hf
      refine ax_alen O (by decide) cv9 kv9 d_Lz_makeString_27 ?_
      refine ax_icmp_ge (tgt := 69) O d_Lz_makeString_28 (by decide) (fun q10 => ?_) (fun q10 => ?_)
      · rw [if_pos q10] at hf
        exact ax_vretE O hE hf d_Lz_makeString_69
      · rw [if_neg q10] at hf
        refine ax_aload_n O d_Lz_makeString_31 rfl 0 rfl ?_
        obtain ⟨fr11, r11, cr11, kr11, hf⟩ := mgr_some hf
        refine ax_get O fg_Lz_11 cr11 kr11 d_Lz_makeString_32 ?_
        refine ax_aload_n O d_Lz_makeString_35 rfl 0 rfl ?_
        obtain ⟨fv12, v12, cv12, kv12, hf⟩ := mgi_some hf
        refine ax_get O fg_Lz_18 cv12 kv12 d_Lz_makeString_36 ?_
        refine ax_aload_n O d_Lz_makeString_39 rfl 0 rfl ?_
        obtain ⟨fv13, v13, cv13, kv13, hf⟩ := mgi_some hf
        refine ax_get O fg_Lz_22 cv13 kv13 d_Lz_makeString_40 ?_
        obtain ⟨nh14, fh14, h14, ch14, ih14, eh14, hf⟩ := mas_some hf
        refine ax_iast O ch14 ih14 eh14 d_Lz_makeString_43 ?_
        refine ax_aload_n O d_Lz_makeString_44 rfl 0 rfl ?_
        obtain ⟨fr15, r15, cr15, kr15, hf⟩ := mgr_some hf
        refine ax_get O fg_Lz_15 cr15 kr15 d_Lz_makeString_45 ?_
        refine ax_aload_n O d_Lz_makeString_48 rfl 0 rfl ?_
        obtain ⟨fv16, v16, cv16, kv16, hf⟩ := mgi_some hf
        refine ax_get O fg_Lz_18 cv16 kv16 d_Lz_makeString_49 ?_
        refine ax_aload_n O d_Lz_makeString_52 rfl 0 rfl ?_
        obtain ⟨fv17, v17, cv17, kv17, hf⟩ := mgi_some hf
        refine ax_get O fg_Lz_25 cv17 kv17 d_Lz_makeString_53 ?_
        refine ax_iconst (v := 1) O d_Lz_makeString_56 (by decide) ?_
        refine ax_iadd O d_Lz_makeString_57 ?_
        obtain ⟨nh18, fh18, h18, ch18, ih18, eh18, hf⟩ := mas_some hf
        refine ax_iast O ch18 ih18 eh18 d_Lz_makeString_58 ?_
        refine ax_aload_n O d_Lz_makeString_59 rfl 0 rfl ?_
        refine ax_dup O d_Lz_makeString_60 rfl ?_
        obtain ⟨fv19, v19, cv19, kv19, hf⟩ := mgi_some hf
        refine ax_get O fg_Lz_18 cv19 kv19 d_Lz_makeString_61 ?_
        refine ax_iconst (v := 1) O d_Lz_makeString_64 (by decide) ?_
        refine ax_iadd O d_Lz_makeString_65 ?_
        obtain ⟨fh20, h20, ch20, kh20, eh20, hf⟩ := mpt_some hf
        refine ax_put (v := .int (v19 + 1)) O fp_Lz_18 ch20 kh20 eh20 rfl rfl d_Lz_makeString_66 ?_
        exact ax_vretE O hE hf d_Lz_makeString_69
theorem c_Lz_makeString {ln : Launch} {n0 : Nat} {h0 h' : mH} {a0 : Nat} {r' : Unit} (hf : f_Lz_makeString n0 h0 a0 = some (r', h')) : mMet ln y_Lz_makeString b_Lz_makeString 1 none (mR 0 0) [.ref a0] h0 none h' := mMet_of (by decide +kernel) (Nat.le_of_ble_eq_true rfl) (fun X ad O hE => cb_Lz_makeString O r' h' hE n0 h0 a0 hf)
/-! ===== StreamFilters$Lzw.giveString(LStreamFilters$Pass;I)Z ===== -/
theorem d_Lz_giveString_0 : decode b_Lz_giveString 0 = .ok (.aload_n 1, 1) := by decide +kernel
theorem d_Lz_giveString_1 : decode b_Lz_giveString 1 = .ok (.getfield 45, 3) := by decide +kernel
theorem d_Lz_giveString_4 : decode b_Lz_giveString 4 = .ok (.getfield 49, 3) := by decide +kernel
theorem d_Lz_giveString_7 : decode b_Lz_giveString 7 = .ok (.istore_n 3, 1) := by decide +kernel
theorem d_Lz_giveString_8 : decode b_Lz_giveString 8 = .ok (.aload_n 0, 1) := by decide +kernel
theorem d_Lz_giveString_9 : decode b_Lz_giveString 9 = .ok (.iload_n 2, 1) := by decide +kernel
theorem d_Lz_giveString_10 : decode b_Lz_giveString 10 = .ok (.invokevirtual 54, 3) := by decide +kernel
theorem d_Lz_giveString_13 : decode b_Lz_giveString 13 = .ok (.istore 4, 2) := by decide +kernel
theorem d_Lz_giveString_15 : decode b_Lz_giveString 15 = .ok (.iload 4, 2) := by decide +kernel
theorem d_Lz_giveString_17 : decode b_Lz_giveString 17 = .ok (.ifCond .ne 10, 3) := by decide +kernel
theorem d_Lz_giveString_20 : decode b_Lz_giveString 20 = .ok (.aload_n 1, 1) := by decide +kernel
theorem d_Lz_giveString_21 : decode b_Lz_giveString 21 = .ok (.bipush 10, 2) := by decide +kernel
theorem d_Lz_giveString_23 : decode b_Lz_giveString 23 = .ok (.invokevirtual 57, 3) := by decide +kernel
theorem d_Lz_giveString_26 : decode b_Lz_giveString 26 = .ok (.ireturn, 1) := by decide +kernel
theorem d_Lz_giveString_27 : decode b_Lz_giveString 27 = .ok (.iload_n 2, 1) := by decide +kernel
theorem d_Lz_giveString_28 : decode b_Lz_giveString 28 = .ok (.sipush 256, 3) := by decide +kernel
theorem d_Lz_giveString_31 : decode b_Lz_giveString 31 = .ok (.if_icmp .ge 11, 3) := by decide +kernel
theorem d_Lz_giveString_34 : decode b_Lz_giveString 34 = .ok (.aload_n 1, 1) := by decide +kernel
theorem d_Lz_giveString_35 : decode b_Lz_giveString 35 = .ok (.iload_n 2, 1) := by decide +kernel
theorem d_Lz_giveString_36 : decode b_Lz_giveString 36 = .ok (.invokevirtual 61, 3) := by decide +kernel
theorem d_Lz_giveString_39 : decode b_Lz_giveString 39 = .ok (.goto 14, 3) := by decide +kernel
theorem d_Lz_giveString_42 : decode b_Lz_giveString 42 = .ok (.aload_n 1, 1) := by decide +kernel
theorem d_Lz_giveString_43 : decode b_Lz_giveString 43 = .ok (.aload_n 0, 1) := by decide +kernel
theorem d_Lz_giveString_44 : decode b_Lz_giveString 44 = .ok (.iload_n 2, 1) := by decide +kernel
theorem d_Lz_giveString_45 : decode b_Lz_giveString 45 = .ok (.invokevirtual 64, 3) := by decide +kernel
theorem d_Lz_giveString_48 : decode b_Lz_giveString 48 = .ok (.iload 4, 2) := by decide +kernel
theorem d_Lz_giveString_50 : decode b_Lz_giveString 50 = .ok (.invokevirtual 67, 3) := by decide +kernel
theorem d_Lz_giveString_53 : decode b_Lz_giveString 53 = .ok (.istore 5, 2) := by decide +kernel
theorem d_Lz_giveString_55 : decode b_Lz_giveString 55 = .ok (.iload 5, 2) := by decide +kernel
theorem d_Lz_giveString_57 : decode b_Lz_giveString 57 = .ok (.ifCond .ne 5, 3) := by decide +kernel
theorem d_Lz_giveString_60 : decode b_Lz_giveString 60 = .ok (.iconst 0, 1) := by decide +kernel
theorem d_Lz_giveString_61 : decode b_Lz_giveString 61 = .ok (.ireturn, 1) := by decide +kernel
theorem d_Lz_giveString_62 : decode b_Lz_giveString 62 = .ok (.aload_n 0, 1) := by decide +kernel
theorem d_Lz_giveString_63 : decode b_Lz_giveString 63 = .ok (.invokevirtual 71, 3) := by decide +kernel
theorem d_Lz_giveString_66 : decode b_Lz_giveString 66 = .ok (.aload_n 0, 1) := by decide +kernel
theorem d_Lz_giveString_67 : decode b_Lz_giveString 67 = .ok (.iload_n 3, 1) := by decide +kernel
theorem d_Lz_giveString_68 : decode b_Lz_giveString 68 = .ok (.putfield 22, 3) := by decide +kernel
theorem d_Lz_giveString_71 : decode b_Lz_giveString 71 = .ok (.aload_n 0, 1) := by decide +kernel
theorem d_Lz_giveString_72 : decode b_Lz_giveString 72 = .ok (.iload 4, 2) := by decide +kernel
theorem d_Lz_giveString_74 : decode b_Lz_giveString 74 = .ok (.putfield 25, 3) := by decide +kernel
theorem d_Lz_giveString_77 : decode b_Lz_giveString 77 = .ok (.iconst 1, 1) := by decide +kernel
theorem d_Lz_giveString_78 : decode b_Lz_giveString 78 = .ok (.ireturn, 1) := by decide +kernel
noncomputable def f_Lz_giveString_B53  (n0 : Nat) (h0 : mH) (a0 : Nat) (x3 : Int32) (x4 : Int32) (p0 : Int32) : Option (Int32 × mH) :=
  if p0 = 0 then
    some (0, h0)
  else
    mis h0 a0 7 <|
    mcl (f_Lz_makeString n0 h0 a0) fun _ h17 =>
    mpt h17 a0 7 3 (.int x3) fun h19 =>
    mpt h19 a0 7 4 (.int x4) fun h20 =>
    some (1, h20)
noncomputable def f_Lz_giveString  (n0 : Nat) (h0 : mH) (a0 : Nat) (a1 : Nat) (x2 : Int32) : Option (Int32 × mH) :=
  mgr h0 a1 8 1 fun r1 =>
  mgi h0 r1 1 1 fun v2 =>
  mis h0 a0 7 <|
  mcl (f_Lz_sizeOf n0 h0 a0 x2) fun v4 h5 =>
  if v4 = 0 then
    mis h5 a1 8 <|
    mcl (f_Pa_fail n0 h5 a1 10) fun v25 h26 =>
    mge (narrow .boolean (.int v25) = .int v25) <|
    some (v25, h26)
  else
    if 256 ≤ x2 then
      mis h5 a0 7 <|
      mcl (f_Lz_startOf n0 h5 a0 x2) fun v9 h10 =>
      mis h10 a1 8 <|
      mcl (f_Pa_giveAgain n0 h10 a1 v9 v4) fun v12 h13 =>
      f_Lz_giveString_B53 n0 h13 a0 v2 v4 v12
    else
      mis h5 a1 8 <|
      mcl (f_Pa_give n0 h5 a1 x2) fun v22 h23 =>
      f_Lz_giveString_B53 n0 h23 a0 v2 v4 v22
set_option maxHeartbeats 4000000 in
set_option maxRecDepth 100000 in
theorem cb_Lz_giveString_B53 {X : mX} {ad : Nat → Nat} {ln : Launch} (O : mO X ad R_Lz b_Lz_giveString 6 (mR 3 65) ln) (r' : Int32) (h' : mH) (hE : mEnd X ad (some .boolean) (some (.int r')) h') (n0 : Nat) (h0 : mH) (a0 : Nat) (x3 : Int32) (x4 : Int32) (p0 : Int32) (hf : f_Lz_giveString_B53 n0 h0 a0 x3 x4 p0 = some (r', h')) : mAW X ad 0 0 53 [(0, .ref a0), (3, .int x3), (4, .int x4)] [.int p0] h0 := by
  unfold f_Lz_giveString_B53 at hf
  refine ax_istore (lv' := [(5, .int p0), (0, .ref a0), (3, .int x3), (4, .int x4)]) O d_Lz_giveString_53 (by decide) rfl ?_
  refine ax_iload O d_Lz_giveString_55 0 rfl ?_
  refine ax_if_ne (tgt := 62) O d_Lz_giveString_57 (by decide) (fun q14 => ?_) (fun q14 => ?_)
  · rw [if_neg q14] at hf
    refine ax_aload_n O d_Lz_giveString_62 rfl 1 rfl ?_
    obtain ⟨fh17, ch17, hf⟩ := mis_some hf
    obtain ⟨u18, h17, mh17, hf⟩ := mcl_some hf
    refine ax_callV (As := []) (rest := []) O cw_Lz_makeString (q := (R_Lz, T_Lz, 5)) rfl rfl in_Lz_makeString se_Lz_makeString lk_Lz_71 ch17 (c_Lz_makeString mh17) rfl ⟨rfl, rfl⟩ (by decide) (by decide) (Nat.le_of_ble_eq_true rfl) d_Lz_giveString_63 ?_
    refine ax_aload_n O d_Lz_giveString_66 rfl 1 rfl ?_
    refine ax_iload_n O d_Lz_giveString_67 rfl 2 rfl ?_
    obtain ⟨fh19, h19, ch19, kh19, eh19, hf⟩ := mpt_some hf
    refine ax_put (v := .int x3) O fp_Lz_22 ch19 kh19 eh19 rfl rfl d_Lz_giveString_68 ?_
    refine ax_aload_n O d_Lz_giveString_71 rfl 1 rfl ?_
    refine ax_iload O d_Lz_giveString_72 3 rfl ?_
    obtain ⟨fh20, h20, ch20, kh20, eh20, hf⟩ := mpt_some hf
    refine ax_put (v := .int x4) O fp_Lz_25 ch20 kh20 eh20 rfl rfl d_Lz_giveString_74 ?_
    refine ax_iconst (v := 1) O d_Lz_giveString_77 (by decide) ?_
    exact ax_retE O hE hf rfl d_Lz_giveString_78
  · rw [if_pos q14] at hf
    refine ax_iconst (v := 0) O d_Lz_giveString_60 (by decide) ?_
    exact ax_retE O hE hf rfl d_Lz_giveString_61
set_option maxHeartbeats 4000000 in
set_option maxRecDepth 100000 in
theorem cb_Lz_giveString {X : mX} {ad : Nat → Nat} {ln : Launch} (O : mO X ad R_Lz b_Lz_giveString 6 (mR 3 65) ln) (r' : Int32) (h' : mH) (hE : mEnd X ad (some .boolean) (some (.int r')) h') (n0 : Nat) (h0 : mH) (a0 : Nat) (a1 : Nat) (x2 : Int32) (hf : f_Lz_giveString n0 h0 a0 a1 x2 = some (r', h')) : mAW X ad 0 0 0 [(0, .ref a0), (1, .ref a1), (2, .int x2)] [] h0 := by
  unfold f_Lz_giveString at hf
  refine ax_aload_n O d_Lz_giveString_0 rfl 1 rfl ?_
  obtain ⟨fr1, r1, cr1, kr1, hf⟩ := mgr_some hf
  refine ax_get O fg_Lz_45 cr1 kr1 d_Lz_giveString_1 ?_
  obtain ⟨fv2, v2, cv2, kv2, hf⟩ := mgi_some hf
  refine ax_get O fg_Lz_49 cv2 kv2 d_Lz_giveString_4 ?_
  refine ax_istore_n (lv' := [(3, .int v2), (0, .ref a0), (1, .ref a1), (2, .int x2)]) O d_Lz_giveString_7 rfl (by decide) rfl ?_
  refine ax_aload_n O d_Lz_giveString_8 rfl 1 rfl ?_
  refine ax_iload_n O d_Lz_giveString_9 rfl 3 rfl ?_
  obtain ⟨fh5, ch5, hf⟩ := mis_some hf
  obtain ⟨v4, h5, mh5, hf⟩ := mcl_some hf
  refine ax_callV (As := [.int x2]) (rest := []) O cw_Lz_sizeOf (q := (R_Lz, T_Lz, 5)) rfl rfl in_Lz_sizeOf se_Lz_sizeOf lk_Lz_54 ch5 (c_Lz_sizeOf mh5) rfl ⟨rfl, rfl⟩ (by decide) (by decide) (Nat.le_of_ble_eq_true rfl) d_Lz_giveString_10 ?_
  refine ax_istore (lv' := [(4, .int v4), (3, .int v2), (0, .ref a0), (1, .ref a1), (2, .int x2)]) O d_Lz_giveString_13 (by decide) rfl ?_
  refine ax_iload O d_Lz_giveString_15 0 rfl ?_
  refine ax_if_ne (tgt := 27) O d_Lz_giveString_17 (by decide) (fun q6 => ?_) (fun q6 => ?_)
  · rw [if_neg q6] at hf
    refine ax_iload_n O d_Lz_giveString_27 rfl 4 rfl ?_
    refine ax_sipush (v := 256) O d_Lz_giveString_28 (by decide) ?_
    refine ax_icmp_ge (tgt := 42) O d_Lz_giveString_31 (by decide) (fun q7 => ?_) (fun q7 => ?_)
    · rw [if_pos q7] at hf
      refine ax_aload_n O d_Lz_giveString_42 rfl 3 rfl ?_
      refine ax_aload_n O d_Lz_giveString_43 rfl 2 rfl ?_
      refine ax_iload_n O d_Lz_giveString_44 rfl 4 rfl ?_
      obtain ⟨fh10, ch10, hf⟩ := mis_some hf
      obtain ⟨v9, h10, mh10, hf⟩ := mcl_some hf
      refine ax_callV (As := [.int x2]) (rest := [.ref a1]) O cw_Lz_startOf (q := (R_Lz, T_Lz, 5)) rfl rfl in_Lz_startOf se_Lz_startOf lk_Lz_64 ch10 (c_Lz_startOf mh10) rfl ⟨rfl, rfl⟩ (by decide) (by decide) (Nat.le_of_ble_eq_true rfl) d_Lz_giveString_45 ?_
      refine ax_iload O d_Lz_giveString_48 0 rfl ?_
      obtain ⟨fh13, ch13, hf⟩ := mis_some hf
      obtain ⟨v12, h13, mh13, hf⟩ := mcl_some hf
      refine ax_callV (As := [.int v9, .int v4]) (rest := []) O cw_Pa_giveAgain (q := (R_Pa, T_Pa, 7)) rfl rfl in_Pa_giveAgain se_Pa_giveAgain lk_Lz_67 ch13 (c_Pa_giveAgain mh13) rfl ⟨rfl, rfl⟩ (by decide) (by decide) (Nat.le_of_ble_eq_true rfl) d_Lz_giveString_50 ?_
      refine ax_sub [2, 1, 0] rfl ?_
      exact cb_Lz_giveString_B53 O _ _ hE n0 _ _ _ _ _ hf
    · rw [if_neg q7] at hf
      refine ax_aload_n O d_Lz_giveString_34 rfl 3 rfl ?_
      refine ax_iload_n O d_Lz_giveString_35 rfl 4 rfl ?_
      obtain ⟨fh23, ch23, hf⟩ := mis_some hf
      obtain ⟨v22, h23, mh23, hf⟩ := mcl_some hf
      refine ax_callV (As := [.int x2]) (rest := []) O cw_Pa_give (q := (R_Pa, T_Pa, 7)) rfl rfl in_Pa_give se_Pa_give lk_Lz_61 ch23 (c_Pa_give mh23) rfl ⟨rfl, rfl⟩ (by decide) (by decide) (Nat.le_of_ble_eq_true rfl) d_Lz_giveString_36 ?_
      refine ax_goto (tgt := 53) O d_Lz_giveString_39 (by decide) ?_
      refine ax_sub [2, 1, 0] rfl ?_
      exact cb_Lz_giveString_B53 O _ _ hE n0 _ _ _ _ _ hf
  · rw [if_pos q6] at hf
    refine ax_aload_n O d_Lz_giveString_20 rfl 3 rfl ?_
    refine ax_bipush (v := 10) O d_Lz_giveString_21 (by decide) ?_
    obtain ⟨fh26, ch26, hf⟩ := mis_some hf
    obtain ⟨v25, h26, mh26, hf⟩ := mcl_some hf
    refine ax_callV (As := [.int 10]) (rest := []) O cw_Pa_fail (q := (R_Pa, T_Pa, 7)) rfl rfl in_Pa_fail se_Pa_fail lk_Lz_57 ch26 (c_Pa_fail mh26) rfl ⟨rfl, rfl⟩ (by decide) (by decide) (Nat.le_of_ble_eq_true rfl) d_Lz_giveString_23 ?_
    obtain ⟨q27, hf⟩ := mge_some hf
    exact ax_retE O hE hf q27 d_Lz_giveString_26
theorem c_Lz_giveString {ln : Launch} {n0 : Nat} {h0 h' : mH} {a0 : Nat} {a1 : Nat} {x2 : Int32} {r' : Int32} (hf : f_Lz_giveString n0 h0 a0 a1 x2 = some (r', h')) : mMet ln y_Lz_giveString b_Lz_giveString 6 (some .boolean) (mR 3 65) [.ref a0, .ref a1, .int x2] h0 (some (.int r')) h' := mMet_of (by decide +kernel) (Nat.le_of_ble_eq_true rfl) (fun X ad O hE => cb_Lz_giveString O r' h' hE n0 h0 a0 a1 x2 hf)
/-! ===== StreamFilters$Lzw.unpack(LStreamFilters$Pass;I)V ===== -/
theorem d_Lz_unpack_0 : decode b_Lz_unpack 0 = .ok (.aload_n 0, 1) := by decide +kernel
theorem d_Lz_unpack_1 : decode b_Lz_unpack 1 = .ok (.invokevirtual 28, 3) := by decide +kernel
theorem d_Lz_unpack_4 : decode b_Lz_unpack 4 = .ok (.iconst 0, 1) := by decide +kernel
theorem d_Lz_unpack_5 : decode b_Lz_unpack 5 = .ok (.istore_n 3, 1) := by decide +kernel
theorem d_Lz_unpack_6 : decode b_Lz_unpack 6 = .ok (.iload_n 3, 1) := by decide +kernel
theorem d_Lz_unpack_7 : decode b_Lz_unpack 7 = .ok (.ldc 31, 2) := by decide +kernel
theorem d_Lz_unpack_9 : decode b_Lz_unpack 9 = .ok (.if_icmp .ge 65, 3) := by decide +kernel
theorem d_Lz_unpack_12 : decode b_Lz_unpack 12 = .ok (.aload_n 1, 1) := by decide +kernel
theorem d_Lz_unpack_13 : decode b_Lz_unpack 13 = .ok (.aload_n 0, 1) := by decide +kernel
theorem d_Lz_unpack_14 : decode b_Lz_unpack 14 = .ok (.getfield 18, 3) := by decide +kernel
theorem d_Lz_unpack_17 : decode b_Lz_unpack 17 = .ok (.iload_n 2, 1) := by decide +kernel
theorem d_Lz_unpack_18 : decode b_Lz_unpack 18 = .ok (.iadd, 1) := by decide +kernel
theorem d_Lz_unpack_19 : decode b_Lz_unpack 19 = .ok (.invokestatic 32, 3) := by decide +kernel
theorem d_Lz_unpack_22 : decode b_Lz_unpack 22 = .ok (.invokevirtual 36, 3) := by decide +kernel
theorem d_Lz_unpack_25 : decode b_Lz_unpack 25 = .ok (.istore 4, 2) := by decide +kernel
theorem d_Lz_unpack_27 : decode b_Lz_unpack 27 = .ok (.iload 4, 2) := by decide +kernel
theorem d_Lz_unpack_29 : decode b_Lz_unpack 29 = .ok (.iconst (-1), 1) := by decide +kernel
theorem d_Lz_unpack_30 : decode b_Lz_unpack 30 = .ok (.if_icmp .eq 11, 3) := by decide +kernel
theorem d_Lz_unpack_33 : decode b_Lz_unpack 33 = .ok (.iload 4, 2) := by decide +kernel
theorem d_Lz_unpack_35 : decode b_Lz_unpack 35 = .ok (.sipush 257, 3) := by decide +kernel
theorem d_Lz_unpack_38 : decode b_Lz_unpack 38 = .ok (.if_icmp .ne 4, 3) := by decide +kernel
theorem d_Lz_unpack_41 : decode b_Lz_unpack 41 = .ok (.return_, 1) := by decide +kernel
theorem d_Lz_unpack_42 : decode b_Lz_unpack 42 = .ok (.iload 4, 2) := by decide +kernel
theorem d_Lz_unpack_44 : decode b_Lz_unpack 44 = .ok (.sipush 256, 3) := by decide +kernel
theorem d_Lz_unpack_47 : decode b_Lz_unpack 47 = .ok (.if_icmp .ne 10, 3) := by decide +kernel
theorem d_Lz_unpack_50 : decode b_Lz_unpack 50 = .ok (.aload_n 0, 1) := by decide +kernel
theorem d_Lz_unpack_51 : decode b_Lz_unpack 51 = .ok (.invokevirtual 28, 3) := by decide +kernel
theorem d_Lz_unpack_54 : decode b_Lz_unpack 54 = .ok (.goto 14, 3) := by decide +kernel
theorem d_Lz_unpack_57 : decode b_Lz_unpack 57 = .ok (.aload_n 0, 1) := by decide +kernel
theorem d_Lz_unpack_58 : decode b_Lz_unpack 58 = .ok (.aload_n 1, 1) := by decide +kernel
theorem d_Lz_unpack_59 : decode b_Lz_unpack 59 = .ok (.iload 4, 2) := by decide +kernel
theorem d_Lz_unpack_61 : decode b_Lz_unpack 61 = .ok (.invokevirtual 41, 3) := by decide +kernel
theorem d_Lz_unpack_64 : decode b_Lz_unpack 64 = .ok (.ifCond .ne 4, 3) := by decide +kernel
theorem d_Lz_unpack_67 : decode b_Lz_unpack 67 = .ok (.return_, 1) := by decide +kernel
theorem d_Lz_unpack_68 : decode b_Lz_unpack 68 = .ok (.iinc 3 1, 3) := by decide +kernel
theorem d_Lz_unpack_71 : decode b_Lz_unpack 71 = .ok (.goto (-65), 3) := by decide +kernel
theorem d_Lz_unpack_74 : decode b_Lz_unpack 74 = .ok (.return_, 1) := by decide +kernel
noncomputable def f_Lz_unpack_L6  (n0 : Nat) : Nat → mH → Nat → Nat → Int32 → Int32 → Option (Unit × mH)
  | 0, _, _, _, _, _ => none
  | n + 1, h0, a0, a1, x2, x3 =>
    if 1000000 ≤ x3 then
      some ((), h0)
    else
      mgi h0 a0 7 2 fun v6 =>
      mcl (f_Lz_widthFor n0 h0 (v6 + x2)) fun v8 h9 =>
      mis h9 a1 8 <|
      mcl (f_Pa_highNumber n0 h9 a1 v8) fun v11 h12 =>
      if v11 = (-1) then
        some ((), h12)
      else
        if v11 = 257 then
          some ((), h12)
        else
          if v11 = 256 then
            mis h12 a0 7 <|
            mcl (f_Lz_clear n0 h12 a0) fun _ h23 =>
            mnm (x3 + 1) fun v25 =>
            (f_Lz_unpack_L6 n0 n) h23 a0 a1 x2 v25
          else
            mis h12 a0 7 <|
            mcl (f_Lz_giveString n0 h12 a0 a1 v11) fun v17 h18 =>
            if v17 = 0 then
              some ((), h18)
            else
              mnm (x3 + 1) fun v20 =>
              (f_Lz_unpack_L6 n0 n) h18 a0 a1 x2 v20
noncomputable def f_Lz_unpack  (n0 : Nat) (h0 : mH) (a0 : Nat) (a1 : Nat) (x2 : Int32) : Option (Unit × mH) :=
  mis h0 a0 7 <|
  mcl (f_Lz_clear n0 h0 a0) fun _ h3 =>
  f_Lz_unpack_L6 n0 n0 h3 a0 a1 x2 0
set_option maxHeartbeats 4000000 in
set_option maxRecDepth 100000 in
theorem cb_Lz_unpack_L6 {X : mX} {ad : Nat → Nat} {ln : Launch} (O : mO X ad R_Lz b_Lz_unpack 5 (mR 4 90) ln) (r' : Unit) (h' : mH) (hE : mEnd X ad none none h') (n0 : Nat) : ∀ (n : Nat) (h0 : mH) (a0 : Nat) (a1 : Nat) (x2 : Int32) (x3 : Int32), f_Lz_unpack_L6 n0 n h0 a0 a1 x2 x3 = some (r', h') → mAW X ad 0 0 6 [(0, .ref a0), (1, .ref a1), (2, .int x2), (3, .int x3)] [] h0 := by
  intro n
  induction n with
  | zero =>
    intro h0 a0 a1 x2 x3 hf
    rw [f_Lz_unpack_L6.eq_1] at hf
    cases hf
  | succ n ih =>
    intro h0 a0 a1 x2 x3 hf
    rw [f_Lz_unpack_L6.eq_2] at hf
    refine ax_iload_n O d_Lz_unpack_6 rfl 3 rfl ?_
    refine ax_ldc (v := 1000000) O d_Lz_unpack_7 wd_32 ?_
    refine ax_icmp_ge (tgt := 74) O d_Lz_unpack_9 (by decide) (fun q5 => ?_) (fun q5 => ?_)
    · rw [if_pos q5] at hf
      exact ax_vretE O hE hf d_Lz_unpack_74
    · rw [if_neg q5] at hf
      refine ax_aload_n O d_Lz_unpack_12 rfl 1 rfl ?_
      refine ax_aload_n O d_Lz_unpack_13 rfl 0 rfl ?_
      obtain ⟨fv6, v6, cv6, kv6, hf⟩ := mgi_some hf
      refine ax_get O fg_Lz_18 cv6 kv6 d_Lz_unpack_14 ?_
      refine ax_iload_n O d_Lz_unpack_17 rfl 2 rfl ?_
      refine ax_iadd O d_Lz_unpack_18 ?_
      obtain ⟨v8, h9, mh9, hf⟩ := mcl_some hf
      refine ax_callS (As := [.int (v6 + x2)]) (rest := [.ref a1]) O cw_Lz_widthFor st_Lz_widthFor lk_Lz_32 (c_Lz_widthFor mh9) rfl ⟨rfl, rfl⟩ (by decide) (by decide) (Nat.le_of_ble_eq_true rfl) d_Lz_unpack_19 ?_
      obtain ⟨fh12, ch12, hf⟩ := mis_some hf
      obtain ⟨v11, h12, mh12, hf⟩ := mcl_some hf
      refine ax_callV (As := [.int v8]) (rest := []) O cw_Pa_highNumber (q := (R_Pa, T_Pa, 7)) rfl rfl in_Pa_highNumber se_Pa_highNumber lk_Lz_36 ch12 (c_Pa_highNumber mh12) rfl ⟨rfl, rfl⟩ (by decide) (by decide) (Nat.le_of_ble_eq_true rfl) d_Lz_unpack_22 ?_
      refine ax_istore (lv' := [(4, .int v11), (0, .ref a0), (1, .ref a1), (2, .int x2), (3, .int x3)]) O d_Lz_unpack_25 (by decide) rfl ?_
      refine ax_iload O d_Lz_unpack_27 0 rfl ?_
      refine ax_iconst (v := (-1)) O d_Lz_unpack_29 (by decide) ?_
      refine ax_icmp_eq (tgt := 41) O d_Lz_unpack_30 (by decide) (fun q13 => ?_) (fun q13 => ?_)
      · rw [if_pos q13] at hf
        exact ax_vretE O hE hf d_Lz_unpack_41
      · rw [if_neg q13] at hf
        refine ax_iload O d_Lz_unpack_33 0 rfl ?_
        refine ax_sipush (v := 257) O d_Lz_unpack_35 (by decide) ?_
        refine ax_icmp_ne (tgt := 42) O d_Lz_unpack_38 (by decide) (fun q14 => ?_) (fun q14 => ?_)
        · rw [if_neg q14] at hf
          refine ax_iload O d_Lz_unpack_42 0 rfl ?_
          refine ax_sipush (v := 256) O d_Lz_unpack_44 (by decide) ?_
          refine ax_icmp_ne (tgt := 57) O d_Lz_unpack_47 (by decide) (fun q15 => ?_) (fun q15 => ?_)
          · rw [if_neg q15] at hf
            refine ax_aload_n O d_Lz_unpack_57 rfl 1 rfl ?_
            refine ax_aload_n O d_Lz_unpack_58 rfl 2 rfl ?_
            refine ax_iload O d_Lz_unpack_59 0 rfl ?_
            obtain ⟨fh18, ch18, hf⟩ := mis_some hf
            obtain ⟨v17, h18, mh18, hf⟩ := mcl_some hf
            refine ax_callV (As := [.ref a1, .int v11]) (rest := []) O cw_Lz_giveString (q := (R_Lz, T_Lz, 5)) rfl rfl in_Lz_giveString se_Lz_giveString lk_Lz_41 ch18 (c_Lz_giveString mh18) rfl ⟨rfl, rfl⟩ (by decide) (by decide) (Nat.le_of_ble_eq_true rfl) d_Lz_unpack_61 ?_
            refine ax_if_ne (tgt := 68) O d_Lz_unpack_64 (by decide) (fun q19 => ?_) (fun q19 => ?_)
            · rw [if_neg q19] at hf
              obtain ⟨v20, ev20, hf⟩ := mnm_some hf
              refine ax_iinc (j := 4) (v := v20) (lv' := [(3, .int v20), (4, .int v11), (0, .ref a0), (1, .ref a1), (2, .int x2)]) O d_Lz_unpack_68 rfl (by rw [ev20]; rfl) (by decide) rfl ?_
              refine ax_goto (tgt := 6) O d_Lz_unpack_71 (by decide) ?_
              refine ax_sub [2, 3, 4, 0] rfl ?_
              exact ih _ _ _ _ _ hf
            · rw [if_pos q19] at hf
              exact ax_vretE O hE hf d_Lz_unpack_67
          · rw [if_pos q15] at hf
            refine ax_aload_n O d_Lz_unpack_50 rfl 1 rfl ?_
            obtain ⟨fh23, ch23, hf⟩ := mis_some hf
            obtain ⟨u24, h23, mh23, hf⟩ := mcl_some hf
            refine ax_callV (As := []) (rest := []) O cw_Lz_clear (q := (R_Lz, T_Lz, 5)) rfl rfl in_Lz_clear se_Lz_clear lk_Lz_28 ch23 (c_Lz_clear mh23) rfl ⟨rfl, rfl⟩ (by decide) (by decide) (Nat.le_of_ble_eq_true rfl) d_Lz_unpack_51 ?_
            refine ax_goto (tgt := 68) O d_Lz_unpack_54 (by decide) ?_
            obtain ⟨v25, ev25, hf⟩ := mnm_some hf
            refine ax_iinc (j := 4) (v := v25) (lv' := [(3, .int v25), (4, .int v11), (0, .ref a0), (1, .ref a1), (2, .int x2)]) O d_Lz_unpack_68 rfl (by rw [ev25]; rfl) (by decide) rfl ?_
            refine ax_goto (tgt := 6) O d_Lz_unpack_71 (by decide) ?_
            refine ax_sub [2, 3, 4, 0] rfl ?_
            exact ih _ _ _ _ _ hf
        · rw [if_pos q14] at hf
          exact ax_vretE O hE hf d_Lz_unpack_41
set_option maxHeartbeats 4000000 in
set_option maxRecDepth 100000 in
theorem cb_Lz_unpack {X : mX} {ad : Nat → Nat} {ln : Launch} (O : mO X ad R_Lz b_Lz_unpack 5 (mR 4 90) ln) (r' : Unit) (h' : mH) (hE : mEnd X ad none none h') (n0 : Nat) (h0 : mH) (a0 : Nat) (a1 : Nat) (x2 : Int32) (hf : f_Lz_unpack n0 h0 a0 a1 x2 = some (r', h')) : mAW X ad 0 0 0 [(0, .ref a0), (1, .ref a1), (2, .int x2)] [] h0 := by
  unfold f_Lz_unpack at hf
  refine ax_aload_n O d_Lz_unpack_0 rfl 0 rfl ?_
  obtain ⟨fh3, ch3, hf⟩ := mis_some hf
  obtain ⟨u4, h3, mh3, hf⟩ := mcl_some hf
  refine ax_callV (As := []) (rest := []) O cw_Lz_clear (q := (R_Lz, T_Lz, 5)) rfl rfl in_Lz_clear se_Lz_clear lk_Lz_28 ch3 (c_Lz_clear mh3) rfl ⟨rfl, rfl⟩ (by decide) (by decide) (Nat.le_of_ble_eq_true rfl) d_Lz_unpack_1 ?_
  refine ax_iconst (v := 0) O d_Lz_unpack_4 (by decide) ?_
  refine ax_istore_n (lv' := [(3, .int 0), (0, .ref a0), (1, .ref a1), (2, .int x2)]) O d_Lz_unpack_5 rfl (by decide) rfl ?_
  refine ax_sub [1, 2, 3, 0] rfl ?_
  exact cb_Lz_unpack_L6 O _ _ hE n0 n0 _ _ _ _ _ hf
theorem c_Lz_unpack {ln : Launch} {n0 : Nat} {h0 h' : mH} {a0 : Nat} {a1 : Nat} {x2 : Int32} {r' : Unit} (hf : f_Lz_unpack n0 h0 a0 a1 x2 = some (r', h')) : mMet ln y_Lz_unpack b_Lz_unpack 5 none (mR 4 90) [.ref a0, .ref a1, .int x2] h0 none h' := mMet_of (by decide +kernel) (Nat.le_of_ble_eq_true rfl) (fun X ad O hE => cb_Lz_unpack O r' h' hE n0 h0 a0 a1 x2 hf)
/-! ===== StreamFilters$Text85.addDigit(I)V ===== -/
theorem d_T8_addDigit_0 : decode b_T8_addDigit 0 = .ok (.aload_n 0, 1) := by decide +kernel
theorem d_T8_addDigit_1 : decode b_T8_addDigit 1 = .ok (.aload_n 0, 1) := by decide +kernel
theorem d_T8_addDigit_2 : decode b_T8_addDigit 2 = .ok (.getfield 9, 3) := by decide +kernel
theorem d_T8_addDigit_5 : decode b_T8_addDigit 5 = .ok (.ldc2_w 46, 3) := by decide +kernel
theorem d_T8_addDigit_8 : decode b_T8_addDigit 8 = .ok (.lmul, 1) := by decide +kernel
theorem d_T8_addDigit_9 : decode b_T8_addDigit 9 = .ok (.iload_n 1, 1) := by decide +kernel
theorem d_T8_addDigit_10 : decode b_T8_addDigit 10 = .ok (.i2l, 1) := by decide +kernel
theorem d_T8_addDigit_11 : decode b_T8_addDigit 11 = .ok (.ladd, 1) := by decide +kernel
theorem d_T8_addDigit_12 : decode b_T8_addDigit 12 = .ok (.putfield 9, 3) := by decide +kernel
theorem d_T8_addDigit_15 : decode b_T8_addDigit 15 = .ok (.aload_n 0, 1) := by decide +kernel
theorem d_T8_addDigit_16 : decode b_T8_addDigit 16 = .ok (.dup, 1) := by decide +kernel
theorem d_T8_addDigit_17 : decode b_T8_addDigit 17 = .ok (.getfield 15, 3) := by decide +kernel
theorem d_T8_addDigit_20 : decode b_T8_addDigit 20 = .ok (.iconst 1, 1) := by decide +kernel
theorem d_T8_addDigit_21 : decode b_T8_addDigit 21 = .ok (.iadd, 1) := by decide +kernel
theorem d_T8_addDigit_22 : decode b_T8_addDigit 22 = .ok (.putfield 15, 3) := by decide +kernel
theorem d_T8_addDigit_25 : decode b_T8_addDigit 25 = .ok (.return_, 1) := by decide +kernel
noncomputable def f_T8_addDigit  (n0 : Nat) (h0 : mH) (a0 : Nat) (x1 : Int32) : Option (Unit × mH) :=
  mgl h0 a0 9 0 fun w1 =>
  mpt h0 a0 9 0 (.long ((w1 * 85) + (x1.toInt64))) fun h2 =>
  mgi h2 a0 9 1 fun v3 =>
  mpt h2 a0 9 1 (.int (v3 + 1)) fun h4 =>
  some ((), h4)
set_option maxHeartbeats 4000000 in
set_option maxRecDepth 100000 in
theorem cb_T8_addDigit {X : mX} {ad : Nat → Nat} {ln : Launch} (O : mO X ad R_T8 b_T8_addDigit 2 (mR 0 0) ln) (r' : Unit) (h' : mH) (hE : mEnd X ad none none h') (n0 : Nat) (h0 : mH) (a0 : Nat) (x1 : Int32) (hf : f_T8_addDigit n0 h0 a0 x1 = some (r', h')) : mAW X ad 0 0 0 [(0, .ref a0), (1, .int x1)] [] h0 := by
  unfold f_T8_addDigit at hf
  refine ax_aload_n O d_T8_addDigit_0 rfl 0 rfl ?_
  refine ax_aload_n O d_T8_addDigit_1 rfl 0 rfl ?_
  obtain ⟨fw1, w1, cw1, kw1, hf⟩ := mgl_some hf
  refine ax_get O fg_T8_9 cw1 kw1 d_T8_addDigit_2 ?_
  refine ax_ldc2 (v := 85) O d_T8_addDigit_5 wd_33 ?_
  refine ax_lmul O d_T8_addDigit_8 ?_
  refine ax_iload_n O d_T8_addDigit_9 rfl 1 rfl ?_
  refine ax_i2l O d_T8_addDigit_10 ?_
  refine ax_ladd O d_T8_addDigit_11 ?_
  obtain ⟨fh2, h2, ch2, kh2, eh2, hf⟩ := mpt_some hf
  refine ax_put (v := .long ((w1 * 85) + (x1.toInt64))) O fp_T8_9 ch2 kh2 eh2 rfl rfl d_T8_addDigit_12 ?_
  refine ax_aload_n O d_T8_addDigit_15 rfl 0 rfl ?_
  refine ax_dup O d_T8_addDigit_16 rfl ?_
  obtain ⟨fv3, v3, cv3, kv3, hf⟩ := mgi_some hf
  refine ax_get O fg_T8_15 cv3 kv3 d_T8_addDigit_17 ?_
  refine ax_iconst (v := 1) O d_T8_addDigit_20 (by decide) ?_
  refine ax_iadd O d_T8_addDigit_21 ?_
  obtain ⟨fh4, h4, ch4, kh4, eh4, hf⟩ := mpt_some hf
  refine ax_put (v := .int (v3 + 1)) O fp_T8_15 ch4 kh4 eh4 rfl rfl d_T8_addDigit_22 ?_
  exact ax_vretE O hE hf d_T8_addDigit_25
theorem c_T8_addDigit {ln : Launch} {n0 : Nat} {h0 h' : mH} {a0 : Nat} {x1 : Int32} {r' : Unit} (hf : f_T8_addDigit n0 h0 a0 x1 = some (r', h')) : mMet ln y_T8_addDigit b_T8_addDigit 2 none (mR 0 0) [.ref a0, .int x1] h0 none h' := mMet_of (by decide +kernel) (Nat.le_of_ble_eq_true rfl) (fun X ad O hE => cb_T8_addDigit O r' h' hE n0 h0 a0 x1 hf)
