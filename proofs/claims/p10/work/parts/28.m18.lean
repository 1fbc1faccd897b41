/-! ===== StreamFilters$Pass.isBlank(I)Z ===== -/
theorem d_Pa_isBlank_0 : decode b_Pa_isBlank 0 = .ok (.iload_n 0, 1) := by decide +kernel
theorem d_Pa_isBlank_1 : decode b_Pa_isBlank 1 = .ok (.ifCond .eq 33, 3) := by decide +kernel
theorem d_Pa_isBlank_4 : decode b_Pa_isBlank 4 = .ok (.iload_n 0, 1) := by decide +kernel
theorem d_Pa_isBlank_5 : decode b_Pa_isBlank 5 = .ok (.bipush 9, 2) := by decide +kernel
theorem d_Pa_isBlank_7 : decode b_Pa_isBlank 7 = .ok (.if_icmp .eq 27, 3) := by decide +kernel
theorem d_Pa_isBlank_10 : decode b_Pa_isBlank 10 = .ok (.iload_n 0, 1) := by decide +kernel
theorem d_Pa_isBlank_11 : decode b_Pa_isBlank 11 = .ok (.bipush 10, 2) := by decide +kernel
theorem d_Pa_isBlank_13 : decode b_Pa_isBlank 13 = .ok (.if_icmp .eq 21, 3) := by decide +kernel
theorem d_Pa_isBlank_16 : decode b_Pa_isBlank 16 = .ok (.iload_n 0, 1) := by decide +kernel
theorem d_Pa_isBlank_17 : decode b_Pa_isBlank 17 = .ok (.bipush 12, 2) := by decide +kernel
theorem d_Pa_isBlank_19 : decode b_Pa_isBlank 19 = .ok (.if_icmp .eq 15, 3) := by decide +kernel
theorem d_Pa_isBlank_22 : decode b_Pa_isBlank 22 = .ok (.iload_n 0, 1) := by decide +kernel
theorem d_Pa_isBlank_23 : decode b_Pa_isBlank 23 = .ok (.bipush 13, 2) := by decide +kernel
theorem d_Pa_isBlank_25 : decode b_Pa_isBlank 25 = .ok (.if_icmp .eq 9, 3) := by decide +kernel
theorem d_Pa_isBlank_28 : decode b_Pa_isBlank 28 = .ok (.iload_n 0, 1) := by decide +kernel
theorem d_Pa_isBlank_29 : decode b_Pa_isBlank 29 = .ok (.bipush 32, 2) := by decide +kernel
theorem d_Pa_isBlank_31 : decode b_Pa_isBlank 31 = .ok (.if_icmp .ne 7, 3) := by decide +kernel
theorem d_Pa_isBlank_34 : decode b_Pa_isBlank 34 = .ok (.iconst 1, 1) := by decide +kernel
theorem d_Pa_isBlank_35 : decode b_Pa_isBlank 35 = .ok (.goto 4, 3) := by decide +kernel
theorem d_Pa_isBlank_38 : decode b_Pa_isBlank 38 = .ok (.iconst 0, 1) := by decide +kernel
theorem d_Pa_isBlank_39 : decode b_Pa_isBlank 39 = .ok (.ireturn, 1) := by decide +kernel
noncomputable def f_Pa_isBlank  (n0 : Nat) (h0 : mH) (x0 : Int32) : Option (Int32 × mH) :=
  if x0 = 0 then
    some (1, h0)
  else
    if x0 = 9 then
      some (1, h0)
    else
      if x0 = 10 then
        some (1, h0)
      else
        if x0 = 12 then
          some (1, h0)
        else
          if x0 = 13 then
            some (1, h0)
          else
            if x0 = 32 then
              some (1, h0)
            else
              some (0, h0)
set_option maxHeartbeats 4000000 in
set_option maxRecDepth 100000 in
theorem cb_Pa_isBlank {X : mX} {ad : Nat → Nat} {ln : Launch} (O : mO X ad R_Pa b_Pa_isBlank 1 (mR 0 0) ln) (r' : Int32) (h' : mH) (hE : mEnd X ad (some .boolean) (some (.int r')) h') (n0 : Nat) (h0 : mH) (x0 : Int32) (hf : f_Pa_isBlank n0 h0 x0 = some (r', h')) : mAW X ad 0 0 0 [(0, .int x0)] [] h0 := by
  unfold f_Pa_isBlank at hf
  refine ax_iload_n O d_Pa_isBlank_0 rfl 0 rfl ?_
  refine ax_if_eq (tgt := 34) O d_Pa_isBlank_1 (by decide) (fun q1 => ?_) (fun q1 => ?_)
  · rw [if_pos q1] at hf
    refine ax_iconst (v := 1) O d_Pa_isBlank_34 (by decide) ?_
    refine ax_goto (tgt := 39) O d_Pa_isBlank_35 (by decide) ?_
    exact ax_retE O hE hf rfl d_Pa_isBlank_39
  · rw [if_neg q1] at hf
    refine ax_iload_n O d_Pa_isBlank_4 rfl 0 rfl ?_
    refine ax_bipush (v := 9) O d_Pa_isBlank_5 (by decide) ?_
    refine ax_icmp_eq (tgt := 34) O d_Pa_isBlank_7 (by decide) (fun q2 => ?_) (fun q2 => ?_)
    · rw [if_pos q2] at hf
      refine ax_iconst (v := 1) O d_Pa_isBlank_34 (by decide) ?_
      refine ax_goto (tgt := 39) O d_Pa_isBlank_35 (by decide) ?_
      exact ax_retE O hE hf rfl d_Pa_isBlank_39
    · rw [if_neg q2] at hf
      refine ax_iload_n O d_Pa_isBlank_10 rfl 0 rfl ?_
      refine ax_bipush (v := 10) O d_Pa_isBlank_11 (by decide) ?_
      refine ax_icmp_eq (tgt := 34) O d_Pa_isBlank_13 (by decide) (fun q3 => ?_) (fun q3 => ?_)
      · rw [if_pos q3] at hf
        refine ax_iconst (v := 1) O d_Pa_isBlank_34 (by decide) ?_
        refine ax_goto (tgt := 39) O d_Pa_isBlank_35 (by decide) ?_
        exact ax_retE O hE hf rfl d_Pa_isBlank_39
      · rw [if_neg q3] at hf
        refine ax_iload_n O d_Pa_isBlank_16 rfl 0 rfl ?_
        refine ax_bipush (v := 12) O d_Pa_isBlank_17 (by decide) ?_
        refine ax_icmp_eq (tgt := 34) O d_Pa_isBlank_19 (by decide) (fun q4 => ?_) (fun q4 => ?_)
        · rw [if_pos q4] at hf
          refine ax_iconst (v := 1) O d_Pa_isBlank_34 (by decide) ?_
          refine ax_goto (tgt := 39) O d_Pa_isBlank_35 (by decide) ?_
          exact ax_retE O hE hf rfl d_Pa_isBlank_39
        · rw [if_neg q4] at hf
          refine ax_iload_n O d_Pa_isBlank_22 rfl 0 rfl ?_
          refine ax_bipush (v := 13) O d_Pa_isBlank_23 (by decide) ?_
          refine ax_icmp_eq (tgt := 34) O d_Pa_isBlank_25 (by decide) (fun q5 => ?_) (fun q5 => ?_)
          · rw [if_pos q5] at hf
            refine ax_iconst (v := 1) O d_Pa_isBlank_34 (by decide) ?_
            refine ax_goto (tgt := 39) O d_Pa_isBlank_35 (by decide) ?_
            exact ax_retE O hE hf rfl d_Pa_isBlank_39
          · rw [if_neg q5] at hf
            refine ax_iload_n O d_Pa_isBlank_28 rfl 0 rfl ?_
            refine ax_bipush (v := 32) O d_Pa_isBlank_29 (by decide) ?_
            refine ax_icmp_ne (tgt := 38) O d_Pa_isBlank_31 (by decide) (fun q6 => ?_) (fun q6 => ?_)
            · rw [if_neg q6] at hf
              refine ax_iconst (v := 0) O d_Pa_isBlank_38 (by decide) ?_
              exact ax_retE O hE hf rfl d_Pa_isBlank_39
            · rw [if_pos q6] at hf
              refine ax_iconst (v := 1) O d_Pa_isBlank_34 (by decide) ?_
              refine ax_goto (tgt := 39) O d_Pa_isBlank_35 (by decide) ?_
              exact ax_retE O hE hf rfl d_Pa_isBlank_39
theorem c_Pa_isBlank {ln : Launch} {n0 : Nat} {h0 h' : mH} {x0 : Int32} {r' : Int32} (hf : f_Pa_isBlank n0 h0 x0 = some (r', h')) : mMet ln y_Pa_isBlank b_Pa_isBlank 1 (some .boolean) (mR 0 0) [.int x0] h0 (some (.int r')) h' := mMet_of (by decide +kernel) (Nat.le_of_ble_eq_true rfl) (fun X ad O hE => cb_Pa_isBlank O r' h' hE n0 h0 x0 hf)
/-! ===== StreamFilters$Pass.nextSign()I ===== -/
theorem d_Pa_nextSign_0 : decode b_Pa_nextSign 0 = .ok (.iconst 0, 1) := by decide +kernel
theorem d_Pa_nextSign_1 : decode b_Pa_nextSign 1 = .ok (.istore_n 1, 1) := by decide +kernel
theorem d_Pa_nextSign_2 : decode b_Pa_nextSign 2 = .ok (.iload_n 1, 1) := by decide +kernel
theorem d_Pa_nextSign_3 : decode b_Pa_nextSign 3 = .ok (.ldc 46, 2) := by decide +kernel
theorem d_Pa_nextSign_5 : decode b_Pa_nextSign 5 = .ok (.if_icmp .ge 28, 3) := by decide +kernel
theorem d_Pa_nextSign_8 : decode b_Pa_nextSign 8 = .ok (.aload_n 0, 1) := by decide +kernel
theorem d_Pa_nextSign_9 : decode b_Pa_nextSign 9 = .ok (.invokevirtual 47, 3) := by decide +kernel
theorem d_Pa_nextSign_12 : decode b_Pa_nextSign 12 = .ok (.istore_n 2, 1) := by decide +kernel
theorem d_Pa_nextSign_13 : decode b_Pa_nextSign 13 = .ok (.iload_n 2, 1) := by decide +kernel
theorem d_Pa_nextSign_14 : decode b_Pa_nextSign 14 = .ok (.iconst (-1), 1) := by decide +kernel
theorem d_Pa_nextSign_15 : decode b_Pa_nextSign 15 = .ok (.if_icmp .eq 10, 3) := by decide +kernel
theorem d_Pa_nextSign_18 : decode b_Pa_nextSign 18 = .ok (.iload_n 2, 1) := by decide +kernel
theorem d_Pa_nextSign_19 : decode b_Pa_nextSign 19 = .ok (.invokestatic 51, 3) := by decide +kernel
theorem d_Pa_nextSign_22 : decode b_Pa_nextSign 22 = .ok (.ifCond .ne 5, 3) := by decide +kernel
theorem d_Pa_nextSign_25 : decode b_Pa_nextSign 25 = .ok (.iload_n 2, 1) := by decide +kernel
theorem d_Pa_nextSign_26 : decode b_Pa_nextSign 26 = .ok (.ireturn, 1) := by decide +kernel
theorem d_Pa_nextSign_27 : decode b_Pa_nextSign 27 = .ok (.iinc 1 1, 3) := by decide +kernel
theorem d_Pa_nextSign_30 : decode b_Pa_nextSign 30 = .ok (.goto (-28), 3) := by decide +kernel
theorem d_Pa_nextSign_33 : decode b_Pa_nextSign 33 = .ok (.iconst (-1), 1) := by decide +kernel
theorem d_Pa_nextSign_34 : decode b_Pa_nextSign 34 = .ok (.ireturn, 1) := by decide +kernel
noncomputable def f_Pa_nextSign_L2  (n0 : Nat) : Nat → mH → Nat → Int32 → Option (Int32 × mH)
  | 0, _, _, _ => none
  | n + 1, h0, a0, x1 =>
    if 1000000 ≤ x1 then
      some ((-1), h0)
    else
      mis h0 a0 8 <|
      mcl (f_Pa_nextByte n0 h0 a0) fun v3 h4 =>
      if v3 = (-1) then
        some (v3, h4)
      else
        mcl (f_Pa_isBlank n0 h4 v3) fun v7 h8 =>
        if v7 = 0 then
          some (v3, h8)
        else
          mnm (x1 + 1) fun v10 =>
          (f_Pa_nextSign_L2 n0 n) h8 a0 v10
noncomputable def f_Pa_nextSign  (n0 : Nat) (h0 : mH) (a0 : Nat) : Option (Int32 × mH) :=
  f_Pa_nextSign_L2 n0 n0 h0 a0 0
set_option maxHeartbeats 4000000 in
set_option maxRecDepth 100000 in
theorem cb_Pa_nextSign_L2 {X : mX} {ad : Nat → Nat} {ln : Launch} (O : mO X ad R_Pa b_Pa_nextSign 3 (mR 1 20) ln) (r' : Int32) (h' : mH) (hE : mEnd X ad (some .int) (some (.int r')) h') (n0 : Nat) : ∀ (n : Nat) (h0 : mH) (a0 : Nat) (x1 : Int32), f_Pa_nextSign_L2 n0 n h0 a0 x1 = some (r', h') → mAW X ad 0 0 2 [(0, .ref a0), (1, .int x1)] [] h0 := by
  intro n
  induction n with
  | zero =>
    intro h0 a0 x1 hf
    rw [f_Pa_nextSign_L2.eq_1] at hf
    cases hf
  | succ n ih =>
    intro h0 a0 x1 hf
    rw [f_Pa_nextSign_L2.eq_2] at hf
    refine ax_iload_n O d_Pa_nextSign_2 rfl 1 rfl ?_
    refine ax_ldc (v := 1000000) O d_Pa_nextSign_3 wd_29 ?_
    refine ax_icmp_ge (tgt := 33) O d_Pa_nextSign_5 (by decide) (fun q1 => ?_) (fun q1 => ?_)
    · rw [if_pos q1] at hf
      refine ax_iconst (v := (-1)) O d_Pa_nextSign_33 (by decide) ?_
      exact ax_retE O hE hf rfl d_Pa_nextSign_34
    · rw [if_neg q1] at hf
      refine ax_aload_n O d_Pa_nextSign_8 rfl 0 rfl ?_
      obtain ⟨fh4, ch4, hf⟩ := mis_some hf
      obtain ⟨v3, h4, mh4, hf⟩ := mcl_some hf
      refine ax_callV (As := []) (rest := []) O cw_Pa_nextByte (q := (R_Pa, T_Pa, 7)) rfl rfl in_Pa_nextByte se_Pa_nextByte lk_Pa_47 ch4 (c_Pa_nextByte mh4) rfl ⟨rfl, rfl⟩ (by decide) (by decide) (Nat.le_of_ble_eq_true rfl) d_Pa_nextSign_9 ?_
      refine ax_istore_n (lv' := [(2, .int v3), (0, .ref a0), (1, .int x1)]) O d_Pa_nextSign_12 rfl (by decide) rfl ?_
      refine ax_iload_n O d_Pa_nextSign_13 rfl 0 rfl ?_
      refine ax_iconst (v := (-1)) O d_Pa_nextSign_14 (by decide) ?_
      refine ax_icmp_eq (tgt := 25) O d_Pa_nextSign_15 (by decide) (fun q5 => ?_) (fun q5 => ?_)
      · rw [if_pos q5] at hf
        refine ax_iload_n O d_Pa_nextSign_25 rfl 0 rfl ?_
        exact ax_retE O hE hf rfl d_Pa_nextSign_26
      · rw [if_neg q5] at hf
        refine ax_iload_n O d_Pa_nextSign_18 rfl 0 rfl ?_
        obtain ⟨v7, h8, mh8, hf⟩ := mcl_some hf
        refine ax_callS (As := [.int v3]) (rest := []) O cw_Pa_isBlank st_Pa_isBlank lk_Pa_51 (c_Pa_isBlank mh8) rfl ⟨rfl, rfl⟩ (by decide) (by decide) (Nat.le_of_ble_eq_true rfl) d_Pa_nextSign_19 ?_
        refine ax_if_ne (tgt := 27) O d_Pa_nextSign_22 (by decide) (fun q9 => ?_) (fun q9 => ?_)
        · rw [if_neg q9] at hf
          obtain ⟨v10, ev10, hf⟩ := mnm_some hf
          refine ax_iinc (j := 2) (v := v10) (lv' := [(1, .int v10), (2, .int v3), (0, .ref a0)]) O d_Pa_nextSign_27 rfl (by rw [ev10]; rfl) (by decide) rfl ?_
          refine ax_goto (tgt := 2) O d_Pa_nextSign_30 (by decide) ?_
          refine ax_sub [2, 0] rfl ?_
          exact ih _ _ _ hf
        · rw [if_pos q9] at hf
          refine ax_iload_n O d_Pa_nextSign_25 rfl 0 rfl ?_
          exact ax_retE O hE hf rfl d_Pa_nextSign_26
set_option maxHeartbeats 4000000 in
set_option maxRecDepth 100000 in
theorem cb_Pa_nextSign {X : mX} {ad : Nat → Nat} {ln : Launch} (O : mO X ad R_Pa b_Pa_nextSign 3 (mR 1 20) ln) (r' : Int32) (h' : mH) (hE : mEnd X ad (some .int) (some (.int r')) h') (n0 : Nat) (h0 : mH) (a0 : Nat) (hf : f_Pa_nextSign n0 h0 a0 = some (r', h')) : mAW X ad 0 0 0 [(0, .ref a0)] [] h0 := by
  unfold f_Pa_nextSign at hf
  refine ax_iconst (v := 0) O d_Pa_nextSign_0 (by decide) ?_
  refine ax_istore_n (lv' := [(1, .int 0), (0, .ref a0)]) O d_Pa_nextSign_1 rfl (by decide) rfl ?_
  refine ax_sub [1, 0] rfl ?_
  exact cb_Pa_nextSign_L2 O _ _ hE n0 n0 _ _ _ hf
theorem c_Pa_nextSign {ln : Launch} {n0 : Nat} {h0 h' : mH} {a0 : Nat} {r' : Int32} (hf : f_Pa_nextSign n0 h0 a0 = some (r', h')) : mMet ln y_Pa_nextSign b_Pa_nextSign 3 (some .int) (mR 1 20) [.ref a0] h0 (some (.int r')) h' := mMet_of (by decide +kernel) (Nat.le_of_ble_eq_true rfl) (fun X ad O hE => cb_Pa_nextSign O r' h' hE n0 h0 a0 hf)
/-! ===== StreamFilters$Hexadecimal.digitOf(I)I ===== -/
theorem d_Hx_digitOf_0 : decode b_Hx_digitOf 0 = .ok (.iload_n 0, 1) := by decide +kernel
theorem d_Hx_digitOf_1 : decode b_Hx_digitOf 1 = .ok (.bipush 48, 2) := by decide +kernel
theorem d_Hx_digitOf_3 : decode b_Hx_digitOf 3 = .ok (.if_icmp .lt 14, 3) := by decide +kernel
theorem d_Hx_digitOf_6 : decode b_Hx_digitOf 6 = .ok (.iload_n 0, 1) := by decide +kernel
theorem d_Hx_digitOf_7 : decode b_Hx_digitOf 7 = .ok (.bipush 57, 2) := by decide +kernel
theorem d_Hx_digitOf_9 : decode b_Hx_digitOf 9 = .ok (.if_icmp .gt 8, 3) := by decide +kernel
theorem d_Hx_digitOf_12 : decode b_Hx_digitOf 12 = .ok (.iload_n 0, 1) := by decide +kernel
theorem d_Hx_digitOf_13 : decode b_Hx_digitOf 13 = .ok (.bipush 48, 2) := by decide +kernel
theorem d_Hx_digitOf_15 : decode b_Hx_digitOf 15 = .ok (.isub, 1) := by decide +kernel
theorem d_Hx_digitOf_16 : decode b_Hx_digitOf 16 = .ok (.ireturn, 1) := by decide +kernel
theorem d_Hx_digitOf_17 : decode b_Hx_digitOf 17 = .ok (.iload_n 0, 1) := by decide +kernel
theorem d_Hx_digitOf_18 : decode b_Hx_digitOf 18 = .ok (.bipush 65, 2) := by decide +kernel
theorem d_Hx_digitOf_20 : decode b_Hx_digitOf 20 = .ok (.if_icmp .lt 14, 3) := by decide +kernel
theorem d_Hx_digitOf_23 : decode b_Hx_digitOf 23 = .ok (.iload_n 0, 1) := by decide +kernel
theorem d_Hx_digitOf_24 : decode b_Hx_digitOf 24 = .ok (.bipush 70, 2) := by decide +kernel
theorem d_Hx_digitOf_26 : decode b_Hx_digitOf 26 = .ok (.if_icmp .gt 8, 3) := by decide +kernel
theorem d_Hx_digitOf_29 : decode b_Hx_digitOf 29 = .ok (.iload_n 0, 1) := by decide +kernel
theorem d_Hx_digitOf_30 : decode b_Hx_digitOf 30 = .ok (.bipush 55, 2) := by decide +kernel
theorem d_Hx_digitOf_32 : decode b_Hx_digitOf 32 = .ok (.isub, 1) := by decide +kernel
theorem d_Hx_digitOf_33 : decode b_Hx_digitOf 33 = .ok (.ireturn, 1) := by decide +kernel
theorem d_Hx_digitOf_34 : decode b_Hx_digitOf 34 = .ok (.iload_n 0, 1) := by decide +kernel
theorem d_Hx_digitOf_35 : decode b_Hx_digitOf 35 = .ok (.bipush 97, 2) := by decide +kernel
theorem d_Hx_digitOf_37 : decode b_Hx_digitOf 37 = .ok (.if_icmp .lt 16, 3) := by decide +kernel
theorem d_Hx_digitOf_40 : decode b_Hx_digitOf 40 = .ok (.iload_n 0, 1) := by decide +kernel
theorem d_Hx_digitOf_41 : decode b_Hx_digitOf 41 = .ok (.bipush 102, 2) := by decide +kernel
theorem d_Hx_digitOf_43 : decode b_Hx_digitOf 43 = .ok (.if_icmp .gt 10, 3) := by decide +kernel
theorem d_Hx_digitOf_46 : decode b_Hx_digitOf 46 = .ok (.iload_n 0, 1) := by decide +kernel
theorem d_Hx_digitOf_47 : decode b_Hx_digitOf 47 = .ok (.bipush 87, 2) := by decide +kernel
theorem d_Hx_digitOf_49 : decode b_Hx_digitOf 49 = .ok (.isub, 1) := by decide +kernel
theorem d_Hx_digitOf_50 : decode b_Hx_digitOf 50 = .ok (.goto 4, 3) := by decide +kernel
theorem d_Hx_digitOf_53 : decode b_Hx_digitOf 53 = .ok (.iconst (-1), 1) := by decide +kernel
theorem d_Hx_digitOf_54 : decode b_Hx_digitOf 54 = .ok (.ireturn, 1) := by decide +kernel
noncomputable def f_Hx_digitOf_B34  (n0 : Nat) (h0 : mH) (x0 : Int32) : Option (Int32 × mH) :=
  if x0 < 97 then
    some ((-1), h0)
  else
    if 102 < x0 then
      some ((-1), h0)
    else
      some (x0 - 87, h0)
noncomputable def f_Hx_digitOf_B17  (n0 : Nat) (h0 : mH) (x0 : Int32) : Option (Int32 × mH) :=
  if x0 < 65 then
    f_Hx_digitOf_B34 n0 h0 x0
  else
    if 70 < x0 then
      f_Hx_digitOf_B34 n0 h0 x0
    else
      some (x0 - 55, h0)
noncomputable def f_Hx_digitOf  (n0 : Nat) (h0 : mH) (x0 : Int32) : Option (Int32 × mH) :=
  if x0 < 48 then
    f_Hx_digitOf_B17 n0 h0 x0
  else
    if 57 < x0 then
      f_Hx_digitOf_B17 n0 h0 x0
    else
      some (x0 - 48, h0)
set_option maxHeartbeats 4000000 in
set_option maxRecDepth 100000 in
theorem cb_Hx_digitOf_B34 {X : mX} {ad : Nat → Nat} {ln : Launch} (O : mO X ad R_Hx b_Hx_digitOf 1 (mR 0 0) ln) (r' : Int32) (h' : mH) (hE : mEnd X ad (some .int) (some (.int r')) h') (n0 : Nat) (h0 : mH) (x0 : Int32) (hf : f_Hx_digitOf_B34 n0 h0 x0 = some (r', h')) : mAW X ad 0 0 34 [(0, .int x0)] [] h0 := by
  unfold f_Hx_digitOf_B34 at hf
  refine ax_iload_n O d_Hx_digitOf_34 rfl 0 rfl ?_
  refine ax_bipush (v := 97) O d_Hx_digitOf_35 (by decide) ?_
  refine ax_icmp_lt (tgt := 53) O d_Hx_digitOf_37 (by decide) (fun q3 => ?_) (fun q3 => ?_)
  · rw [if_pos q3] at hf
    refine ax_iconst (v := (-1)) O d_Hx_digitOf_53 (by decide) ?_
    exact ax_retE O hE hf rfl d_Hx_digitOf_54
  · rw [if_neg q3] at hf
    refine ax_iload_n O d_Hx_digitOf_40 rfl 0 rfl ?_
    refine ax_bipush (v := 102) O d_Hx_digitOf_41 (by decide) ?_
    refine ax_icmp_gt (tgt := 53) O d_Hx_digitOf_43 (by decide) (fun q4 => ?_) (fun q4 => ?_)
    · rw [if_pos q4] at hf
      refine ax_iconst (v := (-1)) O d_Hx_digitOf_53 (by decide) ?_
      exact ax_retE O hE hf rfl d_Hx_digitOf_54
    · rw [if_neg q4] at hf
      refine ax_iload_n O d_Hx_digitOf_46 rfl 0 rfl ?_
      refine ax_bipush (v := 87) O d_Hx_digitOf_47 (by decide) ?_
      refine ax_isub O d_Hx_digitOf_49 ?_
      refine ax_goto (tgt := 54) O d_Hx_digitOf_50 (by decide) ?_
      exact ax_retE O hE hf rfl d_Hx_digitOf_54
set_option maxHeartbeats 4000000 in
set_option maxRecDepth 100000 in
theorem cb_Hx_digitOf_B17 {X : mX} {ad : Nat → Nat} {ln : Launch} (O : mO X ad R_Hx b_Hx_digitOf 1 (mR 0 0) ln) (r' : Int32) (h' : mH) (hE : mEnd X ad (some .int) (some (.int r')) h') (n0 : Nat) (h0 : mH) (x0 : Int32) (hf : f_Hx_digitOf_B17 n0 h0 x0 = some (r', h')) : mAW X ad 0 0 17 [(0, .int x0)] [] h0 := by
  unfold f_Hx_digitOf_B17 at hf
  refine ax_iload_n O d_Hx_digitOf_17 rfl 0 rfl ?_
  refine ax_bipush (v := 65) O d_Hx_digitOf_18 (by decide) ?_
  refine ax_icmp_lt (tgt := 34) O d_Hx_digitOf_20 (by decide) (fun q2 => ?_) (fun q2 => ?_)
  · rw [if_pos q2] at hf
    exact cb_Hx_digitOf_B34 O _ _ hE n0 _ _ hf
  · rw [if_neg q2] at hf
    refine ax_iload_n O d_Hx_digitOf_23 rfl 0 rfl ?_
    refine ax_bipush (v := 70) O d_Hx_digitOf_24 (by decide) ?_
    refine ax_icmp_gt (tgt := 34) O d_Hx_digitOf_26 (by decide) (fun q5 => ?_) (fun q5 => ?_)
    · rw [if_pos q5] at hf
      exact cb_Hx_digitOf_B34 O _ _ hE n0 _ _ hf
    · rw [if_neg q5] at hf
      refine ax_iload_n O d_Hx_digitOf_29 rfl 0 rfl ?_
      refine ax_bipush (v := 55) O d_Hx_digitOf_30 (by decide) ?_
      refine ax_isub O d_Hx_digitOf_32 ?_
      exact ax_retE O hE hf rfl d_Hx_digitOf_33
set_option maxHeartbeats 4000000 in
set_option maxRecDepth 100000 in
theorem cb_Hx_digitOf {X : mX} {ad : Nat → Nat} {ln : Launch} (O : mO X ad R_Hx b_Hx_digitOf 1 (mR 0 0) ln) (r' : Int32) (h' : mH) (hE : mEnd X ad (some .int) (some (.int r')) h') (n0 : Nat) (h0 : mH) (x0 : Int32) (hf : f_Hx_digitOf n0 h0 x0 = some (r', h')) : mAW X ad 0 0 0 [(0, .int x0)] [] h0 := by
  unfold f_Hx_digitOf at hf
  refine ax_iload_n O d_Hx_digitOf_0 rfl 0 rfl ?_
  refine ax_bipush (v := 48) O d_Hx_digitOf_1 (by decide) ?_
  refine ax_icmp_lt (tgt := 17) O d_Hx_digitOf_3 (by decide) (fun q1 => ?_) (fun q1 => ?_)
  · rw [if_pos q1] at hf
    exact cb_Hx_digitOf_B17 O _ _ hE n0 _ _ hf
  · rw [if_neg q1] at hf
    refine ax_iload_n O d_Hx_digitOf_6 rfl 0 rfl ?_
    refine ax_bipush (v := 57) O d_Hx_digitOf_7 (by decide) ?_
    refine ax_icmp_gt (tgt := 17) O d_Hx_digitOf_9 (by decide) (fun q6 => ?_) (fun q6 => ?_)
    · rw [if_pos q6] at hf
      exact cb_Hx_digitOf_B17 O _ _ hE n0 _ _ hf
    · rw [if_neg q6] at hf
      refine ax_iload_n O d_Hx_digitOf_12 rfl 0 rfl ?_
      refine ax_bipush (v := 48) O d_Hx_digitOf_13 (by decide) ?_
      refine ax_isub O d_Hx_digitOf_15 ?_
      exact ax_retE O hE hf rfl d_Hx_digitOf_16
theorem c_Hx_digitOf {ln : Launch} {n0 : Nat} {h0 h' : mH} {x0 : Int32} {r' : Int32} (hf : f_Hx_digitOf n0 h0 x0 = some (r', h')) : mMet ln y_Hx_digitOf b_Hx_digitOf 1 (some .int) (mR 0 0) [.int x0] h0 (some (.int r')) h' := mMet_of (by decide +kernel) (Nat.le_of_ble_eq_true rfl) (fun X ad O hE => cb_Hx_digitOf O r' h' hE n0 h0 x0 hf)
/-! ===== StreamFilters$Hexadecimal.unpack(LStreamFilters$Pass;I)V ===== -/
theorem d_Hx_unpack_0 : decode b_Hx_unpack 0 = .ok (.iconst (-1), 1) := by decide +kernel
theorem d_Hx_unpack_1 : decode b_Hx_unpack 1 = .ok (.istore_n 3, 1) := by decide +kernel
theorem d_Hx_unpack_2 : decode b_Hx_unpack 2 = .ok (.iconst 1, 1) := by decide +kernel
theorem d_Hx_unpack_3 : decode b_Hx_unpack 3 = .ok (.istore 4, 2) := by decide +kernel
theorem d_Hx_unpack_5 : decode b_Hx_unpack 5 = .ok (.iconst 0, 1) := by decide +kernel
theorem d_Hx_unpack_6 : decode b_Hx_unpack 6 = .ok (.istore 5, 2) := by decide +kernel
theorem d_Hx_unpack_8 : decode b_Hx_unpack 8 = .ok (.iload 5, 2) := by decide +kernel
theorem d_Hx_unpack_10 : decode b_Hx_unpack 10 = .ok (.ldc 9, 2) := by decide +kernel
theorem d_Hx_unpack_12 : decode b_Hx_unpack 12 = .ok (.if_icmp .ge 117, 3) := by decide +kernel
theorem d_Hx_unpack_15 : decode b_Hx_unpack 15 = .ok (.iload 4, 2) := by decide +kernel
theorem d_Hx_unpack_17 : decode b_Hx_unpack 17 = .ok (.ifCond .eq 112, 3) := by decide +kernel
theorem d_Hx_unpack_20 : decode b_Hx_unpack 20 = .ok (.aload_n 1, 1) := by decide +kernel
theorem d_Hx_unpack_21 : decode b_Hx_unpack 21 = .ok (.invokevirtual 10, 3) := by decide +kernel
theorem d_Hx_unpack_24 : decode b_Hx_unpack 24 = .ok (.istore 6, 2) := by decide +kernel
theorem d_Hx_unpack_26 : decode b_Hx_unpack 26 = .ok (.iload 6, 2) := by decide +kernel
theorem d_Hx_unpack_28 : decode b_Hx_unpack 28 = .ok (.iconst (-1), 1) := by decide +kernel
theorem d_Hx_unpack_29 : decode b_Hx_unpack 29 = .ok (.if_icmp .ne 4, 3) := by decide +kernel
theorem d_Hx_unpack_32 : decode b_Hx_unpack 32 = .ok (.return_, 1) := by decide +kernel
theorem d_Hx_unpack_33 : decode b_Hx_unpack 33 = .ok (.iload 6, 2) := by decide +kernel
theorem d_Hx_unpack_35 : decode b_Hx_unpack 35 = .ok (.bipush 62, 2) := by decide +kernel
theorem d_Hx_unpack_37 : decode b_Hx_unpack 37 = .ok (.if_icmp .ne 7, 3) := by decide +kernel
theorem d_Hx_unpack_40 : decode b_Hx_unpack 40 = .ok (.iconst 0, 1) := by decide +kernel
theorem d_Hx_unpack_41 : decode b_Hx_unpack 41 = .ok (.goto 8, 3) := by decide +kernel
theorem d_Hx_unpack_44 : decode b_Hx_unpack 44 = .ok (.iload 6, 2) := by decide +kernel
theorem d_Hx_unpack_46 : decode b_Hx_unpack 46 = .ok (.invokestatic 18, 3) := by decide +kernel
theorem d_Hx_unpack_49 : decode b_Hx_unpack 49 = .ok (.istore 7, 2) := by decide +kernel
theorem d_Hx_unpack_51 : decode b_Hx_unpack 51 = .ok (.iload 7, 2) := by decide +kernel
theorem d_Hx_unpack_53 : decode b_Hx_unpack 53 = .ok (.iconst (-1), 1) := by decide +kernel
theorem d_Hx_unpack_54 : decode b_Hx_unpack 54 = .ok (.if_icmp .ne 14, 3) := by decide +kernel
theorem d_Hx_unpack_57 : decode b_Hx_unpack 57 = .ok (.aload_n 1, 1) := by decide +kernel
theorem d_Hx_unpack_58 : decode b_Hx_unpack 58 = .ok (.bipush 12, 2) := by decide +kernel
theorem d_Hx_unpack_60 : decode b_Hx_unpack 60 = .ok (.invokevirtual 22, 3) := by decide +kernel
theorem d_Hx_unpack_63 : decode b_Hx_unpack 63 = .ok (.istore 4, 2) := by decide +kernel
theorem d_Hx_unpack_65 : decode b_Hx_unpack 65 = .ok (.goto 58, 3) := by decide +kernel
theorem d_Hx_unpack_68 : decode b_Hx_unpack 68 = .ok (.iload_n 3, 1) := by decide +kernel
theorem d_Hx_unpack_69 : decode b_Hx_unpack 69 = .ok (.iconst (-1), 1) := by decide +kernel
theorem d_Hx_unpack_70 : decode b_Hx_unpack 70 = .ok (.if_icmp .ne 23, 3) := by decide +kernel
theorem d_Hx_unpack_73 : decode b_Hx_unpack 73 = .ok (.iload 7, 2) := by decide +kernel
theorem d_Hx_unpack_75 : decode b_Hx_unpack 75 = .ok (.istore_n 3, 1) := by decide +kernel
theorem d_Hx_unpack_76 : decode b_Hx_unpack 76 = .ok (.iload 6, 2) := by decide +kernel
theorem d_Hx_unpack_78 : decode b_Hx_unpack 78 = .ok (.bipush 62, 2) := by decide +kernel
theorem d_Hx_unpack_80 : decode b_Hx_unpack 80 = .ok (.if_icmp .eq 7, 3) := by decide +kernel
theorem d_Hx_unpack_83 : decode b_Hx_unpack 83 = .ok (.iconst 1, 1) := by decide +kernel
theorem d_Hx_unpack_84 : decode b_Hx_unpack 84 = .ok (.goto 4, 3) := by decide +kernel
theorem d_Hx_unpack_87 : decode b_Hx_unpack 87 = .ok (.iconst 0, 1) := by decide +kernel
theorem d_Hx_unpack_88 : decode b_Hx_unpack 88 = .ok (.istore 4, 2) := by decide +kernel
theorem d_Hx_unpack_90 : decode b_Hx_unpack 90 = .ok (.goto 33, 3) := by decide +kernel
theorem d_Hx_unpack_93 : decode b_Hx_unpack 93 = .ok (.aload_n 1, 1) := by decide +kernel
theorem d_Hx_unpack_94 : decode b_Hx_unpack 94 = .ok (.iload_n 3, 1) := by decide +kernel
theorem d_Hx_unpack_95 : decode b_Hx_unpack 95 = .ok (.bipush 16, 2) := by decide +kernel
theorem d_Hx_unpack_97 : decode b_Hx_unpack 97 = .ok (.imul, 1) := by decide +kernel
theorem d_Hx_unpack_98 : decode b_Hx_unpack 98 = .ok (.iload 7, 2) := by decide +kernel
theorem d_Hx_unpack_100 : decode b_Hx_unpack 100 = .ok (.iadd, 1) := by decide +kernel
theorem d_Hx_unpack_101 : decode b_Hx_unpack 101 = .ok (.invokevirtual 26, 3) := by decide +kernel
theorem d_Hx_unpack_104 : decode b_Hx_unpack 104 = .ok (.ifCond .eq 14, 3) := by decide +kernel
theorem d_Hx_unpack_107 : decode b_Hx_unpack 107 = .ok (.iload 6, 2) := by decide +kernel
theorem d_Hx_unpack_109 : decode b_Hx_unpack 109 = .ok (.bipush 62, 2) := by decide +kernel
theorem d_Hx_unpack_111 : decode b_Hx_unpack 111 = .ok (.if_icmp .eq 7, 3) := by decide +kernel
theorem d_Hx_unpack_114 : decode b_Hx_unpack 114 = .ok (.iconst 1, 1) := by decide +kernel
theorem d_Hx_unpack_115 : decode b_Hx_unpack 115 = .ok (.goto 4, 3) := by decide +kernel
theorem d_Hx_unpack_118 : decode b_Hx_unpack 118 = .ok (.iconst 0, 1) := by decide +kernel
theorem d_Hx_unpack_119 : decode b_Hx_unpack 119 = .ok (.istore 4, 2) := by decide +kernel
theorem d_Hx_unpack_121 : decode b_Hx_unpack 121 = .ok (.iconst (-1), 1) := by decide +kernel
theorem d_Hx_unpack_122 : decode b_Hx_unpack 122 = .ok (.istore_n 3, 1) := by decide +kernel
theorem d_Hx_unpack_123 : decode b_Hx_unpack 123 = .ok (.iinc 5 1, 3) := by decide +kernel
theorem d_Hx_unpack_126 : decode b_Hx_unpack 126 = .ok (.goto (-118), 3) := by decide +kernel
theorem d_Hx_unpack_129 : decode b_Hx_unpack 129 = .ok (.return_, 1) := by decide +kernel
noncomputable def f_Hx_unpack_B119 (K8 : mH → Nat → Int32 → Int32 → Int32 → Option (Unit × mH)) (n0 : Nat) (h0 : mH) (a1 : Nat) (x5 : Int32) (p0 : Int32) : Option (Unit × mH) :=
  mnm (x5 + 1) fun v17 =>
  K8 h0 a1 (-1) p0 v17
noncomputable def f_Hx_unpack_B118 (K8 : mH → Nat → Int32 → Int32 → Int32 → Option (Unit × mH)) (n0 : Nat) (h0 : mH) (a1 : Nat) (x5 : Int32) : Option (Unit × mH) :=
  f_Hx_unpack_B119 K8 n0 h0 a1 x5 0
noncomputable def f_Hx_unpack_B49 (K8 : mH → Nat → Int32 → Int32 → Int32 → Option (Unit × mH)) (n0 : Nat) (h0 : mH) (a1 : Nat) (x3 : Int32) (x5 : Int32) (x6 : Int32) (p0 : Int32) : Option (Unit × mH) :=
  if p0 = (-1) then
    mis h0 a1 8 <|
    mcl (f_Pa_fail n0 h0 a1 12) fun v23 h24 =>
    mnm (x5 + 1) fun v25 =>
    K8 h24 a1 x3 v23 v25
  else
    if x3 = (-1) then
      if x6 = 62 then
        mnm (x5 + 1) fun v20 =>
        K8 h0 a1 p0 0 v20
      else
        mnm (x5 + 1) fun v21 =>
        K8 h0 a1 p0 1 v21
    else
      mis h0 a1 8 <|
      mcl (f_Pa_give n0 h0 a1 ((x3 * 16) + p0)) fun v14 h15 =>
      if v14 = 0 then
        f_Hx_unpack_B118 K8 n0 h15 a1 x5
      else
        if x6 = 62 then
          f_Hx_unpack_B118 K8 n0 h15 a1 x5
        else
          f_Hx_unpack_B119 K8 n0 h15 a1 x5 1
noncomputable def f_Hx_unpack_L8  (n0 : Nat) : Nat → mH → Nat → Int32 → Int32 → Int32 → Option (Unit × mH)
  | 0, _, _, _, _, _ => none
  | n + 1, h0, a1, x3, x4, x5 =>
    if 1000000 ≤ x5 then
      some ((), h0)
    else
      if x4 = 0 then
        some ((), h0)
      else
        mis h0 a1 8 <|
        mcl (f_Pa_nextSign n0 h0 a1) fun v4 h5 =>
        if v4 = (-1) then
          some ((), h5)
        else
          if v4 = 62 then
            f_Hx_unpack_B49 (f_Hx_unpack_L8 n0 n) n0 h5 a1 x3 x5 v4 0
          else
            mcl (f_Hx_digitOf n0 h5 v4) fun v9 h10 =>
            f_Hx_unpack_B49 (f_Hx_unpack_L8 n0 n) n0 h10 a1 x3 x5 v4 v9
noncomputable def f_Hx_unpack  (n0 : Nat) (h0 : mH) (a0 : Nat) (a1 : Nat) (x2 : Int32) : Option (Unit × mH) :=
  f_Hx_unpack_L8 n0 n0 h0 a1 (-1) 1 0
set_option maxHeartbeats 4000000 in
set_option maxRecDepth 100000 in
theorem cb_Hx_unpack_B119 {X : mX} {ad : Nat → Nat} {ln : Launch} (O : mO X ad R_Hx b_Hx_unpack 8 (mR 2 42) ln) (K8 : mH → Nat → Int32 → Int32 → Int32 → Option (Unit × mH)) (r' : Unit) (h' : mH) (hE : mEnd X ad none none h') (hK8 : ∀ (h : mH) (a1 : Nat) (x3 : Int32) (x4 : Int32) (x5 : Int32), K8 h a1 x3 x4 x5 = some (r', h') → mAW X ad 0 0 8 [(1, .ref a1), (3, .int x3), (4, .int x4), (5, .int x5)] [] h) (n0 : Nat) (h0 : mH) (a1 : Nat) (x5 : Int32) (p0 : Int32) (hf : f_Hx_unpack_B119 K8 n0 h0 a1 x5 p0 = some (r', h')) : mAW X ad 0 0 119 [(1, .ref a1), (5, .int x5)] [.int p0] h0 := by
  unfold f_Hx_unpack_B119 at hf
  refine ax_istore (lv' := [(4, .int p0), (1, .ref a1), (5, .int x5)]) O d_Hx_unpack_119 (by decide) rfl ?_
  refine ax_iconst (v := (-1)) O d_Hx_unpack_121 (by decide) ?_
  refine ax_istore_n (lv' := [(3, .int (-1)), (4, .int p0), (1, .ref a1), (5, .int x5)]) O d_Hx_unpack_122 rfl (by decide) rfl ?_
  obtain ⟨v17, ev17, hf⟩ := mnm_some hf
  refine ax_iinc (j := 3) (v := v17) (lv' := [(5, .int v17), (3, .int (-1)), (4, .int p0), (1, .ref a1)]) O d_Hx_unpack_123 rfl (by rw [ev17]; rfl) (by decide) rfl ?_
  refine ax_goto (tgt := 8) O d_Hx_unpack_126 (by decide) ?_
  refine ax_sub [3, 1, 2, 0] rfl ?_
  exact hK8 _ _ _ _ _ hf
set_option maxHeartbeats 4000000 in
set_option maxRecDepth 100000 in
theorem cb_Hx_unpack_B118 {X : mX} {ad : Nat → Nat} {ln : Launch} (O : mO X ad R_Hx b_Hx_unpack 8 (mR 2 42) ln) (K8 : mH → Nat → Int32 → Int32 → Int32 → Option (Unit × mH)) (r' : Unit) (h' : mH) (hE : mEnd X ad none none h') (hK8 : ∀ (h : mH) (a1 : Nat) (x3 : Int32) (x4 : Int32) (x5 : Int32), K8 h a1 x3 x4 x5 = some (r', h') → mAW X ad 0 0 8 [(1, .ref a1), (3, .int x3), (4, .int x4), (5, .int x5)] [] h) (n0 : Nat) (h0 : mH) (a1 : Nat) (x5 : Int32) (hf : f_Hx_unpack_B118 K8 n0 h0 a1 x5 = some (r', h')) : mAW X ad 0 0 118 [(1, .ref a1), (5, .int x5)] [] h0 := by
  unfold f_Hx_unpack_B118 at hf
  refine ax_iconst (v := 0) O d_Hx_unpack_118 (by decide) ?_
  exact cb_Hx_unpack_B119 O K8 _ _ hE hK8 n0 _ _ _ _ hf
set_option maxHeartbeats 4000000 in
set_option maxRecDepth 100000 in
theorem cb_Hx_unpack_B49 {X : mX} {ad : Nat → Nat} {ln : Launch} (O : mO X ad R_Hx b_Hx_unpack 8 (mR 2 42) ln) (K8 : mH → Nat → Int32 → Int32 → Int32 → Option (Unit × mH)) (r' : Unit) (h' : mH) (hE : mEnd X ad none none h') (hK8 : ∀ (h : mH) (a1 : Nat) (x3 : Int32) (x4 : Int32) (x5 : Int32), K8 h a1 x3 x4 x5 = some (r', h') → mAW X ad 0 0 8 [(1, .ref a1), (3, .int x3), (4, .int x4), (5, .int x5)] [] h) (n0 : Nat) (h0 : mH) (a1 : Nat) (x3 : Int32) (x5 : Int32) (x6 : Int32) (p0 : Int32) (hf : f_Hx_unpack_B49 K8 n0 h0 a1 x3 x5 x6 p0 = some (r', h')) : mAW X ad 0 0 49 [(1, .ref a1), (3, .int x3), (5, .int x5), (6, .int x6)] [.int p0] h0 := by
  unfold f_Hx_unpack_B49 at hf
  refine ax_istore (lv' := [(7, .int p0), (1, .ref a1), (3, .int x3), (5, .int x5), (6, .int x6)]) O d_Hx_unpack_49 (by decide) rfl ?_
  refine ax_iload O d_Hx_unpack_51 0 rfl ?_
  refine ax_iconst (v := (-1)) O d_Hx_unpack_53 (by decide) ?_
  refine ax_icmp_ne (tgt := 68) O d_Hx_unpack_54 (by decide) (fun q11 => ?_) (fun q11 => ?_)
  · rw [if_neg q11] at hf
    refine ax_iload_n O d_Hx_unpack_68 rfl 2 rfl ?_
    refine ax_iconst (v := (-1)) O d_Hx_unpack_69 (by decide) ?_
    refine ax_icmp_ne (tgt := 93) O d_Hx_unpack_70 (by decide) (fun q12 => ?_) (fun q12 => ?_)
    · rw [if_neg q12] at hf
      refine ax_aload_n O d_Hx_unpack_93 rfl 1 rfl ?_
      refine ax_iload_n O d_Hx_unpack_94 rfl 2 rfl ?_
      refine ax_bipush (v := 16) O d_Hx_unpack_95 (by decide) ?_
      refine ax_imul O d_Hx_unpack_97 ?_
      refine ax_iload O d_Hx_unpack_98 0 rfl ?_
      refine ax_iadd O d_Hx_unpack_100 ?_
      obtain ⟨fh15, ch15, hf⟩ := mis_some hf
      obtain ⟨v14, h15, mh15, hf⟩ := mcl_some hf
      refine ax_callV (As := [.int ((x3 * 16) + p0)]) (rest := []) O cw_Pa_give (q := (R_Pa, T_Pa, 7)) rfl rfl in_Pa_give se_Pa_give lk_Hx_26 ch15 (c_Pa_give mh15) rfl ⟨rfl, rfl⟩ (by decide) (by decide) (Nat.le_of_ble_eq_true rfl) d_Hx_unpack_101 ?_
      refine ax_if_eq (tgt := 118) O d_Hx_unpack_104 (by decide) (fun q16 => ?_) (fun q16 => ?_)
      · rw [if_pos q16] at hf
        refine ax_sub [1, 3] rfl ?_
        exact cb_Hx_unpack_B118 O K8 _ _ hE hK8 n0 _ _ _ hf
      · rw [if_neg q16] at hf
        refine ax_iload O d_Hx_unpack_107 4 rfl ?_
        refine ax_bipush (v := 62) O d_Hx_unpack_109 (by decide) ?_
        refine ax_icmp_eq (tgt := 118) O d_Hx_unpack_111 (by decide) (fun q18 => ?_) (fun q18 => ?_)
        · rw [if_pos q18] at hf
          refine ax_sub [1, 3] rfl ?_
          exact cb_Hx_unpack_B118 O K8 _ _ hE hK8 n0 _ _ _ hf
        · rw [if_neg q18] at hf
          refine ax_iconst (v := 1) O d_Hx_unpack_114 (by decide) ?_
          refine ax_goto (tgt := 119) O d_Hx_unpack_115 (by decide) ?_
          refine ax_sub [1, 3] rfl ?_
          exact cb_Hx_unpack_B119 O K8 _ _ hE hK8 n0 _ _ _ _ hf
    · rw [if_pos q12] at hf
      refine ax_iload O d_Hx_unpack_73 0 rfl ?_
      refine ax_istore_n (lv' := [(3, .int p0), (7, .int p0), (1, .ref a1), (5, .int x5), (6, .int x6)]) O d_Hx_unpack_75 rfl (by decide) rfl ?_
      refine ax_iload O d_Hx_unpack_76 4 rfl ?_
      refine ax_bipush (v := 62) O d_Hx_unpack_78 (by decide) ?_
      refine ax_icmp_eq (tgt := 87) O d_Hx_unpack_80 (by decide) (fun q19 => ?_) (fun q19 => ?_)
      · rw [if_pos q19] at hf
        refine ax_iconst (v := 0) O d_Hx_unpack_87 (by decide) ?_
        refine ax_istore (lv' := [(4, .int 0), (3, .int p0), (7, .int p0), (1, .ref a1), (5, .int x5), (6, .int x6)]) O d_Hx_unpack_88 (by decide) rfl ?_
        refine ax_goto (tgt := 123) O d_Hx_unpack_90 (by decide) ?_
        obtain ⟨v20, ev20, hf⟩ := mnm_some hf
        refine ax_iinc (j := 4) (v := v20) (lv' := [(5, .int v20), (4, .int 0), (3, .int p0), (7, .int p0), (1, .ref a1), (6, .int x6)]) O d_Hx_unpack_123 rfl (by rw [ev20]; rfl) (by decide) rfl ?_
        refine ax_goto (tgt := 8) O d_Hx_unpack_126 (by decide) ?_
        refine ax_sub [4, 2, 1, 0] rfl ?_
        exact hK8 _ _ _ _ _ hf
      · rw [if_neg q19] at hf
        refine ax_iconst (v := 1) O d_Hx_unpack_83 (by decide) ?_
        refine ax_goto (tgt := 88) O d_Hx_unpack_84 (by decide) ?_
        refine ax_istore (lv' := [(4, .int 1), (3, .int p0), (7, .int p0), (1, .ref a1), (5, .int x5), (6, .int x6)]) O d_Hx_unpack_88 (by decide) rfl ?_
        refine ax_goto (tgt := 123) O d_Hx_unpack_90 (by decide) ?_
        obtain ⟨v21, ev21, hf⟩ := mnm_some hf
        refine ax_iinc (j := 4) (v := v21) (lv' := [(5, .int v21), (4, .int 1), (3, .int p0), (7, .int p0), (1, .ref a1), (6, .int x6)]) O d_Hx_unpack_123 rfl (by rw [ev21]; rfl) (by decide) rfl ?_
        refine ax_goto (tgt := 8) O d_Hx_unpack_126 (by decide) ?_
        refine ax_sub [4, 2, 1, 0] rfl ?_
        exact hK8 _ _ _ _ _ hf
  · rw [if_pos q11] at hf
    refine ax_aload_n O d_Hx_unpack_57 rfl 1 rfl ?_
    refine ax_bipush (v := 12) O d_Hx_unpack_58 (by decide) ?_
    obtain ⟨fh24, ch24, hf⟩ := mis_some hf
    obtain ⟨v23, h24, mh24, hf⟩ := mcl_some hf
    refine ax_callV (As := [.int 12]) (rest := []) O cw_Pa_fail (q := (R_Pa, T_Pa, 7)) rfl rfl in_Pa_fail se_Pa_fail lk_Hx_22 ch24 (c_Pa_fail mh24) rfl ⟨rfl, rfl⟩ (by decide) (by decide) (Nat.le_of_ble_eq_true rfl) d_Hx_unpack_60 ?_
    refine ax_istore (lv' := [(4, .int v23), (7, .int p0), (1, .ref a1), (3, .int x3), (5, .int x5), (6, .int x6)]) O d_Hx_unpack_63 (by decide) rfl ?_
    refine ax_goto (tgt := 123) O d_Hx_unpack_65 (by decide) ?_
    obtain ⟨v25, ev25, hf⟩ := mnm_some hf
    refine ax_iinc (j := 4) (v := v25) (lv' := [(5, .int v25), (4, .int v23), (7, .int p0), (1, .ref a1), (3, .int x3), (6, .int x6)]) O d_Hx_unpack_123 rfl (by rw [ev25]; rfl) (by decide) rfl ?_
    refine ax_goto (tgt := 8) O d_Hx_unpack_126 (by decide) ?_
    refine ax_sub [3, 4, 1, 0] rfl ?_
    exact hK8 _ _ _ _ _ hf
set_option maxHeartbeats 4000000 in
set_option maxRecDepth 100000 in
theorem cb_Hx_unpack_L8 {X : mX} {ad : Nat → Nat} {ln : Launch} (O : mO X ad R_Hx b_Hx_unpack 8 (mR 2 42) ln) (r' : Unit) (h' : mH) (hE : mEnd X ad none none h') (n0 : Nat) : ∀ (n : Nat) (h0 : mH) (a1 : Nat) (x3 : Int32) (x4 : Int32) (x5 : Int32), f_Hx_unpack_L8 n0 n h0 a1 x3 x4 x5 = some (r', h') → mAW X ad 0 0 8 [(1, .ref a1), (3, .int x3), (4, .int x4), (5, .int x5)] [] h0 := by
  intro n
  induction n with
  | zero =>
    intro h0 a1 x3 x4 x5 hf
    rw [f_Hx_unpack_L8.eq_1] at hf
    cases hf
  | succ n ih =>
    intro h0 a1 x3 x4 x5 hf
    rw [f_Hx_unpack_L8.eq_2] at hf
    refine ax_iload O d_Hx_unpack_8 3 rfl ?_
    refine ax_ldc (v := 1000000) O d_Hx_unpack_10 wd_30 ?_
    refine ax_icmp_ge (tgt := 129) O d_Hx_unpack_12 (by decide) (fun q1 => ?_) (fun q1 => ?_)
    · rw [if_pos q1] at hf
      exact ax_vretE O hE hf d_Hx_unpack_129
    · rw [if_neg q1] at hf
      refine ax_iload O d_Hx_unpack_15 2 rfl ?_
      refine ax_if_eq (tgt := 129) O d_Hx_unpack_17 (by decide) (fun q2 => ?_) (fun q2 => ?_)
      · rw [if_pos q2] at hf
        exact ax_vretE O hE hf d_Hx_unpack_129
      · rw [if_neg q2] at hf
        refine ax_aload_n O d_Hx_unpack_20 rfl 0 rfl ?_
        obtain ⟨fh5, ch5, hf⟩ := mis_some hf
        obtain ⟨v4, h5, mh5, hf⟩ := mcl_some hf
        refine ax_callV (As := []) (rest := []) O cw_Pa_nextSign (q := (R_Pa, T_Pa, 7)) rfl rfl in_Pa_nextSign se_Pa_nextSign lk_Hx_10 ch5 (c_Pa_nextSign mh5) rfl ⟨rfl, rfl⟩ (by decide) (by decide) (Nat.le_of_ble_eq_true rfl) d_Hx_unpack_21 ?_
        refine ax_istore (lv' := [(6, .int v4), (1, .ref a1), (3, .int x3), (4, .int x4), (5, .int x5)]) O d_Hx_unpack_24 (by decide) rfl ?_
        refine ax_iload O d_Hx_unpack_26 0 rfl ?_
        refine ax_iconst (v := (-1)) O d_Hx_unpack_28 (by decide) ?_
        refine ax_icmp_ne (tgt := 33) O d_Hx_unpack_29 (by decide) (fun q6 => ?_) (fun q6 => ?_)
        · rw [if_neg q6] at hf
          refine ax_iload O d_Hx_unpack_33 0 rfl ?_
          refine ax_bipush (v := 62) O d_Hx_unpack_35 (by decide) ?_
          refine ax_icmp_ne (tgt := 44) O d_Hx_unpack_37 (by decide) (fun q7 => ?_) (fun q7 => ?_)
          · rw [if_neg q7] at hf
            refine ax_iload O d_Hx_unpack_44 0 rfl ?_
            obtain ⟨v9, h10, mh10, hf⟩ := mcl_some hf
            refine ax_callS (As := [.int v4]) (rest := []) O cw_Hx_digitOf st_Hx_digitOf lk_Hx_18 (c_Hx_digitOf mh10) rfl ⟨rfl, rfl⟩ (by decide) (by decide) (Nat.le_of_ble_eq_true rfl) d_Hx_unpack_46 ?_
            refine ax_sub [1, 2, 4, 0] rfl ?_
            exact cb_Hx_unpack_B49 O (f_Hx_unpack_L8 n0 n) _ _ hE ih n0 _ _ _ _ _ _ hf
          · rw [if_pos q7] at hf
            refine ax_iconst (v := 0) O d_Hx_unpack_40 (by decide) ?_
            refine ax_goto (tgt := 49) O d_Hx_unpack_41 (by decide) ?_
            refine ax_sub [1, 2, 4, 0] rfl ?_
            exact cb_Hx_unpack_B49 O (f_Hx_unpack_L8 n0 n) _ _ hE ih n0 _ _ _ _ _ _ hf
        · rw [if_pos q6] at hf
          exact ax_vretE O hE hf d_Hx_unpack_32
set_option maxHeartbeats 4000000 in
set_option maxRecDepth 100000 in
theorem cb_Hx_unpack {X : mX} {ad : Nat → Nat} {ln : Launch} (O : mO X ad R_Hx b_Hx_unpack 8 (mR 2 42) ln) (r' : Unit) (h' : mH) (hE : mEnd X ad none none h') (n0 : Nat) (h0 : mH) (a0 : Nat) (a1 : Nat) (x2 : Int32) (hf : f_Hx_unpack n0 h0 a0 a1 x2 = some (r', h')) : mAW X ad 0 0 0 [(0, .ref a0), (1, .ref a1), (2, .int x2)] [] h0 := by
  unfold f_Hx_unpack at hf
  refine ax_iconst (v := (-1)) O d_Hx_unpack_0 (by decide) ?_
  refine ax_istore_n (lv' := [(3, .int (-1)), (0, .ref a0), (1, .ref a1), (2, .int x2)]) O d_Hx_unpack_1 rfl (by decide) rfl ?_
  refine ax_iconst (v := 1) O d_Hx_unpack_2 (by decide) ?_
  refine ax_istore (lv' := [(4, .int 1), (3, .int (-1)), (0, .ref a0), (1, .ref a1), (2, .int x2)]) O d_Hx_unpack_3 (by decide) rfl ?_
  refine ax_iconst (v := 0) O d_Hx_unpack_5 (by decide) ?_
  refine ax_istore (lv' := [(5, .int 0), (4, .int 1), (3, .int (-1)), (0, .ref a0), (1, .ref a1), (2, .int x2)]) O d_Hx_unpack_6 (by decide) rfl ?_
  refine ax_sub [4, 2, 1, 0] rfl ?_
  exact cb_Hx_unpack_L8 O _ _ hE n0 n0 _ _ _ _ _ hf
theorem c_Hx_unpack {ln : Launch} {n0 : Nat} {h0 h' : mH} {a0 : Nat} {a1 : Nat} {x2 : Int32} {r' : Unit} (hf : f_Hx_unpack n0 h0 a0 a1 x2 = some (r', h')) : mMet ln y_Hx_unpack b_Hx_unpack 8 none (mR 2 42) [.ref a0, .ref a1, .int x2] h0 none h' := mMet_of (by decide +kernel) (Nat.le_of_ble_eq_true rfl) (fun X ad O hE => cb_Hx_unpack O r' h' hE n0 h0 a0 a1 x2 hf)
/-! ===== StreamFilters$Pass.giveTimes(II)Z ===== -/
theorem d_Pa_giveTimes_0 : decode b_Pa_giveTimes 0 = .ok (.iconst 0, 1) := by decide +kernel
theorem d_Pa_giveTimes_1 : decode b_Pa_giveTimes 1 = .ok (.istore_n 3, 1) := by decide +kernel
theorem d_Pa_giveTimes_2 : decode b_Pa_giveTimes 2 = .ok (.iload_n 3, 1) := by decide +kernel
theorem d_Pa_giveTimes_3 : decode b_Pa_giveTimes 3 = .ok (.iload_n 2, 1) := by decide +kernel
theorem d_Pa_giveTimes_4 : decode b_Pa_giveTimes 4 = .ok (.if_icmp .ge 19, 3) := by decide +kernel
theorem d_Pa_giveTimes_7 : decode b_Pa_giveTimes 7 = .ok (.aload_n 0, 1) := by decide +kernel
theorem d_Pa_giveTimes_8 : decode b_Pa_giveTimes 8 = .ok (.iload_n 1, 1) := by decide +kernel
theorem d_Pa_giveTimes_9 : decode b_Pa_giveTimes 9 = .ok (.invokevirtual 65, 3) := by decide +kernel
theorem d_Pa_giveTimes_12 : decode b_Pa_giveTimes 12 = .ok (.ifCond .ne 5, 3) := by decide +kernel
theorem d_Pa_giveTimes_15 : decode b_Pa_giveTimes 15 = .ok (.iconst 0, 1) := by decide +kernel
theorem d_Pa_giveTimes_16 : decode b_Pa_giveTimes 16 = .ok (.ireturn, 1) := by decide +kernel
theorem d_Pa_giveTimes_17 : decode b_Pa_giveTimes 17 = .ok (.iinc 3 1, 3) := by decide +kernel
theorem d_Pa_giveTimes_20 : decode b_Pa_giveTimes 20 = .ok (.goto (-18), 3) := by decide +kernel
theorem d_Pa_giveTimes_23 : decode b_Pa_giveTimes 23 = .ok (.iconst 1, 1) := by decide +kernel
theorem d_Pa_giveTimes_24 : decode b_Pa_giveTimes 24 = .ok (.ireturn, 1) := by decide +kernel
noncomputable def f_Pa_giveTimes_L2  (n0 : Nat) : Nat → mH → Nat → Int32 → Int32 → Int32 → Option (Int32 × mH)
  | 0, _, _, _, _, _ => none
  | n + 1, h0, a0, x1, x2, x3 =>
    if x2 ≤ x3 then
      some (1, h0)
    else
      mis h0 a0 8 <|
      mcl (f_Pa_give n0 h0 a0 x1) fun v3 h4 =>
      if v3 = 0 then
        some (0, h4)
      else
        mnm (x3 + 1) fun v6 =>
        (f_Pa_giveTimes_L2 n0 n) h4 a0 x1 x2 v6
noncomputable def f_Pa_giveTimes  (n0 : Nat) (h0 : mH) (a0 : Nat) (x1 : Int32) (x2 : Int32) : Option (Int32 × mH) :=
  f_Pa_giveTimes_L2 n0 n0 h0 a0 x1 x2 0
set_option maxHeartbeats 4000000 in
set_option maxRecDepth 100000 in
theorem cb_Pa_giveTimes_L2 {X : mX} {ad : Nat → Nat} {ln : Launch} (O : mO X ad R_Pa b_Pa_giveTimes 4 (mR 2 42) ln) (r' : Int32) (h' : mH) (hE : mEnd X ad (some .boolean) (some (.int r')) h') (n0 : Nat) : ∀ (n : Nat) (h0 : mH) (a0 : Nat) (x1 : Int32) (x2 : Int32) (x3 : Int32), f_Pa_giveTimes_L2 n0 n h0 a0 x1 x2 x3 = some (r', h') → mAW X ad 0 0 2 [(0, .ref a0), (1, .int x1), (2, .int x2), (3, .int x3)] [] h0 := by
  intro n
  induction n with
  | zero =>
    intro h0 a0 x1 x2 x3 hf
    rw [f_Pa_giveTimes_L2.eq_1] at hf
    cases hf
  | succ n ih =>
    intro h0 a0 x1 x2 x3 hf
    rw [f_Pa_giveTimes_L2.eq_2] at hf
    refine ax_iload_n O d_Pa_giveTimes_2 rfl 3 rfl ?_
    refine ax_iload_n O d_Pa_giveTimes_3 rfl 2 rfl ?_
    refine ax_icmp_ge (tgt := 23) O d_Pa_giveTimes_4 (by decide) (fun q1 => ?_) (fun q1 => ?_)
    · rw [if_pos q1] at hf
      refine ax_iconst (v := 1) O d_Pa_giveTimes_23 (by decide) ?_
      exact ax_retE O hE hf rfl d_Pa_giveTimes_24
    · rw [if_neg q1] at hf
      refine ax_aload_n O d_Pa_giveTimes_7 rfl 0 rfl ?_
      refine ax_iload_n O d_Pa_giveTimes_8 rfl 1 rfl ?_
      obtain ⟨fh4, ch4, hf⟩ := mis_some hf
      obtain ⟨v3, h4, mh4, hf⟩ := mcl_some hf
      refine ax_callV (As := [.int x1]) (rest := []) O cw_Pa_give (q := (R_Pa, T_Pa, 7)) rfl rfl in_Pa_give se_Pa_give lk_Pa_65 ch4 (c_Pa_give mh4) rfl ⟨rfl, rfl⟩ (by decide) (by decide) (Nat.le_of_ble_eq_true rfl) d_Pa_giveTimes_9 ?_
      refine ax_if_ne (tgt := 17) O d_Pa_giveTimes_12 (by decide) (fun q5 => ?_) (fun q5 => ?_)
      · rw [if_neg q5] at hf
        obtain ⟨v6, ev6, hf⟩ := mnm_some hf
        refine ax_iinc (j := 3) (v := v6) (lv' := [(3, .int v6), (0, .ref a0), (1, .int x1), (2, .int x2)]) O d_Pa_giveTimes_17 rfl (by rw [ev6]; rfl) (by decide) rfl ?_
        refine ax_goto (tgt := 2) O d_Pa_giveTimes_20 (by decide) ?_
        refine ax_sub [1, 2, 3, 0] rfl ?_
        exact ih _ _ _ _ _ hf
      · rw [if_pos q5] at hf
        refine ax_iconst (v := 0) O d_Pa_giveTimes_15 (by decide) ?_
        exact ax_retE O hE hf rfl d_Pa_giveTimes_16
set_option maxHeartbeats 4000000 in
set_option maxRecDepth 100000 in
theorem cb_Pa_giveTimes {X : mX} {ad : Nat → Nat} {ln : Launch} (O : mO X ad R_Pa b_Pa_giveTimes 4 (mR 2 42) ln) (r' : Int32) (h' : mH) (hE : mEnd X ad (some .boolean) (some (.int r')) h') (n0 : Nat) (h0 : mH) (a0 : Nat) (x1 : Int32) (x2 : Int32) (hf : f_Pa_giveTimes n0 h0 a0 x1 x2 = some (r', h')) : mAW X ad 0 0 0 [(0, .ref a0), (1, .int x1), (2, .int x2)] [] h0 := by
  unfold f_Pa_giveTimes at hf
  refine ax_iconst (v := 0) O d_Pa_giveTimes_0 (by decide) ?_
  refine ax_istore_n (lv' := [(3, .int 0), (0, .ref a0), (1, .int x1), (2, .int x2)]) O d_Pa_giveTimes_1 rfl (by decide) rfl ?_
  refine ax_sub [1, 2, 3, 0] rfl ?_
  exact cb_Pa_giveTimes_L2 O _ _ hE n0 n0 _ _ _ _ _ hf
theorem c_Pa_giveTimes {ln : Launch} {n0 : Nat} {h0 h' : mH} {a0 : Nat} {x1 : Int32} {x2 : Int32} {r' : Int32} (hf : f_Pa_giveTimes n0 h0 a0 x1 x2 = some (r', h')) : mMet ln y_Pa_giveTimes b_Pa_giveTimes 4 (some .boolean) (mR 2 42) [.ref a0, .int x1, .int x2] h0 (some (.int r')) h' := mMet_of (by decide +kernel) (Nat.le_of_ble_eq_true rfl) (fun X ad O hE => cb_Pa_giveTimes O r' h' hE n0 h0 a0 x1 x2 hf)
/-! ===== StreamFilters$Lengths.giveRun(LStreamFilters$Pass;I)Z ===== -/
theorem d_Le_giveRun_0 : decode b_Le_giveRun 0 = .ok (.aload_n 0, 1) := by decide +kernel
theorem d_Le_giveRun_1 : decode b_Le_giveRun 1 = .ok (.invokevirtual 10, 3) := by decide +kernel
theorem d_Le_giveRun_4 : decode b_Le_giveRun 4 = .ok (.istore_n 2, 1) := by decide +kernel
theorem d_Le_giveRun_5 : decode b_Le_giveRun 5 = .ok (.iload_n 2, 1) := by decide +kernel
theorem d_Le_giveRun_6 : decode b_Le_giveRun 6 = .ok (.iconst (-1), 1) := by decide +kernel
theorem d_Le_giveRun_7 : decode b_Le_giveRun 7 = .ok (.if_icmp .eq 16, 3) := by decide +kernel
theorem d_Le_giveRun_10 : decode b_Le_giveRun 10 = .ok (.aload_n 0, 1) := by decide +kernel
theorem d_Le_giveRun_11 : decode b_Le_giveRun 11 = .ok (.iload_n 2, 1) := by decide +kernel
theorem d_Le_giveRun_12 : decode b_Le_giveRun 12 = .ok (.iload_n 1, 1) := by decide +kernel
theorem d_Le_giveRun_13 : decode b_Le_giveRun 13 = .ok (.invokevirtual 26, 3) := by decide +kernel
theorem d_Le_giveRun_16 : decode b_Le_giveRun 16 = .ok (.ifCond .eq 7, 3) := by decide +kernel
theorem d_Le_giveRun_19 : decode b_Le_giveRun 19 = .ok (.iconst 1, 1) := by decide +kernel
theorem d_Le_giveRun_20 : decode b_Le_giveRun 20 = .ok (.goto 4, 3) := by decide +kernel
theorem d_Le_giveRun_23 : decode b_Le_giveRun 23 = .ok (.iconst 0, 1) := by decide +kernel
theorem d_Le_giveRun_24 : decode b_Le_giveRun 24 = .ok (.ireturn, 1) := by decide +kernel
noncomputable def f_Le_giveRun  (n0 : Nat) (h0 : mH) (a0 : Nat) (x1 : Int32) : Option (Int32 × mH) :=
  mis h0 a0 8 <|
  mcl (f_Pa_nextByte n0 h0 a0) fun v2 h3 =>
  if v2 = (-1) then
    some (0, h3)
  else
    mis h3 a0 8 <|
    mcl (f_Pa_giveTimes n0 h3 a0 v2 x1) fun v6 h7 =>
    if v6 = 0 then
      some (0, h7)
    else
      some (1, h7)
set_option maxHeartbeats 4000000 in
set_option maxRecDepth 100000 in
theorem cb_Le_giveRun {X : mX} {ad : Nat → Nat} {ln : Launch} (O : mO X ad R_Le b_Le_giveRun 3 (mR 3 65) ln) (r' : Int32) (h' : mH) (hE : mEnd X ad (some .boolean) (some (.int r')) h') (n0 : Nat) (h0 : mH) (a0 : Nat) (x1 : Int32) (hf : f_Le_giveRun n0 h0 a0 x1 = some (r', h')) : mAW X ad 0 0 0 [(0, .ref a0), (1, .int x1)] [] h0 := by
  unfold f_Le_giveRun at hf
  refine ax_aload_n O d_Le_giveRun_0 rfl 0 rfl ?_
  obtain ⟨fh3, ch3, hf⟩ := mis_some hf
  obtain ⟨v2, h3, mh3, hf⟩ := mcl_some hf
  refine ax_callV (As := []) (rest := []) O cw_Pa_nextByte (q := (R_Pa, T_Pa, 7)) rfl rfl in_Pa_nextByte se_Pa_nextByte lk_Le_10 ch3 (c_Pa_nextByte mh3) rfl ⟨rfl, rfl⟩ (by decide) (by decide) (Nat.le_of_ble_eq_true rfl) d_Le_giveRun_1 ?_
  refine ax_istore_n (lv' := [(2, .int v2), (0, .ref a0), (1, .int x1)]) O d_Le_giveRun_4 rfl (by decide) rfl ?_
  refine ax_iload_n O d_Le_giveRun_5 rfl 0 rfl ?_
  refine ax_iconst (v := (-1)) O d_Le_giveRun_6 (by decide) ?_
  refine ax_icmp_eq (tgt := 23) O d_Le_giveRun_7 (by decide) (fun q4 => ?_) (fun q4 => ?_)
  · rw [if_pos q4] at hf
    refine ax_iconst (v := 0) O d_Le_giveRun_23 (by decide) ?_
    exact ax_retE O hE hf rfl d_Le_giveRun_24
  · rw [if_neg q4] at hf
    refine ax_aload_n O d_Le_giveRun_10 rfl 1 rfl ?_
    refine ax_iload_n O d_Le_giveRun_11 rfl 0 rfl ?_
    refine ax_iload_n O d_Le_giveRun_12 rfl 2 rfl ?_
    obtain ⟨fh7, ch7, hf⟩ := mis_some hf
    obtain ⟨v6, h7, mh7, hf⟩ := mcl_some hf
    refine ax_callV (As := [.int v2, .int x1]) (rest := []) O cw_Pa_giveTimes (q := (R_Pa, T_Pa, 7)) rfl rfl in_Pa_giveTimes se_Pa_giveTimes lk_Le_26 ch7 (c_Pa_giveTimes mh7) rfl ⟨rfl, rfl⟩ (by decide) (by decide) (Nat.le_of_ble_eq_true rfl) d_Le_giveRun_13 ?_
    refine ax_if_eq (tgt := 23) O d_Le_giveRun_16 (by decide) (fun q8 => ?_) (fun q8 => ?_)
    · rw [if_pos q8] at hf
      refine ax_iconst (v := 0) O d_Le_giveRun_23 (by decide) ?_
      exact ax_retE O hE hf rfl d_Le_giveRun_24
    · rw [if_neg q8] at hf
      refine ax_iconst (v := 1) O d_Le_giveRun_19 (by decide) ?_
      refine ax_goto (tgt := 24) O d_Le_giveRun_20 (by decide) ?_
      exact ax_retE O hE hf rfl d_Le_giveRun_24
theorem c_Le_giveRun {ln : Launch} {n0 : Nat} {h0 h' : mH} {a0 : Nat} {x1 : Int32} {r' : Int32} (hf : f_Le_giveRun n0 h0 a0 x1 = some (r', h')) : mMet ln y_Le_giveRun b_Le_giveRun 3 (some .boolean) (mR 3 65) [.ref a0, .int x1] h0 (some (.int r')) h' := mMet_of (by decide +kernel) (Nat.le_of_ble_eq_true rfl) (fun X ad O hE => cb_Le_giveRun O r' h' hE n0 h0 a0 x1 hf)
/-! ===== StreamFilters$Lengths.unpack(LStreamFilters$Pass;I)V ===== -/
theorem d_Le_unpack_0 : decode b_Le_unpack 0 = .ok (.iconst 1, 1) := by decide +kernel
theorem d_Le_unpack_1 : decode b_Le_unpack 1 = .ok (.istore_n 3, 1) := by decide +kernel
theorem d_Le_unpack_2 : decode b_Le_unpack 2 = .ok (.iconst 0, 1) := by decide +kernel
theorem d_Le_unpack_3 : decode b_Le_unpack 3 = .ok (.istore 4, 2) := by decide +kernel
theorem d_Le_unpack_5 : decode b_Le_unpack 5 = .ok (.iload 4, 2) := by decide +kernel
theorem d_Le_unpack_7 : decode b_Le_unpack 7 = .ok (.ldc 9, 2) := by decide +kernel
theorem d_Le_unpack_9 : decode b_Le_unpack 9 = .ok (.if_icmp .ge 64, 3) := by decide +kernel
theorem d_Le_unpack_12 : decode b_Le_unpack 12 = .ok (.iload_n 3, 1) := by decide +kernel
theorem d_Le_unpack_13 : decode b_Le_unpack 13 = .ok (.ifCond .eq 60, 3) := by decide +kernel
theorem d_Le_unpack_16 : decode b_Le_unpack 16 = .ok (.aload_n 1, 1) := by decide +kernel
theorem d_Le_unpack_17 : decode b_Le_unpack 17 = .ok (.invokevirtual 10, 3) := by decide +kernel
theorem d_Le_unpack_20 : decode b_Le_unpack 20 = .ok (.istore 5, 2) := by decide +kernel
theorem d_Le_unpack_22 : decode b_Le_unpack 22 = .ok (.iload 5, 2) := by decide +kernel
theorem d_Le_unpack_24 : decode b_Le_unpack 24 = .ok (.iconst (-1), 1) := by decide +kernel
theorem d_Le_unpack_25 : decode b_Le_unpack 25 = .ok (.if_icmp .eq 11, 3) := by decide +kernel
theorem d_Le_unpack_28 : decode b_Le_unpack 28 = .ok (.iload 5, 2) := by decide +kernel
theorem d_Le_unpack_30 : decode b_Le_unpack 30 = .ok (.sipush 128, 3) := by decide +kernel
theorem d_Le_unpack_33 : decode b_Le_unpack 33 = .ok (.if_icmp .ne 4, 3) := by decide +kernel
theorem d_Le_unpack_36 : decode b_Le_unpack 36 = .ok (.return_, 1) := by decide +kernel
theorem d_Le_unpack_37 : decode b_Le_unpack 37 = .ok (.iload 5, 2) := by decide +kernel
theorem d_Le_unpack_39 : decode b_Le_unpack 39 = .ok (.sipush 128, 3) := by decide +kernel
theorem d_Le_unpack_42 : decode b_Le_unpack 42 = .ok (.if_icmp .ge 14, 3) := by decide +kernel
theorem d_Le_unpack_45 : decode b_Le_unpack 45 = .ok (.aload_n 1, 1) := by decide +kernel
theorem d_Le_unpack_46 : decode b_Le_unpack 46 = .ok (.iload 5, 2) := by decide +kernel
theorem d_Le_unpack_48 : decode b_Le_unpack 48 = .ok (.iconst 1, 1) := by decide +kernel
theorem d_Le_unpack_49 : decode b_Le_unpack 49 = .ok (.iadd, 1) := by decide +kernel
theorem d_Le_unpack_50 : decode b_Le_unpack 50 = .ok (.invokevirtual 18, 3) := by decide +kernel
theorem d_Le_unpack_53 : decode b_Le_unpack 53 = .ok (.goto 13, 3) := by decide +kernel
theorem d_Le_unpack_56 : decode b_Le_unpack 56 = .ok (.aload_n 1, 1) := by decide +kernel
theorem d_Le_unpack_57 : decode b_Le_unpack 57 = .ok (.sipush 257, 3) := by decide +kernel
theorem d_Le_unpack_60 : decode b_Le_unpack 60 = .ok (.iload 5, 2) := by decide +kernel
theorem d_Le_unpack_62 : decode b_Le_unpack 62 = .ok (.isub, 1) := by decide +kernel
theorem d_Le_unpack_63 : decode b_Le_unpack 63 = .ok (.invokestatic 22, 3) := by decide +kernel
theorem d_Le_unpack_66 : decode b_Le_unpack 66 = .ok (.istore_n 3, 1) := by decide +kernel
theorem d_Le_unpack_67 : decode b_Le_unpack 67 = .ok (.iinc 4 1, 3) := by decide +kernel
theorem d_Le_unpack_70 : decode b_Le_unpack 70 = .ok (.goto (-65), 3) := by decide +kernel
theorem d_Le_unpack_73 : decode b_Le_unpack 73 = .ok (.return_, 1) := by decide +kernel
noncomputable def f_Le_unpack_L5  (n0 : Nat) : Nat → mH → Nat → Int32 → Int32 → Option (Unit × mH)
  | 0, _, _, _, _ => none
  | n + 1, h0, a1, x3, x4 =>
    if 1000000 ≤ x4 then
      some ((), h0)
    else
      if x3 = 0 then
        some ((), h0)
      else
        mis h0 a1 8 <|
        mcl (f_Pa_nextByte n0 h0 a1) fun v4 h5 =>
        if v4 = (-1) then
          some ((), h5)
        else
          if v4 = 128 then
            some ((), h5)
          else
            if 128 ≤ v4 then
              mcl (f_Le_giveRun n0 h5 a1 (257 - v4)) fun v10 h11 =>
              mnm (x4 + 1) fun v12 =>
              (f_Le_unpack_L5 n0 n) h11 a1 v10 v12
            else
              mis h5 a1 8 <|
              mcl (f_Pa_giveAsTheyAre n0 h5 a1 (v4 + 1)) fun v14 h15 =>
              mnm (x4 + 1) fun v16 =>
              (f_Le_unpack_L5 n0 n) h15 a1 v14 v16
noncomputable def f_Le_unpack  (n0 : Nat) (h0 : mH) (a0 : Nat) (a1 : Nat) (x2 : Int32) : Option (Unit × mH) :=
  f_Le_unpack_L5 n0 n0 h0 a1 1 0
set_option maxHeartbeats 4000000 in
set_option maxRecDepth 100000 in
theorem cb_Le_unpack_L5 {X : mX} {ad : Nat → Nat} {ln : Launch} (O : mO X ad R_Le b_Le_unpack 6 (mR 4 87) ln) (r' : Unit) (h' : mH) (hE : mEnd X ad none none h') (n0 : Nat) : ∀ (n : Nat) (h0 : mH) (a1 : Nat) (x3 : Int32) (x4 : Int32), f_Le_unpack_L5 n0 n h0 a1 x3 x4 = some (r', h') → mAW X ad 0 0 5 [(1, .ref a1), (3, .int x3), (4, .int x4)] [] h0 := by
  intro n
  induction n with
  | zero =>
    intro h0 a1 x3 x4 hf
    rw [f_Le_unpack_L5.eq_1] at hf
    cases hf
  | succ n ih =>
    intro h0 a1 x3 x4 hf
    rw [f_Le_unpack_L5.eq_2] at hf
    refine ax_iload O d_Le_unpack_5 2 rfl ?_
    refine ax_ldc (v := 1000000) O d_Le_unpack_7 wd_31 ?_
    refine ax_icmp_ge (tgt := 73) O d_Le_unpack_9 (by decide) (fun q1 => ?_) (fun q1 => ?_)
    · rw [if_pos q1] at hf
      exact ax_vretE O hE hf d_Le_unpack_73
    · rw [if_neg q1] at hf
      refine ax_iload_n O d_Le_unpack_12 rfl 1 rfl ?_
      refine ax_if_eq (tgt := 73) O d_Le_unpack_13 (by decide) (fun q2 => ?_) (fun q2 => ?_)
      · rw [if_pos q2] at hf
        exact ax_vretE O hE hf d_Le_unpack_73
      · rw [if_neg q2] at hf
        refine ax_aload_n O d_Le_unpack_16 rfl 0 rfl ?_
        obtain ⟨fh5, ch5, hf⟩ := mis_some hf
        obtain ⟨v4, h5, mh5, hf⟩ := mcl_some hf
        refine ax_callV (As := []) (rest := []) O cw_Pa_nextByte (q := (R_Pa, T_Pa, 7)) rfl rfl in_Pa_nextByte se_Pa_nextByte lk_Le_10 ch5 (c_Pa_nextByte mh5) rfl ⟨rfl, rfl⟩ (by decide) (by decide) (Nat.le_of_ble_eq_true rfl) d_Le_unpack_17 ?_
        refine ax_istore (lv' := [(5, .int v4), (1, .ref a1), (3, .int x3), (4, .int x4)]) O d_Le_unpack_20 (by decide) rfl ?_
        refine ax_iload O d_Le_unpack_22 0 rfl ?_
        refine ax_iconst (v := (-1)) O d_Le_unpack_24 (by decide) ?_
        refine ax_icmp_eq (tgt := 36) O d_Le_unpack_25 (by decide) (fun q6 => ?_) (fun q6 => ?_)
        · rw [if_pos q6] at hf
          exact ax_vretE O hE hf d_Le_unpack_36
        · rw [if_neg q6] at hf
          refine ax_iload O d_Le_unpack_28 0 rfl ?_
          refine ax_sipush (v := 128) O d_Le_unpack_30 (by decide) ?_
          refine ax_icmp_ne (tgt := 37) O d_Le_unpack_33 (by decide) (fun q7 => ?_) (fun q7 => ?_)
          · rw [if_neg q7] at hf
            refine ax_iload O d_Le_unpack_37 0 rfl ?_
            refine ax_sipush (v := 128) O d_Le_unpack_39 (by decide) ?_
            refine ax_icmp_ge (tgt := 56) O d_Le_unpack_42 (by decide) (fun q8 => ?_) (fun q8 => ?_)
            · rw [if_pos q8] at hf
              refine ax_aload_n O d_Le_unpack_56 rfl 1 rfl ?_
              refine ax_sipush (v := 257) O d_Le_unpack_57 (by decide) ?_
              refine ax_iload O d_Le_unpack_60 0 rfl ?_
              refine ax_isub O d_Le_unpack_62 ?_
              obtain ⟨v10, h11, mh11, hf⟩ := mcl_some hf
              refine ax_callS (As := [.ref a1, .int (257 - v4)]) (rest := []) O cw_Le_giveRun st_Le_giveRun lk_Le_22 (c_Le_giveRun mh11) rfl ⟨rfl, rfl⟩ (by decide) (by decide) (Nat.le_of_ble_eq_true rfl) d_Le_unpack_63 ?_
              refine ax_istore_n (lv' := [(3, .int v10), (5, .int v4), (1, .ref a1), (4, .int x4)]) O d_Le_unpack_66 rfl (by decide) rfl ?_
              obtain ⟨v12, ev12, hf⟩ := mnm_some hf
              refine ax_iinc (j := 3) (v := v12) (lv' := [(4, .int v12), (3, .int v10), (5, .int v4), (1, .ref a1)]) O d_Le_unpack_67 rfl (by rw [ev12]; rfl) (by decide) rfl ?_
              refine ax_goto (tgt := 5) O d_Le_unpack_70 (by decide) ?_
              refine ax_sub [3, 1, 0] rfl ?_
              exact ih _ _ _ _ hf
            · rw [if_neg q8] at hf
              refine ax_aload_n O d_Le_unpack_45 rfl 1 rfl ?_
              refine ax_iload O d_Le_unpack_46 0 rfl ?_
              refine ax_iconst (v := 1) O d_Le_unpack_48 (by decide) ?_
              refine ax_iadd O d_Le_unpack_49 ?_
              obtain ⟨fh15, ch15, hf⟩ := mis_some hf
              obtain ⟨v14, h15, mh15, hf⟩ := mcl_some hf
              refine ax_callV (As := [.int (v4 + 1)]) (rest := []) O cw_Pa_giveAsTheyAre (q := (R_Pa, T_Pa, 7)) rfl rfl in_Pa_giveAsTheyAre se_Pa_giveAsTheyAre lk_Le_18 ch15 (c_Pa_giveAsTheyAre mh15) rfl ⟨rfl, rfl⟩ (by decide) (by decide) (Nat.le_of_ble_eq_true rfl) d_Le_unpack_50 ?_
              refine ax_goto (tgt := 66) O d_Le_unpack_53 (by decide) ?_
              refine ax_istore_n (lv' := [(3, .int v14), (5, .int v4), (1, .ref a1), (4, .int x4)]) O d_Le_unpack_66 rfl (by decide) rfl ?_
              obtain ⟨v16, ev16, hf⟩ := mnm_some hf
              refine ax_iinc (j := 3) (v := v16) (lv' := [(4, .int v16), (3, .int v14), (5, .int v4), (1, .ref a1)]) O d_Le_unpack_67 rfl (by rw [ev16]; rfl) (by decide) rfl ?_
              refine ax_goto (tgt := 5) O d_Le_unpack_70 (by decide) ?_
              refine ax_sub [3, 1, 0] rfl ?_
              exact ih _ _ _ _ hf
          · rw [if_pos q7] at hf
            exact ax_vretE O hE hf d_Le_unpack_36
set_option maxHeartbeats 4000000 in
set_option maxRecDepth 100000 in
theorem cb_Le_unpack {X : mX} {ad : Nat → Nat} {ln : Launch} (O : mO X ad R_Le b_Le_unpack 6 (mR 4 87) ln) (r' : Unit) (h' : mH) (hE : mEnd X ad none none h') (n0 : Nat) (h0 : mH) (a0 : Nat) (a1 : Nat) (x2 : Int32) (hf : f_Le_unpack n0 h0 a0 a1 x2 = some (r', h')) : mAW X ad 0 0 0 [(0, .ref a0), (1, .ref a1), (2, .int x2)] [] h0 := by
  unfold f_Le_unpack at hf
  refine ax_iconst (v := 1) O d_Le_unpack_0 (by decide) ?_
  refine ax_istore_n (lv' := [(3, .int 1), (0, .ref a0), (1, .ref a1), (2, .int x2)]) O d_Le_unpack_1 rfl (by decide) rfl ?_
  refine ax_iconst (v := 0) O d_Le_unpack_2 (by decide) ?_
  refine ax_istore (lv' := [(4, .int 0), (3, .int 1), (0, .ref a0), (1, .ref a1), (2, .int x2)]) O d_Le_unpack_3 (by decide) rfl ?_
  refine ax_sub [3, 1, 0] rfl ?_
  exact cb_Le_unpack_L5 O _ _ hE n0 n0 _ _ _ _ hf
theorem c_Le_unpack {ln : Launch} {n0 : Nat} {h0 h' : mH} {a0 : Nat} {a1 : Nat} {x2 : Int32} {r' : Unit} (hf : f_Le_unpack n0 h0 a0 a1 x2 = some (r', h')) : mMet ln y_Le_unpack b_Le_unpack 6 none (mR 4 87) [.ref a0, .ref a1, .int x2] h0 none h' := mMet_of (by decide +kernel) (Nat.le_of_ble_eq_true rfl) (fun X ad O hE => cb_Le_unpack O r' h' hE n0 h0 a0 a1 x2 hf)
