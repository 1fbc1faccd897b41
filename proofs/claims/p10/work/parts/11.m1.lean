/-! ===== StreamFilters$Link.begin(II)V ===== -/
theorem d_Li_begin_0 : decode b_Li_begin 0 = .ok (.aload_n 0, 1) := by decide +kernel
theorem d_Li_begin_1 : decode b_Li_begin 1 = .ok (.iload_n 1, 1) := by decide +kernel
theorem d_Li_begin_2 : decode b_Li_begin 2 = .ok (.putfield 9, 3) := by decide +kernel
theorem d_Li_begin_5 : decode b_Li_begin 5 = .ok (.aload_n 0, 1) := by decide +kernel
theorem d_Li_begin_6 : decode b_Li_begin 6 = .ok (.iload_n 2, 1) := by decide +kernel
theorem d_Li_begin_7 : decode b_Li_begin 7 = .ok (.putfield 15, 3) := by decide +kernel
theorem d_Li_begin_10 : decode b_Li_begin 10 = .ok (.aload_n 0, 1) := by decide +kernel
theorem d_Li_begin_11 : decode b_Li_begin 11 = .ok (.iconst 1, 1) := by decide +kernel
theorem d_Li_begin_12 : decode b_Li_begin 12 = .ok (.putfield 18, 3) := by decide +kernel
theorem d_Li_begin_15 : decode b_Li_begin 15 = .ok (.return_, 1) := by decide +kernel
noncomputable def f_Li_begin  (n0 : Nat) (h0 : mH) (a0 : Nat) (x1 : Int32) (x2 : Int32) : Option (Unit × mH) :=
  mpt h0 a0 6 0 (.int x1) fun h1 =>
  mpt h1 a0 6 1 (.int x2) fun h2 =>
  mpt h2 a0 6 2 (.int 1) fun h3 =>
  some ((), h3)
set_option maxHeartbeats 4000000 in
set_option maxRecDepth 100000 in
theorem cb_Li_begin {X : mX} {ad : Nat → Nat} {ln : Launch} (O : mO X ad R_Li b_Li_begin 3 (mR 0 0) ln) (r' : Unit) (h' : mH) (hE : mEnd X ad none none h') (n0 : Nat) (h0 : mH) (a0 : Nat) (x1 : Int32) (x2 : Int32) (hf : f_Li_begin n0 h0 a0 x1 x2 = some (r', h')) : mAW X ad 0 0 0 [(0, .ref a0), (1, .int x1), (2, .int x2)] [] h0 := by
  unfold f_Li_begin at hf
  refine ax_aload_n O d_Li_begin_0 rfl 0 rfl ?_
  refine ax_iload_n O d_Li_begin_1 rfl 1 rfl ?_
  obtain ⟨fh1, h1, ch1, kh1, eh1, hf⟩ := mpt_some hf
  refine ax_put (v := .int x1) O fp_Li_9 ch1 kh1 eh1 rfl rfl d_Li_begin_2 ?_
  refine ax_aload_n O d_Li_begin_5 rfl 0 rfl ?_
  refine ax_iload_n O d_Li_begin_6 rfl 2 rfl ?_
  obtain ⟨fh2, h2, ch2, kh2, eh2, hf⟩ := mpt_some hf
  refine ax_put (v := .int x2) O fp_Li_15 ch2 kh2 eh2 rfl rfl d_Li_begin_7 ?_
  refine ax_aload_n O d_Li_begin_10 rfl 0 rfl ?_
  refine ax_iconst (v := 1) O d_Li_begin_11 (by decide) ?_
  obtain ⟨fh3, h3, ch3, kh3, eh3, hf⟩ := mpt_some hf
  refine ax_put (v := .int 1) O fp_Li_18 ch3 kh3 eh3 rfl rfl d_Li_begin_12 ?_
  exact ax_vretE O hE hf d_Li_begin_15
theorem c_Li_begin {ln : Launch} {n0 : Nat} {h0 h' : mH} {a0 : Nat} {x1 : Int32} {x2 : Int32} {r' : Unit} (hf : f_Li_begin n0 h0 a0 x1 x2 = some (r', h')) : mMet ln y_Li_begin b_Li_begin 3 none (mR 0 0) [.ref a0, .int x1, .int x2] h0 none h' := mMet_of (by decide +kernel) (Nat.le_of_ble_eq_true rfl) (fun X ad O hE => cb_Li_begin O r' h' hE n0 h0 a0 x1 x2 hf)
/-! ===== StreamFilters.isPredictor(I)Z ===== -/
theorem d_SF_isPredictor_0 : decode b_SF_isPredictor 0 = .ok (.iload_n 0, 1) := by decide +kernel
theorem d_SF_isPredictor_1 : decode b_SF_isPredictor 1 = .ok (.iconst 1, 1) := by decide +kernel
theorem d_SF_isPredictor_2 : decode b_SF_isPredictor 2 = .ok (.if_icmp .eq 20, 3) := by decide +kernel
theorem d_SF_isPredictor_5 : decode b_SF_isPredictor 5 = .ok (.iload_n 0, 1) := by decide +kernel
theorem d_SF_isPredictor_6 : decode b_SF_isPredictor 6 = .ok (.iconst 2, 1) := by decide +kernel
theorem d_SF_isPredictor_7 : decode b_SF_isPredictor 7 = .ok (.if_icmp .eq 15, 3) := by decide +kernel
theorem d_SF_isPredictor_10 : decode b_SF_isPredictor 10 = .ok (.iload_n 0, 1) := by decide +kernel
theorem d_SF_isPredictor_11 : decode b_SF_isPredictor 11 = .ok (.bipush 10, 2) := by decide +kernel
theorem d_SF_isPredictor_13 : decode b_SF_isPredictor 13 = .ok (.if_icmp .lt 13, 3) := by decide +kernel
theorem d_SF_isPredictor_16 : decode b_SF_isPredictor 16 = .ok (.iload_n 0, 1) := by decide +kernel
theorem d_SF_isPredictor_17 : decode b_SF_isPredictor 17 = .ok (.bipush 15, 2) := by decide +kernel
theorem d_SF_isPredictor_19 : decode b_SF_isPredictor 19 = .ok (.if_icmp .gt 7, 3) := by decide +kernel
theorem d_SF_isPredictor_22 : decode b_SF_isPredictor 22 = .ok (.iconst 1, 1) := by decide +kernel
theorem d_SF_isPredictor_23 : decode b_SF_isPredictor 23 = .ok (.goto 4, 3) := by decide +kernel
theorem d_SF_isPredictor_26 : decode b_SF_isPredictor 26 = .ok (.iconst 0, 1) := by decide +kernel
theorem d_SF_isPredictor_27 : decode b_SF_isPredictor 27 = .ok (.ireturn, 1) := by decide +kernel
noncomputable def f_SF_isPredictor  (n0 : Nat) (h0 : mH) (x0 : Int32) : Option (Int32 × mH) :=
  if x0 = 1 then
    some (1, h0)
  else
    if x0 = 2 then
      some (1, h0)
    else
      if x0 < 10 then
        some (0, h0)
      else
        if 15 < x0 then
          some (0, h0)
        else
          some (1, h0)
set_option maxHeartbeats 4000000 in
set_option maxRecDepth 100000 in
theorem cb_SF_isPredictor {X : mX} {ad : Nat → Nat} {ln : Launch} (O : mO X ad R_SF b_SF_isPredictor 1 (mR 0 0) ln) (r' : Int32) (h' : mH) (hE : mEnd X ad (some .boolean) (some (.int r')) h') (n0 : Nat) (h0 : mH) (x0 : Int32) (hf : f_SF_isPredictor n0 h0 x0 = some (r', h')) : mAW X ad 0 0 0 [(0, .int x0)] [] h0 := by
  unfold f_SF_isPredictor at hf
  refine ax_iload_n O d_SF_isPredictor_0 rfl 0 rfl ?_
  refine ax_iconst (v := 1) O d_SF_isPredictor_1 (by decide) ?_
  refine ax_icmp_eq (tgt := 22) O d_SF_isPredictor_2 (by decide) (fun q1 => ?_) (fun q1 => ?_)
  · rw [if_pos q1] at hf
    refine ax_iconst (v := 1) O d_SF_isPredictor_22 (by decide) ?_
    refine ax_goto (tgt := 27) O d_SF_isPredictor_23 (by decide) ?_
    exact ax_retE O hE hf rfl d_SF_isPredictor_27
  · rw [if_neg q1] at hf
    refine ax_iload_n O d_SF_isPredictor_5 rfl 0 rfl ?_
    refine ax_iconst (v := 2) O d_SF_isPredictor_6 (by decide) ?_
    refine ax_icmp_eq (tgt := 22) O d_SF_isPredictor_7 (by decide) (fun q2 => ?_) (fun q2 => ?_)
    · rw [if_pos q2] at hf
      refine ax_iconst (v := 1) O d_SF_isPredictor_22 (by decide) ?_
      refine ax_goto (tgt := 27) O d_SF_isPredictor_23 (by decide) ?_
      exact ax_retE O hE hf rfl d_SF_isPredictor_27
    · rw [if_neg q2] at hf
      refine ax_iload_n O d_SF_isPredictor_10 rfl 0 rfl ?_
      refine ax_bipush (v := 10) O d_SF_isPredictor_11 (by decide) ?_
      refine ax_icmp_lt (tgt := 26) O d_SF_isPredictor_13 (by decide) (fun q3 => ?_) (fun q3 => ?_)
      · rw [if_pos q3] at hf
        refine ax_iconst (v := 0) O d_SF_isPredictor_26 (by decide) ?_
        exact ax_retE O hE hf rfl d_SF_isPredictor_27
      · rw [if_neg q3] at hf
        refine ax_iload_n O d_SF_isPredictor_16 rfl 0 rfl ?_
        refine ax_bipush (v := 15) O d_SF_isPredictor_17 (by decide) ?_
        refine ax_icmp_gt (tgt := 26) O d_SF_isPredictor_19 (by decide) (fun q4 => ?_) (fun q4 => ?_)
        · rw [if_pos q4] at hf
          refine ax_iconst (v := 0) O d_SF_isPredictor_26 (by decide) ?_
          exact ax_retE O hE hf rfl d_SF_isPredictor_27
        · rw [if_neg q4] at hf
          refine ax_iconst (v := 1) O d_SF_isPredictor_22 (by decide) ?_
          refine ax_goto (tgt := 27) O d_SF_isPredictor_23 (by decide) ?_
          exact ax_retE O hE hf rfl d_SF_isPredictor_27
theorem c_SF_isPredictor {ln : Launch} {n0 : Nat} {h0 h' : mH} {x0 : Int32} {r' : Int32} (hf : f_SF_isPredictor n0 h0 x0 = some (r', h')) : mMet ln y_SF_isPredictor b_SF_isPredictor 1 (some .boolean) (mR 0 0) [.int x0] h0 (some (.int r')) h' := mMet_of (by decide +kernel) (Nat.le_of_ble_eq_true rfl) (fun X ad O hE => cb_SF_isPredictor O r' h' hE n0 h0 x0 hf)
/-! ===== StreamFilters.isBits(I)Z ===== -/
theorem d_SF_isBits_0 : decode b_SF_isBits 0 = .ok (.iload_n 0, 1) := by decide +kernel
theorem d_SF_isBits_1 : decode b_SF_isBits 1 = .ok (.iconst 1, 1) := by decide +kernel
theorem d_SF_isBits_2 : decode b_SF_isBits 2 = .ok (.if_icmp .eq 25, 3) := by decide +kernel
theorem d_SF_isBits_5 : decode b_SF_isBits 5 = .ok (.iload_n 0, 1) := by decide +kernel
theorem d_SF_isBits_6 : decode b_SF_isBits 6 = .ok (.iconst 2, 1) := by decide +kernel
theorem d_SF_isBits_7 : decode b_SF_isBits 7 = .ok (.if_icmp .eq 20, 3) := by decide +kernel
theorem d_SF_isBits_10 : decode b_SF_isBits 10 = .ok (.iload_n 0, 1) := by decide +kernel
theorem d_SF_isBits_11 : decode b_SF_isBits 11 = .ok (.iconst 4, 1) := by decide +kernel
theorem d_SF_isBits_12 : decode b_SF_isBits 12 = .ok (.if_icmp .eq 15, 3) := by decide +kernel
theorem d_SF_isBits_15 : decode b_SF_isBits 15 = .ok (.iload_n 0, 1) := by decide +kernel
theorem d_SF_isBits_16 : decode b_SF_isBits 16 = .ok (.bipush 8, 2) := by decide +kernel
theorem d_SF_isBits_18 : decode b_SF_isBits 18 = .ok (.if_icmp .eq 9, 3) := by decide +kernel
theorem d_SF_isBits_21 : decode b_SF_isBits 21 = .ok (.iload_n 0, 1) := by decide +kernel
theorem d_SF_isBits_22 : decode b_SF_isBits 22 = .ok (.bipush 16, 2) := by decide +kernel
theorem d_SF_isBits_24 : decode b_SF_isBits 24 = .ok (.if_icmp .ne 7, 3) := by decide +kernel
theorem d_SF_isBits_27 : decode b_SF_isBits 27 = .ok (.iconst 1, 1) := by decide +kernel
theorem d_SF_isBits_28 : decode b_SF_isBits 28 = .ok (.goto 4, 3) := by decide +kernel
theorem d_SF_isBits_31 : decode b_SF_isBits 31 = .ok (.iconst 0, 1) := by decide +kernel
theorem d_SF_isBits_32 : decode b_SF_isBits 32 = .ok (.ireturn, 1) := by decide +kernel
noncomputable def f_SF_isBits  (n0 : Nat) (h0 : mH) (x0 : Int32) : Option (Int32 × mH) :=
  if x0 = 1 then
    some (1, h0)
  else
    if x0 = 2 then
      some (1, h0)
    else
      if x0 = 4 then
        some (1, h0)
      else
        if x0 = 8 then
          some (1, h0)
        else
          if x0 = 16 then
            some (1, h0)
          else
            some (0, h0)
set_option maxHeartbeats 4000000 in
set_option maxRecDepth 100000 in
theorem cb_SF_isBits {X : mX} {ad : Nat → Nat} {ln : Launch} (O : mO X ad R_SF b_SF_isBits 1 (mR 0 0) ln) (r' : Int32) (h' : mH) (hE : mEnd X ad (some .boolean) (some (.int r')) h') (n0 : Nat) (h0 : mH) (x0 : Int32) (hf : f_SF_isBits n0 h0 x0 = some (r', h')) : mAW X ad 0 0 0 [(0, .int x0)] [] h0 := by
  unfold f_SF_isBits at hf
  refine ax_iload_n O d_SF_isBits_0 rfl 0 rfl ?_
  refine ax_iconst (v := 1) O d_SF_isBits_1 (by decide) ?_
  refine ax_icmp_eq (tgt := 27) O d_SF_isBits_2 (by decide) (fun q1 => ?_) (fun q1 => ?_)
  · rw [if_pos q1] at hf
    refine ax_iconst (v := 1) O d_SF_isBits_27 (by decide) ?_
    refine ax_goto (tgt := 32) O d_SF_isBits_28 (by decide) ?_
    exact ax_retE O hE hf rfl d_SF_isBits_32
  · rw [if_neg q1] at hf
    refine ax_iload_n O d_SF_isBits_5 rfl 0 rfl ?_
    refine ax_iconst (v := 2) O d_SF_isBits_6 (by decide) ?_
    refine ax_icmp_eq (tgt := 27) O d_SF_isBits_7 (by decide) (fun q2 => ?_) (fun q2 => ?_)
    · rw [if_pos q2] at hf
      refine ax_iconst (v := 1) O d_SF_isBits_27 (by decide) ?_
      refine ax_goto (tgt := 32) O d_SF_isBits_28 (by decide) ?_
      exact ax_retE O hE hf rfl d_SF_isBits_32
    · rw [if_neg q2] at hf
      refine ax_iload_n O d_SF_isBits_10 rfl 0 rfl ?_
      refine ax_iconst (v := 4) O d_SF_isBits_11 (by decide) ?_
      refine ax_icmp_eq (tgt := 27) O d_SF_isBits_12 (by decide) (fun q3 => ?_) (fun q3 => ?_)
      · rw [if_pos q3] at hf
        refine ax_iconst (v := 1) O d_SF_isBits_27 (by decide) ?_
        refine ax_goto (tgt := 32) O d_SF_isBits_28 (by decide) ?_
        exact ax_retE O hE hf rfl d_SF_isBits_32
      · rw [if_neg q3] at hf
        refine ax_iload_n O d_SF_isBits_15 rfl 0 rfl ?_
        refine ax_bipush (v := 8) O d_SF_isBits_16 (by decide) ?_
        refine ax_icmp_eq (tgt := 27) O d_SF_isBits_18 (by decide) (fun q4 => ?_) (fun q4 => ?_)
        · rw [if_pos q4] at hf
          refine ax_iconst (v := 1) O d_SF_isBits_27 (by decide) ?_
          refine ax_goto (tgt := 32) O d_SF_isBits_28 (by decide) ?_
          exact ax_retE O hE hf rfl d_SF_isBits_32
        · rw [if_neg q4] at hf
          refine ax_iload_n O d_SF_isBits_21 rfl 0 rfl ?_
          refine ax_bipush (v := 16) O d_SF_isBits_22 (by decide) ?_
          refine ax_icmp_ne (tgt := 31) O d_SF_isBits_24 (by decide) (fun q5 => ?_) (fun q5 => ?_)
          · rw [if_neg q5] at hf
            refine ax_iconst (v := 0) O d_SF_isBits_31 (by decide) ?_
            exact ax_retE O hE hf rfl d_SF_isBits_32
          · rw [if_pos q5] at hf
            refine ax_iconst (v := 1) O d_SF_isBits_27 (by decide) ?_
            refine ax_goto (tgt := 32) O d_SF_isBits_28 (by decide) ?_
            exact ax_retE O hE hf rfl d_SF_isBits_32
theorem c_SF_isBits {ln : Launch} {n0 : Nat} {h0 h' : mH} {x0 : Int32} {r' : Int32} (hf : f_SF_isBits n0 h0 x0 = some (r', h')) : mMet ln y_SF_isBits b_SF_isBits 1 (some .boolean) (mR 0 0) [.int x0] h0 (some (.int r')) h' := mMet_of (by decide +kernel) (Nat.le_of_ble_eq_true rfl) (fun X ad O hE => cb_SF_isBits O r' h' hE n0 h0 x0 hf)
/-! ===== StreamFilters$Link.shape(IIII)V ===== -/
theorem d_Li_shape_0 : decode b_Li_shape 0 = .ok (.aload_n 0, 1) := by decide +kernel
theorem d_Li_shape_1 : decode b_Li_shape 1 = .ok (.iload_n 1, 1) := by decide +kernel
theorem d_Li_shape_2 : decode b_Li_shape 2 = .ok (.putfield 18, 3) := by decide +kernel
theorem d_Li_shape_5 : decode b_Li_shape 5 = .ok (.aload_n 0, 1) := by decide +kernel
theorem d_Li_shape_6 : decode b_Li_shape 6 = .ok (.iload_n 2, 1) := by decide +kernel
theorem d_Li_shape_7 : decode b_Li_shape 7 = .ok (.putfield 21, 3) := by decide +kernel
theorem d_Li_shape_10 : decode b_Li_shape 10 = .ok (.aload_n 0, 1) := by decide +kernel
theorem d_Li_shape_11 : decode b_Li_shape 11 = .ok (.iload_n 3, 1) := by decide +kernel
theorem d_Li_shape_12 : decode b_Li_shape 12 = .ok (.putfield 24, 3) := by decide +kernel
theorem d_Li_shape_15 : decode b_Li_shape 15 = .ok (.aload_n 0, 1) := by decide +kernel
theorem d_Li_shape_16 : decode b_Li_shape 16 = .ok (.iload 4, 2) := by decide +kernel
theorem d_Li_shape_18 : decode b_Li_shape 18 = .ok (.putfield 27, 3) := by decide +kernel
theorem d_Li_shape_21 : decode b_Li_shape 21 = .ok (.return_, 1) := by decide +kernel
noncomputable def f_Li_shape  (n0 : Nat) (h0 : mH) (a0 : Nat) (x1 : Int32) (x2 : Int32) (x3 : Int32) (x4 : Int32) : Option (Unit × mH) :=
  mpt h0 a0 6 2 (.int x1) fun h1 =>
  mpt h1 a0 6 3 (.int x2) fun h2 =>
  mpt h2 a0 6 4 (.int x3) fun h3 =>
  mpt h3 a0 6 5 (.int x4) fun h4 =>
  some ((), h4)
set_option maxHeartbeats 4000000 in
set_option maxRecDepth 100000 in
theorem cb_Li_shape {X : mX} {ad : Nat → Nat} {ln : Launch} (O : mO X ad R_Li b_Li_shape 5 (mR 0 0) ln) (r' : Unit) (h' : mH) (hE : mEnd X ad none none h') (n0 : Nat) (h0 : mH) (a0 : Nat) (x1 : Int32) (x2 : Int32) (x3 : Int32) (x4 : Int32) (hf : f_Li_shape n0 h0 a0 x1 x2 x3 x4 = some (r', h')) : mAW X ad 0 0 0 [(0, .ref a0), (1, .int x1), (2, .int x2), (3, .int x3), (4, .int x4)] [] h0 := by
  unfold f_Li_shape at hf
  refine ax_aload_n O d_Li_shape_0 rfl 0 rfl ?_
  refine ax_iload_n O d_Li_shape_1 rfl 1 rfl ?_
  obtain ⟨fh1, h1, ch1, kh1, eh1, hf⟩ := mpt_some hf
  refine ax_put (v := .int x1) O fp_Li_18 ch1 kh1 eh1 rfl rfl d_Li_shape_2 ?_
  refine ax_aload_n O d_Li_shape_5 rfl 0 rfl ?_
  refine ax_iload_n O d_Li_shape_6 rfl 2 rfl ?_
  obtain ⟨fh2, h2, ch2, kh2, eh2, hf⟩ := mpt_some hf
  refine ax_put (v := .int x2) O fp_Li_21 ch2 kh2 eh2 rfl rfl d_Li_shape_7 ?_
  refine ax_aload_n O d_Li_shape_10 rfl 0 rfl ?_
  refine ax_iload_n O d_Li_shape_11 rfl 3 rfl ?_
  obtain ⟨fh3, h3, ch3, kh3, eh3, hf⟩ := mpt_some hf
  refine ax_put (v := .int x3) O fp_Li_24 ch3 kh3 eh3 rfl rfl d_Li_shape_12 ?_
  refine ax_aload_n O d_Li_shape_15 rfl 0 rfl ?_
  refine ax_iload O d_Li_shape_16 4 rfl ?_
  obtain ⟨fh4, h4, ch4, kh4, eh4, hf⟩ := mpt_some hf
  refine ax_put (v := .int x4) O fp_Li_27 ch4 kh4 eh4 rfl rfl d_Li_shape_18 ?_
  exact ax_vretE O hE hf d_Li_shape_21
theorem c_Li_shape {ln : Launch} {n0 : Nat} {h0 h' : mH} {a0 : Nat} {x1 : Int32} {x2 : Int32} {x3 : Int32} {x4 : Int32} {r' : Unit} (hf : f_Li_shape n0 h0 a0 x1 x2 x3 x4 = some (r', h')) : mMet ln y_Li_shape b_Li_shape 5 none (mR 0 0) [.ref a0, .int x1, .int x2, .int x3, .int x4] h0 none h' := mMet_of (by decide +kernel) (Nat.le_of_ble_eq_true rfl) (fun X ad O hE => cb_Li_shape O r' h' hE n0 h0 a0 x1 x2 x3 x4 hf)
/-! ===== StreamFilters.drop()I ===== -/
theorem d_SF_drop_0 : decode b_SF_drop 0 = .ok (.aload_n 0, 1) := by decide +kernel
theorem d_SF_drop_1 : decode b_SF_drop 1 = .ok (.getfield 24, 3) := by decide +kernel
theorem d_SF_drop_4 : decode b_SF_drop 4 = .ok (.istore_n 1, 1) := by decide +kernel
theorem d_SF_drop_5 : decode b_SF_drop 5 = .ok (.aload_n 0, 1) := by decide +kernel
theorem d_SF_drop_6 : decode b_SF_drop 6 = .ok (.iconst 0, 1) := by decide +kernel
theorem d_SF_drop_7 : decode b_SF_drop 7 = .ok (.putfield 24, 3) := by decide +kernel
theorem d_SF_drop_10 : decode b_SF_drop 10 = .ok (.iload_n 1, 1) := by decide +kernel
theorem d_SF_drop_11 : decode b_SF_drop 11 = .ok (.ireturn, 1) := by decide +kernel
noncomputable def f_SF_drop  (n0 : Nat) (h0 : mH) (a0 : Nat) : Option (Int32 × mH) :=
  mgi h0 a0 0 2 fun v1 =>
  mpt h0 a0 0 2 (.int 0) fun h2 =>
  some (v1, h2)
set_option maxHeartbeats 4000000 in
set_option maxRecDepth 100000 in
theorem cb_SF_drop {X : mX} {ad : Nat → Nat} {ln : Launch} (O : mO X ad R_SF b_SF_drop 2 (mR 0 0) ln) (r' : Int32) (h' : mH) (hE : mEnd X ad (some .int) (some (.int r')) h') (n0 : Nat) (h0 : mH) (a0 : Nat) (hf : f_SF_drop n0 h0 a0 = some (r', h')) : mAW X ad 0 0 0 [(0, .ref a0)] [] h0 := by
  unfold f_SF_drop at hf
  refine ax_aload_n O d_SF_drop_0 rfl 0 rfl ?_
  obtain ⟨fv1, v1, cv1, kv1, hf⟩ := mgi_some hf
  refine ax_get O fg_SF_24 cv1 kv1 d_SF_drop_1 ?_
  refine ax_istore_n (lv' := [(1, .int v1), (0, .ref a0)]) O d_SF_drop_4 rfl (by decide) rfl ?_
  refine ax_aload_n O d_SF_drop_5 rfl 1 rfl ?_
  refine ax_iconst (v := 0) O d_SF_drop_6 (by decide) ?_
  obtain ⟨fh2, h2, ch2, kh2, eh2, hf⟩ := mpt_some hf
  refine ax_put (v := .int 0) O fp_SF_24 ch2 kh2 eh2 rfl rfl d_SF_drop_7 ?_
  refine ax_iload_n O d_SF_drop_10 rfl 0 rfl ?_
  exact ax_retE O hE hf rfl d_SF_drop_11
theorem c_SF_drop {ln : Launch} {n0 : Nat} {h0 h' : mH} {a0 : Nat} {r' : Int32} (hf : f_SF_drop n0 h0 a0 = some (r', h')) : mMet ln y_SF_drop b_SF_drop 2 (some .int) (mR 0 0) [.ref a0] h0 (some (.int r')) h' := mMet_of (by decide +kernel) (Nat.le_of_ble_eq_true rfl) (fun X ad O hE => cb_SF_drop O r' h' hE n0 h0 a0 hf)
/-! ===== StreamFilters.noteFault(III)V ===== -/
theorem d_SF_noteFault_0 : decode b_SF_noteFault 0 = .ok (.aload_n 0, 1) := by decide +kernel
theorem d_SF_noteFault_1 : decode b_SF_noteFault 1 = .ok (.iload_n 1, 1) := by decide +kernel
theorem d_SF_noteFault_2 : decode b_SF_noteFault 2 = .ok (.putfield 87, 3) := by decide +kernel
theorem d_SF_noteFault_5 : decode b_SF_noteFault 5 = .ok (.aload_n 0, 1) := by decide +kernel
theorem d_SF_noteFault_6 : decode b_SF_noteFault 6 = .ok (.iload_n 2, 1) := by decide +kernel
theorem d_SF_noteFault_7 : decode b_SF_noteFault 7 = .ok (.putfield 90, 3) := by decide +kernel
theorem d_SF_noteFault_10 : decode b_SF_noteFault 10 = .ok (.aload_n 0, 1) := by decide +kernel
theorem d_SF_noteFault_11 : decode b_SF_noteFault 11 = .ok (.iload_n 3, 1) := by decide +kernel
theorem d_SF_noteFault_12 : decode b_SF_noteFault 12 = .ok (.putfield 93, 3) := by decide +kernel
theorem d_SF_noteFault_15 : decode b_SF_noteFault 15 = .ok (.return_, 1) := by decide +kernel
noncomputable def f_SF_noteFault  (n0 : Nat) (h0 : mH) (a0 : Nat) (x1 : Int32) (x2 : Int32) (x3 : Int32) : Option (Unit × mH) :=
  mpt h0 a0 0 14 (.int x1) fun h1 =>
  mpt h1 a0 0 15 (.int x2) fun h2 =>
  mpt h2 a0 0 16 (.int x3) fun h3 =>
  some ((), h3)
set_option maxHeartbeats 4000000 in
set_option maxRecDepth 100000 in
theorem cb_SF_noteFault {X : mX} {ad : Nat → Nat} {ln : Launch} (O : mO X ad R_SF b_SF_noteFault 4 (mR 0 0) ln) (r' : Unit) (h' : mH) (hE : mEnd X ad none none h') (n0 : Nat) (h0 : mH) (a0 : Nat) (x1 : Int32) (x2 : Int32) (x3 : Int32) (hf : f_SF_noteFault n0 h0 a0 x1 x2 x3 = some (r', h')) : mAW X ad 0 0 0 [(0, .ref a0), (1, .int x1), (2, .int x2), (3, .int x3)] [] h0 := by
  unfold f_SF_noteFault at hf
  refine ax_aload_n O d_SF_noteFault_0 rfl 0 rfl ?_
  refine ax_iload_n O d_SF_noteFault_1 rfl 1 rfl ?_
  obtain ⟨fh1, h1, ch1, kh1, eh1, hf⟩ := mpt_some hf
  refine ax_put (v := .int x1) O fp_SF_87 ch1 kh1 eh1 rfl rfl d_SF_noteFault_2 ?_
  refine ax_aload_n O d_SF_noteFault_5 rfl 0 rfl ?_
  refine ax_iload_n O d_SF_noteFault_6 rfl 2 rfl ?_
  obtain ⟨fh2, h2, ch2, kh2, eh2, hf⟩ := mpt_some hf
  refine ax_put (v := .int x2) O fp_SF_90 ch2 kh2 eh2 rfl rfl d_SF_noteFault_7 ?_
  refine ax_aload_n O d_SF_noteFault_10 rfl 0 rfl ?_
  refine ax_iload_n O d_SF_noteFault_11 rfl 3 rfl ?_
  obtain ⟨fh3, h3, ch3, kh3, eh3, hf⟩ := mpt_some hf
  refine ax_put (v := .int x3) O fp_SF_93 ch3 kh3 eh3 rfl rfl d_SF_noteFault_12 ?_
  exact ax_vretE O hE hf d_SF_noteFault_15
theorem c_SF_noteFault {ln : Launch} {n0 : Nat} {h0 h' : mH} {a0 : Nat} {x1 : Int32} {x2 : Int32} {x3 : Int32} {r' : Unit} (hf : f_SF_noteFault n0 h0 a0 x1 x2 x3 = some (r', h')) : mMet ln y_SF_noteFault b_SF_noteFault 4 none (mR 0 0) [.ref a0, .int x1, .int x2, .int x3] h0 none h' := mMet_of (by decide +kernel) (Nat.le_of_ble_eq_true rfl) (fun X ad O hE => cb_SF_noteFault O r' h' hE n0 h0 a0 x1 x2 x3 hf)
/-! ===== StreamFilters$Bytes.become(LStreamFilters$Bytes;)V ===== -/
theorem d_By_become_0 : decode b_By_become 0 = .ok (.aload_n 0, 1) := by decide +kernel
theorem d_By_become_1 : decode b_By_become 1 = .ok (.aload_n 1, 1) := by decide +kernel
theorem d_By_become_2 : decode b_By_become 2 = .ok (.getfield 7, 3) := by decide +kernel
theorem d_By_become_5 : decode b_By_become 5 = .ok (.aload_n 0, 1) := by decide +kernel
theorem d_By_become_6 : decode b_By_become 6 = .ok (.getfield 19, 3) := by decide +kernel
theorem d_By_become_9 : decode b_By_become 9 = .ok (.arraylength, 1) := by decide +kernel
theorem d_By_become_10 : decode b_By_become 10 = .ok (.invokestatic 27, 3) := by decide +kernel
theorem d_By_become_13 : decode b_By_become 13 = .ok (.putfield 7, 3) := by decide +kernel
theorem d_By_become_16 : decode b_By_become 16 = .ok (.aload_n 1, 1) := by decide +kernel
theorem d_By_become_17 : decode b_By_become 17 = .ok (.getfield 19, 3) := by decide +kernel
theorem d_By_become_20 : decode b_By_become 20 = .ok (.iconst 0, 1) := by decide +kernel
theorem d_By_become_21 : decode b_By_become 21 = .ok (.aload_n 0, 1) := by decide +kernel
theorem d_By_become_22 : decode b_By_become 22 = .ok (.getfield 19, 3) := by decide +kernel
theorem d_By_become_25 : decode b_By_become 25 = .ok (.iconst 0, 1) := by decide +kernel
theorem d_By_become_26 : decode b_By_become 26 = .ok (.aload_n 0, 1) := by decide +kernel
theorem d_By_become_27 : decode b_By_become 27 = .ok (.getfield 7, 3) := by decide +kernel
theorem d_By_become_30 : decode b_By_become 30 = .ok (.invokestatic 30, 3) := by decide +kernel
theorem d_By_become_33 : decode b_By_become 33 = .ok (.return_, 1) := by decide +kernel
noncomputable def f_By_become  (n0 : Nat) (h0 : mH) (a0 : Nat) (a1 : Nat) : Option (Unit × mH) :=
  mgi h0 a1 1 1 fun v1 =>
  mgr h0 a0 1 0 fun r2 =>
  mln h0 r2 .byte fun v3 =>
  mnm (if v3 < v1 then v3 else v1) fun v4 =>
  mpt h0 a0 1 1 (.int v4) fun h5 =>
  mgr h5 a1 1 0 fun r6 =>
  mgr h5 a0 1 0 fun r7 =>
  mgi h5 a0 1 1 fun v8 =>
  mac h5 .byte r6 0 r7 0 v8 fun h9 =>
  some ((), h9)
set_option maxHeartbeats 4000000 in
set_option maxRecDepth 100000 in
theorem cb_By_become {X : mX} {ad : Nat → Nat} {ln : Launch} (O : mO X ad R_By b_By_become 2 (mR 1 40) ln) (r' : Unit) (h' : mH) (hE : mEnd X ad none none h') (n0 : Nat) (h0 : mH) (a0 : Nat) (a1 : Nat) (hf : f_By_become n0 h0 a0 a1 = some (r', h')) : mAW X ad 0 0 0 [(0, .ref a0), (1, .ref a1)] [] h0 := by
  unfold f_By_become at hf
  refine ax_aload_n O d_By_become_0 rfl 0 rfl ?_
  refine ax_aload_n O d_By_become_1 rfl 1 rfl ?_
  obtain ⟨fv1, v1, cv1, kv1, hf⟩ := mgi_some hf
  refine ax_get O fg_By_7 cv1 kv1 d_By_become_2 ?_
  refine ax_aload_n O d_By_become_5 rfl 0 rfl ?_
  obtain ⟨fr2, r2, cr2, kr2, hf⟩ := mgr_some hf
  refine ax_get O fg_By_19 cr2 kr2 d_By_become_6 ?_
  obtain ⟨xv3, v3, cv3, kv3, hf⟩ := mln_some hf
  refine ax_alen O (by decide) cv3 kv3 d_By_become_9 ?_
  obtain ⟨v4, ev4, hf⟩ := mnm_some hf
  refine ax_mmin O wd_2 (by decide) (Nat.le_of_ble_eq_true rfl) d_By_become_10 ?_
  refine ax_nmi ev4 ?_
  obtain ⟨fh5, h5, ch5, kh5, eh5, hf⟩ := mpt_some hf
  refine ax_put (v := .int v4) O fp_By_7 ch5 kh5 eh5 rfl rfl d_By_become_13 ?_
  refine ax_aload_n O d_By_become_16 rfl 1 rfl ?_
  obtain ⟨fr6, r6, cr6, kr6, hf⟩ := mgr_some hf
  refine ax_get O fg_By_19 cr6 kr6 d_By_become_17 ?_
  refine ax_iconst (v := 0) O d_By_become_20 (by decide) ?_
  refine ax_aload_n O d_By_become_21 rfl 0 rfl ?_
  obtain ⟨fr7, r7, cr7, kr7, hf⟩ := mgr_some hf
  refine ax_get O fg_By_19 cr7 kr7 d_By_become_22 ?_
  refine ax_iconst (v := 0) O d_By_become_25 (by decide) ?_
  refine ax_aload_n O d_By_become_26 rfl 0 rfl ?_
  obtain ⟨fv8, v8, cv8, kv8, hf⟩ := mgi_some hf
  refine ax_get O fg_By_7 cv8 kv8 d_By_become_27 ?_
  obtain ⟨h9, mh9, hf⟩ := mac_some hf
  refine ax_copy O wd_3 (by decide) (by decide) (Nat.le_of_ble_eq_true rfl) mh9 d_By_become_30 ?_
  exact ax_vretE O hE hf d_By_become_33
theorem c_By_become {ln : Launch} {n0 : Nat} {h0 h' : mH} {a0 : Nat} {a1 : Nat} {r' : Unit} (hf : f_By_become n0 h0 a0 a1 = some (r', h')) : mMet ln y_By_become b_By_become 2 none (mR 1 40) [.ref a0, .ref a1] h0 none h' := mMet_of (by decide +kernel) (Nat.le_of_ble_eq_true rfl) (fun X ad O hE => cb_By_become O r' h' hE n0 h0 a0 a1 hf)
/-! ===== StreamFilters$Pass.begin(LStreamFilters$Bytes;LStreamFilters$Bytes;)V ===== -/
theorem d_Pa_begin_0 : decode b_Pa_begin 0 = .ok (.aload_n 0, 1) := by decide +kernel
theorem d_Pa_begin_1 : decode b_Pa_begin 1 = .ok (.aload_n 1, 1) := by decide +kernel
theorem d_Pa_begin_2 : decode b_Pa_begin 2 = .ok (.putfield 14, 3) := by decide +kernel
theorem d_Pa_begin_5 : decode b_Pa_begin 5 = .ok (.aload_n 0, 1) := by decide +kernel
theorem d_Pa_begin_6 : decode b_Pa_begin 6 = .ok (.aload_n 2, 1) := by decide +kernel
theorem d_Pa_begin_7 : decode b_Pa_begin 7 = .ok (.putfield 20, 3) := by decide +kernel
theorem d_Pa_begin_10 : decode b_Pa_begin 10 = .ok (.aload_n 0, 1) := by decide +kernel
theorem d_Pa_begin_11 : decode b_Pa_begin 11 = .ok (.getfield 20, 3) := by decide +kernel
theorem d_Pa_begin_14 : decode b_Pa_begin 14 = .ok (.iconst 0, 1) := by decide +kernel
theorem d_Pa_begin_15 : decode b_Pa_begin 15 = .ok (.putfield 39, 3) := by decide +kernel
theorem d_Pa_begin_18 : decode b_Pa_begin 18 = .ok (.aload_n 0, 1) := by decide +kernel
theorem d_Pa_begin_19 : decode b_Pa_begin 19 = .ok (.iconst 0, 1) := by decide +kernel
theorem d_Pa_begin_20 : decode b_Pa_begin 20 = .ok (.putfield 23, 3) := by decide +kernel
theorem d_Pa_begin_23 : decode b_Pa_begin 23 = .ok (.aload_n 0, 1) := by decide +kernel
theorem d_Pa_begin_24 : decode b_Pa_begin 24 = .ok (.iconst 0, 1) := by decide +kernel
theorem d_Pa_begin_25 : decode b_Pa_begin 25 = .ok (.putfield 30, 3) := by decide +kernel
theorem d_Pa_begin_28 : decode b_Pa_begin 28 = .ok (.aload_n 0, 1) := by decide +kernel
theorem d_Pa_begin_29 : decode b_Pa_begin 29 = .ok (.iconst (-1), 1) := by decide +kernel
theorem d_Pa_begin_30 : decode b_Pa_begin 30 = .ok (.putfield 33, 3) := by decide +kernel
theorem d_Pa_begin_33 : decode b_Pa_begin 33 = .ok (.return_, 1) := by decide +kernel
noncomputable def f_Pa_begin  (n0 : Nat) (h0 : mH) (a0 : Nat) (a1 : Nat) (a2 : Nat) : Option (Unit × mH) :=
  mpt h0 a0 8 0 (.ref a1) fun h1 =>
  mpt h1 a0 8 1 (.ref a2) fun h2 =>
  mgr h2 a0 8 1 fun r3 =>
  mpt h2 r3 1 1 (.int 0) fun h4 =>
  mpt h4 a0 8 2 (.int 0) fun h5 =>
  mpt h5 a0 8 4 (.int 0) fun h6 =>
  mpt h6 a0 8 5 (.int (-1)) fun h7 =>
  some ((), h7)
set_option maxHeartbeats 4000000 in
set_option maxRecDepth 100000 in
theorem cb_Pa_begin {X : mX} {ad : Nat → Nat} {ln : Launch} (O : mO X ad R_Pa b_Pa_begin 3 (mR 0 0) ln) (r' : Unit) (h' : mH) (hE : mEnd X ad none none h') (n0 : Nat) (h0 : mH) (a0 : Nat) (a1 : Nat) (a2 : Nat) (hf : f_Pa_begin n0 h0 a0 a1 a2 = some (r', h')) : mAW X ad 0 0 0 [(0, .ref a0), (1, .ref a1), (2, .ref a2)] [] h0 := by
  unfold f_Pa_begin at hf
  refine ax_aload_n O d_Pa_begin_0 rfl 0 rfl ?_
  refine ax_aload_n O d_Pa_begin_1 rfl 1 rfl ?_
  obtain ⟨fh1, h1, ch1, kh1, eh1, hf⟩ := mpt_some hf
  refine ax_put (v := .ref a1) O fp_Pa_14 ch1 kh1 eh1 rfl rfl d_Pa_begin_2 ?_
  refine ax_aload_n O d_Pa_begin_5 rfl 0 rfl ?_
  refine ax_aload_n O d_Pa_begin_6 rfl 2 rfl ?_
  obtain ⟨fh2, h2, ch2, kh2, eh2, hf⟩ := mpt_some hf
  refine ax_put (v := .ref a2) O fp_Pa_20 ch2 kh2 eh2 rfl rfl d_Pa_begin_7 ?_
  refine ax_aload_n O d_Pa_begin_10 rfl 0 rfl ?_
  obtain ⟨fr3, r3, cr3, kr3, hf⟩ := mgr_some hf
  refine ax_get O fg_Pa_20 cr3 kr3 d_Pa_begin_11 ?_
  refine ax_iconst (v := 0) O d_Pa_begin_14 (by decide) ?_
  obtain ⟨fh4, h4, ch4, kh4, eh4, hf⟩ := mpt_some hf
  refine ax_put (v := .int 0) O fp_Pa_39 ch4 kh4 eh4 rfl rfl d_Pa_begin_15 ?_
  refine ax_aload_n O d_Pa_begin_18 rfl 0 rfl ?_
  refine ax_iconst (v := 0) O d_Pa_begin_19 (by decide) ?_
  obtain ⟨fh5, h5, ch5, kh5, eh5, hf⟩ := mpt_some hf
  refine ax_put (v := .int 0) O fp_Pa_23 ch5 kh5 eh5 rfl rfl d_Pa_begin_20 ?_
  refine ax_aload_n O d_Pa_begin_23 rfl 0 rfl ?_
  refine ax_iconst (v := 0) O d_Pa_begin_24 (by decide) ?_
  obtain ⟨fh6, h6, ch6, kh6, eh6, hf⟩ := mpt_some hf
  refine ax_put (v := .int 0) O fp_Pa_30 ch6 kh6 eh6 rfl rfl d_Pa_begin_25 ?_
  refine ax_aload_n O d_Pa_begin_28 rfl 0 rfl ?_
  refine ax_iconst (v := (-1)) O d_Pa_begin_29 (by decide) ?_
  obtain ⟨fh7, h7, ch7, kh7, eh7, hf⟩ := mpt_some hf
  refine ax_put (v := .int (-1)) O fp_Pa_33 ch7 kh7 eh7 rfl rfl d_Pa_begin_30 ?_
  exact ax_vretE O hE hf d_Pa_begin_33
theorem c_Pa_begin {ln : Launch} {n0 : Nat} {h0 h' : mH} {a0 : Nat} {a1 : Nat} {a2 : Nat} {r' : Unit} (hf : f_Pa_begin n0 h0 a0 a1 a2 = some (r', h')) : mMet ln y_Pa_begin b_Pa_begin 3 none (mR 0 0) [.ref a0, .ref a1, .ref a2] h0 none h' := mMet_of (by decide +kernel) (Nat.le_of_ble_eq_true rfl) (fun X ad O hE => cb_Pa_begin O r' h' hE n0 h0 a0 a1 a2 hf)
/-! ===== StreamFilters.unpackerOf(I)LStreamFilters$Unpacker; ===== -/
theorem d_SF_unpackerOf_0 : decode b_SF_unpackerOf 0 = .ok (.iload_n 1, 1) := by decide +kernel
theorem d_SF_unpackerOf_1 : decode b_SF_unpackerOf 1 = .ok (.tableswitch 51 0 3 #[31, 36, 41, 46], 31) := by decide +kernel
theorem d_SF_unpackerOf_32 : decode b_SF_unpackerOf 32 = .ok (.aload_n 0, 1) := by decide +kernel
theorem d_SF_unpackerOf_33 : decode b_SF_unpackerOf 33 = .ok (.getfield 42, 3) := by decide +kernel
theorem d_SF_unpackerOf_36 : decode b_SF_unpackerOf 36 = .ok (.areturn, 1) := by decide +kernel
theorem d_SF_unpackerOf_37 : decode b_SF_unpackerOf 37 = .ok (.aload_n 0, 1) := by decide +kernel
theorem d_SF_unpackerOf_38 : decode b_SF_unpackerOf 38 = .ok (.getfield 49, 3) := by decide +kernel
theorem d_SF_unpackerOf_41 : decode b_SF_unpackerOf 41 = .ok (.areturn, 1) := by decide +kernel
theorem d_SF_unpackerOf_42 : decode b_SF_unpackerOf 42 = .ok (.aload_n 0, 1) := by decide +kernel
theorem d_SF_unpackerOf_43 : decode b_SF_unpackerOf 43 = .ok (.getfield 56, 3) := by decide +kernel
theorem d_SF_unpackerOf_46 : decode b_SF_unpackerOf 46 = .ok (.areturn, 1) := by decide +kernel
theorem d_SF_unpackerOf_47 : decode b_SF_unpackerOf 47 = .ok (.aload_n 0, 1) := by decide +kernel
theorem d_SF_unpackerOf_48 : decode b_SF_unpackerOf 48 = .ok (.getfield 63, 3) := by decide +kernel
theorem d_SF_unpackerOf_51 : decode b_SF_unpackerOf 51 = .ok (.areturn, 1) := by decide +kernel
theorem d_SF_unpackerOf_52 : decode b_SF_unpackerOf 52 = .ok (.aload_n 0, 1) := by decide +kernel
theorem d_SF_unpackerOf_53 : decode b_SF_unpackerOf 53 = .ok (.getfield 70, 3) := by decide +kernel
theorem d_SF_unpackerOf_56 : decode b_SF_unpackerOf 56 = .ok (.areturn, 1) := by decide +kernel
noncomputable def f_SF_unpackerOf  (n0 : Nat) (h0 : mH) (a0 : Nat) (x1 : Int32) : Option (Nat × mH) :=
  if x1 = 0 then
    mgr h0 a0 0 5 fun r2 =>
    some (r2, h0)
  else
    if x1 = 1 then
      mgr h0 a0 0 6 fun r4 =>
      some (r4, h0)
    else
      if x1 = 2 then
        mgr h0 a0 0 7 fun r6 =>
        some (r6, h0)
      else
        if x1 = 3 then
          mgr h0 a0 0 8 fun r8 =>
          some (r8, h0)
        else
          mgr h0 a0 0 9 fun r9 =>
          some (r9, h0)
set_option maxHeartbeats 4000000 in
set_option maxRecDepth 100000 in
theorem cb_SF_unpackerOf {X : mX} {ad : Nat → Nat} {ln : Launch} (O : mO X ad R_SF b_SF_unpackerOf 2 (mR 0 0) ln) (r' : Nat) (h' : mH) (hE : mEnd X ad (some (.object "StreamFilters$Unpacker")) (some (.ref r')) h') (n0 : Nat) (h0 : mH) (a0 : Nat) (x1 : Int32) (hf : f_SF_unpackerOf n0 h0 a0 x1 = some (r', h')) : mAW X ad 0 0 0 [(0, .ref a0), (1, .int x1)] [] h0 := by
  unfold f_SF_unpackerOf at hf
  refine ax_iload_n O d_SF_unpackerOf_0 rfl 1 rfl ?_
  by_cases q1 : x1 = 0
  · rw [if_pos q1] at hf
    refine ax_tableIn (tgt := 32) O d_SF_unpackerOf_1 (by rw [q1]; decide) (by rw [q1]; decide) (by rw [q1]; rfl) (by decide) ?_
    refine ax_aload_n O d_SF_unpackerOf_32 rfl 0 rfl ?_
    obtain ⟨fr2, r2, cr2, kr2, hf⟩ := mgr_some hf
    refine ax_get O fg_SF_42 cr2 kr2 d_SF_unpackerOf_33 ?_
    exact ax_aretE O (Or.inl ⟨_, rfl⟩) hE hf d_SF_unpackerOf_36
  · rw [if_neg q1] at hf
    by_cases q3 : x1 = 1
    · rw [if_pos q3] at hf
      refine ax_tableIn (tgt := 37) O d_SF_unpackerOf_1 (by rw [q3]; decide) (by rw [q3]; decide) (by rw [q3]; rfl) (by decide) ?_
      refine ax_aload_n O d_SF_unpackerOf_37 rfl 0 rfl ?_
      obtain ⟨fr4, r4, cr4, kr4, hf⟩ := mgr_some hf
      refine ax_get O fg_SF_49 cr4 kr4 d_SF_unpackerOf_38 ?_
      exact ax_aretE O (Or.inl ⟨_, rfl⟩) hE hf d_SF_unpackerOf_41
    · rw [if_neg q3] at hf
      by_cases q5 : x1 = 2
      · rw [if_pos q5] at hf
        refine ax_tableIn (tgt := 42) O d_SF_unpackerOf_1 (by rw [q5]; decide) (by rw [q5]; decide) (by rw [q5]; rfl) (by decide) ?_
        refine ax_aload_n O d_SF_unpackerOf_42 rfl 0 rfl ?_
        obtain ⟨fr6, r6, cr6, kr6, hf⟩ := mgr_some hf
        refine ax_get O fg_SF_56 cr6 kr6 d_SF_unpackerOf_43 ?_
        exact ax_aretE O (Or.inl ⟨_, rfl⟩) hE hf d_SF_unpackerOf_46
      · rw [if_neg q5] at hf
        by_cases q7 : x1 = 3
        · rw [if_pos q7] at hf
          refine ax_tableIn (tgt := 47) O d_SF_unpackerOf_1 (by rw [q7]; decide) (by rw [q7]; decide) (by rw [q7]; rfl) (by decide) ?_
          refine ax_aload_n O d_SF_unpackerOf_47 rfl 0 rfl ?_
          obtain ⟨fr8, r8, cr8, kr8, hf⟩ := mgr_some hf
          refine ax_get O fg_SF_63 cr8 kr8 d_SF_unpackerOf_48 ?_
          exact ax_aretE O (Or.inl ⟨_, rfl⟩) hE hf d_SF_unpackerOf_51
        · rw [if_neg q7] at hf
          refine ax_tableOut (tgt := 52) O d_SF_unpackerOf_1 (mTi (fun z h1 h2 => by rcases (show z = 0 ∨ z = 1 ∨ z = 2 ∨ z = 3 by omega) with rfl | rfl | rfl | rfl; exact lv_neT q1 (by decide); exact lv_neT q3 (by decide); exact lv_neT q5 (by decide); exact lv_neT q7 (by decide))) (by decide) ?_
          refine ax_aload_n O d_SF_unpackerOf_52 rfl 0 rfl ?_
          obtain ⟨fr9, r9, cr9, kr9, hf⟩ := mgr_some hf
          refine ax_get O fg_SF_70 cr9 kr9 d_SF_unpackerOf_53 ?_
          exact ax_aretE O (Or.inl ⟨_, rfl⟩) hE hf d_SF_unpackerOf_56
theorem c_SF_unpackerOf {ln : Launch} {n0 : Nat} {h0 h' : mH} {a0 : Nat} {x1 : Int32} {r' : Nat} (hf : f_SF_unpackerOf n0 h0 a0 x1 = some (r', h')) : mMet ln y_SF_unpackerOf b_SF_unpackerOf 2 (some (.object "StreamFilters$Unpacker")) (mR 0 0) [.ref a0, .int x1] h0 (some (.ref r')) h' := mMet_of (by decide +kernel) (Nat.le_of_ble_eq_true rfl) (fun X ad O hE => cb_SF_unpackerOf O r' h' hE n0 h0 a0 x1 hf)
/-! ===== StreamFilters$Link.rowSize()I ===== -/
theorem d_Li_rowSize_0 : decode b_Li_rowSize 0 = .ok (.iconst 1, 1) := by decide +kernel
theorem d_Li_rowSize_1 : decode b_Li_rowSize 1 = .ok (.aload_n 0, 1) := by decide +kernel
theorem d_Li_rowSize_2 : decode b_Li_rowSize 2 = .ok (.getfield 27, 3) := by decide +kernel
theorem d_Li_rowSize_5 : decode b_Li_rowSize 5 = .ok (.aload_n 0, 1) := by decide +kernel
theorem d_Li_rowSize_6 : decode b_Li_rowSize 6 = .ok (.getfield 21, 3) := by decide +kernel
theorem d_Li_rowSize_9 : decode b_Li_rowSize 9 = .ok (.imul, 1) := by decide +kernel
theorem d_Li_rowSize_10 : decode b_Li_rowSize 10 = .ok (.aload_n 0, 1) := by decide +kernel
theorem d_Li_rowSize_11 : decode b_Li_rowSize 11 = .ok (.getfield 24, 3) := by decide +kernel
theorem d_Li_rowSize_14 : decode b_Li_rowSize 14 = .ok (.imul, 1) := by decide +kernel
theorem d_Li_rowSize_15 : decode b_Li_rowSize 15 = .ok (.bipush 7, 2) := by decide +kernel
theorem d_Li_rowSize_17 : decode b_Li_rowSize 17 = .ok (.iadd, 1) := by decide +kernel
theorem d_Li_rowSize_18 : decode b_Li_rowSize 18 = .ok (.bipush 8, 2) := by decide +kernel
theorem d_Li_rowSize_20 : decode b_Li_rowSize 20 = .ok (.idiv, 1) := by decide +kernel
theorem d_Li_rowSize_21 : decode b_Li_rowSize 21 = .ok (.invokestatic 38, 3) := by decide +kernel
theorem d_Li_rowSize_24 : decode b_Li_rowSize 24 = .ok (.ireturn, 1) := by decide +kernel
noncomputable def f_Li_rowSize  (n0 : Nat) (h0 : mH) (a0 : Nat) : Option (Int32 × mH) :=
  mgi h0 a0 6 5 fun v1 =>
  mgi h0 a0 6 3 fun v2 =>
  mgi h0 a0 6 4 fun v3 =>
  mnm (if 1 < ((((v1 * v2) * v3) + 7) / 8) then ((((v1 * v2) * v3) + 7) / 8) else 1) fun v4 =>
  some (v4, h0)
set_option maxHeartbeats 4000000 in
set_option maxRecDepth 100000 in
theorem cb_Li_rowSize {X : mX} {ad : Nat → Nat} {ln : Launch} (O : mO X ad R_Li b_Li_rowSize 1 (mR 1 21) ln) (r' : Int32) (h' : mH) (hE : mEnd X ad (some .int) (some (.int r')) h') (n0 : Nat) (h0 : mH) (a0 : Nat) (hf : f_Li_rowSize n0 h0 a0 = some (r', h')) : mAW X ad 0 0 0 [(0, .ref a0)] [] h0 := by
  unfold f_Li_rowSize at hf
  refine ax_iconst (v := 1) O d_Li_rowSize_0 (by decide) ?_
  refine ax_aload_n O d_Li_rowSize_1 rfl 0 rfl ?_
  obtain ⟨fv1, v1, cv1, kv1, hf⟩ := mgi_some hf
  refine ax_get O fg_Li_27 cv1 kv1 d_Li_rowSize_2 ?_
  refine ax_aload_n O d_Li_rowSize_5 rfl 0 rfl ?_
  obtain ⟨fv2, v2, cv2, kv2, hf⟩ := mgi_some hf
  refine ax_get O fg_Li_21 cv2 kv2 d_Li_rowSize_6 ?_
  refine ax_imul O d_Li_rowSize_9 ?_
  refine ax_aload_n O d_Li_rowSize_10 rfl 0 rfl ?_
  obtain ⟨fv3, v3, cv3, kv3, hf⟩ := mgi_some hf
  refine ax_get O fg_Li_24 cv3 kv3 d_Li_rowSize_11 ?_
  refine ax_imul O d_Li_rowSize_14 ?_
  refine ax_bipush (v := 7) O d_Li_rowSize_15 (by decide) ?_
  refine ax_iadd O d_Li_rowSize_17 ?_
  refine ax_bipush (v := 8) O d_Li_rowSize_18 (by decide) ?_
  refine ax_idiv O d_Li_rowSize_20 (by decide) ?_
  obtain ⟨v4, ev4, hf⟩ := mnm_some hf
  refine ax_mmax O wd_4 (by decide) (Nat.le_of_ble_eq_true rfl) d_Li_rowSize_21 ?_
  refine ax_nmi ev4 ?_
  exact ax_retE O hE hf rfl d_Li_rowSize_24
theorem c_Li_rowSize {ln : Launch} {n0 : Nat} {h0 h' : mH} {a0 : Nat} {r' : Int32} (hf : f_Li_rowSize n0 h0 a0 = some (r', h')) : mMet ln y_Li_rowSize b_Li_rowSize 1 (some .int) (mR 1 21) [.ref a0] h0 (some (.int r')) h' := mMet_of (by decide +kernel) (Nat.le_of_ble_eq_true rfl) (fun X ad O hE => cb_Li_rowSize O r' h' hE n0 h0 a0 hf)
/-! ===== StreamFilters$Link.shiftOf(I)I ===== -/
theorem d_Li_shiftOf_0 : decode b_Li_shiftOf 0 = .ok (.bipush 8, 2) := by decide +kernel
theorem d_Li_shiftOf_2 : decode b_Li_shiftOf 2 = .ok (.aload_n 0, 1) := by decide +kernel
theorem d_Li_shiftOf_3 : decode b_Li_shiftOf 3 = .ok (.getfield 24, 3) := by decide +kernel
theorem d_Li_shiftOf_6 : decode b_Li_shiftOf 6 = .ok (.isub, 1) := by decide +kernel
theorem d_Li_shiftOf_7 : decode b_Li_shiftOf 7 = .ok (.iload_n 1, 1) := by decide +kernel
theorem d_Li_shiftOf_8 : decode b_Li_shiftOf 8 = .ok (.aload_n 0, 1) := by decide +kernel
theorem d_Li_shiftOf_9 : decode b_Li_shiftOf 9 = .ok (.getfield 24, 3) := by decide +kernel
theorem d_Li_shiftOf_12 : decode b_Li_shiftOf 12 = .ok (.imul, 1) := by decide +kernel
theorem d_Li_shiftOf_13 : decode b_Li_shiftOf 13 = .ok (.bipush 8, 2) := by decide +kernel
theorem d_Li_shiftOf_15 : decode b_Li_shiftOf 15 = .ok (.irem, 1) := by decide +kernel
theorem d_Li_shiftOf_16 : decode b_Li_shiftOf 16 = .ok (.isub, 1) := by decide +kernel
theorem d_Li_shiftOf_17 : decode b_Li_shiftOf 17 = .ok (.ireturn, 1) := by decide +kernel
noncomputable def f_Li_shiftOf  (n0 : Nat) (h0 : mH) (a0 : Nat) (x1 : Int32) : Option (Int32 × mH) :=
  mgi h0 a0 6 4 fun v1 =>
  mgi h0 a0 6 4 fun v2 =>
  some ((8 - v1) - ((x1 * v2) - (x1 * v2) / 8 * 8), h0)
set_option maxHeartbeats 4000000 in
set_option maxRecDepth 100000 in
theorem cb_Li_shiftOf {X : mX} {ad : Nat → Nat} {ln : Launch} (O : mO X ad R_Li b_Li_shiftOf 2 (mR 0 0) ln) (r' : Int32) (h' : mH) (hE : mEnd X ad (some .int) (some (.int r')) h') (n0 : Nat) (h0 : mH) (a0 : Nat) (x1 : Int32) (hf : f_Li_shiftOf n0 h0 a0 x1 = some (r', h')) : mAW X ad 0 0 0 [(0, .ref a0), (1, .int x1)] [] h0 := by
  unfold f_Li_shiftOf at hf
  refine ax_bipush (v := 8) O d_Li_shiftOf_0 (by decide) ?_
  refine ax_aload_n O d_Li_shiftOf_2 rfl 0 rfl ?_
  obtain ⟨fv1, v1, cv1, kv1, hf⟩ := mgi_some hf
  refine ax_get O fg_Li_24 cv1 kv1 d_Li_shiftOf_3 ?_
  refine ax_isub O d_Li_shiftOf_6 ?_
  refine ax_iload_n O d_Li_shiftOf_7 rfl 1 rfl ?_
  refine ax_aload_n O d_Li_shiftOf_8 rfl 0 rfl ?_
  obtain ⟨fv2, v2, cv2, kv2, hf⟩ := mgi_some hf
  refine ax_get O fg_Li_24 cv2 kv2 d_Li_shiftOf_9 ?_
  refine ax_imul O d_Li_shiftOf_12 ?_
  refine ax_bipush (v := 8) O d_Li_shiftOf_13 (by decide) ?_
  refine ax_irem O d_Li_shiftOf_15 (by decide) ?_
  refine ax_isub O d_Li_shiftOf_16 ?_
  exact ax_retE O hE hf rfl d_Li_shiftOf_17
theorem c_Li_shiftOf {ln : Launch} {n0 : Nat} {h0 h' : mH} {a0 : Nat} {x1 : Int32} {r' : Int32} (hf : f_Li_shiftOf n0 h0 a0 x1 = some (r', h')) : mMet ln y_Li_shiftOf b_Li_shiftOf 2 (some .int) (mR 0 0) [.ref a0, .int x1] h0 (some (.int r')) h' := mMet_of (by decide +kernel) (Nat.le_of_ble_eq_true rfl) (fun X ad O hE => cb_Li_shiftOf O r' h' hE n0 h0 a0 x1 hf)
/-! ===== StreamFilters$Link.mask()I ===== -/
theorem d_Li_mask_0 : decode b_Li_mask 0 = .ok (.iconst 1, 1) := by decide +kernel
theorem d_Li_mask_1 : decode b_Li_mask 1 = .ok (.aload_n 0, 1) := by decide +kernel
theorem d_Li_mask_2 : decode b_Li_mask 2 = .ok (.getfield 24, 3) := by decide +kernel
theorem d_Li_mask_5 : decode b_Li_mask 5 = .ok (.ishl, 1) := by decide +kernel
theorem d_Li_mask_6 : decode b_Li_mask 6 = .ok (.iconst 1, 1) := by decide +kernel
theorem d_Li_mask_7 : decode b_Li_mask 7 = .ok (.isub, 1) := by decide +kernel
theorem d_Li_mask_8 : decode b_Li_mask 8 = .ok (.ireturn, 1) := by decide +kernel
noncomputable def f_Li_mask  (n0 : Nat) (h0 : mH) (a0 : Nat) : Option (Int32 × mH) :=
  mgi h0 a0 6 4 fun v1 =>
  some ((1 <<< (v1 &&& 31)) - 1, h0)
set_option maxHeartbeats 4000000 in
set_option maxRecDepth 100000 in
theorem cb_Li_mask {X : mX} {ad : Nat → Nat} {ln : Launch} (O : mO X ad R_Li b_Li_mask 1 (mR 0 0) ln) (r' : Int32) (h' : mH) (hE : mEnd X ad (some .int) (some (.int r')) h') (n0 : Nat) (h0 : mH) (a0 : Nat) (hf : f_Li_mask n0 h0 a0 = some (r', h')) : mAW X ad 0 0 0 [(0, .ref a0)] [] h0 := by
  unfold f_Li_mask at hf
  refine ax_iconst (v := 1) O d_Li_mask_0 (by decide) ?_
  refine ax_aload_n O d_Li_mask_1 rfl 0 rfl ?_
  obtain ⟨fv1, v1, cv1, kv1, hf⟩ := mgi_some hf
  refine ax_get O fg_Li_24 cv1 kv1 d_Li_mask_2 ?_
  refine ax_ishl O d_Li_mask_5 ?_
  refine ax_iconst (v := 1) O d_Li_mask_6 (by decide) ?_
  refine ax_isub O d_Li_mask_7 ?_
  exact ax_retE O hE hf rfl d_Li_mask_8
theorem c_Li_mask {ln : Launch} {n0 : Nat} {h0 h' : mH} {a0 : Nat} {r' : Int32} (hf : f_Li_mask n0 h0 a0 = some (r', h')) : mMet ln y_Li_mask b_Li_mask 1 (some .int) (mR 0 0) [.ref a0] h0 (some (.int r')) h' := mMet_of (by decide +kernel) (Nat.le_of_ble_eq_true rfl) (fun X ad O hE => cb_Li_mask O r' h' hE n0 h0 a0 hf)
/-! ===== StreamFilters$Link.numberAt(LStreamFilters$Bytes;II)I ===== -/
theorem d_Li_numberAt_0 : decode b_Li_numberAt 0 = .ok (.iload_n 2, 1) := by decide +kernel
theorem d_Li_numberAt_1 : decode b_Li_numberAt 1 = .ok (.iload_n 3, 1) := by decide +kernel
theorem d_Li_numberAt_2 : decode b_Li_numberAt 2 = .ok (.aload_n 0, 1) := by decide +kernel
theorem d_Li_numberAt_3 : decode b_Li_numberAt 3 = .ok (.getfield 24, 3) := by decide +kernel
theorem d_Li_numberAt_6 : decode b_Li_numberAt 6 = .ok (.imul, 1) := by decide +kernel
theorem d_Li_numberAt_7 : decode b_Li_numberAt 7 = .ok (.bipush 8, 2) := by decide +kernel
theorem d_Li_numberAt_9 : decode b_Li_numberAt 9 = .ok (.idiv, 1) := by decide +kernel
theorem d_Li_numberAt_10 : decode b_Li_numberAt 10 = .ok (.iadd, 1) := by decide +kernel
theorem d_Li_numberAt_11 : decode b_Li_numberAt 11 = .ok (.istore 4, 2) := by decide +kernel
theorem d_Li_numberAt_13 : decode b_Li_numberAt 13 = .ok (.aload_n 0, 1) := by decide +kernel
theorem d_Li_numberAt_14 : decode b_Li_numberAt 14 = .ok (.getfield 24, 3) := by decide +kernel
theorem d_Li_numberAt_17 : decode b_Li_numberAt 17 = .ok (.bipush 16, 2) := by decide +kernel
theorem d_Li_numberAt_19 : decode b_Li_numberAt 19 = .ok (.if_icmp .ne 23, 3) := by decide +kernel
theorem d_Li_numberAt_22 : decode b_Li_numberAt 22 = .ok (.aload_n 1, 1) := by decide +kernel
theorem d_Li_numberAt_23 : decode b_Li_numberAt 23 = .ok (.iload 4, 2) := by decide +kernel
theorem d_Li_numberAt_25 : decode b_Li_numberAt 25 = .ok (.invokevirtual 64, 3) := by decide +kernel
theorem d_Li_numberAt_28 : decode b_Li_numberAt 28 = .ok (.sipush 256, 3) := by decide +kernel
theorem d_Li_numberAt_31 : decode b_Li_numberAt 31 = .ok (.imul, 1) := by decide +kernel
theorem d_Li_numberAt_32 : decode b_Li_numberAt 32 = .ok (.aload_n 1, 1) := by decide +kernel
theorem d_Li_numberAt_33 : decode b_Li_numberAt 33 = .ok (.iload 4, 2) := by decide +kernel
theorem d_Li_numberAt_35 : decode b_Li_numberAt 35 = .ok (.iconst 1, 1) := by decide +kernel
theorem d_Li_numberAt_36 : decode b_Li_numberAt 36 = .ok (.iadd, 1) := by decide +kernel
theorem d_Li_numberAt_37 : decode b_Li_numberAt 37 = .ok (.invokevirtual 64, 3) := by decide +kernel
theorem d_Li_numberAt_40 : decode b_Li_numberAt 40 = .ok (.iadd, 1) := by decide +kernel
theorem d_Li_numberAt_41 : decode b_Li_numberAt 41 = .ok (.ireturn, 1) := by decide +kernel
theorem d_Li_numberAt_42 : decode b_Li_numberAt 42 = .ok (.aload_n 1, 1) := by decide +kernel
theorem d_Li_numberAt_43 : decode b_Li_numberAt 43 = .ok (.iload 4, 2) := by decide +kernel
theorem d_Li_numberAt_45 : decode b_Li_numberAt 45 = .ok (.invokevirtual 64, 3) := by decide +kernel
theorem d_Li_numberAt_48 : decode b_Li_numberAt 48 = .ok (.aload_n 0, 1) := by decide +kernel
theorem d_Li_numberAt_49 : decode b_Li_numberAt 49 = .ok (.iload_n 3, 1) := by decide +kernel
theorem d_Li_numberAt_50 : decode b_Li_numberAt 50 = .ok (.invokevirtual 68, 3) := by decide +kernel
theorem d_Li_numberAt_53 : decode b_Li_numberAt 53 = .ok (.ishr, 1) := by decide +kernel
theorem d_Li_numberAt_54 : decode b_Li_numberAt 54 = .ok (.aload_n 0, 1) := by decide +kernel
theorem d_Li_numberAt_55 : decode b_Li_numberAt 55 = .ok (.invokevirtual 71, 3) := by decide +kernel
theorem d_Li_numberAt_58 : decode b_Li_numberAt 58 = .ok (.iand, 1) := by decide +kernel
theorem d_Li_numberAt_59 : decode b_Li_numberAt 59 = .ok (.ireturn, 1) := by decide +kernel
noncomputable def f_Li_numberAt  (n0 : Nat) (h0 : mH) (a0 : Nat) (a1 : Nat) (x2 : Int32) (x3 : Int32) : Option (Int32 × mH) :=
  mgi h0 a0 6 4 fun v1 =>
  mnm (x2 + ((x3 * v1) / 8)) fun v2 =>
  mgi h0 a0 6 4 fun v3 =>
  if v3 = 16 then
    mis h0 a1 1 <|
    mcl (f_By_byteAt n0 h0 a1 v2) fun v15 h16 =>
    mis h16 a1 1 <|
    mcl (f_By_byteAt n0 h16 a1 (v2 + 1)) fun v18 h19 =>
    some ((v15 * 256) + v18, h19)
  else
    mis h0 a1 1 <|
    mcl (f_By_byteAt n0 h0 a1 v2) fun v6 h7 =>
    mis h7 a0 6 <|
    mcl (f_Li_shiftOf n0 h7 a0 x3) fun v9 h10 =>
    mis h10 a0 6 <|
    mcl (f_Li_mask n0 h10 a0) fun v12 h13 =>
    some ((v6 >>> (v9 &&& 31)) &&& v12, h13)
set_option maxHeartbeats 4000000 in
set_option maxRecDepth 100000 in
theorem cb_Li_numberAt {X : mX} {ad : Nat → Nat} {ln : Launch} (O : mO X ad R_Li b_Li_numberAt 5 (mR 1 21) ln) (r' : Int32) (h' : mH) (hE : mEnd X ad (some .int) (some (.int r')) h') (n0 : Nat) (h0 : mH) (a0 : Nat) (a1 : Nat) (x2 : Int32) (x3 : Int32) (hf : f_Li_numberAt n0 h0 a0 a1 x2 x3 = some (r', h')) : mAW X ad 0 0 0 [(0, .ref a0), (1, .ref a1), (2, .int x2), (3, .int x3)] [] h0 := by
  unfold f_Li_numberAt at hf
  refine ax_iload_n O d_Li_numberAt_0 rfl 2 rfl ?_
  refine ax_iload_n O d_Li_numberAt_1 rfl 3 rfl ?_
  refine ax_aload_n O d_Li_numberAt_2 rfl 0 rfl ?_
  obtain ⟨fv1, v1, cv1, kv1, hf⟩ := mgi_some hf
  refine ax_get O fg_Li_24 cv1 kv1 d_Li_numberAt_3 ?_
  refine ax_imul O d_Li_numberAt_6 ?_
  refine ax_bipush (v := 8) O d_Li_numberAt_7 (by decide) ?_
  refine ax_idiv O d_Li_numberAt_9 (by decide) ?_
  refine ax_iadd O d_Li_numberAt_10 ?_
  obtain ⟨v2, ev2, hf⟩ := mnm_some hf
  refine ax_nmi ev2 ?_
  refine ax_istore (lv' := [(4, .int v2), (0, .ref a0), (1, .ref a1), (2, .int x2), (3, .int x3)]) O d_Li_numberAt_11 (by decide) rfl ?_
  refine ax_aload_n O d_Li_numberAt_13 rfl 1 rfl ?_
  obtain ⟨fv3, v3, cv3, kv3, hf⟩ := mgi_some hf
  refine ax_get O fg_Li_24 cv3 kv3 d_Li_numberAt_14 ?_
  refine ax_bipush (v := 16) O d_Li_numberAt_17 (by decide) ?_
  refine ax_icmp_ne (tgt := 42) O d_Li_numberAt_19 (by decide) (fun q4 => ?_) (fun q4 => ?_)
  · rw [if_neg q4] at hf
    refine ax_aload_n O d_Li_numberAt_42 rfl 2 rfl ?_
    refine ax_iload O d_Li_numberAt_43 0 rfl ?_
    obtain ⟨fh7, ch7, hf⟩ := mis_some hf
    obtain ⟨v6, h7, mh7, hf⟩ := mcl_some hf
    refine ax_callV (As := [.int v2]) (rest := []) O cw_By_byteAt (q := (R_By, T_By, 2)) rfl rfl in_By_byteAt se_By_byteAt lk_Li_64 ch7 (c_By_byteAt mh7) rfl ⟨rfl, rfl⟩ (by decide) (by decide) (Nat.le_of_ble_eq_true rfl) d_Li_numberAt_45 ?_
    refine ax_aload_n O d_Li_numberAt_48 rfl 1 rfl ?_
    refine ax_iload_n O d_Li_numberAt_49 rfl 4 rfl ?_
    obtain ⟨fh10, ch10, hf⟩ := mis_some hf
    obtain ⟨v9, h10, mh10, hf⟩ := mcl_some hf
    refine ax_callV (As := [.int x3]) (rest := [.int v6]) O cw_Li_shiftOf (q := (R_Li, T_Li, 6)) rfl rfl in_Li_shiftOf se_Li_shiftOf lk_Li_68 ch10 (c_Li_shiftOf mh10) rfl ⟨rfl, rfl⟩ (by decide) (by decide) (Nat.le_of_ble_eq_true rfl) d_Li_numberAt_50 ?_
    refine ax_ishr O d_Li_numberAt_53 ?_
    refine ax_aload_n O d_Li_numberAt_54 rfl 1 rfl ?_
    obtain ⟨fh13, ch13, hf⟩ := mis_some hf
    obtain ⟨v12, h13, mh13, hf⟩ := mcl_some hf
    refine ax_callV (As := []) (rest := [.int (v6 >>> (v9 &&& 31))]) O cw_Li_mask (q := (R_Li, T_Li, 6)) rfl rfl in_Li_mask se_Li_mask lk_Li_71 ch13 (c_Li_mask mh13) rfl ⟨rfl, rfl⟩ (by decide) (by decide) (Nat.le_of_ble_eq_true rfl) d_Li_numberAt_55 ?_
    refine ax_iand O d_Li_numberAt_58 ?_
    exact ax_retE O hE hf rfl d_Li_numberAt_59
  · rw [if_pos q4] at hf
    refine ax_aload_n O d_Li_numberAt_22 rfl 2 rfl ?_
    refine ax_iload O d_Li_numberAt_23 0 rfl ?_
    obtain ⟨fh16, ch16, hf⟩ := mis_some hf
    obtain ⟨v15, h16, mh16, hf⟩ := mcl_some hf
    refine ax_callV (As := [.int v2]) (rest := []) O cw_By_byteAt (q := (R_By, T_By, 2)) rfl rfl in_By_byteAt se_By_byteAt lk_Li_64 ch16 (c_By_byteAt mh16) rfl ⟨rfl, rfl⟩ (by decide) (by decide) (Nat.le_of_ble_eq_true rfl) d_Li_numberAt_25 ?_
    refine ax_sipush (v := 256) O d_Li_numberAt_28 (by decide) ?_
    refine ax_imul O d_Li_numberAt_31 ?_
    refine ax_aload_n O d_Li_numberAt_32 rfl 2 rfl ?_
    refine ax_iload O d_Li_numberAt_33 0 rfl ?_
    refine ax_iconst (v := 1) O d_Li_numberAt_35 (by decide) ?_
    refine ax_iadd O d_Li_numberAt_36 ?_
    obtain ⟨fh19, ch19, hf⟩ := mis_some hf
    obtain ⟨v18, h19, mh19, hf⟩ := mcl_some hf
    refine ax_callV (As := [.int (v2 + 1)]) (rest := [.int (v15 * 256)]) O cw_By_byteAt (q := (R_By, T_By, 2)) rfl rfl in_By_byteAt se_By_byteAt lk_Li_64 ch19 (c_By_byteAt mh19) rfl ⟨rfl, rfl⟩ (by decide) (by decide) (Nat.le_of_ble_eq_true rfl) d_Li_numberAt_37 ?_
    refine ax_iadd O d_Li_numberAt_40 ?_
    exact ax_retE O hE hf rfl d_Li_numberAt_41
theorem c_Li_numberAt {ln : Launch} {n0 : Nat} {h0 h' : mH} {a0 : Nat} {a1 : Nat} {x2 : Int32} {x3 : Int32} {r' : Int32} (hf : f_Li_numberAt n0 h0 a0 a1 x2 x3 = some (r', h')) : mMet ln y_Li_numberAt b_Li_numberAt 5 (some .int) (mR 1 21) [.ref a0, .ref a1, .int x2, .int x3] h0 (some (.int r')) h' := mMet_of (by decide +kernel) (Nat.le_of_ble_eq_true rfl) (fun X ad O hE => cb_Li_numberAt O r' h' hE n0 h0 a0 a1 x2 x3 hf)
/-! ===== StreamFilters$Link.setNumber(LStreamFilters$Bytes;III)V ===== -/
theorem d_Li_setNumber_0 : decode b_Li_setNumber 0 = .ok (.iload_n 2, 1) := by decide +kernel
theorem d_Li_setNumber_1 : decode b_Li_setNumber 1 = .ok (.iload_n 3, 1) := by decide +kernel
theorem d_Li_setNumber_2 : decode b_Li_setNumber 2 = .ok (.aload_n 0, 1) := by decide +kernel
theorem d_Li_setNumber_3 : decode b_Li_setNumber 3 = .ok (.getfield 24, 3) := by decide +kernel
theorem d_Li_setNumber_6 : decode b_Li_setNumber 6 = .ok (.imul, 1) := by decide +kernel
theorem d_Li_setNumber_7 : decode b_Li_setNumber 7 = .ok (.bipush 8, 2) := by decide +kernel
theorem d_Li_setNumber_9 : decode b_Li_setNumber 9 = .ok (.idiv, 1) := by decide +kernel
theorem d_Li_setNumber_10 : decode b_Li_setNumber 10 = .ok (.iadd, 1) := by decide +kernel
theorem d_Li_setNumber_11 : decode b_Li_setNumber 11 = .ok (.istore 5, 2) := by decide +kernel
theorem d_Li_setNumber_13 : decode b_Li_setNumber 13 = .ok (.aload_n 0, 1) := by decide +kernel
theorem d_Li_setNumber_14 : decode b_Li_setNumber 14 = .ok (.getfield 24, 3) := by decide +kernel
theorem d_Li_setNumber_17 : decode b_Li_setNumber 17 = .ok (.bipush 16, 2) := by decide +kernel
theorem d_Li_setNumber_19 : decode b_Li_setNumber 19 = .ok (.if_icmp .ne 25, 3) := by decide +kernel
theorem d_Li_setNumber_22 : decode b_Li_setNumber 22 = .ok (.aload_n 1, 1) := by decide +kernel
theorem d_Li_setNumber_23 : decode b_Li_setNumber 23 = .ok (.iload 5, 2) := by decide +kernel
theorem d_Li_setNumber_25 : decode b_Li_setNumber 25 = .ok (.iload 4, 2) := by decide +kernel
theorem d_Li_setNumber_27 : decode b_Li_setNumber 27 = .ok (.bipush 8, 2) := by decide +kernel
theorem d_Li_setNumber_29 : decode b_Li_setNumber 29 = .ok (.ishr, 1) := by decide +kernel
theorem d_Li_setNumber_30 : decode b_Li_setNumber 30 = .ok (.invokevirtual 74, 3) := by decide +kernel
theorem d_Li_setNumber_33 : decode b_Li_setNumber 33 = .ok (.aload_n 1, 1) := by decide +kernel
theorem d_Li_setNumber_34 : decode b_Li_setNumber 34 = .ok (.iload 5, 2) := by decide +kernel
theorem d_Li_setNumber_36 : decode b_Li_setNumber 36 = .ok (.iconst 1, 1) := by decide +kernel
theorem d_Li_setNumber_37 : decode b_Li_setNumber 37 = .ok (.iadd, 1) := by decide +kernel
theorem d_Li_setNumber_38 : decode b_Li_setNumber 38 = .ok (.iload 4, 2) := by decide +kernel
theorem d_Li_setNumber_40 : decode b_Li_setNumber 40 = .ok (.invokevirtual 74, 3) := by decide +kernel
theorem d_Li_setNumber_43 : decode b_Li_setNumber 43 = .ok (.return_, 1) := by decide +kernel
theorem d_Li_setNumber_44 : decode b_Li_setNumber 44 = .ok (.aload_n 1, 1) := by decide +kernel
theorem d_Li_setNumber_45 : decode b_Li_setNumber 45 = .ok (.iload 5, 2) := by decide +kernel
theorem d_Li_setNumber_47 : decode b_Li_setNumber 47 = .ok (.invokevirtual 64, 3) := by decide +kernel
theorem d_Li_setNumber_50 : decode b_Li_setNumber 50 = .ok (.aload_n 0, 1) := by decide +kernel
theorem d_Li_setNumber_51 : decode b_Li_setNumber 51 = .ok (.invokevirtual 71, 3) := by decide +kernel
theorem d_Li_setNumber_54 : decode b_Li_setNumber 54 = .ok (.aload_n 0, 1) := by decide +kernel
theorem d_Li_setNumber_55 : decode b_Li_setNumber 55 = .ok (.iload_n 3, 1) := by decide +kernel
theorem d_Li_setNumber_56 : decode b_Li_setNumber 56 = .ok (.invokevirtual 68, 3) := by decide +kernel
theorem d_Li_setNumber_59 : decode b_Li_setNumber 59 = .ok (.ishl, 1) := by decide +kernel
theorem d_Li_setNumber_60 : decode b_Li_setNumber 60 = .ok (.iconst (-1), 1) := by decide +kernel
theorem d_Li_setNumber_61 : decode b_Li_setNumber 61 = .ok (.ixor, 1) := by decide +kernel
theorem d_Li_setNumber_62 : decode b_Li_setNumber 62 = .ok (.iand, 1) := by decide +kernel
theorem d_Li_setNumber_63 : decode b_Li_setNumber 63 = .ok (.istore 6, 2) := by decide +kernel
theorem d_Li_setNumber_65 : decode b_Li_setNumber 65 = .ok (.aload_n 1, 1) := by decide +kernel
theorem d_Li_setNumber_66 : decode b_Li_setNumber 66 = .ok (.iload 5, 2) := by decide +kernel
theorem d_Li_setNumber_68 : decode b_Li_setNumber 68 = .ok (.iload 6, 2) := by decide +kernel
theorem d_Li_setNumber_70 : decode b_Li_setNumber 70 = .ok (.iload 4, 2) := by decide +kernel
theorem d_Li_setNumber_72 : decode b_Li_setNumber 72 = .ok (.aload_n 0, 1) := by decide +kernel
theorem d_Li_setNumber_73 : decode b_Li_setNumber 73 = .ok (.invokevirtual 71, 3) := by decide +kernel
theorem d_Li_setNumber_76 : decode b_Li_setNumber 76 = .ok (.iand, 1) := by decide +kernel
theorem d_Li_setNumber_77 : decode b_Li_setNumber 77 = .ok (.aload_n 0, 1) := by decide +kernel
theorem d_Li_setNumber_78 : decode b_Li_setNumber 78 = .ok (.iload_n 3, 1) := by decide +kernel
theorem d_Li_setNumber_79 : decode b_Li_setNumber 79 = .ok (.invokevirtual 68, 3) := by decide +kernel
theorem d_Li_setNumber_82 : decode b_Li_setNumber 82 = .ok (.ishl, 1) := by decide +kernel
theorem d_Li_setNumber_83 : decode b_Li_setNumber 83 = .ok (.ior, 1) := by decide +kernel
theorem d_Li_setNumber_84 : decode b_Li_setNumber 84 = .ok (.invokevirtual 74, 3) := by decide +kernel
theorem d_Li_setNumber_87 : decode b_Li_setNumber 87 = .ok (.return_, 1) := by decide +kernel
noncomputable def f_Li_setNumber  (n0 : Nat) (h0 : mH) (a0 : Nat) (a1 : Nat) (x2 : Int32) (x3 : Int32) (x4 : Int32) : Option (Unit × mH) :=
  mgi h0 a0 6 4 fun v1 =>
  mnm (x2 + ((x3 * v1) / 8)) fun v2 =>
  mgi h0 a0 6 4 fun v3 =>
  if v3 = 16 then
    mis h0 a1 1 <|
    mcl (f_By_change n0 h0 a1 v2 (x4 >>> (8 &&& 31))) fun _ h27 =>
    mis h27 a1 1 <|
    mcl (f_By_change n0 h27 a1 (v2 + 1) x4) fun _ h31 =>
    some ((), h31)
  else
    mis h0 a1 1 <|
    mcl (f_By_byteAt n0 h0 a1 v2) fun v6 h7 =>
    mis h7 a0 6 <|
    mcl (f_Li_mask n0 h7 a0) fun v9 h10 =>
    mis h10 a0 6 <|
    mcl (f_Li_shiftOf n0 h10 a0 x3) fun v12 h13 =>
    mnm (v6 &&& ((v9 <<< (v12 &&& 31)) ^^^ (-1))) fun v14 =>
    mis h13 a0 6 <|
    mcl (f_Li_mask n0 h13 a0) fun v16 h17 =>
    mis h17 a0 6 <|
    mcl (f_Li_shiftOf n0 h17 a0 x3) fun v19 h20 =>
    mis h20 a1 1 <|
    mcl (f_By_change n0 h20 a1 v2 (v14 ||| ((x4 &&& v16) <<< (v19 &&& 31)))) fun _ h23 =>
    some ((), h23)
set_option maxHeartbeats 4000000 in
set_option maxRecDepth 100000 in
theorem cb_Li_setNumber {X : mX} {ad : Nat → Nat} {ln : Launch} (O : mO X ad R_Li b_Li_setNumber 7 (mR 1 22) ln) (r' : Unit) (h' : mH) (hE : mEnd X ad none none h') (n0 : Nat) (h0 : mH) (a0 : Nat) (a1 : Nat) (x2 : Int32) (x3 : Int32) (x4 : Int32) (hf : f_Li_setNumber n0 h0 a0 a1 x2 x3 x4 = some (r', h')) : mAW X ad 0 0 0 [(0, .ref a0), (1, .ref a1), (2, .int x2), (3, .int x3), (4, .int x4)] [] h0 := by
  unfold f_Li_setNumber at hf
  refine ax_iload_n O d_Li_setNumber_0 rfl 2 rfl ?_
  refine ax_iload_n O d_Li_setNumber_1 rfl 3 rfl ?_
  refine ax_aload_n O d_Li_setNumber_2 rfl 0 rfl ?_
  obtain ⟨fv1, v1, cv1, kv1, hf⟩ := mgi_some hf
  refine ax_get O fg_Li_24 cv1 kv1 d_Li_setNumber_3 ?_
  refine ax_imul O d_Li_setNumber_6 ?_
  refine ax_bipush (v := 8) O d_Li_setNumber_7 (by decide) ?_
  refine ax_idiv O d_Li_setNumber_9 (by decide) ?_
  refine ax_iadd O d_Li_setNumber_10 ?_
  obtain ⟨v2, ev2, hf⟩ := mnm_some hf
  refine ax_nmi ev2 ?_
  refine ax_istore (lv' := [(5, .int v2), (0, .ref a0), (1, .ref a1), (2, .int x2), (3, .int x3), (4, .int x4)]) O d_Li_setNumber_11 (by decide) rfl ?_
  refine ax_aload_n O d_Li_setNumber_13 rfl 1 rfl ?_
  obtain ⟨fv3, v3, cv3, kv3, hf⟩ := mgi_some hf
  refine ax_get O fg_Li_24 cv3 kv3 d_Li_setNumber_14 ?_
  refine ax_bipush (v := 16) O d_Li_setNumber_17 (by decide) ?_
  refine ax_icmp_ne (tgt := 44) O d_Li_setNumber_19 (by decide) (fun q4 => ?_) (fun q4 => ?_)
  · rw [if_neg q4] at hf
    refine ax_aload_n O d_Li_setNumber_44 rfl 2 rfl ?_
    refine ax_iload O d_Li_setNumber_45 0 rfl ?_
    obtain ⟨fh7, ch7, hf⟩ := mis_some hf
    obtain ⟨v6, h7, mh7, hf⟩ := mcl_some hf
    refine ax_callV (As := [.int v2]) (rest := []) O cw_By_byteAt (q := (R_By, T_By, 2)) rfl rfl in_By_byteAt se_By_byteAt lk_Li_64 ch7 (c_By_byteAt mh7) rfl ⟨rfl, rfl⟩ (by decide) (by decide) (Nat.le_of_ble_eq_true rfl) d_Li_setNumber_47 ?_
    refine ax_aload_n O d_Li_setNumber_50 rfl 1 rfl ?_
    obtain ⟨fh10, ch10, hf⟩ := mis_some hf
    obtain ⟨v9, h10, mh10, hf⟩ := mcl_some hf
    refine ax_callV (As := []) (rest := [.int v6]) O cw_Li_mask (q := (R_Li, T_Li, 6)) rfl rfl in_Li_mask se_Li_mask lk_Li_71 ch10 (c_Li_mask mh10) rfl ⟨rfl, rfl⟩ (by decide) (by decide) (Nat.le_of_ble_eq_true rfl) d_Li_setNumber_51 ?_
    refine ax_aload_n O d_Li_setNumber_54 rfl 1 rfl ?_
    refine ax_iload_n O d_Li_setNumber_55 rfl 4 rfl ?_
    obtain ⟨fh13, ch13, hf⟩ := mis_some hf
    obtain ⟨v12, h13, mh13, hf⟩ := mcl_some hf
    refine ax_callV (As := [.int x3]) (rest := [.int v9, .int v6]) O cw_Li_shiftOf (q := (R_Li, T_Li, 6)) rfl rfl in_Li_shiftOf se_Li_shiftOf lk_Li_68 ch13 (c_Li_shiftOf mh13) rfl ⟨rfl, rfl⟩ (by decide) (by decide) (Nat.le_of_ble_eq_true rfl) d_Li_setNumber_56 ?_
    refine ax_ishl O d_Li_setNumber_59 ?_
    refine ax_iconst (v := (-1)) O d_Li_setNumber_60 (by decide) ?_
    refine ax_ixor O d_Li_setNumber_61 ?_
    refine ax_iand O d_Li_setNumber_62 ?_
    obtain ⟨v14, ev14, hf⟩ := mnm_some hf
    refine ax_nmi ev14 ?_
    refine ax_istore (lv' := [(6, .int v14), (5, .int v2), (0, .ref a0), (1, .ref a1), (2, .int x2), (3, .int x3), (4, .int x4)]) O d_Li_setNumber_63 (by decide) rfl ?_
    refine ax_aload_n O d_Li_setNumber_65 rfl 3 rfl ?_
    refine ax_iload O d_Li_setNumber_66 1 rfl ?_
    refine ax_iload O d_Li_setNumber_68 0 rfl ?_
    refine ax_iload O d_Li_setNumber_70 6 rfl ?_
    refine ax_aload_n O d_Li_setNumber_72 rfl 2 rfl ?_
    obtain ⟨fh17, ch17, hf⟩ := mis_some hf
    obtain ⟨v16, h17, mh17, hf⟩ := mcl_some hf
    refine ax_callV (As := []) (rest := [.int x4, .int v14, .int v2, .ref a1]) O cw_Li_mask (q := (R_Li, T_Li, 6)) rfl rfl in_Li_mask se_Li_mask lk_Li_71 ch17 (c_Li_mask mh17) rfl ⟨rfl, rfl⟩ (by decide) (by decide) (Nat.le_of_ble_eq_true rfl) d_Li_setNumber_73 ?_
    refine ax_iand O d_Li_setNumber_76 ?_
    refine ax_aload_n O d_Li_setNumber_77 rfl 2 rfl ?_
    refine ax_iload_n O d_Li_setNumber_78 rfl 5 rfl ?_
    obtain ⟨fh20, ch20, hf⟩ := mis_some hf
    obtain ⟨v19, h20, mh20, hf⟩ := mcl_some hf
    refine ax_callV (As := [.int x3]) (rest := [.int (x4 &&& v16), .int v14, .int v2, .ref a1]) O cw_Li_shiftOf (q := (R_Li, T_Li, 6)) rfl rfl in_Li_shiftOf se_Li_shiftOf lk_Li_68 ch20 (c_Li_shiftOf mh20) rfl ⟨rfl, rfl⟩ (by decide) (by decide) (Nat.le_of_ble_eq_true rfl) d_Li_setNumber_79 ?_
    refine ax_ishl O d_Li_setNumber_82 ?_
    refine ax_ior O d_Li_setNumber_83 ?_
    obtain ⟨fh23, ch23, hf⟩ := mis_some hf
    obtain ⟨u24, h23, mh23, hf⟩ := mcl_some hf
    refine ax_callV (As := [.int v2, .int (v14 ||| ((x4 &&& v16) <<< (v19 &&& 31)))]) (rest := []) O cw_By_change (q := (R_By, T_By, 2)) rfl rfl in_By_change se_By_change lk_Li_74 ch23 (c_By_change mh23) rfl ⟨rfl, rfl⟩ (by decide) (by decide) (Nat.le_of_ble_eq_true rfl) d_Li_setNumber_84 ?_
    exact ax_vretE O hE hf d_Li_setNumber_87
  · rw [if_pos q4] at hf
    refine ax_aload_n O d_Li_setNumber_22 rfl 2 rfl ?_
    refine ax_iload O d_Li_setNumber_23 0 rfl ?_
    refine ax_iload O d_Li_setNumber_25 5 rfl ?_
    refine ax_bipush (v := 8) O d_Li_setNumber_27 (by decide) ?_
    refine ax_ishr O d_Li_setNumber_29 ?_
    obtain ⟨fh27, ch27, hf⟩ := mis_some hf
    obtain ⟨u28, h27, mh27, hf⟩ := mcl_some hf
    refine ax_callV (As := [.int v2, .int (x4 >>> (8 &&& 31))]) (rest := []) O cw_By_change (q := (R_By, T_By, 2)) rfl rfl in_By_change se_By_change lk_Li_74 ch27 (c_By_change mh27) rfl ⟨rfl, rfl⟩ (by decide) (by decide) (Nat.le_of_ble_eq_true rfl) d_Li_setNumber_30 ?_
    refine ax_aload_n O d_Li_setNumber_33 rfl 2 rfl ?_
    refine ax_iload O d_Li_setNumber_34 0 rfl ?_
    refine ax_iconst (v := 1) O d_Li_setNumber_36 (by decide) ?_
    refine ax_iadd O d_Li_setNumber_37 ?_
    refine ax_iload O d_Li_setNumber_38 5 rfl ?_
    obtain ⟨fh31, ch31, hf⟩ := mis_some hf
    obtain ⟨u32, h31, mh31, hf⟩ := mcl_some hf
    refine ax_callV (As := [.int (v2 + 1), .int x4]) (rest := []) O cw_By_change (q := (R_By, T_By, 2)) rfl rfl in_By_change se_By_change lk_Li_74 ch31 (c_By_change mh31) rfl ⟨rfl, rfl⟩ (by decide) (by decide) (Nat.le_of_ble_eq_true rfl) d_Li_setNumber_40 ?_
    exact ax_vretE O hE hf d_Li_setNumber_43
theorem c_Li_setNumber {ln : Launch} {n0 : Nat} {h0 h' : mH} {a0 : Nat} {a1 : Nat} {x2 : Int32} {x3 : Int32} {x4 : Int32} {r' : Unit} (hf : f_Li_setNumber n0 h0 a0 a1 x2 x3 x4 = some (r', h')) : mMet ln y_Li_setNumber b_Li_setNumber 7 none (mR 1 22) [.ref a0, .ref a1, .int x2, .int x3, .int x4] h0 none h' := mMet_of (by decide +kernel) (Nat.le_of_ble_eq_true rfl) (fun X ad O hE => cb_Li_setNumber O r' h' hE n0 h0 a0 a1 x2 x3 x4 hf)
