/-! ===== StreamFiltersModel.cut(I)I ===== -/
theorem d_Mo_cut_0 : decode b_Mo_cut 0 = .ok (.aload_n 0, 1) := by decide +kernel
theorem d_Mo_cut_1 : decode b_Mo_cut 1 = .ok (.iload_n 1, 1) := by decide +kernel
theorem d_Mo_cut_2 : decode b_Mo_cut 2 = .ok (.ifCond .ge 7, 3) := by decide +kernel
theorem d_Mo_cut_5 : decode b_Mo_cut 5 = .ok (.iconst 1, 1) := by decide +kernel
theorem d_Mo_cut_6 : decode b_Mo_cut 6 = .ok (.goto 4, 3) := by decide +kernel
theorem d_Mo_cut_9 : decode b_Mo_cut 9 = .ok (.iconst 0, 1) := by decide +kernel
theorem d_Mo_cut_10 : decode b_Mo_cut 10 = .ok (.invokevirtual 79, 3) := by decide +kernel
theorem d_Mo_cut_13 : decode b_Mo_cut 13 = .ok (.ifCond .eq 5, 3) := by decide +kernel
theorem d_Mo_cut_16 : decode b_Mo_cut 16 = .ok (.iconst 0, 1) := by decide +kernel
theorem d_Mo_cut_17 : decode b_Mo_cut 17 = .ok (.ireturn, 1) := by decide +kernel
theorem d_Mo_cut_18 : decode b_Mo_cut 18 = .ok (.aload_n 0, 1) := by decide +kernel
theorem d_Mo_cut_19 : decode b_Mo_cut 19 = .ok (.getfield 72, 3) := by decide +kernel
theorem d_Mo_cut_22 : decode b_Mo_cut 22 = .ok (.iload_n 1, 1) := by decide +kernel
theorem d_Mo_cut_23 : decode b_Mo_cut 23 = .ok (.if_icmp .le 12, 3) := by decide +kernel
theorem d_Mo_cut_26 : decode b_Mo_cut 26 = .ok (.aload_n 0, 1) := by decide +kernel
theorem d_Mo_cut_27 : decode b_Mo_cut 27 = .ok (.getfield 72, 3) := by decide +kernel
theorem d_Mo_cut_30 : decode b_Mo_cut 30 = .ok (.iload_n 1, 1) := by decide +kernel
theorem d_Mo_cut_31 : decode b_Mo_cut 31 = .ok (.isub, 1) := by decide +kernel
theorem d_Mo_cut_32 : decode b_Mo_cut 32 = .ok (.goto 4, 3) := by decide +kernel
theorem d_Mo_cut_35 : decode b_Mo_cut 35 = .ok (.iconst 0, 1) := by decide +kernel
theorem d_Mo_cut_36 : decode b_Mo_cut 36 = .ok (.istore_n 2, 1) := by decide +kernel
theorem d_Mo_cut_37 : decode b_Mo_cut 37 = .ok (.aload_n 0, 1) := by decide +kernel
theorem d_Mo_cut_38 : decode b_Mo_cut 38 = .ok (.aload_n 0, 1) := by decide +kernel
theorem d_Mo_cut_39 : decode b_Mo_cut 39 = .ok (.getfield 72, 3) := by decide +kernel
theorem d_Mo_cut_42 : decode b_Mo_cut 42 = .ok (.iload_n 2, 1) := by decide +kernel
theorem d_Mo_cut_43 : decode b_Mo_cut 43 = .ok (.isub, 1) := by decide +kernel
theorem d_Mo_cut_44 : decode b_Mo_cut 44 = .ok (.putfield 72, 3) := by decide +kernel
theorem d_Mo_cut_47 : decode b_Mo_cut 47 = .ok (.iload_n 2, 1) := by decide +kernel
theorem d_Mo_cut_48 : decode b_Mo_cut 48 = .ok (.ireturn, 1) := by decide +kernel
noncomputable def f_Mo_cut_B36  (n0 : Nat) (h0 : mH) (a0 : Nat) (p0 : Int32) : Option (Int32 × mH) :=
  mgi h0 a0 10 1 fun v8 =>
  mpt h0 a0 10 1 (.int (v8 - p0)) fun h9 =>
  some (p0, h9)
noncomputable def f_Mo_cut_B10  (n0 : Nat) (h0 : mH) (a0 : Nat) (x1 : Int32) (p0 : Int32) (b1 : Nat) : Option (Int32 × mH) :=
  mis h0 b1 10 <|
  mcl (f_Mo_refused n0 h0 b1 p0) fun v3 h4 =>
  if v3 = 0 then
    mgi h4 a0 10 1 fun v6 =>
    if v6 ≤ x1 then
      f_Mo_cut_B36 n0 h4 a0 0
    else
      mgi h4 a0 10 1 fun v10 =>
      f_Mo_cut_B36 n0 h4 a0 (v10 - x1)
  else
    some (0, h4)
noncomputable def f_Mo_cut  (n0 : Nat) (h0 : mH) (a0 : Nat) (x1 : Int32) : Option (Int32 × mH) :=
  if 0 ≤ x1 then
    f_Mo_cut_B10 n0 h0 a0 x1 0 a0
  else
    f_Mo_cut_B10 n0 h0 a0 x1 1 a0
set_option maxHeartbeats 4000000 in
set_option maxRecDepth 100000 in
theorem cb_Mo_cut_B36 {X : mX} {ad : Nat → Nat} {ln : Launch} (O : mO X ad R_Mo b_Mo_cut 3 (mR 1 21) ln) (r' : Int32) (h' : mH) (hE : mEnd X ad (some .int) (some (.int r')) h') (n0 : Nat) (h0 : mH) (a0 : Nat) (p0 : Int32) (hf : f_Mo_cut_B36 n0 h0 a0 p0 = some (r', h')) : mAW X ad 0 0 36 [(0, .ref a0)] [.int p0] h0 := by
  unfold f_Mo_cut_B36 at hf
  refine ax_istore_n (lv' := [(2, .int p0), (0, .ref a0)]) O d_Mo_cut_36 rfl (by decide) rfl ?_
  refine ax_aload_n O d_Mo_cut_37 rfl 1 rfl ?_
  refine ax_aload_n O d_Mo_cut_38 rfl 1 rfl ?_
  obtain ⟨fv8, v8, cv8, kv8, hf⟩ := mgi_some hf
  refine ax_get O fg_Mo_72 cv8 kv8 d_Mo_cut_39 ?_
  refine ax_iload_n O d_Mo_cut_42 rfl 0 rfl ?_
  refine ax_isub O d_Mo_cut_43 ?_
  obtain ⟨fh9, h9, ch9, kh9, eh9, hf⟩ := mpt_some hf
  refine ax_put (v := .int (v8 - p0)) O fp_Mo_72 ch9 kh9 eh9 rfl rfl d_Mo_cut_44 ?_
  refine ax_iload_n O d_Mo_cut_47 rfl 0 rfl ?_
  exact ax_retE O hE hf rfl d_Mo_cut_48
set_option maxHeartbeats 4000000 in
set_option maxRecDepth 100000 in
theorem cb_Mo_cut_B10 {X : mX} {ad : Nat → Nat} {ln : Launch} (O : mO X ad R_Mo b_Mo_cut 3 (mR 1 21) ln) (r' : Int32) (h' : mH) (hE : mEnd X ad (some .int) (some (.int r')) h') (n0 : Nat) (h0 : mH) (a0 : Nat) (x1 : Int32) (p0 : Int32) (b1 : Nat) (hf : f_Mo_cut_B10 n0 h0 a0 x1 p0 b1 = some (r', h')) : mAW X ad 0 0 10 [(0, .ref a0), (1, .int x1)] [.int p0, .ref b1] h0 := by
  unfold f_Mo_cut_B10 at hf
  obtain ⟨fh4, ch4, hf⟩ := mis_some hf
  obtain ⟨v3, h4, mh4, hf⟩ := mcl_some hf
  refine ax_callV (As := [.int p0]) (rest := []) O cw_Mo_refused (q := (R_Mo, T_Mo, 31)) rfl rfl in_Mo_refused se_Mo_refused lk_Mo_79 ch4 (c_Mo_refused mh4) rfl ⟨rfl, rfl⟩ (by decide) (by decide) (Nat.le_of_ble_eq_true rfl) d_Mo_cut_10 ?_
  refine ax_if_eq (tgt := 18) O d_Mo_cut_13 (by decide) (fun q5 => ?_) (fun q5 => ?_)
  · rw [if_pos q5] at hf
    refine ax_aload_n O d_Mo_cut_18 rfl 0 rfl ?_
    obtain ⟨fv6, v6, cv6, kv6, hf⟩ := mgi_some hf
    refine ax_get O fg_Mo_72 cv6 kv6 d_Mo_cut_19 ?_
    refine ax_iload_n O d_Mo_cut_22 rfl 1 rfl ?_
    refine ax_icmp_le (tgt := 35) O d_Mo_cut_23 (by decide) (fun q7 => ?_) (fun q7 => ?_)
    · rw [if_pos q7] at hf
      refine ax_iconst (v := 0) O d_Mo_cut_35 (by decide) ?_
      refine ax_sub [0] rfl ?_
      exact cb_Mo_cut_B36 O _ _ hE n0 _ _ _ hf
    · rw [if_neg q7] at hf
      refine ax_aload_n O d_Mo_cut_26 rfl 0 rfl ?_
      obtain ⟨fv10, v10, cv10, kv10, hf⟩ := mgi_some hf
      refine ax_get O fg_Mo_72 cv10 kv10 d_Mo_cut_27 ?_
      refine ax_iload_n O d_Mo_cut_30 rfl 1 rfl ?_
      refine ax_isub O d_Mo_cut_31 ?_
      refine ax_goto (tgt := 36) O d_Mo_cut_32 (by decide) ?_
      refine ax_sub [0] rfl ?_
      exact cb_Mo_cut_B36 O _ _ hE n0 _ _ _ hf
  · rw [if_neg q5] at hf
    refine ax_iconst (v := 0) O d_Mo_cut_16 (by decide) ?_
    exact ax_retE O hE hf rfl d_Mo_cut_17
set_option maxHeartbeats 4000000 in
set_option maxRecDepth 100000 in
theorem cb_Mo_cut {X : mX} {ad : Nat → Nat} {ln : Launch} (O : mO X ad R_Mo b_Mo_cut 3 (mR 1 21) ln) (r' : Int32) (h' : mH) (hE : mEnd X ad (some .int) (some (.int r')) h') (n0 : Nat) (h0 : mH) (a0 : Nat) (x1 : Int32) (hf : f_Mo_cut n0 h0 a0 x1 = some (r', h')) : mAW X ad 0 0 0 [(0, .ref a0), (1, .int x1)] [] h0 := by
  unfold f_Mo_cut at hf
  refine ax_aload_n O d_Mo_cut_0 rfl 0 rfl ?_
  refine ax_iload_n O d_Mo_cut_1 rfl 1 rfl ?_
  refine ax_if_ge (tgt := 9) O d_Mo_cut_2 (by decide) (fun q1 => ?_) (fun q1 => ?_)
  · rw [if_pos q1] at hf
    refine ax_iconst (v := 0) O d_Mo_cut_9 (by decide) ?_
    exact cb_Mo_cut_B10 O _ _ hE n0 _ _ _ _ _ hf
  · rw [if_neg q1] at hf
    refine ax_iconst (v := 1) O d_Mo_cut_5 (by decide) ?_
    refine ax_goto (tgt := 10) O d_Mo_cut_6 (by decide) ?_
    exact cb_Mo_cut_B10 O _ _ hE n0 _ _ _ _ _ hf
theorem c_Mo_cut {ln : Launch} {n0 : Nat} {h0 h' : mH} {a0 : Nat} {x1 : Int32} {r' : Int32} (hf : f_Mo_cut n0 h0 a0 x1 = some (r', h')) : mMet ln y_Mo_cut b_Mo_cut 3 (some .int) (mR 1 21) [.ref a0, .int x1] h0 (some (.int r')) h' := mMet_of (by decide +kernel) (Nat.le_of_ble_eq_true rfl) (fun X ad O hE => cb_Mo_cut O r' h' hE n0 h0 a0 x1 hf)
/-! ===== StreamFiltersModel.filter(II)I ===== -/
theorem d_Mo_filter_0 : decode b_Mo_filter 0 = .ok (.aload_n 0, 1) := by decide +kernel
theorem d_Mo_filter_1 : decode b_Mo_filter 1 = .ok (.iload_n 1, 1) := by decide +kernel
theorem d_Mo_filter_2 : decode b_Mo_filter 2 = .ok (.iconst 0, 1) := by decide +kernel
theorem d_Mo_filter_3 : decode b_Mo_filter 3 = .ok (.iconst 4, 1) := by decide +kernel
theorem d_Mo_filter_4 : decode b_Mo_filter 4 = .ok (.invokestatic 75, 3) := by decide +kernel
theorem d_Mo_filter_7 : decode b_Mo_filter 7 = .ok (.ifCond .eq 12, 3) := by decide +kernel
theorem d_Mo_filter_10 : decode b_Mo_filter 10 = .ok (.iload_n 2, 1) := by decide +kernel
theorem d_Mo_filter_11 : decode b_Mo_filter 11 = .ok (.iconst 0, 1) := by decide +kernel
theorem d_Mo_filter_12 : decode b_Mo_filter 12 = .ok (.iconst 1, 1) := by decide +kernel
theorem d_Mo_filter_13 : decode b_Mo_filter 13 = .ok (.invokestatic 75, 3) := by decide +kernel
theorem d_Mo_filter_16 : decode b_Mo_filter 16 = .ok (.ifCond .ne 7, 3) := by decide +kernel
theorem d_Mo_filter_19 : decode b_Mo_filter 19 = .ok (.iconst 1, 1) := by decide +kernel
theorem d_Mo_filter_20 : decode b_Mo_filter 20 = .ok (.goto 17, 3) := by decide +kernel
theorem d_Mo_filter_23 : decode b_Mo_filter 23 = .ok (.aload_n 0, 1) := by decide +kernel
theorem d_Mo_filter_24 : decode b_Mo_filter 24 = .ok (.getfield 83, 3) := by decide +kernel
theorem d_Mo_filter_27 : decode b_Mo_filter 27 = .ok (.bipush 8, 2) := by decide +kernel
theorem d_Mo_filter_29 : decode b_Mo_filter 29 = .ok (.if_icmp .ne 7, 3) := by decide +kernel
theorem d_Mo_filter_32 : decode b_Mo_filter 32 = .ok (.iconst 2, 1) := by decide +kernel
theorem d_Mo_filter_33 : decode b_Mo_filter 33 = .ok (.goto 4, 3) := by decide +kernel
theorem d_Mo_filter_36 : decode b_Mo_filter 36 = .ok (.iconst 0, 1) := by decide +kernel
theorem d_Mo_filter_37 : decode b_Mo_filter 37 = .ok (.invokevirtual 79, 3) := by decide +kernel
theorem d_Mo_filter_40 : decode b_Mo_filter 40 = .ok (.ifCond .eq 5, 3) := by decide +kernel
theorem d_Mo_filter_43 : decode b_Mo_filter 43 = .ok (.iconst 0, 1) := by decide +kernel
theorem d_Mo_filter_44 : decode b_Mo_filter 44 = .ok (.ireturn, 1) := by decide +kernel
theorem d_Mo_filter_45 : decode b_Mo_filter 45 = .ok (.aload_n 0, 1) := by decide +kernel
theorem d_Mo_filter_46 : decode b_Mo_filter 46 = .ok (.getfield 13, 3) := by decide +kernel
theorem d_Mo_filter_49 : decode b_Mo_filter 49 = .ok (.aload_n 0, 1) := by decide +kernel
theorem d_Mo_filter_50 : decode b_Mo_filter 50 = .ok (.getfield 83, 3) := by decide +kernel
theorem d_Mo_filter_53 : decode b_Mo_filter 53 = .ok (.iload_n 1, 1) := by decide +kernel
theorem d_Mo_filter_54 : decode b_Mo_filter 54 = .ok (.iastore, 1) := by decide +kernel
theorem d_Mo_filter_55 : decode b_Mo_filter 55 = .ok (.aload_n 0, 1) := by decide +kernel
theorem d_Mo_filter_56 : decode b_Mo_filter 56 = .ok (.getfield 16, 3) := by decide +kernel
theorem d_Mo_filter_59 : decode b_Mo_filter 59 = .ok (.aload_n 0, 1) := by decide +kernel
theorem d_Mo_filter_60 : decode b_Mo_filter 60 = .ok (.getfield 83, 3) := by decide +kernel
theorem d_Mo_filter_63 : decode b_Mo_filter 63 = .ok (.iload_n 2, 1) := by decide +kernel
theorem d_Mo_filter_64 : decode b_Mo_filter 64 = .ok (.iastore, 1) := by decide +kernel
theorem d_Mo_filter_65 : decode b_Mo_filter 65 = .ok (.aload_n 0, 1) := by decide +kernel
theorem d_Mo_filter_66 : decode b_Mo_filter 66 = .ok (.getfield 19, 3) := by decide +kernel
theorem d_Mo_filter_69 : decode b_Mo_filter 69 = .ok (.aload_n 0, 1) := by decide +kernel
theorem d_Mo_filter_70 : decode b_Mo_filter 70 = .ok (.getfield 83, 3) := by decide +kernel
theorem d_Mo_filter_73 : decode b_Mo_filter 73 = .ok (.iconst 1, 1) := by decide +kernel
theorem d_Mo_filter_74 : decode b_Mo_filter 74 = .ok (.iastore, 1) := by decide +kernel
theorem d_Mo_filter_75 : decode b_Mo_filter 75 = .ok (.aload_n 0, 1) := by decide +kernel
theorem d_Mo_filter_76 : decode b_Mo_filter 76 = .ok (.dup, 1) := by decide +kernel
theorem d_Mo_filter_77 : decode b_Mo_filter 77 = .ok (.getfield 83, 3) := by decide +kernel
theorem d_Mo_filter_80 : decode b_Mo_filter 80 = .ok (.iconst 1, 1) := by decide +kernel
theorem d_Mo_filter_81 : decode b_Mo_filter 81 = .ok (.iadd, 1) := by decide +kernel
theorem d_Mo_filter_82 : decode b_Mo_filter 82 = .ok (.putfield 83, 3) := by decide +kernel
theorem d_Mo_filter_85 : decode b_Mo_filter 85 = .ok (.aload_n 0, 1) := by decide +kernel
theorem d_Mo_filter_86 : decode b_Mo_filter 86 = .ok (.getfield 83, 3) := by decide +kernel
theorem d_Mo_filter_89 : decode b_Mo_filter 89 = .ok (.ireturn, 1) := by decide +kernel
noncomputable def f_Mo_filter_B37  (n0 : Nat) (h0 : mH) (a0 : Nat) (x1 : Int32) (x2 : Int32) (p0 : Int32) (b1 : Nat) : Option (Int32 × mH) :=
  mis h0 b1 10 <|
  mcl (f_Mo_refused n0 h0 b1 p0) fun v6 h7 =>
  if v6 = 0 then
    mgr h7 a0 10 4 fun r9 =>
    mgi h7 a0 10 3 fun v10 =>
    mas h7 r9 .int v10 x1 fun h11 =>
    mgr h11 a0 10 5 fun r12 =>
    mgi h11 a0 10 3 fun v13 =>
    mas h11 r12 .int v13 x2 fun h14 =>
    mgr h14 a0 10 6 fun r15 =>
    mgi h14 a0 10 3 fun v16 =>
    mas h14 r15 .int v16 1 fun h17 =>
    mgi h17 a0 10 3 fun v18 =>
    mpt h17 a0 10 3 (.int (v18 + 1)) fun h19 =>
    mgi h19 a0 10 3 fun v20 =>
    some (v20, h19)
  else
    some (0, h7)
noncomputable def f_Mo_filter_B19  (n0 : Nat) (h0 : mH) (a0 : Nat) (x1 : Int32) (x2 : Int32) (b0 : Nat) : Option (Int32 × mH) :=
  f_Mo_filter_B37 n0 h0 a0 x1 x2 1 b0
noncomputable def f_Mo_filter  (n0 : Nat) (h0 : mH) (a0 : Nat) (x1 : Int32) (x2 : Int32) : Option (Int32 × mH) :=
  mcl (f_Mo_isIn n0 h0 x1 0 4) fun v2 h3 =>
  if v2 = 0 then
    f_Mo_filter_B19 n0 h3 a0 x1 x2 a0
  else
    mcl (f_Mo_isIn n0 h3 x2 0 1) fun v22 h23 =>
    if v22 = 0 then
      f_Mo_filter_B19 n0 h23 a0 x1 x2 a0
    else
      mgi h23 a0 10 3 fun v25 =>
      if v25 = 8 then
        f_Mo_filter_B37 n0 h23 a0 x1 x2 2 a0
      else
        f_Mo_filter_B37 n0 h23 a0 x1 x2 0 a0
set_option maxHeartbeats 4000000 in
set_option maxRecDepth 100000 in
theorem cb_Mo_filter_B37 {X : mX} {ad : Nat → Nat} {ln : Launch} (O : mO X ad R_Mo b_Mo_filter 3 (mR 1 22) ln) (r' : Int32) (h' : mH) (hE : mEnd X ad (some .int) (some (.int r')) h') (n0 : Nat) (h0 : mH) (a0 : Nat) (x1 : Int32) (x2 : Int32) (p0 : Int32) (b1 : Nat) (hf : f_Mo_filter_B37 n0 h0 a0 x1 x2 p0 b1 = some (r', h')) : mAW X ad 0 0 37 [(0, .ref a0), (1, .int x1), (2, .int x2)] [.int p0, .ref b1] h0 := by
  unfold f_Mo_filter_B37 at hf
  obtain ⟨fh7, ch7, hf⟩ := mis_some hf
  obtain ⟨v6, h7, mh7, hf⟩ := mcl_some hf
  refine ax_callV (As := [.int p0]) (rest := []) O cw_Mo_refused (q := (R_Mo, T_Mo, 31)) rfl rfl in_Mo_refused se_Mo_refused lk_Mo_79 ch7 (c_Mo_refused mh7) rfl ⟨rfl, rfl⟩ (by decide) (by decide) (Nat.le_of_ble_eq_true rfl) d_Mo_filter_37 ?_
  refine ax_if_eq (tgt := 45) O d_Mo_filter_40 (by decide) (fun q8 => ?_) (fun q8 => ?_)
  · rw [if_pos q8] at hf
    refine ax_aload_n O d_Mo_filter_45 rfl 0 rfl ?_
    obtain ⟨fr9, r9, cr9, kr9, hf⟩ := mgr_some hf
    refine ax_get O fg_Mo_13 cr9 kr9 d_Mo_filter_46 ?_
    refine ax_aload_n O d_Mo_filter_49 rfl 0 rfl ?_
    obtain ⟨fv10, v10, cv10, kv10, hf⟩ := mgi_some hf
    refine ax_get O fg_Mo_83 cv10 kv10 d_Mo_filter_50 ?_
    refine ax_iload_n O d_Mo_filter_53 rfl 1 rfl ?_
    obtain ⟨nh11, fh11, h11, ch11, ih11, eh11, hf⟩ := mas_some hf
    refine ax_iast O ch11 ih11 eh11 d_Mo_filter_54 ?_
    refine ax_aload_n O d_Mo_filter_55 rfl 0 rfl ?_
    obtain ⟨fr12, r12, cr12, kr12, hf⟩ := mgr_some hf
    refine ax_get O fg_Mo_16 cr12 kr12 d_Mo_filter_56 ?_
    refine ax_aload_n O d_Mo_filter_59 rfl 0 rfl ?_
    obtain ⟨fv13, v13, cv13, kv13, hf⟩ := mgi_some hf
    refine ax_get O fg_Mo_83 cv13 kv13 d_Mo_filter_60 ?_
    refine ax_iload_n O d_Mo_filter_63 rfl 2 rfl ?_
    obtain ⟨nh14, fh14, h14, ch14, ih14, eh14, hf⟩ := mas_some hf
    refine ax_iast O ch14 ih14 eh14 d_Mo_filter_64 ?_
    refine ax_aload_n O d_Mo_filter_65 rfl 0 rfl ?_
    obtain ⟨fr15, r15, cr15, kr15, hf⟩ := mgr_some hf
    refine ax_get O fg_Mo_19 cr15 kr15 d_Mo_filter_66 ?_
    refine ax_aload_n O d_Mo_filter_69 rfl 0 rfl ?_
    obtain ⟨fv16, v16, cv16, kv16, hf⟩ := mgi_some hf
    refine ax_get O fg_Mo_83 cv16 kv16 d_Mo_filter_70 ?_
    refine ax_iconst (v := 1) O d_Mo_filter_73 (by decide) ?_
    obtain ⟨nh17, fh17, h17, ch17, ih17, eh17, hf⟩ := mas_some hf
    refine ax_iast O ch17 ih17 eh17 d_Mo_filter_74 ?_
    refine ax_aload_n O d_Mo_filter_75 rfl 0 rfl ?_
    refine ax_dup O d_Mo_filter_76 rfl ?_
    obtain ⟨fv18, v18, cv18, kv18, hf⟩ := mgi_some hf
    refine ax_get O fg_Mo_83 cv18 kv18 d_Mo_filter_77 ?_
    refine ax_iconst (v := 1) O d_Mo_filter_80 (by decide) ?_
    refine ax_iadd O d_Mo_filter_81 ?_
    obtain ⟨fh19, h19, ch19, kh19, eh19, hf⟩ := mpt_some hf
    refine ax_put (v := .int (v18 + 1)) O fp_Mo_83 ch19 kh19 eh19 rfl rfl d_Mo_filter_82 ?_
    refine ax_aload_n O d_Mo_filter_85 rfl 0 rfl ?_
    obtain ⟨fv20, v20, cv20, kv20, hf⟩ := mgi_some hf
    refine ax_get O fg_Mo_83 cv20 kv20 d_Mo_filter_86 ?_
    exact ax_retE O hE hf rfl d_Mo_filter_89
  · rw [if_neg q8] at hf
    refine ax_iconst (v := 0) O d_Mo_filter_43 (by decide) ?_
    exact ax_retE O hE hf rfl d_Mo_filter_44
set_option maxHeartbeats 4000000 in
set_option maxRecDepth 100000 in
theorem cb_Mo_filter_B19 {X : mX} {ad : Nat → Nat} {ln : Launch} (O : mO X ad R_Mo b_Mo_filter 3 (mR 1 22) ln) (r' : Int32) (h' : mH) (hE : mEnd X ad (some .int) (some (.int r')) h') (n0 : Nat) (h0 : mH) (a0 : Nat) (x1 : Int32) (x2 : Int32) (b0 : Nat) (hf : f_Mo_filter_B19 n0 h0 a0 x1 x2 b0 = some (r', h')) : mAW X ad 0 0 19 [(0, .ref a0), (1, .int x1), (2, .int x2)] [.ref b0] h0 := by
  unfold f_Mo_filter_B19 at hf
  refine ax_iconst (v := 1) O d_Mo_filter_19 (by decide) ?_
  refine ax_goto (tgt := 37) O d_Mo_filter_20 (by decide) ?_
  exact cb_Mo_filter_B37 O _ _ hE n0 _ _ _ _ _ _ hf
set_option maxHeartbeats 4000000 in
set_option maxRecDepth 100000 in
theorem cb_Mo_filter {X : mX} {ad : Nat → Nat} {ln : Launch} (O : mO X ad R_Mo b_Mo_filter 3 (mR 1 22) ln) (r' : Int32) (h' : mH) (hE : mEnd X ad (some .int) (some (.int r')) h') (n0 : Nat) (h0 : mH) (a0 : Nat) (x1 : Int32) (x2 : Int32) (hf : f_Mo_filter n0 h0 a0 x1 x2 = some (r', h')) : mAW X ad 0 0 0 [(0, .ref a0), (1, .int x1), (2, .int x2)] [] h0 := by
  unfold f_Mo_filter at hf
  refine ax_aload_n O d_Mo_filter_0 rfl 0 rfl ?_
  refine ax_iload_n O d_Mo_filter_1 rfl 1 rfl ?_
  refine ax_iconst (v := 0) O d_Mo_filter_2 (by decide) ?_
  refine ax_iconst (v := 4) O d_Mo_filter_3 (by decide) ?_
  obtain ⟨v2, h3, mh3, hf⟩ := mcl_some hf
  refine ax_callS (As := [.int x1, .int 0, .int 4]) (rest := [.ref a0]) O cw_Mo_isIn st_Mo_isIn lk_Mo_75 (c_Mo_isIn mh3) rfl ⟨rfl, rfl⟩ (by decide) (by decide) (Nat.le_of_ble_eq_true rfl) d_Mo_filter_4 ?_
  refine ax_if_eq (tgt := 19) O d_Mo_filter_7 (by decide) (fun q4 => ?_) (fun q4 => ?_)
  · rw [if_pos q4] at hf
    exact cb_Mo_filter_B19 O _ _ hE n0 _ _ _ _ _ hf
  · rw [if_neg q4] at hf
    refine ax_iload_n O d_Mo_filter_10 rfl 2 rfl ?_
    refine ax_iconst (v := 0) O d_Mo_filter_11 (by decide) ?_
    refine ax_iconst (v := 1) O d_Mo_filter_12 (by decide) ?_
    obtain ⟨v22, h23, mh23, hf⟩ := mcl_some hf
    refine ax_callS (As := [.int x2, .int 0, .int 1]) (rest := [.ref a0]) O cw_Mo_isIn st_Mo_isIn lk_Mo_75 (c_Mo_isIn mh23) rfl ⟨rfl, rfl⟩ (by decide) (by decide) (Nat.le_of_ble_eq_true rfl) d_Mo_filter_13 ?_
    refine ax_if_ne (tgt := 23) O d_Mo_filter_16 (by decide) (fun q24 => ?_) (fun q24 => ?_)
    · rw [if_neg q24] at hf
      refine ax_aload_n O d_Mo_filter_23 rfl 0 rfl ?_
      obtain ⟨fv25, v25, cv25, kv25, hf⟩ := mgi_some hf
      refine ax_get O fg_Mo_83 cv25 kv25 d_Mo_filter_24 ?_
      refine ax_bipush (v := 8) O d_Mo_filter_27 (by decide) ?_
      refine ax_icmp_ne (tgt := 36) O d_Mo_filter_29 (by decide) (fun q26 => ?_) (fun q26 => ?_)
      · rw [if_neg q26] at hf
        refine ax_iconst (v := 0) O d_Mo_filter_36 (by decide) ?_
        exact cb_Mo_filter_B37 O _ _ hE n0 _ _ _ _ _ _ hf
      · rw [if_pos q26] at hf
        refine ax_iconst (v := 2) O d_Mo_filter_32 (by decide) ?_
        refine ax_goto (tgt := 37) O d_Mo_filter_33 (by decide) ?_
        exact cb_Mo_filter_B37 O _ _ hE n0 _ _ _ _ _ _ hf
    · rw [if_pos q24] at hf
      exact cb_Mo_filter_B19 O _ _ hE n0 _ _ _ _ _ hf
theorem c_Mo_filter {ln : Launch} {n0 : Nat} {h0 h' : mH} {a0 : Nat} {x1 : Int32} {x2 : Int32} {r' : Int32} (hf : f_Mo_filter n0 h0 a0 x1 x2 = some (r', h')) : mMet ln y_Mo_filter b_Mo_filter 3 (some .int) (mR 1 22) [.ref a0, .int x1, .int x2] h0 (some (.int r')) h' := mMet_of (by decide +kernel) (Nat.le_of_ble_eq_true rfl) (fun X ad O hE => cb_Mo_filter O r' h' hE n0 h0 a0 x1 x2 hf)
/-! ===== StreamFiltersModel.predict(IIII)V ===== -/
theorem d_Mo_predict_0 : decode b_Mo_predict 0 = .ok (.iload_n 1, 1) := by decide +kernel
theorem d_Mo_predict_1 : decode b_Mo_predict 1 = .ok (.iconst 1, 1) := by decide +kernel
theorem d_Mo_predict_2 : decode b_Mo_predict 2 = .ok (.iconst 2, 1) := by decide +kernel
theorem d_Mo_predict_3 : decode b_Mo_predict 3 = .ok (.invokestatic 75, 3) := by decide +kernel
theorem d_Mo_predict_6 : decode b_Mo_predict 6 = .ok (.ifCond .ne 14, 3) := by decide +kernel
theorem d_Mo_predict_9 : decode b_Mo_predict 9 = .ok (.iload_n 1, 1) := by decide +kernel
theorem d_Mo_predict_10 : decode b_Mo_predict 10 = .ok (.bipush 10, 2) := by decide +kernel
theorem d_Mo_predict_12 : decode b_Mo_predict 12 = .ok (.bipush 15, 2) := by decide +kernel
theorem d_Mo_predict_14 : decode b_Mo_predict 14 = .ok (.invokestatic 75, 3) := by decide +kernel
theorem d_Mo_predict_17 : decode b_Mo_predict 17 = .ok (.ifCond .eq 7, 3) := by decide +kernel
theorem d_Mo_predict_20 : decode b_Mo_predict 20 = .ok (.iconst 1, 1) := by decide +kernel
theorem d_Mo_predict_21 : decode b_Mo_predict 21 = .ok (.goto 4, 3) := by decide +kernel
theorem d_Mo_predict_24 : decode b_Mo_predict 24 = .ok (.iconst 0, 1) := by decide +kernel
theorem d_Mo_predict_25 : decode b_Mo_predict 25 = .ok (.istore 5, 2) := by decide +kernel
theorem d_Mo_predict_27 : decode b_Mo_predict 27 = .ok (.iload_n 3, 1) := by decide +kernel
theorem d_Mo_predict_28 : decode b_Mo_predict 28 = .ok (.iconst 1, 1) := by decide +kernel
theorem d_Mo_predict_29 : decode b_Mo_predict 29 = .ok (.if_icmp .eq 25, 3) := by decide +kernel
theorem d_Mo_predict_32 : decode b_Mo_predict 32 = .ok (.iload_n 3, 1) := by decide +kernel
theorem d_Mo_predict_33 : decode b_Mo_predict 33 = .ok (.iconst 2, 1) := by decide +kernel
theorem d_Mo_predict_34 : decode b_Mo_predict 34 = .ok (.if_icmp .eq 20, 3) := by decide +kernel
theorem d_Mo_predict_37 : decode b_Mo_predict 37 = .ok (.iload_n 3, 1) := by decide +kernel
theorem d_Mo_predict_38 : decode b_Mo_predict 38 = .ok (.iconst 4, 1) := by decide +kernel
theorem d_Mo_predict_39 : decode b_Mo_predict 39 = .ok (.if_icmp .eq 15, 3) := by decide +kernel
theorem d_Mo_predict_42 : decode b_Mo_predict 42 = .ok (.iload_n 3, 1) := by decide +kernel
theorem d_Mo_predict_43 : decode b_Mo_predict 43 = .ok (.bipush 8, 2) := by decide +kernel
theorem d_Mo_predict_45 : decode b_Mo_predict 45 = .ok (.if_icmp .eq 9, 3) := by decide +kernel
theorem d_Mo_predict_48 : decode b_Mo_predict 48 = .ok (.iload_n 3, 1) := by decide +kernel
theorem d_Mo_predict_49 : decode b_Mo_predict 49 = .ok (.bipush 16, 2) := by decide +kernel
theorem d_Mo_predict_51 : decode b_Mo_predict 51 = .ok (.if_icmp .ne 7, 3) := by decide +kernel
theorem d_Mo_predict_54 : decode b_Mo_predict 54 = .ok (.iconst 1, 1) := by decide +kernel
theorem d_Mo_predict_55 : decode b_Mo_predict 55 = .ok (.goto 4, 3) := by decide +kernel
theorem d_Mo_predict_58 : decode b_Mo_predict 58 = .ok (.iconst 0, 1) := by decide +kernel
theorem d_Mo_predict_59 : decode b_Mo_predict 59 = .ok (.istore 6, 2) := by decide +kernel
theorem d_Mo_predict_61 : decode b_Mo_predict 61 = .ok (.iload 5, 2) := by decide +kernel
theorem d_Mo_predict_63 : decode b_Mo_predict 63 = .ok (.ifCond .eq 34, 3) := by decide +kernel
theorem d_Mo_predict_66 : decode b_Mo_predict 66 = .ok (.iload 6, 2) := by decide +kernel
theorem d_Mo_predict_68 : decode b_Mo_predict 68 = .ok (.ifCond .eq 29, 3) := by decide +kernel
theorem d_Mo_predict_71 : decode b_Mo_predict 71 = .ok (.iload_n 2, 1) := by decide +kernel
theorem d_Mo_predict_72 : decode b_Mo_predict 72 = .ok (.iconst 1, 1) := by decide +kernel
theorem d_Mo_predict_73 : decode b_Mo_predict 73 = .ok (.bipush 8, 2) := by decide +kernel
theorem d_Mo_predict_75 : decode b_Mo_predict 75 = .ok (.invokestatic 75, 3) := by decide +kernel
theorem d_Mo_predict_78 : decode b_Mo_predict 78 = .ok (.ifCond .eq 19, 3) := by decide +kernel
theorem d_Mo_predict_81 : decode b_Mo_predict 81 = .ok (.iload 4, 2) := by decide +kernel
theorem d_Mo_predict_83 : decode b_Mo_predict 83 = .ok (.iconst 1, 1) := by decide +kernel
theorem d_Mo_predict_84 : decode b_Mo_predict 84 = .ok (.sipush 4096, 3) := by decide +kernel
theorem d_Mo_predict_87 : decode b_Mo_predict 87 = .ok (.invokestatic 75, 3) := by decide +kernel
theorem d_Mo_predict_90 : decode b_Mo_predict 90 = .ok (.ifCond .eq 7, 3) := by decide +kernel
theorem d_Mo_predict_93 : decode b_Mo_predict 93 = .ok (.iconst 1, 1) := by decide +kernel
theorem d_Mo_predict_94 : decode b_Mo_predict 94 = .ok (.goto 4, 3) := by decide +kernel
theorem d_Mo_predict_97 : decode b_Mo_predict 97 = .ok (.iconst 0, 1) := by decide +kernel
theorem d_Mo_predict_98 : decode b_Mo_predict 98 = .ok (.istore 7, 2) := by decide +kernel
theorem d_Mo_predict_100 : decode b_Mo_predict 100 = .ok (.aload_n 0, 1) := by decide +kernel
theorem d_Mo_predict_101 : decode b_Mo_predict 101 = .ok (.iload 7, 2) := by decide +kernel
theorem d_Mo_predict_103 : decode b_Mo_predict 103 = .ok (.ifCond .ne 7, 3) := by decide +kernel
theorem d_Mo_predict_106 : decode b_Mo_predict 106 = .ok (.iconst 1, 1) := by decide +kernel
theorem d_Mo_predict_107 : decode b_Mo_predict 107 = .ok (.goto 15, 3) := by decide +kernel
theorem d_Mo_predict_110 : decode b_Mo_predict 110 = .ok (.aload_n 0, 1) := by decide +kernel
theorem d_Mo_predict_111 : decode b_Mo_predict 111 = .ok (.getfield 83, 3) := by decide +kernel
theorem d_Mo_predict_114 : decode b_Mo_predict 114 = .ok (.ifCond .ne 7, 3) := by decide +kernel
theorem d_Mo_predict_117 : decode b_Mo_predict 117 = .ok (.iconst 2, 1) := by decide +kernel
theorem d_Mo_predict_118 : decode b_Mo_predict 118 = .ok (.goto 4, 3) := by decide +kernel
theorem d_Mo_predict_121 : decode b_Mo_predict 121 = .ok (.iconst 0, 1) := by decide +kernel
theorem d_Mo_predict_122 : decode b_Mo_predict 122 = .ok (.invokevirtual 79, 3) := by decide +kernel
theorem d_Mo_predict_125 : decode b_Mo_predict 125 = .ok (.ifCond .ne 52, 3) := by decide +kernel
theorem d_Mo_predict_128 : decode b_Mo_predict 128 = .ok (.aload_n 0, 1) := by decide +kernel
theorem d_Mo_predict_129 : decode b_Mo_predict 129 = .ok (.getfield 19, 3) := by decide +kernel
theorem d_Mo_predict_132 : decode b_Mo_predict 132 = .ok (.aload_n 0, 1) := by decide +kernel
theorem d_Mo_predict_133 : decode b_Mo_predict 133 = .ok (.getfield 83, 3) := by decide +kernel
theorem d_Mo_predict_136 : decode b_Mo_predict 136 = .ok (.iconst 1, 1) := by decide +kernel
theorem d_Mo_predict_137 : decode b_Mo_predict 137 = .ok (.isub, 1) := by decide +kernel
theorem d_Mo_predict_138 : decode b_Mo_predict 138 = .ok (.iload_n 1, 1) := by decide +kernel
theorem d_Mo_predict_139 : decode b_Mo_predict 139 = .ok (.iastore, 1) := by decide +kernel
theorem d_Mo_predict_140 : decode b_Mo_predict 140 = .ok (.aload_n 0, 1) := by decide +kernel
theorem d_Mo_predict_141 : decode b_Mo_predict 141 = .ok (.getfield 22, 3) := by decide +kernel
theorem d_Mo_predict_144 : decode b_Mo_predict 144 = .ok (.aload_n 0, 1) := by decide +kernel
theorem d_Mo_predict_145 : decode b_Mo_predict 145 = .ok (.getfield 83, 3) := by decide +kernel
theorem d_Mo_predict_148 : decode b_Mo_predict 148 = .ok (.iconst 1, 1) := by decide +kernel
theorem d_Mo_predict_149 : decode b_Mo_predict 149 = .ok (.isub, 1) := by decide +kernel
theorem d_Mo_predict_150 : decode b_Mo_predict 150 = .ok (.iload_n 2, 1) := by decide +kernel
theorem d_Mo_predict_151 : decode b_Mo_predict 151 = .ok (.iastore, 1) := by decide +kernel
theorem d_Mo_predict_152 : decode b_Mo_predict 152 = .ok (.aload_n 0, 1) := by decide +kernel
theorem d_Mo_predict_153 : decode b_Mo_predict 153 = .ok (.getfield 25, 3) := by decide +kernel
theorem d_Mo_predict_156 : decode b_Mo_predict 156 = .ok (.aload_n 0, 1) := by decide +kernel
theorem d_Mo_predict_157 : decode b_Mo_predict 157 = .ok (.getfield 83, 3) := by decide +kernel
theorem d_Mo_predict_160 : decode b_Mo_predict 160 = .ok (.iconst 1, 1) := by decide +kernel
theorem d_Mo_predict_161 : decode b_Mo_predict 161 = .ok (.isub, 1) := by decide +kernel
theorem d_Mo_predict_162 : decode b_Mo_predict 162 = .ok (.iload_n 3, 1) := by decide +kernel
theorem d_Mo_predict_163 : decode b_Mo_predict 163 = .ok (.iastore, 1) := by decide +kernel
theorem d_Mo_predict_164 : decode b_Mo_predict 164 = .ok (.aload_n 0, 1) := by decide +kernel
theorem d_Mo_predict_165 : decode b_Mo_predict 165 = .ok (.getfield 28, 3) := by decide +kernel
theorem d_Mo_predict_168 : decode b_Mo_predict 168 = .ok (.aload_n 0, 1) := by decide +kernel
theorem d_Mo_predict_169 : decode b_Mo_predict 169 = .ok (.getfield 83, 3) := by decide +kernel
theorem d_Mo_predict_172 : decode b_Mo_predict 172 = .ok (.iconst 1, 1) := by decide +kernel
theorem d_Mo_predict_173 : decode b_Mo_predict 173 = .ok (.isub, 1) := by decide +kernel
theorem d_Mo_predict_174 : decode b_Mo_predict 174 = .ok (.iload 4, 2) := by decide +kernel
theorem d_Mo_predict_176 : decode b_Mo_predict 176 = .ok (.iastore, 1) := by decide +kernel
theorem d_Mo_predict_177 : decode b_Mo_predict 177 = .ok (.return_, 1) := by decide +kernel
noncomputable def f_Mo_predict_B122  (n0 : Nat) (h0 : mH) (a0 : Nat) (x1 : Int32) (x2 : Int32) (x3 : Int32) (x4 : Int32) (p0 : Int32) (b1 : Nat) : Option (Unit × mH) :=
  mis h0 b1 10 <|
  mcl (f_Mo_refused n0 h0 b1 p0) fun v11 h12 =>
  if v11 = 0 then
    mgr h12 a0 10 6 fun r14 =>
    mgi h12 a0 10 3 fun v15 =>
    mas h12 r14 .int (v15 - 1) x1 fun h16 =>
    mgr h16 a0 10 7 fun r17 =>
    mgi h16 a0 10 3 fun v18 =>
    mas h16 r17 .int (v18 - 1) x2 fun h19 =>
    mgr h19 a0 10 8 fun r20 =>
    mgi h19 a0 10 3 fun v21 =>
    mas h19 r20 .int (v21 - 1) x3 fun h22 =>
    mgr h22 a0 10 9 fun r23 =>
    mgi h22 a0 10 3 fun v24 =>
    mas h22 r23 .int (v24 - 1) x4 fun h25 =>
    some ((), h25)
  else
    some ((), h12)
noncomputable def f_Mo_predict_B98  (n0 : Nat) (h0 : mH) (a0 : Nat) (x1 : Int32) (x2 : Int32) (x3 : Int32) (x4 : Int32) (p0 : Int32) : Option (Unit × mH) :=
  if p0 = 0 then
    f_Mo_predict_B122 n0 h0 a0 x1 x2 x3 x4 1 a0
  else
    mgi h0 a0 10 3 fun v8 =>
    if v8 = 0 then
      f_Mo_predict_B122 n0 h0 a0 x1 x2 x3 x4 2 a0
    else
      f_Mo_predict_B122 n0 h0 a0 x1 x2 x3 x4 0 a0
noncomputable def f_Mo_predict_B97  (n0 : Nat) (h0 : mH) (a0 : Nat) (x1 : Int32) (x2 : Int32) (x3 : Int32) (x4 : Int32) : Option (Unit × mH) :=
  f_Mo_predict_B98 n0 h0 a0 x1 x2 x3 x4 0
noncomputable def f_Mo_predict_B59  (n0 : Nat) (h0 : mH) (a0 : Nat) (x1 : Int32) (x2 : Int32) (x3 : Int32) (x4 : Int32) (x5 : Int32) (p0 : Int32) : Option (Unit × mH) :=
  if x5 = 0 then
    f_Mo_predict_B97 n0 h0 a0 x1 x2 x3 x4
  else
    if p0 = 0 then
      f_Mo_predict_B97 n0 h0 a0 x1 x2 x3 x4
    else
      mcl (f_Mo_isIn n0 h0 x2 1 8) fun v28 h29 =>
      if v28 = 0 then
        f_Mo_predict_B97 n0 h29 a0 x1 x2 x3 x4
      else
        mcl (f_Mo_isIn n0 h29 x4 1 4096) fun v32 h33 =>
        if v32 = 0 then
          f_Mo_predict_B97 n0 h33 a0 x1 x2 x3 x4
        else
          f_Mo_predict_B98 n0 h33 a0 x1 x2 x3 x4 1
noncomputable def f_Mo_predict_B54  (n0 : Nat) (h0 : mH) (a0 : Nat) (x1 : Int32) (x2 : Int32) (x3 : Int32) (x4 : Int32) (x5 : Int32) : Option (Unit × mH) :=
  f_Mo_predict_B59 n0 h0 a0 x1 x2 x3 x4 x5 1
noncomputable def f_Mo_predict_B25  (n0 : Nat) (h0 : mH) (a0 : Nat) (x1 : Int32) (x2 : Int32) (x3 : Int32) (x4 : Int32) (p0 : Int32) : Option (Unit × mH) :=
  if x3 = 1 then
    f_Mo_predict_B54 n0 h0 a0 x1 x2 x3 x4 p0
  else
    if x3 = 2 then
      f_Mo_predict_B54 n0 h0 a0 x1 x2 x3 x4 p0
    else
      if x3 = 4 then
        f_Mo_predict_B54 n0 h0 a0 x1 x2 x3 x4 p0
      else
        if x3 = 8 then
          f_Mo_predict_B54 n0 h0 a0 x1 x2 x3 x4 p0
        else
          if x3 = 16 then
            f_Mo_predict_B54 n0 h0 a0 x1 x2 x3 x4 p0
          else
            f_Mo_predict_B59 n0 h0 a0 x1 x2 x3 x4 p0 0
noncomputable def f_Mo_predict_B20  (n0 : Nat) (h0 : mH) (a0 : Nat) (x1 : Int32) (x2 : Int32) (x3 : Int32) (x4 : Int32) : Option (Unit × mH) :=
  f_Mo_predict_B25 n0 h0 a0 x1 x2 x3 x4 1
noncomputable def f_Mo_predict  (n0 : Nat) (h0 : mH) (a0 : Nat) (x1 : Int32) (x2 : Int32) (x3 : Int32) (x4 : Int32) : Option (Unit × mH) :=
  mcl (f_Mo_isIn n0 h0 x1 1 2) fun v2 h3 =>
  if v2 = 0 then
    mcl (f_Mo_isIn n0 h3 x1 10 15) fun v40 h41 =>
    if v40 = 0 then
      f_Mo_predict_B25 n0 h41 a0 x1 x2 x3 x4 0
    else
      f_Mo_predict_B20 n0 h41 a0 x1 x2 x3 x4
  else
    f_Mo_predict_B20 n0 h3 a0 x1 x2 x3 x4
set_option maxHeartbeats 4000000 in
set_option maxRecDepth 100000 in
theorem cb_Mo_predict_B122 {X : mX} {ad : Nat → Nat} {ln : Launch} (O : mO X ad R_Mo b_Mo_predict 8 (mR 1 22) ln) (r' : Unit) (h' : mH) (hE : mEnd X ad none none h') (n0 : Nat) (h0 : mH) (a0 : Nat) (x1 : Int32) (x2 : Int32) (x3 : Int32) (x4 : Int32) (p0 : Int32) (b1 : Nat) (hf : f_Mo_predict_B122 n0 h0 a0 x1 x2 x3 x4 p0 b1 = some (r', h')) : mAW X ad 0 0 122 [(0, .ref a0), (1, .int x1), (2, .int x2), (3, .int x3), (4, .int x4)] [.int p0, .ref b1] h0 := by
  unfold f_Mo_predict_B122 at hf
  obtain ⟨fh12, ch12, hf⟩ := mis_some hf
  obtain ⟨v11, h12, mh12, hf⟩ := mcl_some hf
  refine ax_callV (As := [.int p0]) (rest := []) O cw_Mo_refused (q := (R_Mo, T_Mo, 31)) rfl rfl in_Mo_refused se_Mo_refused lk_Mo_79 ch12 (c_Mo_refused mh12) rfl ⟨rfl, rfl⟩ (by decide) (by decide) (Nat.le_of_ble_eq_true rfl) d_Mo_predict_122 ?_
  refine ax_if_ne (tgt := 177) O d_Mo_predict_125 (by decide) (fun q13 => ?_) (fun q13 => ?_)
  · rw [if_neg q13] at hf
    exact ax_vretE O hE hf d_Mo_predict_177
  · rw [if_pos q13] at hf
    refine ax_aload_n O d_Mo_predict_128 rfl 0 rfl ?_
    obtain ⟨fr14, r14, cr14, kr14, hf⟩ := mgr_some hf
    refine ax_get O fg_Mo_19 cr14 kr14 d_Mo_predict_129 ?_
    refine ax_aload_n O d_Mo_predict_132 rfl 0 rfl ?_
    obtain ⟨fv15, v15, cv15, kv15, hf⟩ := mgi_some hf
    refine ax_get O fg_Mo_83 cv15 kv15 d_Mo_predict_133 ?_
    refine ax_iconst (v := 1) O d_Mo_predict_136 (by decide) ?_
    refine ax_isub O d_Mo_predict_137 ?_
    refine ax_iload_n O d_Mo_predict_138 rfl 1 rfl ?_
    obtain ⟨nh16, fh16, h16, ch16, ih16, eh16, hf⟩ := mas_some hf
    refine ax_iast O ch16 ih16 eh16 d_Mo_predict_139 ?_
    refine ax_aload_n O d_Mo_predict_140 rfl 0 rfl ?_
    obtain ⟨fr17, r17, cr17, kr17, hf⟩ := mgr_some hf
    refine ax_get O fg_Mo_22 cr17 kr17 d_Mo_predict_141 ?_
    refine ax_aload_n O d_Mo_predict_144 rfl 0 rfl ?_
    obtain ⟨fv18, v18, cv18, kv18, hf⟩ := mgi_some hf
    refine ax_get O fg_Mo_83 cv18 kv18 d_Mo_predict_145 ?_
    refine ax_iconst (v := 1) O d_Mo_predict_148 (by decide) ?_
    refine ax_isub O d_Mo_predict_149 ?_
    refine ax_iload_n O d_Mo_predict_150 rfl 2 rfl ?_
    obtain ⟨nh19, fh19, h19, ch19, ih19, eh19, hf⟩ := mas_some hf
    refine ax_iast O ch19 ih19 eh19 d_Mo_predict_151 ?_
    refine ax_aload_n O d_Mo_predict_152 rfl 0 rfl ?_
    obtain ⟨fr20, r20, cr20, kr20, hf⟩ := mgr_some hf
    refine ax_get O fg_Mo_25 cr20 kr20 d_Mo_predict_153 ?_
    refine ax_aload_n O d_Mo_predict_156 rfl 0 rfl ?_
    obtain ⟨fv21, v21, cv21, kv21, hf⟩ := mgi_some hf
    refine ax_get O fg_Mo_83 cv21 kv21 d_Mo_predict_157 ?_
    refine ax_iconst (v := 1) O d_Mo_predict_160 (by decide) ?_
    refine ax_isub O d_Mo_predict_161 ?_
    refine ax_iload_n O d_Mo_predict_162 rfl 3 rfl ?_
    obtain ⟨nh22, fh22, h22, ch22, ih22, eh22, hf⟩ := mas_some hf
    refine ax_iast O ch22 ih22 eh22 d_Mo_predict_163 ?_
    refine ax_aload_n O d_Mo_predict_164 rfl 0 rfl ?_
    obtain ⟨fr23, r23, cr23, kr23, hf⟩ := mgr_some hf
    refine ax_get O fg_Mo_28 cr23 kr23 d_Mo_predict_165 ?_
    refine ax_aload_n O d_Mo_predict_168 rfl 0 rfl ?_
    obtain ⟨fv24, v24, cv24, kv24, hf⟩ := mgi_some hf
    refine ax_get O fg_Mo_83 cv24 kv24 d_Mo_predict_169 ?_
    refine ax_iconst (v := 1) O d_Mo_predict_172 (by decide) ?_
    refine ax_isub O d_Mo_predict_173 ?_
    refine ax_iload O d_Mo_predict_174 4 rfl ?_
    obtain ⟨nh25, fh25, h25, ch25, ih25, eh25, hf⟩ := mas_some hf
    refine ax_iast O ch25 ih25 eh25 d_Mo_predict_176 ?_
    exact ax_vretE O hE hf d_Mo_predict_177
set_option maxHeartbeats 4000000 in
set_option maxRecDepth 100000 in
theorem cb_Mo_predict_B98 {X : mX} {ad : Nat → Nat} {ln : Launch} (O : mO X ad R_Mo b_Mo_predict 8 (mR 1 22) ln) (r' : Unit) (h' : mH) (hE : mEnd X ad none none h') (n0 : Nat) (h0 : mH) (a0 : Nat) (x1 : Int32) (x2 : Int32) (x3 : Int32) (x4 : Int32) (p0 : Int32) (hf : f_Mo_predict_B98 n0 h0 a0 x1 x2 x3 x4 p0 = some (r', h')) : mAW X ad 0 0 98 [(0, .ref a0), (1, .int x1), (2, .int x2), (3, .int x3), (4, .int x4)] [.int p0] h0 := by
  unfold f_Mo_predict_B98 at hf
  refine ax_istore (lv' := [(7, .int p0), (0, .ref a0), (1, .int x1), (2, .int x2), (3, .int x3), (4, .int x4)]) O d_Mo_predict_98 (by decide) rfl ?_
  refine ax_aload_n O d_Mo_predict_100 rfl 1 rfl ?_
  refine ax_iload O d_Mo_predict_101 0 rfl ?_
  refine ax_if_ne (tgt := 110) O d_Mo_predict_103 (by decide) (fun q7 => ?_) (fun q7 => ?_)
  · rw [if_neg q7] at hf
    refine ax_aload_n O d_Mo_predict_110 rfl 1 rfl ?_
    obtain ⟨fv8, v8, cv8, kv8, hf⟩ := mgi_some hf
    refine ax_get O fg_Mo_83 cv8 kv8 d_Mo_predict_111 ?_
    refine ax_if_ne (tgt := 121) O d_Mo_predict_114 (by decide) (fun q9 => ?_) (fun q9 => ?_)
    · rw [if_neg q9] at hf
      refine ax_iconst (v := 0) O d_Mo_predict_121 (by decide) ?_
      refine ax_sub [1, 2, 3, 4, 5] rfl ?_
      exact cb_Mo_predict_B122 O _ _ hE n0 _ _ _ _ _ _ _ _ hf
    · rw [if_pos q9] at hf
      refine ax_iconst (v := 2) O d_Mo_predict_117 (by decide) ?_
      refine ax_goto (tgt := 122) O d_Mo_predict_118 (by decide) ?_
      refine ax_sub [1, 2, 3, 4, 5] rfl ?_
      exact cb_Mo_predict_B122 O _ _ hE n0 _ _ _ _ _ _ _ _ hf
  · rw [if_pos q7] at hf
    refine ax_iconst (v := 1) O d_Mo_predict_106 (by decide) ?_
    refine ax_goto (tgt := 122) O d_Mo_predict_107 (by decide) ?_
    refine ax_sub [1, 2, 3, 4, 5] rfl ?_
    exact cb_Mo_predict_B122 O _ _ hE n0 _ _ _ _ _ _ _ _ hf
set_option maxHeartbeats 4000000 in
set_option maxRecDepth 100000 in
theorem cb_Mo_predict_B97 {X : mX} {ad : Nat → Nat} {ln : Launch} (O : mO X ad R_Mo b_Mo_predict 8 (mR 1 22) ln) (r' : Unit) (h' : mH) (hE : mEnd X ad none none h') (n0 : Nat) (h0 : mH) (a0 : Nat) (x1 : Int32) (x2 : Int32) (x3 : Int32) (x4 : Int32) (hf : f_Mo_predict_B97 n0 h0 a0 x1 x2 x3 x4 = some (r', h')) : mAW X ad 0 0 97 [(0, .ref a0), (1, .int x1), (2, .int x2), (3, .int x3), (4, .int x4)] [] h0 := by
  unfold f_Mo_predict_B97 at hf
  refine ax_iconst (v := 0) O d_Mo_predict_97 (by decide) ?_
  exact cb_Mo_predict_B98 O _ _ hE n0 _ _ _ _ _ _ _ hf
set_option maxHeartbeats 4000000 in
set_option maxRecDepth 100000 in
theorem cb_Mo_predict_B59 {X : mX} {ad : Nat → Nat} {ln : Launch} (O : mO X ad R_Mo b_Mo_predict 8 (mR 1 22) ln) (r' : Unit) (h' : mH) (hE : mEnd X ad none none h') (n0 : Nat) (h0 : mH) (a0 : Nat) (x1 : Int32) (x2 : Int32) (x3 : Int32) (x4 : Int32) (x5 : Int32) (p0 : Int32) (hf : f_Mo_predict_B59 n0 h0 a0 x1 x2 x3 x4 x5 p0 = some (r', h')) : mAW X ad 0 0 59 [(0, .ref a0), (1, .int x1), (2, .int x2), (3, .int x3), (4, .int x4), (5, .int x5)] [.int p0] h0 := by
  unfold f_Mo_predict_B59 at hf
  refine ax_istore (lv' := [(6, .int p0), (0, .ref a0), (1, .int x1), (2, .int x2), (3, .int x3), (4, .int x4), (5, .int x5)]) O d_Mo_predict_59 (by decide) rfl ?_
  refine ax_iload O d_Mo_predict_61 6 rfl ?_
  refine ax_if_eq (tgt := 97) O d_Mo_predict_63 (by decide) (fun q6 => ?_) (fun q6 => ?_)
  · rw [if_pos q6] at hf
    refine ax_sub [1, 2, 3, 4, 5] rfl ?_
    exact cb_Mo_predict_B97 O _ _ hE n0 _ _ _ _ _ _ hf
  · rw [if_neg q6] at hf
    refine ax_iload O d_Mo_predict_66 0 rfl ?_
    refine ax_if_eq (tgt := 97) O d_Mo_predict_68 (by decide) (fun q26 => ?_) (fun q26 => ?_)
    · rw [if_pos q26] at hf
      refine ax_sub [1, 2, 3, 4, 5] rfl ?_
      exact cb_Mo_predict_B97 O _ _ hE n0 _ _ _ _ _ _ hf
    · rw [if_neg q26] at hf
      refine ax_iload_n O d_Mo_predict_71 rfl 3 rfl ?_
      refine ax_iconst (v := 1) O d_Mo_predict_72 (by decide) ?_
      refine ax_bipush (v := 8) O d_Mo_predict_73 (by decide) ?_
      obtain ⟨v28, h29, mh29, hf⟩ := mcl_some hf
      refine ax_callS (As := [.int x2, .int 1, .int 8]) (rest := []) O cw_Mo_isIn st_Mo_isIn lk_Mo_75 (c_Mo_isIn mh29) rfl ⟨rfl, rfl⟩ (by decide) (by decide) (Nat.le_of_ble_eq_true rfl) d_Mo_predict_75 ?_
      refine ax_if_eq (tgt := 97) O d_Mo_predict_78 (by decide) (fun q30 => ?_) (fun q30 => ?_)
      · rw [if_pos q30] at hf
        refine ax_sub [1, 2, 3, 4, 5] rfl ?_
        exact cb_Mo_predict_B97 O _ _ hE n0 _ _ _ _ _ _ hf
      · rw [if_neg q30] at hf
        refine ax_iload O d_Mo_predict_81 5 rfl ?_
        refine ax_iconst (v := 1) O d_Mo_predict_83 (by decide) ?_
        refine ax_sipush (v := 4096) O d_Mo_predict_84 (by decide) ?_
        obtain ⟨v32, h33, mh33, hf⟩ := mcl_some hf
        refine ax_callS (As := [.int x4, .int 1, .int 4096]) (rest := []) O cw_Mo_isIn st_Mo_isIn lk_Mo_75 (c_Mo_isIn mh33) rfl ⟨rfl, rfl⟩ (by decide) (by decide) (Nat.le_of_ble_eq_true rfl) d_Mo_predict_87 ?_
        refine ax_if_eq (tgt := 97) O d_Mo_predict_90 (by decide) (fun q34 => ?_) (fun q34 => ?_)
        · rw [if_pos q34] at hf
          refine ax_sub [1, 2, 3, 4, 5] rfl ?_
          exact cb_Mo_predict_B97 O _ _ hE n0 _ _ _ _ _ _ hf
        · rw [if_neg q34] at hf
          refine ax_iconst (v := 1) O d_Mo_predict_93 (by decide) ?_
          refine ax_goto (tgt := 98) O d_Mo_predict_94 (by decide) ?_
          refine ax_sub [1, 2, 3, 4, 5] rfl ?_
          exact cb_Mo_predict_B98 O _ _ hE n0 _ _ _ _ _ _ _ hf
set_option maxHeartbeats 4000000 in
set_option maxRecDepth 100000 in
theorem cb_Mo_predict_B54 {X : mX} {ad : Nat → Nat} {ln : Launch} (O : mO X ad R_Mo b_Mo_predict 8 (mR 1 22) ln) (r' : Unit) (h' : mH) (hE : mEnd X ad none none h') (n0 : Nat) (h0 : mH) (a0 : Nat) (x1 : Int32) (x2 : Int32) (x3 : Int32) (x4 : Int32) (x5 : Int32) (hf : f_Mo_predict_B54 n0 h0 a0 x1 x2 x3 x4 x5 = some (r', h')) : mAW X ad 0 0 54 [(0, .ref a0), (1, .int x1), (2, .int x2), (3, .int x3), (4, .int x4), (5, .int x5)] [] h0 := by
  unfold f_Mo_predict_B54 at hf
  refine ax_iconst (v := 1) O d_Mo_predict_54 (by decide) ?_
  refine ax_goto (tgt := 59) O d_Mo_predict_55 (by decide) ?_
  exact cb_Mo_predict_B59 O _ _ hE n0 _ _ _ _ _ _ _ _ hf
set_option maxHeartbeats 4000000 in
set_option maxRecDepth 100000 in
theorem cb_Mo_predict_B25 {X : mX} {ad : Nat → Nat} {ln : Launch} (O : mO X ad R_Mo b_Mo_predict 8 (mR 1 22) ln) (r' : Unit) (h' : mH) (hE : mEnd X ad none none h') (n0 : Nat) (h0 : mH) (a0 : Nat) (x1 : Int32) (x2 : Int32) (x3 : Int32) (x4 : Int32) (p0 : Int32) (hf : f_Mo_predict_B25 n0 h0 a0 x1 x2 x3 x4 p0 = some (r', h')) : mAW X ad 0 0 25 [(0, .ref a0), (1, .int x1), (2, .int x2), (3, .int x3), (4, .int x4)] [.int p0] h0 := by
  unfold f_Mo_predict_B25 at hf
  refine ax_istore (lv' := [(5, .int p0), (0, .ref a0), (1, .int x1), (2, .int x2), (3, .int x3), (4, .int x4)]) O d_Mo_predict_25 (by decide) rfl ?_
  refine ax_iload_n O d_Mo_predict_27 rfl 4 rfl ?_
  refine ax_iconst (v := 1) O d_Mo_predict_28 (by decide) ?_
  refine ax_icmp_eq (tgt := 54) O d_Mo_predict_29 (by decide) (fun q5 => ?_) (fun q5 => ?_)
  · rw [if_pos q5] at hf
    refine ax_sub [1, 2, 3, 4, 5, 0] rfl ?_
    exact cb_Mo_predict_B54 O _ _ hE n0 _ _ _ _ _ _ _ hf
  · rw [if_neg q5] at hf
    refine ax_iload_n O d_Mo_predict_32 rfl 4 rfl ?_
    refine ax_iconst (v := 2) O d_Mo_predict_33 (by decide) ?_
    refine ax_icmp_eq (tgt := 54) O d_Mo_predict_34 (by decide) (fun q35 => ?_) (fun q35 => ?_)
    · rw [if_pos q35] at hf
      refine ax_sub [1, 2, 3, 4, 5, 0] rfl ?_
      exact cb_Mo_predict_B54 O _ _ hE n0 _ _ _ _ _ _ _ hf
    · rw [if_neg q35] at hf
      refine ax_iload_n O d_Mo_predict_37 rfl 4 rfl ?_
      refine ax_iconst (v := 4) O d_Mo_predict_38 (by decide) ?_
      refine ax_icmp_eq (tgt := 54) O d_Mo_predict_39 (by decide) (fun q36 => ?_) (fun q36 => ?_)
      · rw [if_pos q36] at hf
        refine ax_sub [1, 2, 3, 4, 5, 0] rfl ?_
        exact cb_Mo_predict_B54 O _ _ hE n0 _ _ _ _ _ _ _ hf
      · rw [if_neg q36] at hf
        refine ax_iload_n O d_Mo_predict_42 rfl 4 rfl ?_
        refine ax_bipush (v := 8) O d_Mo_predict_43 (by decide) ?_
        refine ax_icmp_eq (tgt := 54) O d_Mo_predict_45 (by decide) (fun q37 => ?_) (fun q37 => ?_)
        · rw [if_pos q37] at hf
          refine ax_sub [1, 2, 3, 4, 5, 0] rfl ?_
          exact cb_Mo_predict_B54 O _ _ hE n0 _ _ _ _ _ _ _ hf
        · rw [if_neg q37] at hf
          refine ax_iload_n O d_Mo_predict_48 rfl 4 rfl ?_
          refine ax_bipush (v := 16) O d_Mo_predict_49 (by decide) ?_
          refine ax_icmp_ne (tgt := 58) O d_Mo_predict_51 (by decide) (fun q38 => ?_) (fun q38 => ?_)
          · rw [if_neg q38] at hf
            refine ax_iconst (v := 0) O d_Mo_predict_58 (by decide) ?_
            refine ax_sub [1, 2, 3, 4, 5, 0] rfl ?_
            exact cb_Mo_predict_B59 O _ _ hE n0 _ _ _ _ _ _ _ _ hf
          · rw [if_pos q38] at hf
            refine ax_sub [1, 2, 3, 4, 5, 0] rfl ?_
            exact cb_Mo_predict_B54 O _ _ hE n0 _ _ _ _ _ _ _ hf
set_option maxHeartbeats 4000000 in
set_option maxRecDepth 100000 in
theorem cb_Mo_predict_B20 {X : mX} {ad : Nat → Nat} {ln : Launch} (O : mO X ad R_Mo b_Mo_predict 8 (mR 1 22) ln) (r' : Unit) (h' : mH) (hE : mEnd X ad none none h') (n0 : Nat) (h0 : mH) (a0 : Nat) (x1 : Int32) (x2 : Int32) (x3 : Int32) (x4 : Int32) (hf : f_Mo_predict_B20 n0 h0 a0 x1 x2 x3 x4 = some (r', h')) : mAW X ad 0 0 20 [(0, .ref a0), (1, .int x1), (2, .int x2), (3, .int x3), (4, .int x4)] [] h0 := by
  unfold f_Mo_predict_B20 at hf
  refine ax_iconst (v := 1) O d_Mo_predict_20 (by decide) ?_
  refine ax_goto (tgt := 25) O d_Mo_predict_21 (by decide) ?_
  exact cb_Mo_predict_B25 O _ _ hE n0 _ _ _ _ _ _ _ hf
set_option maxHeartbeats 4000000 in
set_option maxRecDepth 100000 in
theorem cb_Mo_predict {X : mX} {ad : Nat → Nat} {ln : Launch} (O : mO X ad R_Mo b_Mo_predict 8 (mR 1 22) ln) (r' : Unit) (h' : mH) (hE : mEnd X ad none none h') (n0 : Nat) (h0 : mH) (a0 : Nat) (x1 : Int32) (x2 : Int32) (x3 : Int32) (x4 : Int32) (hf : f_Mo_predict n0 h0 a0 x1 x2 x3 x4 = some (r', h')) : mAW X ad 0 0 0 [(0, .ref a0), (1, .int x1), (2, .int x2), (3, .int x3), (4, .int x4)] [] h0 := by
  unfold f_Mo_predict at hf
  refine ax_iload_n O d_Mo_predict_0 rfl 1 rfl ?_
  refine ax_iconst (v := 1) O d_Mo_predict_1 (by decide) ?_
  refine ax_iconst (v := 2) O d_Mo_predict_2 (by decide) ?_
  obtain ⟨v2, h3, mh3, hf⟩ := mcl_some hf
  refine ax_callS (As := [.int x1, .int 1, .int 2]) (rest := []) O cw_Mo_isIn st_Mo_isIn lk_Mo_75 (c_Mo_isIn mh3) rfl ⟨rfl, rfl⟩ (by decide) (by decide) (Nat.le_of_ble_eq_true rfl) d_Mo_predict_3 ?_
  refine ax_if_ne (tgt := 20) O d_Mo_predict_6 (by decide) (fun q4 => ?_) (fun q4 => ?_)
  · rw [if_neg q4] at hf
    exact cb_Mo_predict_B20 O _ _ hE n0 _ _ _ _ _ _ hf
  · rw [if_pos q4] at hf
    refine ax_iload_n O d_Mo_predict_9 rfl 1 rfl ?_
    refine ax_bipush (v := 10) O d_Mo_predict_10 (by decide) ?_
    refine ax_bipush (v := 15) O d_Mo_predict_12 (by decide) ?_
    obtain ⟨v40, h41, mh41, hf⟩ := mcl_some hf
    refine ax_callS (As := [.int x1, .int 10, .int 15]) (rest := []) O cw_Mo_isIn st_Mo_isIn lk_Mo_75 (c_Mo_isIn mh41) rfl ⟨rfl, rfl⟩ (by decide) (by decide) (Nat.le_of_ble_eq_true rfl) d_Mo_predict_14 ?_
    refine ax_if_eq (tgt := 24) O d_Mo_predict_17 (by decide) (fun q42 => ?_) (fun q42 => ?_)
    · rw [if_pos q42] at hf
      refine ax_iconst (v := 0) O d_Mo_predict_24 (by decide) ?_
      exact cb_Mo_predict_B25 O _ _ hE n0 _ _ _ _ _ _ _ hf
    · rw [if_neg q42] at hf
      exact cb_Mo_predict_B20 O _ _ hE n0 _ _ _ _ _ _ hf
theorem c_Mo_predict {ln : Launch} {n0 : Nat} {h0 h' : mH} {a0 : Nat} {x1 : Int32} {x2 : Int32} {x3 : Int32} {x4 : Int32} {r' : Unit} (hf : f_Mo_predict n0 h0 a0 x1 x2 x3 x4 = some (r', h')) : mMet ln y_Mo_predict b_Mo_predict 8 none (mR 1 22) [.ref a0, .int x1, .int x2, .int x3, .int x4] h0 none h' := mMet_of (by decide +kernel) (Nat.le_of_ble_eq_true rfl) (fun X ad O hE => cb_Mo_predict O r' h' hE n0 h0 a0 x1 x2 x3 x4 hf)
/-! ===== StreamFiltersModel.drop()I ===== -/
theorem d_Mo_drop_0 : decode b_Mo_drop 0 = .ok (.aload_n 0, 1) := by decide +kernel
theorem d_Mo_drop_1 : decode b_Mo_drop 1 = .ok (.iconst 0, 1) := by decide +kernel
theorem d_Mo_drop_2 : decode b_Mo_drop 2 = .ok (.putfield 69, 3) := by decide +kernel
theorem d_Mo_drop_5 : decode b_Mo_drop 5 = .ok (.aload_n 0, 1) := by decide +kernel
theorem d_Mo_drop_6 : decode b_Mo_drop 6 = .ok (.getfield 83, 3) := by decide +kernel
theorem d_Mo_drop_9 : decode b_Mo_drop 9 = .ok (.istore_n 1, 1) := by decide +kernel
theorem d_Mo_drop_10 : decode b_Mo_drop 10 = .ok (.aload_n 0, 1) := by decide +kernel
theorem d_Mo_drop_11 : decode b_Mo_drop 11 = .ok (.iconst 0, 1) := by decide +kernel
theorem d_Mo_drop_12 : decode b_Mo_drop 12 = .ok (.putfield 83, 3) := by decide +kernel
theorem d_Mo_drop_15 : decode b_Mo_drop 15 = .ok (.iload_n 1, 1) := by decide +kernel
theorem d_Mo_drop_16 : decode b_Mo_drop 16 = .ok (.ireturn, 1) := by decide +kernel
noncomputable def f_Mo_drop  (n0 : Nat) (h0 : mH) (a0 : Nat) : Option (Int32 × mH) :=
  mpt h0 a0 10 0 (.int 0) fun h1 =>
  mgi h1 a0 10 3 fun v2 =>
  mpt h1 a0 10 3 (.int 0) fun h3 =>
  some (v2, h3)
set_option maxHeartbeats 4000000 in
set_option maxRecDepth 100000 in
theorem cb_Mo_drop {X : mX} {ad : Nat → Nat} {ln : Launch} (O : mO X ad R_Mo b_Mo_drop 2 (mR 0 0) ln) (r' : Int32) (h' : mH) (hE : mEnd X ad (some .int) (some (.int r')) h') (n0 : Nat) (h0 : mH) (a0 : Nat) (hf : f_Mo_drop n0 h0 a0 = some (r', h')) : mAW X ad 0 0 0 [(0, .ref a0)] [] h0 := by
  unfold f_Mo_drop at hf
  refine ax_aload_n O d_Mo_drop_0 rfl 0 rfl ?_
  refine ax_iconst (v := 0) O d_Mo_drop_1 (by decide) ?_
  obtain ⟨fh1, h1, ch1, kh1, eh1, hf⟩ := mpt_some hf
  refine ax_put (v := .int 0) O fp_Mo_69 ch1 kh1 eh1 rfl rfl d_Mo_drop_2 ?_
  refine ax_aload_n O d_Mo_drop_5 rfl 0 rfl ?_
  obtain ⟨fv2, v2, cv2, kv2, hf⟩ := mgi_some hf
  refine ax_get O fg_Mo_83 cv2 kv2 d_Mo_drop_6 ?_
  refine ax_istore_n (lv' := [(1, .int v2), (0, .ref a0)]) O d_Mo_drop_9 rfl (by decide) rfl ?_
  refine ax_aload_n O d_Mo_drop_10 rfl 1 rfl ?_
  refine ax_iconst (v := 0) O d_Mo_drop_11 (by decide) ?_
  obtain ⟨fh3, h3, ch3, kh3, eh3, hf⟩ := mpt_some hf
  refine ax_put (v := .int 0) O fp_Mo_83 ch3 kh3 eh3 rfl rfl d_Mo_drop_12 ?_
  refine ax_iload_n O d_Mo_drop_15 rfl 0 rfl ?_
  exact ax_retE O hE hf rfl d_Mo_drop_16
theorem c_Mo_drop {ln : Launch} {n0 : Nat} {h0 h' : mH} {a0 : Nat} {r' : Int32} (hf : f_Mo_drop n0 h0 a0 = some (r', h')) : mMet ln y_Mo_drop b_Mo_drop 2 (some .int) (mR 0 0) [.ref a0] h0 (some (.int r')) h' := mMet_of (by decide +kernel) (Nat.le_of_ble_eq_true rfl) (fun X ad O hE => cb_Mo_drop O r' h' hE n0 h0 a0 hf)
/-! ===== StreamFiltersModel.budget(I)I ===== -/
theorem d_Mo_budget_0 : decode b_Mo_budget 0 = .ok (.aload_n 0, 1) := by decide +kernel
theorem d_Mo_budget_1 : decode b_Mo_budget 1 = .ok (.iload_n 1, 1) := by decide +kernel
theorem d_Mo_budget_2 : decode b_Mo_budget 2 = .ok (.iconst 0, 1) := by decide +kernel
theorem d_Mo_budget_3 : decode b_Mo_budget 3 = .ok (.ldc 31, 2) := by decide +kernel
theorem d_Mo_budget_5 : decode b_Mo_budget 5 = .ok (.invokestatic 75, 3) := by decide +kernel
theorem d_Mo_budget_8 : decode b_Mo_budget 8 = .ok (.ifCond .eq 7, 3) := by decide +kernel
theorem d_Mo_budget_11 : decode b_Mo_budget 11 = .ok (.iconst 0, 1) := by decide +kernel
theorem d_Mo_budget_12 : decode b_Mo_budget 12 = .ok (.goto 4, 3) := by decide +kernel
theorem d_Mo_budget_15 : decode b_Mo_budget 15 = .ok (.iconst 1, 1) := by decide +kernel
theorem d_Mo_budget_16 : decode b_Mo_budget 16 = .ok (.invokevirtual 79, 3) := by decide +kernel
theorem d_Mo_budget_19 : decode b_Mo_budget 19 = .ok (.ifCond .eq 5, 3) := by decide +kernel
theorem d_Mo_budget_22 : decode b_Mo_budget 22 = .ok (.iconst 0, 1) := by decide +kernel
theorem d_Mo_budget_23 : decode b_Mo_budget 23 = .ok (.ireturn, 1) := by decide +kernel
theorem d_Mo_budget_24 : decode b_Mo_budget 24 = .ok (.aload_n 0, 1) := by decide +kernel
theorem d_Mo_budget_25 : decode b_Mo_budget 25 = .ok (.getfield 32, 3) := by decide +kernel
theorem d_Mo_budget_28 : decode b_Mo_budget 28 = .ok (.istore_n 2, 1) := by decide +kernel
theorem d_Mo_budget_29 : decode b_Mo_budget 29 = .ok (.aload_n 0, 1) := by decide +kernel
theorem d_Mo_budget_30 : decode b_Mo_budget 30 = .ok (.iload_n 1, 1) := by decide +kernel
theorem d_Mo_budget_31 : decode b_Mo_budget 31 = .ok (.putfield 32, 3) := by decide +kernel
theorem d_Mo_budget_34 : decode b_Mo_budget 34 = .ok (.iload_n 2, 1) := by decide +kernel
theorem d_Mo_budget_35 : decode b_Mo_budget 35 = .ok (.ireturn, 1) := by decide +kernel
noncomputable def f_Mo_budget_B16  (n0 : Nat) (h0 : mH) (a0 : Nat) (x1 : Int32) (p0 : Int32) (b1 : Nat) : Option (Int32 × mH) :=
  mis h0 b1 10 <|
  mcl (f_Mo_refused n0 h0 b1 p0) fun v6 h7 =>
  if v6 = 0 then
    mgi h7 a0 10 10 fun v9 =>
    mpt h7 a0 10 10 (.int x1) fun h10 =>
    some (v9, h10)
  else
    some (0, h7)
noncomputable def f_Mo_budget  (n0 : Nat) (h0 : mH) (a0 : Nat) (x1 : Int32) : Option (Int32 × mH) :=
  mcl (f_Mo_isIn n0 h0 x1 0 65536) fun v2 h3 =>
  if v2 = 0 then
    f_Mo_budget_B16 n0 h3 a0 x1 1 a0
  else
    f_Mo_budget_B16 n0 h3 a0 x1 0 a0
set_option maxHeartbeats 4000000 in
set_option maxRecDepth 100000 in
theorem cb_Mo_budget_B16 {X : mX} {ad : Nat → Nat} {ln : Launch} (O : mO X ad R_Mo b_Mo_budget 3 (mR 1 22) ln) (r' : Int32) (h' : mH) (hE : mEnd X ad (some .int) (some (.int r')) h') (n0 : Nat) (h0 : mH) (a0 : Nat) (x1 : Int32) (p0 : Int32) (b1 : Nat) (hf : f_Mo_budget_B16 n0 h0 a0 x1 p0 b1 = some (r', h')) : mAW X ad 0 0 16 [(0, .ref a0), (1, .int x1)] [.int p0, .ref b1] h0 := by
  unfold f_Mo_budget_B16 at hf
  obtain ⟨fh7, ch7, hf⟩ := mis_some hf
  obtain ⟨v6, h7, mh7, hf⟩ := mcl_some hf
  refine ax_callV (As := [.int p0]) (rest := []) O cw_Mo_refused (q := (R_Mo, T_Mo, 31)) rfl rfl in_Mo_refused se_Mo_refused lk_Mo_79 ch7 (c_Mo_refused mh7) rfl ⟨rfl, rfl⟩ (by decide) (by decide) (Nat.le_of_ble_eq_true rfl) d_Mo_budget_16 ?_
  refine ax_if_eq (tgt := 24) O d_Mo_budget_19 (by decide) (fun q8 => ?_) (fun q8 => ?_)
  · rw [if_pos q8] at hf
    refine ax_aload_n O d_Mo_budget_24 rfl 0 rfl ?_
    obtain ⟨fv9, v9, cv9, kv9, hf⟩ := mgi_some hf
    refine ax_get O fg_Mo_32 cv9 kv9 d_Mo_budget_25 ?_
    refine ax_istore_n (lv' := [(2, .int v9), (0, .ref a0), (1, .int x1)]) O d_Mo_budget_28 rfl (by decide) rfl ?_
    refine ax_aload_n O d_Mo_budget_29 rfl 1 rfl ?_
    refine ax_iload_n O d_Mo_budget_30 rfl 2 rfl ?_
    obtain ⟨fh10, h10, ch10, kh10, eh10, hf⟩ := mpt_some hf
    refine ax_put (v := .int x1) O fp_Mo_32 ch10 kh10 eh10 rfl rfl d_Mo_budget_31 ?_
    refine ax_iload_n O d_Mo_budget_34 rfl 0 rfl ?_
    exact ax_retE O hE hf rfl d_Mo_budget_35
  · rw [if_neg q8] at hf
    refine ax_iconst (v := 0) O d_Mo_budget_22 (by decide) ?_
    exact ax_retE O hE hf rfl d_Mo_budget_23
set_option maxHeartbeats 4000000 in
set_option maxRecDepth 100000 in
theorem cb_Mo_budget {X : mX} {ad : Nat → Nat} {ln : Launch} (O : mO X ad R_Mo b_Mo_budget 3 (mR 1 22) ln) (r' : Int32) (h' : mH) (hE : mEnd X ad (some .int) (some (.int r')) h') (n0 : Nat) (h0 : mH) (a0 : Nat) (x1 : Int32) (hf : f_Mo_budget n0 h0 a0 x1 = some (r', h')) : mAW X ad 0 0 0 [(0, .ref a0), (1, .int x1)] [] h0 := by
  unfold f_Mo_budget at hf
  refine ax_aload_n O d_Mo_budget_0 rfl 0 rfl ?_
  refine ax_iload_n O d_Mo_budget_1 rfl 1 rfl ?_
  refine ax_iconst (v := 0) O d_Mo_budget_2 (by decide) ?_
  refine ax_ldc (v := 65536) O d_Mo_budget_3 wd_7 ?_
  obtain ⟨v2, h3, mh3, hf⟩ := mcl_some hf
  refine ax_callS (As := [.int x1, .int 0, .int 65536]) (rest := [.ref a0]) O cw_Mo_isIn st_Mo_isIn lk_Mo_75 (c_Mo_isIn mh3) rfl ⟨rfl, rfl⟩ (by decide) (by decide) (Nat.le_of_ble_eq_true rfl) d_Mo_budget_5 ?_
  refine ax_if_eq (tgt := 15) O d_Mo_budget_8 (by decide) (fun q4 => ?_) (fun q4 => ?_)
  · rw [if_pos q4] at hf
    refine ax_iconst (v := 1) O d_Mo_budget_15 (by decide) ?_
    exact cb_Mo_budget_B16 O _ _ hE n0 _ _ _ _ _ hf
  · rw [if_neg q4] at hf
    refine ax_iconst (v := 0) O d_Mo_budget_11 (by decide) ?_
    refine ax_goto (tgt := 16) O d_Mo_budget_12 (by decide) ?_
    exact cb_Mo_budget_B16 O _ _ hE n0 _ _ _ _ _ hf
theorem c_Mo_budget {ln : Launch} {n0 : Nat} {h0 h' : mH} {a0 : Nat} {x1 : Int32} {r' : Int32} (hf : f_Mo_budget n0 h0 a0 x1 = some (r', h')) : mMet ln y_Mo_budget b_Mo_budget 3 (some .int) (mR 1 22) [.ref a0, .int x1] h0 (some (.int r')) h' := mMet_of (by decide +kernel) (Nat.le_of_ble_eq_true rfl) (fun X ad O hE => cb_Mo_budget O r' h' hE n0 h0 a0 x1 hf)
/-! ===== StreamFiltersModel.fail(I)V ===== -/
theorem d_Mo_fail_0 : decode b_Mo_fail 0 = .ok (.aload_n 0, 1) := by decide +kernel
theorem d_Mo_fail_1 : decode b_Mo_fail 1 = .ok (.aload_n 0, 1) := by decide +kernel
theorem d_Mo_fail_2 : decode b_Mo_fail 2 = .ok (.getfield 86, 3) := by decide +kernel
theorem d_Mo_fail_5 : decode b_Mo_fail 5 = .ok (.ifCond .le 10, 3) := by decide +kernel
theorem d_Mo_fail_8 : decode b_Mo_fail 8 = .ok (.aload_n 0, 1) := by decide +kernel
theorem d_Mo_fail_9 : decode b_Mo_fail 9 = .ok (.getfield 86, 3) := by decide +kernel
theorem d_Mo_fail_12 : decode b_Mo_fail 12 = .ok (.goto 4, 3) := by decide +kernel
theorem d_Mo_fail_15 : decode b_Mo_fail 15 = .ok (.iload_n 1, 1) := by decide +kernel
theorem d_Mo_fail_16 : decode b_Mo_fail 16 = .ok (.putfield 86, 3) := by decide +kernel
theorem d_Mo_fail_19 : decode b_Mo_fail 19 = .ok (.return_, 1) := by decide +kernel
noncomputable def f_Mo_fail  (n0 : Nat) (h0 : mH) (a0 : Nat) (x1 : Int32) : Option (Unit × mH) :=
  mgi h0 a0 10 17 fun v1 =>
  if v1 ≤ 0 then
    mpt h0 a0 10 17 (.int x1) fun h3 =>
    some ((), h3)
  else
    mgi h0 a0 10 17 fun v4 =>
    mpt h0 a0 10 17 (.int v4) fun h5 =>
    some ((), h5)
set_option maxHeartbeats 4000000 in
set_option maxRecDepth 100000 in
theorem cb_Mo_fail {X : mX} {ad : Nat → Nat} {ln : Launch} (O : mO X ad R_Mo b_Mo_fail 2 (mR 0 0) ln) (r' : Unit) (h' : mH) (hE : mEnd X ad none none h') (n0 : Nat) (h0 : mH) (a0 : Nat) (x1 : Int32) (hf : f_Mo_fail n0 h0 a0 x1 = some (r', h')) : mAW X ad 0 0 0 [(0, .ref a0), (1, .int x1)] [] h0 := by
  unfold f_Mo_fail at hf
  refine ax_aload_n O d_Mo_fail_0 rfl 0 rfl ?_
  refine ax_aload_n O d_Mo_fail_1 rfl 0 rfl ?_
  obtain ⟨fv1, v1, cv1, kv1, hf⟩ := mgi_some hf
  refine ax_get O fg_Mo_86 cv1 kv1 d_Mo_fail_2 ?_
  refine ax_if_le (tgt := 15) O d_Mo_fail_5 (by decide) (fun q2 => ?_) (fun q2 => ?_)
  · rw [if_pos q2] at hf
    refine ax_iload_n O d_Mo_fail_15 rfl 1 rfl ?_
    obtain ⟨fh3, h3, ch3, kh3, eh3, hf⟩ := mpt_some hf
    refine ax_put (v := .int x1) O fp_Mo_86 ch3 kh3 eh3 rfl rfl d_Mo_fail_16 ?_
    exact ax_vretE O hE hf d_Mo_fail_19
  · rw [if_neg q2] at hf
    refine ax_aload_n O d_Mo_fail_8 rfl 0 rfl ?_
    obtain ⟨fv4, v4, cv4, kv4, hf⟩ := mgi_some hf
    refine ax_get O fg_Mo_86 cv4 kv4 d_Mo_fail_9 ?_
    refine ax_goto (tgt := 16) O d_Mo_fail_12 (by decide) ?_
    obtain ⟨fh5, h5, ch5, kh5, eh5, hf⟩ := mpt_some hf
    refine ax_put (v := .int v4) O fp_Mo_86 ch5 kh5 eh5 rfl rfl d_Mo_fail_16 ?_
    exact ax_vretE O hE hf d_Mo_fail_19
theorem c_Mo_fail {ln : Launch} {n0 : Nat} {h0 h' : mH} {a0 : Nat} {x1 : Int32} {r' : Unit} (hf : f_Mo_fail n0 h0 a0 x1 = some (r', h')) : mMet ln y_Mo_fail b_Mo_fail 2 none (mR 0 0) [.ref a0, .int x1] h0 none h' := mMet_of (by decide +kernel) (Nat.le_of_ble_eq_true rfl) (fun X ad O hE => cb_Mo_fail O r' h' hE n0 h0 a0 x1 hf)
/-! ===== StreamFiltersModel.isGood()Z ===== -/
theorem d_Mo_isGood_0 : decode b_Mo_isGood 0 = .ok (.aload_n 0, 1) := by decide +kernel
theorem d_Mo_isGood_1 : decode b_Mo_isGood 1 = .ok (.getfield 86, 3) := by decide +kernel
theorem d_Mo_isGood_4 : decode b_Mo_isGood 4 = .ok (.ifCond .ne 7, 3) := by decide +kernel
theorem d_Mo_isGood_7 : decode b_Mo_isGood 7 = .ok (.iconst 1, 1) := by decide +kernel
theorem d_Mo_isGood_8 : decode b_Mo_isGood 8 = .ok (.goto 4, 3) := by decide +kernel
theorem d_Mo_isGood_11 : decode b_Mo_isGood 11 = .ok (.iconst 0, 1) := by decide +kernel
theorem d_Mo_isGood_12 : decode b_Mo_isGood 12 = .ok (.ireturn, 1) := by decide +kernel
noncomputable def f_Mo_isGood  (n0 : Nat) (h0 : mH) (a0 : Nat) : Option (Int32 × mH) :=
  mgi h0 a0 10 17 fun v1 =>
  if v1 = 0 then
    some (1, h0)
  else
    some (0, h0)
set_option maxHeartbeats 4000000 in
set_option maxRecDepth 100000 in
theorem cb_Mo_isGood {X : mX} {ad : Nat → Nat} {ln : Launch} (O : mO X ad R_Mo b_Mo_isGood 1 (mR 0 0) ln) (r' : Int32) (h' : mH) (hE : mEnd X ad (some .boolean) (some (.int r')) h') (n0 : Nat) (h0 : mH) (a0 : Nat) (hf : f_Mo_isGood n0 h0 a0 = some (r', h')) : mAW X ad 0 0 0 [(0, .ref a0)] [] h0 := by
  unfold f_Mo_isGood at hf
  refine ax_aload_n O d_Mo_isGood_0 rfl 0 rfl ?_
  obtain ⟨fv1, v1, cv1, kv1, hf⟩ := mgi_some hf
  refine ax_get O fg_Mo_86 cv1 kv1 d_Mo_isGood_1 ?_
  refine ax_if_ne (tgt := 11) O d_Mo_isGood_4 (by decide) (fun q2 => ?_) (fun q2 => ?_)
  · rw [if_neg q2] at hf
    refine ax_iconst (v := 0) O d_Mo_isGood_11 (by decide) ?_
    exact ax_retE O hE hf rfl d_Mo_isGood_12
  · rw [if_pos q2] at hf
    refine ax_iconst (v := 1) O d_Mo_isGood_7 (by decide) ?_
    refine ax_goto (tgt := 12) O d_Mo_isGood_8 (by decide) ?_
    exact ax_retE O hE hf rfl d_Mo_isGood_12
theorem c_Mo_isGood {ln : Launch} {n0 : Nat} {h0 h' : mH} {a0 : Nat} {r' : Int32} (hf : f_Mo_isGood n0 h0 a0 = some (r', h')) : mMet ln y_Mo_isGood b_Mo_isGood 1 (some .boolean) (mR 0 0) [.ref a0] h0 (some (.int r')) h' := mMet_of (by decide +kernel) (Nat.le_of_ble_eq_true rfl) (fun X ad O hE => cb_Mo_isGood O r' h' hE n0 h0 a0 hf)
