/-! ===== StreamFiltersModel.run(I)V ===== -/
theorem d_Mo_run_0 : decode b_Mo_run 0 = .ok (.aload_n 0, 1) := by decide +kernel
theorem d_Mo_run_1 : decode b_Mo_run 1 = .ok (.iconst 0, 1) := by decide +kernel
theorem d_Mo_run_2 : decode b_Mo_run 2 = .ok (.putfield 106, 3) := by decide +kernel
theorem d_Mo_run_5 : decode b_Mo_run 5 = .ok (.aload_n 0, 1) := by decide +kernel
theorem d_Mo_run_6 : decode b_Mo_run 6 = .ok (.iconst 0, 1) := by decide +kernel
theorem d_Mo_run_7 : decode b_Mo_run 7 = .ok (.putfield 93, 3) := by decide +kernel
theorem d_Mo_run_10 : decode b_Mo_run 10 = .ok (.aload_n 0, 1) := by decide +kernel
theorem d_Mo_run_11 : decode b_Mo_run 11 = .ok (.iconst 0, 1) := by decide +kernel
theorem d_Mo_run_12 : decode b_Mo_run 12 = .ok (.putfield 109, 3) := by decide +kernel
theorem d_Mo_run_15 : decode b_Mo_run 15 = .ok (.aload_n 0, 1) := by decide +kernel
theorem d_Mo_run_16 : decode b_Mo_run 16 = .ok (.getfield 13, 3) := by decide +kernel
theorem d_Mo_run_19 : decode b_Mo_run 19 = .ok (.iload_n 1, 1) := by decide +kernel
theorem d_Mo_run_20 : decode b_Mo_run 20 = .ok (.iaload, 1) := by decide +kernel
theorem d_Mo_run_21 : decode b_Mo_run 21 = .ok (.tableswitch 65 0 3 #[31, 38, 51, 58], 31) := by decide +kernel
theorem d_Mo_run_52 : decode b_Mo_run 52 = .ok (.aload_n 0, 1) := by decide +kernel
theorem d_Mo_run_53 : decode b_Mo_run 53 = .ok (.invokevirtual 245, 3) := by decide +kernel
theorem d_Mo_run_56 : decode b_Mo_run 56 = .ok (.goto 34, 3) := by decide +kernel
theorem d_Mo_run_59 : decode b_Mo_run 59 = .ok (.aload_n 0, 1) := by decide +kernel
theorem d_Mo_run_60 : decode b_Mo_run 60 = .ok (.aload_n 0, 1) := by decide +kernel
theorem d_Mo_run_61 : decode b_Mo_run 61 = .ok (.getfield 16, 3) := by decide +kernel
theorem d_Mo_run_64 : decode b_Mo_run 64 = .ok (.iload_n 1, 1) := by decide +kernel
theorem d_Mo_run_65 : decode b_Mo_run 65 = .ok (.iaload, 1) := by decide +kernel
theorem d_Mo_run_66 : decode b_Mo_run 66 = .ok (.invokevirtual 248, 3) := by decide +kernel
theorem d_Mo_run_69 : decode b_Mo_run 69 = .ok (.goto 21, 3) := by decide +kernel
theorem d_Mo_run_72 : decode b_Mo_run 72 = .ok (.aload_n 0, 1) := by decide +kernel
theorem d_Mo_run_73 : decode b_Mo_run 73 = .ok (.invokevirtual 251, 3) := by decide +kernel
theorem d_Mo_run_76 : decode b_Mo_run 76 = .ok (.goto 14, 3) := by decide +kernel
theorem d_Mo_run_79 : decode b_Mo_run 79 = .ok (.aload_n 0, 1) := by decide +kernel
theorem d_Mo_run_80 : decode b_Mo_run 80 = .ok (.invokevirtual 254, 3) := by decide +kernel
theorem d_Mo_run_83 : decode b_Mo_run 83 = .ok (.goto 7, 3) := by decide +kernel
theorem d_Mo_run_86 : decode b_Mo_run 86 = .ok (.aload_n 0, 1) := by decide +kernel
theorem d_Mo_run_87 : decode b_Mo_run 87 = .ok (.invokevirtual 257, 3) := by decide +kernel
theorem d_Mo_run_90 : decode b_Mo_run 90 = .ok (.aload_n 0, 1) := by decide +kernel
theorem d_Mo_run_91 : decode b_Mo_run 91 = .ok (.getfield 19, 3) := by decide +kernel
theorem d_Mo_run_94 : decode b_Mo_run 94 = .ok (.iload_n 1, 1) := by decide +kernel
theorem d_Mo_run_95 : decode b_Mo_run 95 = .ok (.iaload, 1) := by decide +kernel
theorem d_Mo_run_96 : decode b_Mo_run 96 = .ok (.iconst 2, 1) := by decide +kernel
theorem d_Mo_run_97 : decode b_Mo_run 97 = .ok (.if_icmp .ne 11, 3) := by decide +kernel
theorem d_Mo_run_100 : decode b_Mo_run 100 = .ok (.aload_n 0, 1) := by decide +kernel
theorem d_Mo_run_101 : decode b_Mo_run 101 = .ok (.iload_n 1, 1) := by decide +kernel
theorem d_Mo_run_102 : decode b_Mo_run 102 = .ok (.invokevirtual 260, 3) := by decide +kernel
theorem d_Mo_run_105 : decode b_Mo_run 105 = .ok (.goto 28, 3) := by decide +kernel
theorem d_Mo_run_108 : decode b_Mo_run 108 = .ok (.aload_n 0, 1) := by decide +kernel
theorem d_Mo_run_109 : decode b_Mo_run 109 = .ok (.getfield 19, 3) := by decide +kernel
theorem d_Mo_run_112 : decode b_Mo_run 112 = .ok (.iload_n 1, 1) := by decide +kernel
theorem d_Mo_run_113 : decode b_Mo_run 113 = .ok (.iaload, 1) := by decide +kernel
theorem d_Mo_run_114 : decode b_Mo_run 114 = .ok (.bipush 9, 2) := by decide +kernel
theorem d_Mo_run_116 : decode b_Mo_run 116 = .ok (.if_icmp .le 17, 3) := by decide +kernel
theorem d_Mo_run_119 : decode b_Mo_run 119 = .ok (.aload_n 0, 1) := by decide +kernel
theorem d_Mo_run_120 : decode b_Mo_run 120 = .ok (.iload_n 1, 1) := by decide +kernel
theorem d_Mo_run_121 : decode b_Mo_run 121 = .ok (.invokevirtual 263, 3) := by decide +kernel
theorem d_Mo_run_124 : decode b_Mo_run 124 = .ok (.ifCond .ne 9, 3) := by decide +kernel
theorem d_Mo_run_127 : decode b_Mo_run 127 = .ok (.aload_n 0, 1) := by decide +kernel
theorem d_Mo_run_128 : decode b_Mo_run 128 = .ok (.bipush 13, 2) := by decide +kernel
theorem d_Mo_run_130 : decode b_Mo_run 130 = .ok (.invokevirtual 99, 3) := by decide +kernel
theorem d_Mo_run_133 : decode b_Mo_run 133 = .ok (.return_, 1) := by decide +kernel
noncomputable def f_Mo_run_B90  (n0 : Nat) (h0 : mH) (a0 : Nat) (x1 : Int32) : Option (Unit × mH) :=
  mgr h0 a0 10 6 fun r11 =>
  mai h0 r11 .int x1 fun v12 =>
  if v12 = 2 then
    mis h0 a0 10 <|
    mcl (f_Mo_addRows n0 h0 a0 x1) fun _ h27 =>
    some ((), h27)
  else
    mgr h0 a0 10 6 fun r14 =>
    mai h0 r14 .int x1 fun v15 =>
    if v15 ≤ 9 then
      some ((), h0)
    else
      mis h0 a0 10 <|
      mcl (f_Mo_undoRows n0 h0 a0 x1) fun v18 h19 =>
      if v18 = 0 then
        mis h19 a0 10 <|
        mcl (f_Mo_fail n0 h19 a0 13) fun _ h23 =>
        some ((), h23)
      else
        some ((), h19)
noncomputable def f_Mo_run  (n0 : Nat) (h0 : mH) (a0 : Nat) (x1 : Int32) : Option (Unit × mH) :=
  mpt h0 a0 10 13 (.int 0) fun h1 =>
  mpt h1 a0 10 16 (.int 0) fun h2 =>
  mpt h2 a0 10 19 (.int 0) fun h3 =>
  mgr h3 a0 10 4 fun r4 =>
  mai h3 r4 .int x1 fun v5 =>
  if v5 = 0 then
    mis h3 a0 10 <|
    mcl (f_Mo_flate n0 h3 a0) fun _ h9 =>
    f_Mo_run_B90 n0 h9 a0 x1
  else
    if v5 = 1 then
      mgr h3 a0 10 5 fun r30 =>
      mai h3 r30 .int x1 fun v31 =>
      mis h3 a0 10 <|
      mcl (f_Mo_lzw n0 h3 a0 v31) fun _ h34 =>
      f_Mo_run_B90 n0 h34 a0 x1
    else
      if v5 = 2 then
        mis h3 a0 10 <|
        mcl (f_Mo_text85 n0 h3 a0) fun _ h39 =>
        f_Mo_run_B90 n0 h39 a0 x1
      else
        if v5 = 3 then
          mis h3 a0 10 <|
          mcl (f_Mo_hexadecimal n0 h3 a0) fun _ h44 =>
          f_Mo_run_B90 n0 h44 a0 x1
        else
          mis h3 a0 10 <|
          mcl (f_Mo_runs n0 h3 a0) fun _ h48 =>
          f_Mo_run_B90 n0 h48 a0 x1
set_option maxHeartbeats 4000000 in
set_option maxRecDepth 100000 in
theorem cb_Mo_run_B90 {X : mX} {ad : Nat → Nat} {ln : Launch} (O : mO X ad R_Mo b_Mo_run 2 (mR 8 189) ln) (r' : Unit) (h' : mH) (hE : mEnd X ad none none h') (n0 : Nat) (h0 : mH) (a0 : Nat) (x1 : Int32) (hf : f_Mo_run_B90 n0 h0 a0 x1 = some (r', h')) : mAW X ad 0 0 90 [(0, .ref a0), (1, .int x1)] [] h0 := by
  unfold f_Mo_run_B90 at hf
  refine ax_aload_n O d_Mo_run_90 rfl 0 rfl ?_
  obtain ⟨fr11, r11, cr11, kr11, hf⟩ := mgr_some hf
  refine ax_get O fg_Mo_19 cr11 kr11 d_Mo_run_91 ?_
  refine ax_iload_n O d_Mo_run_94 rfl 1 rfl ?_
  obtain ⟨nv12, fv12, v12, cv12, iv12, kv12, hf⟩ := mai_some hf
  refine ax_iald O cv12 iv12 kv12 d_Mo_run_95 ?_
  refine ax_iconst (v := 2) O d_Mo_run_96 (by decide) ?_
  refine ax_icmp_ne (tgt := 108) O d_Mo_run_97 (by decide) (fun q13 => ?_) (fun q13 => ?_)
  · rw [if_neg q13] at hf
    refine ax_aload_n O d_Mo_run_108 rfl 0 rfl ?_
    obtain ⟨fr14, r14, cr14, kr14, hf⟩ := mgr_some hf
    refine ax_get O fg_Mo_19 cr14 kr14 d_Mo_run_109 ?_
    refine ax_iload_n O d_Mo_run_112 rfl 1 rfl ?_
    obtain ⟨nv15, fv15, v15, cv15, iv15, kv15, hf⟩ := mai_some hf
    refine ax_iald O cv15 iv15 kv15 d_Mo_run_113 ?_
    refine ax_bipush (v := 9) O d_Mo_run_114 (by decide) ?_
    refine ax_icmp_le (tgt := 133) O d_Mo_run_116 (by decide) (fun q16 => ?_) (fun q16 => ?_)
    · rw [if_pos q16] at hf
      exact ax_vretE O hE hf d_Mo_run_133
    · rw [if_neg q16] at hf
      refine ax_aload_n O d_Mo_run_119 rfl 0 rfl ?_
      refine ax_iload_n O d_Mo_run_120 rfl 1 rfl ?_
      obtain ⟨fh19, ch19, hf⟩ := mis_some hf
      obtain ⟨v18, h19, mh19, hf⟩ := mcl_some hf
      refine ax_callV (As := [.int x1]) (rest := []) O cw_Mo_undoRows (q := (R_Mo, T_Mo, 31)) rfl rfl in_Mo_undoRows se_Mo_undoRows lk_Mo_263 ch19 (c_Mo_undoRows mh19) rfl ⟨rfl, rfl⟩ (by decide) (by decide) (Nat.le_of_ble_eq_true rfl) d_Mo_run_121 ?_
      refine ax_if_ne (tgt := 133) O d_Mo_run_124 (by decide) (fun q20 => ?_) (fun q20 => ?_)
      · rw [if_neg q20] at hf
        exact ax_vretE O hE hf d_Mo_run_133
      · rw [if_pos q20] at hf
        refine ax_aload_n O d_Mo_run_127 rfl 0 rfl ?_
        refine ax_bipush (v := 13) O d_Mo_run_128 (by decide) ?_
        obtain ⟨fh23, ch23, hf⟩ := mis_some hf
        obtain ⟨u24, h23, mh23, hf⟩ := mcl_some hf
        refine ax_callV (As := [.int 13]) (rest := []) O cw_Mo_fail (q := (R_Mo, T_Mo, 31)) rfl rfl in_Mo_fail se_Mo_fail lk_Mo_99 ch23 (c_Mo_fail mh23) rfl ⟨rfl, rfl⟩ (by decide) (by decide) (Nat.le_of_ble_eq_true rfl) d_Mo_run_130 ?_
        exact ax_vretE O hE hf d_Mo_run_133
  · rw [if_pos q13] at hf
    refine ax_aload_n O d_Mo_run_100 rfl 0 rfl ?_
    refine ax_iload_n O d_Mo_run_101 rfl 1 rfl ?_
    obtain ⟨fh27, ch27, hf⟩ := mis_some hf
    obtain ⟨u28, h27, mh27, hf⟩ := mcl_some hf
    refine ax_callV (As := [.int x1]) (rest := []) O cw_Mo_addRows (q := (R_Mo, T_Mo, 31)) rfl rfl in_Mo_addRows se_Mo_addRows lk_Mo_260 ch27 (c_Mo_addRows mh27) rfl ⟨rfl, rfl⟩ (by decide) (by decide) (Nat.le_of_ble_eq_true rfl) d_Mo_run_102 ?_
    refine ax_goto (tgt := 133) O d_Mo_run_105 (by decide) ?_
    exact ax_vretE O hE hf d_Mo_run_133
set_option maxHeartbeats 4000000 in
set_option maxRecDepth 100000 in
theorem cb_Mo_run {X : mX} {ad : Nat → Nat} {ln : Launch} (O : mO X ad R_Mo b_Mo_run 2 (mR 8 189) ln) (r' : Unit) (h' : mH) (hE : mEnd X ad none none h') (n0 : Nat) (h0 : mH) (a0 : Nat) (x1 : Int32) (hf : f_Mo_run n0 h0 a0 x1 = some (r', h')) : mAW X ad 0 0 0 [(0, .ref a0), (1, .int x1)] [] h0 := by
  unfold f_Mo_run at hf
  refine ax_aload_n O d_Mo_run_0 rfl 0 rfl ?_
  refine ax_iconst (v := 0) O d_Mo_run_1 (by decide) ?_
  obtain ⟨fh1, h1, ch1, kh1, eh1, hf⟩ := mpt_some hf
  refine ax_put (v := .int 0) O fp_Mo_106 ch1 kh1 eh1 rfl rfl d_Mo_run_2 ?_
  refine ax_aload_n O d_Mo_run_5 rfl 0 rfl ?_
  refine ax_iconst (v := 0) O d_Mo_run_6 (by decide) ?_
  obtain ⟨fh2, h2, ch2, kh2, eh2, hf⟩ := mpt_some hf
  refine ax_put (v := .int 0) O fp_Mo_93 ch2 kh2 eh2 rfl rfl d_Mo_run_7 ?_
  refine ax_aload_n O d_Mo_run_10 rfl 0 rfl ?_
  refine ax_iconst (v := 0) O d_Mo_run_11 (by decide) ?_
  obtain ⟨fh3, h3, ch3, kh3, eh3, hf⟩ := mpt_some hf
  refine ax_put (v := .int 0) O fp_Mo_109 ch3 kh3 eh3 rfl rfl d_Mo_run_12 ?_
  refine ax_aload_n O d_Mo_run_15 rfl 0 rfl ?_
  obtain ⟨fr4, r4, cr4, kr4, hf⟩ := mgr_some hf
  refine ax_get O fg_Mo_13 cr4 kr4 d_Mo_run_16 ?_
  refine ax_iload_n O d_Mo_run_19 rfl 1 rfl ?_
  obtain ⟨nv5, fv5, v5, cv5, iv5, kv5, hf⟩ := mai_some hf
  refine ax_iald O cv5 iv5 kv5 d_Mo_run_20 ?_
  by_cases q6 : v5 = 0
  · rw [if_pos q6] at hf
    refine ax_tableIn (tgt := 52) O d_Mo_run_21 (by rw [q6]; decide) (by rw [q6]; decide) (by rw [q6]; rfl) (by decide) ?_
    refine ax_aload_n O d_Mo_run_52 rfl 0 rfl ?_
    obtain ⟨fh9, ch9, hf⟩ := mis_some hf
    obtain ⟨u10, h9, mh9, hf⟩ := mcl_some hf
    refine ax_callV (As := []) (rest := []) O cw_Mo_flate (q := (R_Mo, T_Mo, 31)) rfl rfl in_Mo_flate se_Mo_flate lk_Mo_245 ch9 (c_Mo_flate mh9) rfl ⟨rfl, rfl⟩ (by decide) (by decide) (Nat.le_of_ble_eq_true rfl) d_Mo_run_53 ?_
    refine ax_goto (tgt := 90) O d_Mo_run_56 (by decide) ?_
    exact cb_Mo_run_B90 O _ _ hE n0 _ _ _ hf
  · rw [if_neg q6] at hf
    by_cases q29 : v5 = 1
    · rw [if_pos q29] at hf
      refine ax_tableIn (tgt := 59) O d_Mo_run_21 (by rw [q29]; decide) (by rw [q29]; decide) (by rw [q29]; rfl) (by decide) ?_
      refine ax_aload_n O d_Mo_run_59 rfl 0 rfl ?_
      refine ax_aload_n O d_Mo_run_60 rfl 0 rfl ?_
      obtain ⟨fr30, r30, cr30, kr30, hf⟩ := mgr_some hf
      refine ax_get O fg_Mo_16 cr30 kr30 d_Mo_run_61 ?_
      refine ax_iload_n O d_Mo_run_64 rfl 1 rfl ?_
      obtain ⟨nv31, fv31, v31, cv31, iv31, kv31, hf⟩ := mai_some hf
      refine ax_iald O cv31 iv31 kv31 d_Mo_run_65 ?_
      obtain ⟨fh34, ch34, hf⟩ := mis_some hf
      obtain ⟨u35, h34, mh34, hf⟩ := mcl_some hf
      refine ax_callV (As := [.int v31]) (rest := []) O cw_Mo_lzw (q := (R_Mo, T_Mo, 31)) rfl rfl in_Mo_lzw se_Mo_lzw lk_Mo_248 ch34 (c_Mo_lzw mh34) rfl ⟨rfl, rfl⟩ (by decide) (by decide) (Nat.le_of_ble_eq_true rfl) d_Mo_run_66 ?_
      refine ax_goto (tgt := 90) O d_Mo_run_69 (by decide) ?_
      exact cb_Mo_run_B90 O _ _ hE n0 _ _ _ hf
    · rw [if_neg q29] at hf
      by_cases q36 : v5 = 2
      · rw [if_pos q36] at hf
        refine ax_tableIn (tgt := 72) O d_Mo_run_21 (by rw [q36]; decide) (by rw [q36]; decide) (by rw [q36]; rfl) (by decide) ?_
        refine ax_aload_n O d_Mo_run_72 rfl 0 rfl ?_
        obtain ⟨fh39, ch39, hf⟩ := mis_some hf
        obtain ⟨u40, h39, mh39, hf⟩ := mcl_some hf
        refine ax_callV (As := []) (rest := []) O cw_Mo_text85 (q := (R_Mo, T_Mo, 31)) rfl rfl in_Mo_text85 se_Mo_text85 lk_Mo_251 ch39 (c_Mo_text85 mh39) rfl ⟨rfl, rfl⟩ (by decide) (by decide) (Nat.le_of_ble_eq_true rfl) d_Mo_run_73 ?_
        refine ax_goto (tgt := 90) O d_Mo_run_76 (by decide) ?_
        exact cb_Mo_run_B90 O _ _ hE n0 _ _ _ hf
      · rw [if_neg q36] at hf
        by_cases q41 : v5 = 3
        · rw [if_pos q41] at hf
          refine ax_tableIn (tgt := 79) O d_Mo_run_21 (by rw [q41]; decide) (by rw [q41]; decide) (by rw [q41]; rfl) (by decide) ?_
          refine ax_aload_n O d_Mo_run_79 rfl 0 rfl ?_
          obtain ⟨fh44, ch44, hf⟩ := mis_some hf
          obtain ⟨u45, h44, mh44, hf⟩ := mcl_some hf
          refine ax_callV (As := []) (rest := []) O cw_Mo_hexadecimal (q := (R_Mo, T_Mo, 31)) rfl rfl in_Mo_hexadecimal se_Mo_hexadecimal lk_Mo_254 ch44 (c_Mo_hexadecimal mh44) rfl ⟨rfl, rfl⟩ (by decide) (by decide) (Nat.le_of_ble_eq_true rfl) d_Mo_run_80 ?_
          refine ax_goto (tgt := 90) O d_Mo_run_83 (by decide) ?_
          exact cb_Mo_run_B90 O _ _ hE n0 _ _ _ hf
        · rw [if_neg q41] at hf
          refine ax_tableOut (tgt := 86) O d_Mo_run_21 (mTi (fun z h1 h2 => by rcases (show z = 0 ∨ z = 1 ∨ z = 2 ∨ z = 3 by omega) with rfl | rfl | rfl | rfl; exact lv_neT q6 (by decide); exact lv_neT q29 (by decide); exact lv_neT q36 (by decide); exact lv_neT q41 (by decide))) (by decide) ?_
          refine ax_aload_n O d_Mo_run_86 rfl 0 rfl ?_
          obtain ⟨fh48, ch48, hf⟩ := mis_some hf
          obtain ⟨u49, h48, mh48, hf⟩ := mcl_some hf
          refine ax_callV (As := []) (rest := []) O cw_Mo_runs (q := (R_Mo, T_Mo, 31)) rfl rfl in_Mo_runs se_Mo_runs lk_Mo_257 ch48 (c_Mo_runs mh48) rfl ⟨rfl, rfl⟩ (by decide) (by decide) (Nat.le_of_ble_eq_true rfl) d_Mo_run_87 ?_
          exact cb_Mo_run_B90 O _ _ hE n0 _ _ _ hf
theorem c_Mo_run {ln : Launch} {n0 : Nat} {h0 h' : mH} {a0 : Nat} {x1 : Int32} {r' : Unit} (hf : f_Mo_run n0 h0 a0 x1 = some (r', h')) : mMet ln y_Mo_run b_Mo_run 2 none (mR 8 189) [.ref a0, .int x1] h0 none h' := mMet_of (by decide +kernel) (Nat.le_of_ble_eq_true rfl) (fun X ad O hE => cb_Mo_run O r' h' hE n0 h0 a0 x1 hf)
/-! ===== StreamFiltersModel.decode()I ===== -/
theorem d_Mo_decode_0 : decode b_Mo_decode 0 = .ok (.aload_n 0, 1) := by decide +kernel
theorem d_Mo_decode_1 : decode b_Mo_decode 1 = .ok (.iconst 0, 1) := by decide +kernel
theorem d_Mo_decode_2 : decode b_Mo_decode 2 = .ok (.putfield 69, 3) := by decide +kernel
theorem d_Mo_decode_5 : decode b_Mo_decode 5 = .ok (.aload_n 0, 1) := by decide +kernel
theorem d_Mo_decode_6 : decode b_Mo_decode 6 = .ok (.aload_n 0, 1) := by decide +kernel
theorem d_Mo_decode_7 : decode b_Mo_decode 7 = .ok (.getfield 32, 3) := by decide +kernel
theorem d_Mo_decode_10 : decode b_Mo_decode 10 = .ok (.putfield 103, 3) := by decide +kernel
theorem d_Mo_decode_13 : decode b_Mo_decode 13 = .ok (.aload_n 0, 1) := by decide +kernel
theorem d_Mo_decode_14 : decode b_Mo_decode 14 = .ok (.iconst 0, 1) := by decide +kernel
theorem d_Mo_decode_15 : decode b_Mo_decode 15 = .ok (.putfield 86, 3) := by decide +kernel
theorem d_Mo_decode_18 : decode b_Mo_decode 18 = .ok (.aload_n 0, 1) := by decide +kernel
theorem d_Mo_decode_19 : decode b_Mo_decode 19 = .ok (.iconst (-1), 1) := by decide +kernel
theorem d_Mo_decode_20 : decode b_Mo_decode 20 = .ok (.putfield 60, 3) := by decide +kernel
theorem d_Mo_decode_23 : decode b_Mo_decode 23 = .ok (.aload_n 0, 1) := by decide +kernel
theorem d_Mo_decode_24 : decode b_Mo_decode 24 = .ok (.iconst (-1), 1) := by decide +kernel
theorem d_Mo_decode_25 : decode b_Mo_decode 25 = .ok (.putfield 63, 3) := by decide +kernel
theorem d_Mo_decode_28 : decode b_Mo_decode 28 = .ok (.aload_n 0, 1) := by decide +kernel
theorem d_Mo_decode_29 : decode b_Mo_decode 29 = .ok (.iconst (-1), 1) := by decide +kernel
theorem d_Mo_decode_30 : decode b_Mo_decode 30 = .ok (.putfield 66, 3) := by decide +kernel
theorem d_Mo_decode_33 : decode b_Mo_decode 33 = .ok (.aload_n 0, 1) := by decide +kernel
theorem d_Mo_decode_34 : decode b_Mo_decode 34 = .ok (.aload_n 0, 1) := by decide +kernel
theorem d_Mo_decode_35 : decode b_Mo_decode 35 = .ok (.getfield 72, 3) := by decide +kernel
theorem d_Mo_decode_38 : decode b_Mo_decode 38 = .ok (.putfield 106, 3) := by decide +kernel
theorem d_Mo_decode_41 : decode b_Mo_decode 41 = .ok (.iconst 0, 1) := by decide +kernel
theorem d_Mo_decode_42 : decode b_Mo_decode 42 = .ok (.istore_n 1, 1) := by decide +kernel
theorem d_Mo_decode_43 : decode b_Mo_decode 43 = .ok (.iload_n 1, 1) := by decide +kernel
theorem d_Mo_decode_44 : decode b_Mo_decode 44 = .ok (.aload_n 0, 1) := by decide +kernel
theorem d_Mo_decode_45 : decode b_Mo_decode 45 = .ok (.getfield 72, 3) := by decide +kernel
theorem d_Mo_decode_48 : decode b_Mo_decode 48 = .ok (.if_icmp .ge 21, 3) := by decide +kernel
theorem d_Mo_decode_51 : decode b_Mo_decode 51 = .ok (.aload_n 0, 1) := by decide +kernel
theorem d_Mo_decode_52 : decode b_Mo_decode 52 = .ok (.getfield 39, 3) := by decide +kernel
theorem d_Mo_decode_55 : decode b_Mo_decode 55 = .ok (.iload_n 1, 1) := by decide +kernel
theorem d_Mo_decode_56 : decode b_Mo_decode 56 = .ok (.aload_n 0, 1) := by decide +kernel
theorem d_Mo_decode_57 : decode b_Mo_decode 57 = .ok (.getfield 7, 3) := by decide +kernel
theorem d_Mo_decode_60 : decode b_Mo_decode 60 = .ok (.iload_n 1, 1) := by decide +kernel
theorem d_Mo_decode_61 : decode b_Mo_decode 61 = .ok (.iaload, 1) := by decide +kernel
theorem d_Mo_decode_62 : decode b_Mo_decode 62 = .ok (.iastore, 1) := by decide +kernel
theorem d_Mo_decode_63 : decode b_Mo_decode 63 = .ok (.iinc 1 1, 3) := by decide +kernel
theorem d_Mo_decode_66 : decode b_Mo_decode 66 = .ok (.goto (-23), 3) := by decide +kernel
theorem d_Mo_decode_69 : decode b_Mo_decode 69 = .ok (.iconst 0, 1) := by decide +kernel
theorem d_Mo_decode_70 : decode b_Mo_decode 70 = .ok (.istore_n 1, 1) := by decide +kernel
theorem d_Mo_decode_71 : decode b_Mo_decode 71 = .ok (.iload_n 1, 1) := by decide +kernel
theorem d_Mo_decode_72 : decode b_Mo_decode 72 = .ok (.aload_n 0, 1) := by decide +kernel
theorem d_Mo_decode_73 : decode b_Mo_decode 73 = .ok (.getfield 83, 3) := by decide +kernel
theorem d_Mo_decode_76 : decode b_Mo_decode 76 = .ok (.if_icmp .ge 85, 3) := by decide +kernel
theorem d_Mo_decode_79 : decode b_Mo_decode 79 = .ok (.aload_n 0, 1) := by decide +kernel
theorem d_Mo_decode_80 : decode b_Mo_decode 80 = .ok (.invokevirtual 89, 3) := by decide +kernel
theorem d_Mo_decode_83 : decode b_Mo_decode 83 = .ok (.ifCond .eq 78, 3) := by decide +kernel
theorem d_Mo_decode_86 : decode b_Mo_decode 86 = .ok (.aload_n 0, 1) := by decide +kernel
theorem d_Mo_decode_87 : decode b_Mo_decode 87 = .ok (.aload_n 0, 1) := by decide +kernel
theorem d_Mo_decode_88 : decode b_Mo_decode 88 = .ok (.getfield 106, 3) := by decide +kernel
theorem d_Mo_decode_91 : decode b_Mo_decode 91 = .ok (.putfield 96, 3) := by decide +kernel
theorem d_Mo_decode_94 : decode b_Mo_decode 94 = .ok (.iconst 0, 1) := by decide +kernel
theorem d_Mo_decode_95 : decode b_Mo_decode 95 = .ok (.istore_n 2, 1) := by decide +kernel
theorem d_Mo_decode_96 : decode b_Mo_decode 96 = .ok (.iload_n 2, 1) := by decide +kernel
theorem d_Mo_decode_97 : decode b_Mo_decode 97 = .ok (.aload_n 0, 1) := by decide +kernel
theorem d_Mo_decode_98 : decode b_Mo_decode 98 = .ok (.getfield 96, 3) := by decide +kernel
theorem d_Mo_decode_101 : decode b_Mo_decode 101 = .ok (.if_icmp .ge 21, 3) := by decide +kernel
theorem d_Mo_decode_104 : decode b_Mo_decode 104 = .ok (.aload_n 0, 1) := by decide +kernel
theorem d_Mo_decode_105 : decode b_Mo_decode 105 = .ok (.getfield 36, 3) := by decide +kernel
theorem d_Mo_decode_108 : decode b_Mo_decode 108 = .ok (.iload_n 2, 1) := by decide +kernel
theorem d_Mo_decode_109 : decode b_Mo_decode 109 = .ok (.aload_n 0, 1) := by decide +kernel
theorem d_Mo_decode_110 : decode b_Mo_decode 110 = .ok (.getfield 39, 3) := by decide +kernel
theorem d_Mo_decode_113 : decode b_Mo_decode 113 = .ok (.iload_n 2, 1) := by decide +kernel
theorem d_Mo_decode_114 : decode b_Mo_decode 114 = .ok (.iaload, 1) := by decide +kernel
theorem d_Mo_decode_115 : decode b_Mo_decode 115 = .ok (.iastore, 1) := by decide +kernel
theorem d_Mo_decode_116 : decode b_Mo_decode 116 = .ok (.iinc 2 1, 3) := by decide +kernel
theorem d_Mo_decode_119 : decode b_Mo_decode 119 = .ok (.goto (-23), 3) := by decide +kernel
theorem d_Mo_decode_122 : decode b_Mo_decode 122 = .ok (.aload_n 0, 1) := by decide +kernel
theorem d_Mo_decode_123 : decode b_Mo_decode 123 = .ok (.iload_n 1, 1) := by decide +kernel
theorem d_Mo_decode_124 : decode b_Mo_decode 124 = .ok (.invokevirtual 266, 3) := by decide +kernel
theorem d_Mo_decode_127 : decode b_Mo_decode 127 = .ok (.aload_n 0, 1) := by decide +kernel
theorem d_Mo_decode_128 : decode b_Mo_decode 128 = .ok (.invokevirtual 89, 3) := by decide +kernel
theorem d_Mo_decode_131 : decode b_Mo_decode 131 = .ok (.ifCond .ne 24, 3) := by decide +kernel
theorem d_Mo_decode_134 : decode b_Mo_decode 134 = .ok (.aload_n 0, 1) := by decide +kernel
theorem d_Mo_decode_135 : decode b_Mo_decode 135 = .ok (.iload_n 1, 1) := by decide +kernel
theorem d_Mo_decode_136 : decode b_Mo_decode 136 = .ok (.putfield 60, 3) := by decide +kernel
theorem d_Mo_decode_139 : decode b_Mo_decode 139 = .ok (.aload_n 0, 1) := by decide +kernel
theorem d_Mo_decode_140 : decode b_Mo_decode 140 = .ok (.aload_n 0, 1) := by decide +kernel
theorem d_Mo_decode_141 : decode b_Mo_decode 141 = .ok (.getfield 86, 3) := by decide +kernel
theorem d_Mo_decode_144 : decode b_Mo_decode 144 = .ok (.putfield 63, 3) := by decide +kernel
theorem d_Mo_decode_147 : decode b_Mo_decode 147 = .ok (.aload_n 0, 1) := by decide +kernel
theorem d_Mo_decode_148 : decode b_Mo_decode 148 = .ok (.aload_n 0, 1) := by decide +kernel
theorem d_Mo_decode_149 : decode b_Mo_decode 149 = .ok (.getfield 93, 3) := by decide +kernel
theorem d_Mo_decode_152 : decode b_Mo_decode 152 = .ok (.putfield 66, 3) := by decide +kernel
theorem d_Mo_decode_155 : decode b_Mo_decode 155 = .ok (.iinc 1 1, 3) := by decide +kernel
theorem d_Mo_decode_158 : decode b_Mo_decode 158 = .ok (.goto (-87), 3) := by decide +kernel
theorem d_Mo_decode_161 : decode b_Mo_decode 161 = .ok (.aload_n 0, 1) := by decide +kernel
theorem d_Mo_decode_162 : decode b_Mo_decode 162 = .ok (.iconst 1, 1) := by decide +kernel
theorem d_Mo_decode_163 : decode b_Mo_decode 163 = .ok (.putfield 269, 3) := by decide +kernel
theorem d_Mo_decode_166 : decode b_Mo_decode 166 = .ok (.aload_n 0, 1) := by decide +kernel
theorem d_Mo_decode_167 : decode b_Mo_decode 167 = .ok (.aload_n 0, 1) := by decide +kernel
theorem d_Mo_decode_168 : decode b_Mo_decode 168 = .ok (.getfield 106, 3) := by decide +kernel
theorem d_Mo_decode_171 : decode b_Mo_decode 171 = .ok (.putfield 273, 3) := by decide +kernel
theorem d_Mo_decode_174 : decode b_Mo_decode 174 = .ok (.iconst 0, 1) := by decide +kernel
theorem d_Mo_decode_175 : decode b_Mo_decode 175 = .ok (.istore_n 1, 1) := by decide +kernel
theorem d_Mo_decode_176 : decode b_Mo_decode 176 = .ok (.iload_n 1, 1) := by decide +kernel
theorem d_Mo_decode_177 : decode b_Mo_decode 177 = .ok (.aload_n 0, 1) := by decide +kernel
theorem d_Mo_decode_178 : decode b_Mo_decode 178 = .ok (.getfield 106, 3) := by decide +kernel
theorem d_Mo_decode_181 : decode b_Mo_decode 181 = .ok (.if_icmp .ge 21, 3) := by decide +kernel
theorem d_Mo_decode_184 : decode b_Mo_decode 184 = .ok (.aload_n 0, 1) := by decide +kernel
theorem d_Mo_decode_185 : decode b_Mo_decode 185 = .ok (.getfield 57, 3) := by decide +kernel
theorem d_Mo_decode_188 : decode b_Mo_decode 188 = .ok (.iload_n 1, 1) := by decide +kernel
theorem d_Mo_decode_189 : decode b_Mo_decode 189 = .ok (.aload_n 0, 1) := by decide +kernel
theorem d_Mo_decode_190 : decode b_Mo_decode 190 = .ok (.getfield 39, 3) := by decide +kernel
theorem d_Mo_decode_193 : decode b_Mo_decode 193 = .ok (.iload_n 1, 1) := by decide +kernel
theorem d_Mo_decode_194 : decode b_Mo_decode 194 = .ok (.iaload, 1) := by decide +kernel
theorem d_Mo_decode_195 : decode b_Mo_decode 195 = .ok (.iastore, 1) := by decide +kernel
theorem d_Mo_decode_196 : decode b_Mo_decode 196 = .ok (.iinc 1 1, 3) := by decide +kernel
theorem d_Mo_decode_199 : decode b_Mo_decode 199 = .ok (.goto (-23), 3) := by decide +kernel
theorem d_Mo_decode_202 : decode b_Mo_decode 202 = .ok (.aload_n 0, 1) := by decide +kernel
theorem d_Mo_decode_203 : decode b_Mo_decode 203 = .ok (.getfield 106, 3) := by decide +kernel
theorem d_Mo_decode_206 : decode b_Mo_decode 206 = .ok (.ireturn, 1) := by decide +kernel
noncomputable def f_Mo_decode_L176  (n0 : Nat) : Nat → mH → Nat → Int32 → Option (Int32 × mH)
  | 0, _, _, _ => none
  | n + 1, h0, a0, x1 =>
    mgi h0 a0 10 13 fun v17 =>
    if v17 ≤ x1 then
      mgi h0 a0 10 13 fun v19 =>
      some (v19, h0)
    else
      mgr h0 a0 10 27 fun r20 =>
      mgr h0 a0 10 14 fun r21 =>
      mai h0 r21 .int x1 fun v22 =>
      mas h0 r20 .int x1 v22 fun h23 =>
      mnm (x1 + 1) fun v24 =>
      (f_Mo_decode_L176 n0 n) h23 a0 v24
noncomputable def f_Mo_decode_B161  (n0 : Nat) (h0 : mH) (a0 : Nat) : Option (Int32 × mH) :=
  mpt h0 a0 10 25 (.int 1) fun h14 =>
  mgi h14 a0 10 13 fun v15 =>
  mpt h14 a0 10 26 (.int v15) fun h16 =>
  f_Mo_decode_L176 n0 n0 h16 a0 0
noncomputable def f_Mo_decode_L96 (K71 : mH → Nat → Int32 → Option (Int32 × mH)) (n0 : Nat) : Nat → mH → Nat → Int32 → Int32 → Option (Int32 × mH)
  | 0, _, _, _, _ => none
  | n + 1, h0, a0, x1, x2 =>
    mgi h0 a0 10 11 fun v31 =>
    if v31 ≤ x2 then
      mis h0 a0 10 <|
      mcl (f_Mo_run n0 h0 a0 x1) fun _ h35 =>
      mis h35 a0 10 <|
      mcl (f_Mo_isGood n0 h35 a0) fun v38 h39 =>
      if v38 = 0 then
        mpt h39 a0 10 28 (.int x1) fun h42 =>
        mgi h42 a0 10 17 fun v43 =>
        mpt h42 a0 10 29 (.int v43) fun h44 =>
        mgi h44 a0 10 16 fun v45 =>
        mpt h44 a0 10 30 (.int v45) fun h46 =>
        mnm (x1 + 1) fun v47 =>
        K71 h46 a0 v47
      else
        mnm (x1 + 1) fun v41 =>
        K71 h39 a0 v41
    else
      mgr h0 a0 10 12 fun r48 =>
      mgr h0 a0 10 14 fun r49 =>
      mai h0 r49 .int x2 fun v50 =>
      mas h0 r48 .int x2 v50 fun h51 =>
      mnm (x2 + 1) fun v52 =>
      (f_Mo_decode_L96 K71 n0 n) h51 a0 x1 v52
noncomputable def f_Mo_decode_L71  (n0 : Nat) : Nat → mH → Nat → Int32 → Option (Int32 × mH)
  | 0, _, _, _ => none
  | n + 1, h0, a0, x1 =>
    mgi h0 a0 10 3 fun v12 =>
    if v12 ≤ x1 then
      f_Mo_decode_B161 n0 h0 a0
    else
      mis h0 a0 10 <|
      mcl (f_Mo_isGood n0 h0 a0) fun v26 h27 =>
      if v26 = 0 then
        f_Mo_decode_B161 n0 h27 a0
      else
        mgi h27 a0 10 13 fun v29 =>
        mpt h27 a0 10 11 (.int v29) fun h30 =>
        f_Mo_decode_L96 (f_Mo_decode_L71 n0 n) n0 n0 h30 a0 x1 0
noncomputable def f_Mo_decode_L43  (n0 : Nat) : Nat → mH → Nat → Int32 → Option (Int32 × mH)
  | 0, _, _, _ => none
  | n + 1, h0, a0, x1 =>
    mgi h0 a0 10 1 fun v10 =>
    if v10 ≤ x1 then
      f_Mo_decode_L71 n0 n0 h0 a0 0
    else
      mgr h0 a0 10 14 fun r53 =>
      mgr h0 a0 10 2 fun r54 =>
      mai h0 r54 .int x1 fun v55 =>
      mas h0 r53 .int x1 v55 fun h56 =>
      mnm (x1 + 1) fun v57 =>
      (f_Mo_decode_L43 n0 n) h56 a0 v57
noncomputable def f_Mo_decode  (n0 : Nat) (h0 : mH) (a0 : Nat) : Option (Int32 × mH) :=
  mpt h0 a0 10 0 (.int 0) fun h1 =>
  mgi h1 a0 10 10 fun v2 =>
  mpt h1 a0 10 15 (.int v2) fun h3 =>
  mpt h3 a0 10 17 (.int 0) fun h4 =>
  mpt h4 a0 10 28 (.int (-1)) fun h5 =>
  mpt h5 a0 10 29 (.int (-1)) fun h6 =>
  mpt h6 a0 10 30 (.int (-1)) fun h7 =>
  mgi h7 a0 10 1 fun v8 =>
  mpt h7 a0 10 13 (.int v8) fun h9 =>
  f_Mo_decode_L43 n0 n0 h9 a0 0
set_option maxHeartbeats 4000000 in
set_option maxRecDepth 100000 in
theorem cb_Mo_decode_L176 {X : mX} {ad : Nat → Nat} {ln : Launch} (O : mO X ad R_Mo b_Mo_decode 3 (mR 9 210) ln) (r' : Int32) (h' : mH) (hE : mEnd X ad (some .int) (some (.int r')) h') (n0 : Nat) : ∀ (n : Nat) (h0 : mH) (a0 : Nat) (x1 : Int32), f_Mo_decode_L176 n0 n h0 a0 x1 = some (r', h') → mAW X ad 0 0 176 [(0, .ref a0), (1, .int x1)] [] h0 := by
  intro n
  induction n with
  | zero =>
    intro h0 a0 x1 hf
    rw [f_Mo_decode_L176.eq_1] at hf
    cases hf
  | succ n ih =>
    intro h0 a0 x1 hf
    rw [f_Mo_decode_L176.eq_2] at hf
    refine ax_iload_n O d_Mo_decode_176 rfl 1 rfl ?_
    refine ax_aload_n O d_Mo_decode_177 rfl 0 rfl ?_
    obtain ⟨fv17, v17, cv17, kv17, hf⟩ := mgi_some hf
    refine ax_get O fg_Mo_106 cv17 kv17 d_Mo_decode_178 ?_
    refine ax_icmp_ge (tgt := 202) O d_Mo_decode_181 (by decide) (fun q18 => ?_) (fun q18 => ?_)
    · rw [if_pos q18] at hf
      refine ax_aload_n O d_Mo_decode_202 rfl 0 rfl ?_
      obtain ⟨fv19, v19, cv19, kv19, hf⟩ := mgi_some hf
      refine ax_get O fg_Mo_106 cv19 kv19 d_Mo_decode_203 ?_
      exact ax_retE O hE hf rfl d_Mo_decode_206
    · rw [if_neg q18] at hf
      refine ax_aload_n O d_Mo_decode_184 rfl 0 rfl ?_
      obtain ⟨fr20, r20, cr20, kr20, hf⟩ := mgr_some hf
      refine ax_get O fg_Mo_57 cr20 kr20 d_Mo_decode_185 ?_
      refine ax_iload_n O d_Mo_decode_188 rfl 1 rfl ?_
      refine ax_aload_n O d_Mo_decode_189 rfl 0 rfl ?_
      obtain ⟨fr21, r21, cr21, kr21, hf⟩ := mgr_some hf
      refine ax_get O fg_Mo_39 cr21 kr21 d_Mo_decode_190 ?_
      refine ax_iload_n O d_Mo_decode_193 rfl 1 rfl ?_
      obtain ⟨nv22, fv22, v22, cv22, iv22, kv22, hf⟩ := mai_some hf
      refine ax_iald O cv22 iv22 kv22 d_Mo_decode_194 ?_
      obtain ⟨nh23, fh23, h23, ch23, ih23, eh23, hf⟩ := mas_some hf
      refine ax_iast O ch23 ih23 eh23 d_Mo_decode_195 ?_
      obtain ⟨v24, ev24, hf⟩ := mnm_some hf
      refine ax_iinc (j := 1) (v := v24) (lv' := [(1, .int v24), (0, .ref a0)]) O d_Mo_decode_196 rfl (by rw [ev24]; rfl) (by decide) rfl ?_
      refine ax_goto (tgt := 176) O d_Mo_decode_199 (by decide) ?_
      refine ax_sub [1, 0] rfl ?_
      exact ih _ _ _ hf
set_option maxHeartbeats 4000000 in
set_option maxRecDepth 100000 in
theorem cb_Mo_decode_B161 {X : mX} {ad : Nat → Nat} {ln : Launch} (O : mO X ad R_Mo b_Mo_decode 3 (mR 9 210) ln) (r' : Int32) (h' : mH) (hE : mEnd X ad (some .int) (some (.int r')) h') (n0 : Nat) (h0 : mH) (a0 : Nat) (hf : f_Mo_decode_B161 n0 h0 a0 = some (r', h')) : mAW X ad 0 0 161 [(0, .ref a0)] [] h0 := by
  unfold f_Mo_decode_B161 at hf
  refine ax_aload_n O d_Mo_decode_161 rfl 0 rfl ?_
  refine ax_iconst (v := 1) O d_Mo_decode_162 (by decide) ?_
  obtain ⟨fh14, h14, ch14, kh14, eh14, hf⟩ := mpt_some hf
  refine ax_put (v := .int 1) O fp_Mo_269 ch14 kh14 eh14 rfl rfl d_Mo_decode_163 ?_
  refine ax_aload_n O d_Mo_decode_166 rfl 0 rfl ?_
  refine ax_aload_n O d_Mo_decode_167 rfl 0 rfl ?_
  obtain ⟨fv15, v15, cv15, kv15, hf⟩ := mgi_some hf
  refine ax_get O fg_Mo_106 cv15 kv15 d_Mo_decode_168 ?_
  obtain ⟨fh16, h16, ch16, kh16, eh16, hf⟩ := mpt_some hf
  refine ax_put (v := .int v15) O fp_Mo_273 ch16 kh16 eh16 rfl rfl d_Mo_decode_171 ?_
  refine ax_iconst (v := 0) O d_Mo_decode_174 (by decide) ?_
  refine ax_istore_n (lv' := [(1, .int 0), (0, .ref a0)]) O d_Mo_decode_175 rfl (by decide) rfl ?_
  refine ax_sub [1, 0] rfl ?_
  exact cb_Mo_decode_L176 O _ _ hE n0 n0 _ _ _ hf
set_option maxHeartbeats 4000000 in
set_option maxRecDepth 100000 in
theorem cb_Mo_decode_L96 {X : mX} {ad : Nat → Nat} {ln : Launch} (O : mO X ad R_Mo b_Mo_decode 3 (mR 9 210) ln) (K71 : mH → Nat → Int32 → Option (Int32 × mH)) (r' : Int32) (h' : mH) (hE : mEnd X ad (some .int) (some (.int r')) h') (hK71 : ∀ (h : mH) (a0 : Nat) (x1 : Int32), K71 h a0 x1 = some (r', h') → mAW X ad 0 0 71 [(0, .ref a0), (1, .int x1)] [] h) (n0 : Nat) : ∀ (n : Nat) (h0 : mH) (a0 : Nat) (x1 : Int32) (x2 : Int32), f_Mo_decode_L96 K71 n0 n h0 a0 x1 x2 = some (r', h') → mAW X ad 0 0 96 [(0, .ref a0), (1, .int x1), (2, .int x2)] [] h0 := by
  intro n
  induction n with
  | zero =>
    intro h0 a0 x1 x2 hf
    rw [f_Mo_decode_L96.eq_1] at hf
    cases hf
  | succ n ih =>
    intro h0 a0 x1 x2 hf
    rw [f_Mo_decode_L96.eq_2] at hf
    refine ax_iload_n O d_Mo_decode_96 rfl 2 rfl ?_
    refine ax_aload_n O d_Mo_decode_97 rfl 0 rfl ?_
    obtain ⟨fv31, v31, cv31, kv31, hf⟩ := mgi_some hf
    refine ax_get O fg_Mo_96 cv31 kv31 d_Mo_decode_98 ?_
    refine ax_icmp_ge (tgt := 122) O d_Mo_decode_101 (by decide) (fun q32 => ?_) (fun q32 => ?_)
    · rw [if_pos q32] at hf
      refine ax_aload_n O d_Mo_decode_122 rfl 0 rfl ?_
      refine ax_iload_n O d_Mo_decode_123 rfl 1 rfl ?_
      obtain ⟨fh35, ch35, hf⟩ := mis_some hf
      obtain ⟨u36, h35, mh35, hf⟩ := mcl_some hf
      refine ax_callV (As := [.int x1]) (rest := []) O cw_Mo_run (q := (R_Mo, T_Mo, 31)) rfl rfl in_Mo_run se_Mo_run lk_Mo_266 ch35 (c_Mo_run mh35) rfl ⟨rfl, rfl⟩ (by decide) (by decide) (Nat.le_of_ble_eq_true rfl) d_Mo_decode_124 ?_
      refine ax_aload_n O d_Mo_decode_127 rfl 0 rfl ?_
      obtain ⟨fh39, ch39, hf⟩ := mis_some hf
      obtain ⟨v38, h39, mh39, hf⟩ := mcl_some hf
      refine ax_callV (As := []) (rest := []) O cw_Mo_isGood (q := (R_Mo, T_Mo, 31)) rfl rfl in_Mo_isGood se_Mo_isGood lk_Mo_89 ch39 (c_Mo_isGood mh39) rfl ⟨rfl, rfl⟩ (by decide) (by decide) (Nat.le_of_ble_eq_true rfl) d_Mo_decode_128 ?_
      refine ax_if_ne (tgt := 155) O d_Mo_decode_131 (by decide) (fun q40 => ?_) (fun q40 => ?_)
      · rw [if_neg q40] at hf
        obtain ⟨v41, ev41, hf⟩ := mnm_some hf
        refine ax_iinc (j := 1) (v := v41) (lv' := [(1, .int v41), (0, .ref a0), (2, .int x2)]) O d_Mo_decode_155 rfl (by rw [ev41]; rfl) (by decide) rfl ?_
        refine ax_goto (tgt := 71) O d_Mo_decode_158 (by decide) ?_
        refine ax_sub [1, 0] rfl ?_
        exact hK71 _ _ _ hf
      · rw [if_pos q40] at hf
        refine ax_aload_n O d_Mo_decode_134 rfl 0 rfl ?_
        refine ax_iload_n O d_Mo_decode_135 rfl 1 rfl ?_
        obtain ⟨fh42, h42, ch42, kh42, eh42, hf⟩ := mpt_some hf
        refine ax_put (v := .int x1) O fp_Mo_60 ch42 kh42 eh42 rfl rfl d_Mo_decode_136 ?_
        refine ax_aload_n O d_Mo_decode_139 rfl 0 rfl ?_
        refine ax_aload_n O d_Mo_decode_140 rfl 0 rfl ?_
        obtain ⟨fv43, v43, cv43, kv43, hf⟩ := mgi_some hf
        refine ax_get O fg_Mo_86 cv43 kv43 d_Mo_decode_141 ?_
        obtain ⟨fh44, h44, ch44, kh44, eh44, hf⟩ := mpt_some hf
        refine ax_put (v := .int v43) O fp_Mo_63 ch44 kh44 eh44 rfl rfl d_Mo_decode_144 ?_
        refine ax_aload_n O d_Mo_decode_147 rfl 0 rfl ?_
        refine ax_aload_n O d_Mo_decode_148 rfl 0 rfl ?_
        obtain ⟨fv45, v45, cv45, kv45, hf⟩ := mgi_some hf
        refine ax_get O fg_Mo_93 cv45 kv45 d_Mo_decode_149 ?_
        obtain ⟨fh46, h46, ch46, kh46, eh46, hf⟩ := mpt_some hf
        refine ax_put (v := .int v45) O fp_Mo_66 ch46 kh46 eh46 rfl rfl d_Mo_decode_152 ?_
        obtain ⟨v47, ev47, hf⟩ := mnm_some hf
        refine ax_iinc (j := 1) (v := v47) (lv' := [(1, .int v47), (0, .ref a0), (2, .int x2)]) O d_Mo_decode_155 rfl (by rw [ev47]; rfl) (by decide) rfl ?_
        refine ax_goto (tgt := 71) O d_Mo_decode_158 (by decide) ?_
        refine ax_sub [1, 0] rfl ?_
        exact hK71 _ _ _ hf
    · rw [if_neg q32] at hf
      refine ax_aload_n O d_Mo_decode_104 rfl 0 rfl ?_
      obtain ⟨fr48, r48, cr48, kr48, hf⟩ := mgr_some hf
      refine ax_get O fg_Mo_36 cr48 kr48 d_Mo_decode_105 ?_
      refine ax_iload_n O d_Mo_decode_108 rfl 2 rfl ?_
      refine ax_aload_n O d_Mo_decode_109 rfl 0 rfl ?_
      obtain ⟨fr49, r49, cr49, kr49, hf⟩ := mgr_some hf
      refine ax_get O fg_Mo_39 cr49 kr49 d_Mo_decode_110 ?_
      refine ax_iload_n O d_Mo_decode_113 rfl 2 rfl ?_
      obtain ⟨nv50, fv50, v50, cv50, iv50, kv50, hf⟩ := mai_some hf
      refine ax_iald O cv50 iv50 kv50 d_Mo_decode_114 ?_
      obtain ⟨nh51, fh51, h51, ch51, ih51, eh51, hf⟩ := mas_some hf
      refine ax_iast O ch51 ih51 eh51 d_Mo_decode_115 ?_
      obtain ⟨v52, ev52, hf⟩ := mnm_some hf
      refine ax_iinc (j := 2) (v := v52) (lv' := [(2, .int v52), (0, .ref a0), (1, .int x1)]) O d_Mo_decode_116 rfl (by rw [ev52]; rfl) (by decide) rfl ?_
      refine ax_goto (tgt := 96) O d_Mo_decode_119 (by decide) ?_
      refine ax_sub [1, 2, 0] rfl ?_
      exact ih _ _ _ _ hf
set_option maxHeartbeats 4000000 in
set_option maxRecDepth 100000 in
theorem cb_Mo_decode_L71 {X : mX} {ad : Nat → Nat} {ln : Launch} (O : mO X ad R_Mo b_Mo_decode 3 (mR 9 210) ln) (r' : Int32) (h' : mH) (hE : mEnd X ad (some .int) (some (.int r')) h') (n0 : Nat) : ∀ (n : Nat) (h0 : mH) (a0 : Nat) (x1 : Int32), f_Mo_decode_L71 n0 n h0 a0 x1 = some (r', h') → mAW X ad 0 0 71 [(0, .ref a0), (1, .int x1)] [] h0 := by
  intro n
  induction n with
  | zero =>
    intro h0 a0 x1 hf
    rw [f_Mo_decode_L71.eq_1] at hf
    cases hf
  | succ n ih =>
    intro h0 a0 x1 hf
    rw [f_Mo_decode_L71.eq_2] at hf
    refine ax_iload_n O d_Mo_decode_71 rfl 1 rfl ?_
    refine ax_aload_n O d_Mo_decode_72 rfl 0 rfl ?_
    obtain ⟨fv12, v12, cv12, kv12, hf⟩ := mgi_some hf
    refine ax_get O fg_Mo_83 cv12 kv12 d_Mo_decode_73 ?_
    refine ax_icmp_ge (tgt := 161) O d_Mo_decode_76 (by decide) (fun q13 => ?_) (fun q13 => ?_)
    · rw [if_pos q13] at hf
      refine ax_sub [0] rfl ?_
      exact cb_Mo_decode_B161 O _ _ hE n0 _ _ hf
    · rw [if_neg q13] at hf
      refine ax_aload_n O d_Mo_decode_79 rfl 0 rfl ?_
      obtain ⟨fh27, ch27, hf⟩ := mis_some hf
      obtain ⟨v26, h27, mh27, hf⟩ := mcl_some hf
      refine ax_callV (As := []) (rest := []) O cw_Mo_isGood (q := (R_Mo, T_Mo, 31)) rfl rfl in_Mo_isGood se_Mo_isGood lk_Mo_89 ch27 (c_Mo_isGood mh27) rfl ⟨rfl, rfl⟩ (by decide) (by decide) (Nat.le_of_ble_eq_true rfl) d_Mo_decode_80 ?_
      refine ax_if_eq (tgt := 161) O d_Mo_decode_83 (by decide) (fun q28 => ?_) (fun q28 => ?_)
      · rw [if_pos q28] at hf
        refine ax_sub [0] rfl ?_
        exact cb_Mo_decode_B161 O _ _ hE n0 _ _ hf
      · rw [if_neg q28] at hf
        refine ax_aload_n O d_Mo_decode_86 rfl 0 rfl ?_
        refine ax_aload_n O d_Mo_decode_87 rfl 0 rfl ?_
        obtain ⟨fv29, v29, cv29, kv29, hf⟩ := mgi_some hf
        refine ax_get O fg_Mo_106 cv29 kv29 d_Mo_decode_88 ?_
        obtain ⟨fh30, h30, ch30, kh30, eh30, hf⟩ := mpt_some hf
        refine ax_put (v := .int v29) O fp_Mo_96 ch30 kh30 eh30 rfl rfl d_Mo_decode_91 ?_
        refine ax_iconst (v := 0) O d_Mo_decode_94 (by decide) ?_
        refine ax_istore_n (lv' := [(2, .int 0), (0, .ref a0), (1, .int x1)]) O d_Mo_decode_95 rfl (by decide) rfl ?_
        refine ax_sub [1, 2, 0] rfl ?_
        exact cb_Mo_decode_L96 O (f_Mo_decode_L71 n0 n) _ _ hE ih n0 n0 _ _ _ _ hf
set_option maxHeartbeats 4000000 in
set_option maxRecDepth 100000 in
theorem cb_Mo_decode_L43 {X : mX} {ad : Nat → Nat} {ln : Launch} (O : mO X ad R_Mo b_Mo_decode 3 (mR 9 210) ln) (r' : Int32) (h' : mH) (hE : mEnd X ad (some .int) (some (.int r')) h') (n0 : Nat) : ∀ (n : Nat) (h0 : mH) (a0 : Nat) (x1 : Int32), f_Mo_decode_L43 n0 n h0 a0 x1 = some (r', h') → mAW X ad 0 0 43 [(0, .ref a0), (1, .int x1)] [] h0 := by
  intro n
  induction n with
  | zero =>
    intro h0 a0 x1 hf
    rw [f_Mo_decode_L43.eq_1] at hf
    cases hf
  | succ n ih =>
    intro h0 a0 x1 hf
    rw [f_Mo_decode_L43.eq_2] at hf
    refine ax_iload_n O d_Mo_decode_43 rfl 1 rfl ?_
    refine ax_aload_n O d_Mo_decode_44 rfl 0 rfl ?_
    obtain ⟨fv10, v10, cv10, kv10, hf⟩ := mgi_some hf
    refine ax_get O fg_Mo_72 cv10 kv10 d_Mo_decode_45 ?_
    refine ax_icmp_ge (tgt := 69) O d_Mo_decode_48 (by decide) (fun q11 => ?_) (fun q11 => ?_)
    · rw [if_pos q11] at hf
      refine ax_iconst (v := 0) O d_Mo_decode_69 (by decide) ?_
      refine ax_istore_n (lv' := [(1, .int 0), (0, .ref a0)]) O d_Mo_decode_70 rfl (by decide) rfl ?_
      refine ax_sub [1, 0] rfl ?_
      exact cb_Mo_decode_L71 O _ _ hE n0 n0 _ _ _ hf
    · rw [if_neg q11] at hf
      refine ax_aload_n O d_Mo_decode_51 rfl 0 rfl ?_
      obtain ⟨fr53, r53, cr53, kr53, hf⟩ := mgr_some hf
      refine ax_get O fg_Mo_39 cr53 kr53 d_Mo_decode_52 ?_
      refine ax_iload_n O d_Mo_decode_55 rfl 1 rfl ?_
      refine ax_aload_n O d_Mo_decode_56 rfl 0 rfl ?_
      obtain ⟨fr54, r54, cr54, kr54, hf⟩ := mgr_some hf
      refine ax_get O fg_Mo_7 cr54 kr54 d_Mo_decode_57 ?_
      refine ax_iload_n O d_Mo_decode_60 rfl 1 rfl ?_
      obtain ⟨nv55, fv55, v55, cv55, iv55, kv55, hf⟩ := mai_some hf
      refine ax_iald O cv55 iv55 kv55 d_Mo_decode_61 ?_
      obtain ⟨nh56, fh56, h56, ch56, ih56, eh56, hf⟩ := mas_some hf
      refine ax_iast O ch56 ih56 eh56 d_Mo_decode_62 ?_
      obtain ⟨v57, ev57, hf⟩ := mnm_some hf
      refine ax_iinc (j := 1) (v := v57) (lv' := [(1, .int v57), (0, .ref a0)]) O d_Mo_decode_63 rfl (by rw [ev57]; rfl) (by decide) rfl ?_
      refine ax_goto (tgt := 43) O d_Mo_decode_66 (by decide) ?_
      refine ax_sub [1, 0] rfl ?_
      exact ih _ _ _ hf
set_option maxHeartbeats 4000000 in
set_option maxRecDepth 100000 in
theorem cb_Mo_decode {X : mX} {ad : Nat → Nat} {ln : Launch} (O : mO X ad R_Mo b_Mo_decode 3 (mR 9 210) ln) (r' : Int32) (h' : mH) (hE : mEnd X ad (some .int) (some (.int r')) h') (n0 : Nat) (h0 : mH) (a0 : Nat) (hf : f_Mo_decode n0 h0 a0 = some (r', h')) : mAW X ad 0 0 0 [(0, .ref a0)] [] h0 := by
  unfold f_Mo_decode at hf
  refine ax_aload_n O d_Mo_decode_0 rfl 0 rfl ?_
  refine ax_iconst (v := 0) O d_Mo_decode_1 (by decide) ?_
  obtain ⟨fh1, h1, ch1, kh1, eh1, hf⟩ := mpt_some hf
  refine ax_put (v := .int 0) O fp_Mo_69 ch1 kh1 eh1 rfl rfl d_Mo_decode_2 ?_
  refine ax_aload_n O d_Mo_decode_5 rfl 0 rfl ?_
  refine ax_aload_n O d_Mo_decode_6 rfl 0 rfl ?_
  obtain ⟨fv2, v2, cv2, kv2, hf⟩ := mgi_some hf
  refine ax_get O fg_Mo_32 cv2 kv2 d_Mo_decode_7 ?_
  obtain ⟨fh3, h3, ch3, kh3, eh3, hf⟩ := mpt_some hf
  refine ax_put (v := .int v2) O fp_Mo_103 ch3 kh3 eh3 rfl rfl d_Mo_decode_10 ?_
  refine ax_aload_n O d_Mo_decode_13 rfl 0 rfl ?_
  refine ax_iconst (v := 0) O d_Mo_decode_14 (by decide) ?_
  obtain ⟨fh4, h4, ch4, kh4, eh4, hf⟩ := mpt_some hf
  refine ax_put (v := .int 0) O fp_Mo_86 ch4 kh4 eh4 rfl rfl d_Mo_decode_15 ?_
  refine ax_aload_n O d_Mo_decode_18 rfl 0 rfl ?_
  refine ax_iconst (v := (-1)) O d_Mo_decode_19 (by decide) ?_
  obtain ⟨fh5, h5, ch5, kh5, eh5, hf⟩ := mpt_some hf
  refine ax_put (v := .int (-1)) O fp_Mo_60 ch5 kh5 eh5 rfl rfl d_Mo_decode_20 ?_
  refine ax_aload_n O d_Mo_decode_23 rfl 0 rfl ?_
  refine ax_iconst (v := (-1)) O d_Mo_decode_24 (by decide) ?_
  obtain ⟨fh6, h6, ch6, kh6, eh6, hf⟩ := mpt_some hf
  refine ax_put (v := .int (-1)) O fp_Mo_63 ch6 kh6 eh6 rfl rfl d_Mo_decode_25 ?_
  refine ax_aload_n O d_Mo_decode_28 rfl 0 rfl ?_
  refine ax_iconst (v := (-1)) O d_Mo_decode_29 (by decide) ?_
  obtain ⟨fh7, h7, ch7, kh7, eh7, hf⟩ := mpt_some hf
  refine ax_put (v := .int (-1)) O fp_Mo_66 ch7 kh7 eh7 rfl rfl d_Mo_decode_30 ?_
  refine ax_aload_n O d_Mo_decode_33 rfl 0 rfl ?_
  refine ax_aload_n O d_Mo_decode_34 rfl 0 rfl ?_
  obtain ⟨fv8, v8, cv8, kv8, hf⟩ := mgi_some hf
  refine ax_get O fg_Mo_72 cv8 kv8 d_Mo_decode_35 ?_
  obtain ⟨fh9, h9, ch9, kh9, eh9, hf⟩ := mpt_some hf
  refine ax_put (v := .int v8) O fp_Mo_106 ch9 kh9 eh9 rfl rfl d_Mo_decode_38 ?_
  refine ax_iconst (v := 0) O d_Mo_decode_41 (by decide) ?_
  refine ax_istore_n (lv' := [(1, .int 0), (0, .ref a0)]) O d_Mo_decode_42 rfl (by decide) rfl ?_
  refine ax_sub [1, 0] rfl ?_
  exact cb_Mo_decode_L43 O _ _ hE n0 n0 _ _ _ hf
theorem c_Mo_decode {ln : Launch} {n0 : Nat} {h0 h' : mH} {a0 : Nat} {r' : Int32} (hf : f_Mo_decode n0 h0 a0 = some (r', h')) : mMet ln y_Mo_decode b_Mo_decode 3 (some .int) (mR 9 210) [.ref a0] h0 (some (.int r')) h' := mMet_of (by decide +kernel) (Nat.le_of_ble_eq_true rfl) (fun X ad O hE => cb_Mo_decode O r' h' hE n0 h0 a0 hf)
/-! ===== StreamFiltersModel.at(I)I ===== -/
theorem d_Mo_at_0 : decode b_Mo_at 0 = .ok (.aload_n 0, 1) := by decide +kernel
theorem d_Mo_at_1 : decode b_Mo_at 1 = .ok (.iconst 0, 1) := by decide +kernel
theorem d_Mo_at_2 : decode b_Mo_at 2 = .ok (.putfield 69, 3) := by decide +kernel
theorem d_Mo_at_5 : decode b_Mo_at 5 = .ok (.iload_n 1, 1) := by decide +kernel
theorem d_Mo_at_6 : decode b_Mo_at 6 = .ok (.iconst 0, 1) := by decide +kernel
theorem d_Mo_at_7 : decode b_Mo_at 7 = .ok (.aload_n 0, 1) := by decide +kernel
theorem d_Mo_at_8 : decode b_Mo_at 8 = .ok (.getfield 273, 3) := by decide +kernel
theorem d_Mo_at_11 : decode b_Mo_at 11 = .ok (.iconst 1, 1) := by decide +kernel
theorem d_Mo_at_12 : decode b_Mo_at 12 = .ok (.isub, 1) := by decide +kernel
theorem d_Mo_at_13 : decode b_Mo_at 13 = .ok (.invokestatic 75, 3) := by decide +kernel
theorem d_Mo_at_16 : decode b_Mo_at 16 = .ok (.ifCond .eq 12, 3) := by decide +kernel
theorem d_Mo_at_19 : decode b_Mo_at 19 = .ok (.aload_n 0, 1) := by decide +kernel
theorem d_Mo_at_20 : decode b_Mo_at 20 = .ok (.getfield 57, 3) := by decide +kernel
theorem d_Mo_at_23 : decode b_Mo_at 23 = .ok (.iload_n 1, 1) := by decide +kernel
theorem d_Mo_at_24 : decode b_Mo_at 24 = .ok (.iaload, 1) := by decide +kernel
theorem d_Mo_at_25 : decode b_Mo_at 25 = .ok (.goto 4, 3) := by decide +kernel
theorem d_Mo_at_28 : decode b_Mo_at 28 = .ok (.iconst (-1), 1) := by decide +kernel
theorem d_Mo_at_29 : decode b_Mo_at 29 = .ok (.ireturn, 1) := by decide +kernel
noncomputable def f_Mo_at  (n0 : Nat) (h0 : mH) (a0 : Nat) (x1 : Int32) : Option (Int32 × mH) :=
  mpt h0 a0 10 0 (.int 0) fun h1 =>
  mgi h1 a0 10 26 fun v2 =>
  mcl (f_Mo_isIn n0 h1 x1 0 (v2 - 1)) fun v4 h5 =>
  if v4 = 0 then
    some ((-1), h5)
  else
    mgr h5 a0 10 27 fun r7 =>
    mai h5 r7 .int x1 fun v8 =>
    some (v8, h5)
set_option maxHeartbeats 4000000 in
set_option maxRecDepth 100000 in
theorem cb_Mo_at {X : mX} {ad : Nat → Nat} {ln : Launch} (O : mO X ad R_Mo b_Mo_at 2 (mR 1 22) ln) (r' : Int32) (h' : mH) (hE : mEnd X ad (some .int) (some (.int r')) h') (n0 : Nat) (h0 : mH) (a0 : Nat) (x1 : Int32) (hf : f_Mo_at n0 h0 a0 x1 = some (r', h')) : mAW X ad 0 0 0 [(0, .ref a0), (1, .int x1)] [] h0 := by
  unfold f_Mo_at at hf
  refine ax_aload_n O d_Mo_at_0 rfl 0 rfl ?_
  refine ax_iconst (v := 0) O d_Mo_at_1 (by decide) ?_
  obtain ⟨fh1, h1, ch1, kh1, eh1, hf⟩ := mpt_some hf
  refine ax_put (v := .int 0) O fp_Mo_69 ch1 kh1 eh1 rfl rfl d_Mo_at_2 ?_
  refine ax_iload_n O d_Mo_at_5 rfl 1 rfl ?_
  refine ax_iconst (v := 0) O d_Mo_at_6 (by decide) ?_
  refine ax_aload_n O d_Mo_at_7 rfl 0 rfl ?_
  obtain ⟨fv2, v2, cv2, kv2, hf⟩ := mgi_some hf
  refine ax_get O fg_Mo_273 cv2 kv2 d_Mo_at_8 ?_
  refine ax_iconst (v := 1) O d_Mo_at_11 (by decide) ?_
  refine ax_isub O d_Mo_at_12 ?_
  obtain ⟨v4, h5, mh5, hf⟩ := mcl_some hf
  refine ax_callS (As := [.int x1, .int 0, .int (v2 - 1)]) (rest := []) O cw_Mo_isIn st_Mo_isIn lk_Mo_75 (c_Mo_isIn mh5) rfl ⟨rfl, rfl⟩ (by decide) (by decide) (Nat.le_of_ble_eq_true rfl) d_Mo_at_13 ?_
  refine ax_if_eq (tgt := 28) O d_Mo_at_16 (by decide) (fun q6 => ?_) (fun q6 => ?_)
  · rw [if_pos q6] at hf
    refine ax_iconst (v := (-1)) O d_Mo_at_28 (by decide) ?_
    exact ax_retE O hE hf rfl d_Mo_at_29
  · rw [if_neg q6] at hf
    refine ax_aload_n O d_Mo_at_19 rfl 0 rfl ?_
    obtain ⟨fr7, r7, cr7, kr7, hf⟩ := mgr_some hf
    refine ax_get O fg_Mo_57 cr7 kr7 d_Mo_at_20 ?_
    refine ax_iload_n O d_Mo_at_23 rfl 1 rfl ?_
    obtain ⟨nv8, fv8, v8, cv8, iv8, kv8, hf⟩ := mai_some hf
    refine ax_iald O cv8 iv8 kv8 d_Mo_at_24 ?_
    refine ax_goto (tgt := 29) O d_Mo_at_25 (by decide) ?_
    exact ax_retE O hE hf rfl d_Mo_at_29
theorem c_Mo_at {ln : Launch} {n0 : Nat} {h0 h' : mH} {a0 : Nat} {x1 : Int32} {r' : Int32} (hf : f_Mo_at n0 h0 a0 x1 = some (r', h')) : mMet ln y_Mo_at b_Mo_at 2 (some .int) (mR 1 22) [.ref a0, .int x1] h0 (some (.int r')) h' := mMet_of (by decide +kernel) (Nat.le_of_ble_eq_true rfl) (fun X ad O hE => cb_Mo_at O r' h' hE n0 h0 a0 x1 hf)
/-! ===== StreamFiltersModel.fault(I)I ===== -/
theorem d_Mo_fault_0 : decode b_Mo_fault 0 = .ok (.aload_n 0, 1) := by decide +kernel
theorem d_Mo_fault_1 : decode b_Mo_fault 1 = .ok (.iconst 0, 1) := by decide +kernel
theorem d_Mo_fault_2 : decode b_Mo_fault 2 = .ok (.putfield 69, 3) := by decide +kernel
theorem d_Mo_fault_5 : decode b_Mo_fault 5 = .ok (.iload_n 1, 1) := by decide +kernel
theorem d_Mo_fault_6 : decode b_Mo_fault 6 = .ok (.ifCond .ne 10, 3) := by decide +kernel
theorem d_Mo_fault_9 : decode b_Mo_fault 9 = .ok (.aload_n 0, 1) := by decide +kernel
theorem d_Mo_fault_10 : decode b_Mo_fault 10 = .ok (.getfield 60, 3) := by decide +kernel
theorem d_Mo_fault_13 : decode b_Mo_fault 13 = .ok (.goto 28, 3) := by decide +kernel
theorem d_Mo_fault_16 : decode b_Mo_fault 16 = .ok (.iload_n 1, 1) := by decide +kernel
theorem d_Mo_fault_17 : decode b_Mo_fault 17 = .ok (.iconst 1, 1) := by decide +kernel
theorem d_Mo_fault_18 : decode b_Mo_fault 18 = .ok (.if_icmp .ne 10, 3) := by decide +kernel
theorem d_Mo_fault_21 : decode b_Mo_fault 21 = .ok (.aload_n 0, 1) := by decide +kernel
theorem d_Mo_fault_22 : decode b_Mo_fault 22 = .ok (.getfield 63, 3) := by decide +kernel
theorem d_Mo_fault_25 : decode b_Mo_fault 25 = .ok (.goto 16, 3) := by decide +kernel
theorem d_Mo_fault_28 : decode b_Mo_fault 28 = .ok (.iload_n 1, 1) := by decide +kernel
theorem d_Mo_fault_29 : decode b_Mo_fault 29 = .ok (.iconst 2, 1) := by decide +kernel
theorem d_Mo_fault_30 : decode b_Mo_fault 30 = .ok (.if_icmp .ne 10, 3) := by decide +kernel
theorem d_Mo_fault_33 : decode b_Mo_fault 33 = .ok (.aload_n 0, 1) := by decide +kernel
theorem d_Mo_fault_34 : decode b_Mo_fault 34 = .ok (.getfield 66, 3) := by decide +kernel
theorem d_Mo_fault_37 : decode b_Mo_fault 37 = .ok (.goto 4, 3) := by decide +kernel
theorem d_Mo_fault_40 : decode b_Mo_fault 40 = .ok (.iconst (-1), 1) := by decide +kernel
theorem d_Mo_fault_41 : decode b_Mo_fault 41 = .ok (.ireturn, 1) := by decide +kernel
noncomputable def f_Mo_fault  (n0 : Nat) (h0 : mH) (a0 : Nat) (x1 : Int32) : Option (Int32 × mH) :=
  mpt h0 a0 10 0 (.int 0) fun h1 =>
  if x1 = 0 then
    mgi h1 a0 10 28 fun v7 =>
    some (v7, h1)
  else
    if x1 = 1 then
      mgi h1 a0 10 29 fun v6 =>
      some (v6, h1)
    else
      if x1 = 2 then
        mgi h1 a0 10 30 fun v5 =>
        some (v5, h1)
      else
        some ((-1), h1)
set_option maxHeartbeats 4000000 in
set_option maxRecDepth 100000 in
theorem cb_Mo_fault {X : mX} {ad : Nat → Nat} {ln : Launch} (O : mO X ad R_Mo b_Mo_fault 2 (mR 0 0) ln) (r' : Int32) (h' : mH) (hE : mEnd X ad (some .int) (some (.int r')) h') (n0 : Nat) (h0 : mH) (a0 : Nat) (x1 : Int32) (hf : f_Mo_fault n0 h0 a0 x1 = some (r', h')) : mAW X ad 0 0 0 [(0, .ref a0), (1, .int x1)] [] h0 := by
  unfold f_Mo_fault at hf
  refine ax_aload_n O d_Mo_fault_0 rfl 0 rfl ?_
  refine ax_iconst (v := 0) O d_Mo_fault_1 (by decide) ?_
  obtain ⟨fh1, h1, ch1, kh1, eh1, hf⟩ := mpt_some hf
  refine ax_put (v := .int 0) O fp_Mo_69 ch1 kh1 eh1 rfl rfl d_Mo_fault_2 ?_
  refine ax_iload_n O d_Mo_fault_5 rfl 1 rfl ?_
  refine ax_if_ne (tgt := 16) O d_Mo_fault_6 (by decide) (fun q2 => ?_) (fun q2 => ?_)
  · rw [if_neg q2] at hf
    refine ax_iload_n O d_Mo_fault_16 rfl 1 rfl ?_
    refine ax_iconst (v := 1) O d_Mo_fault_17 (by decide) ?_
    refine ax_icmp_ne (tgt := 28) O d_Mo_fault_18 (by decide) (fun q3 => ?_) (fun q3 => ?_)
    · rw [if_neg q3] at hf
      refine ax_iload_n O d_Mo_fault_28 rfl 1 rfl ?_
      refine ax_iconst (v := 2) O d_Mo_fault_29 (by decide) ?_
      refine ax_icmp_ne (tgt := 40) O d_Mo_fault_30 (by decide) (fun q4 => ?_) (fun q4 => ?_)
      · rw [if_neg q4] at hf
        refine ax_iconst (v := (-1)) O d_Mo_fault_40 (by decide) ?_
        exact ax_retE O hE hf rfl d_Mo_fault_41
      · rw [if_pos q4] at hf
        refine ax_aload_n O d_Mo_fault_33 rfl 0 rfl ?_
        obtain ⟨fv5, v5, cv5, kv5, hf⟩ := mgi_some hf
        refine ax_get O fg_Mo_66 cv5 kv5 d_Mo_fault_34 ?_
        refine ax_goto (tgt := 41) O d_Mo_fault_37 (by decide) ?_
        exact ax_retE O hE hf rfl d_Mo_fault_41
    · rw [if_pos q3] at hf
      refine ax_aload_n O d_Mo_fault_21 rfl 0 rfl ?_
      obtain ⟨fv6, v6, cv6, kv6, hf⟩ := mgi_some hf
      refine ax_get O fg_Mo_63 cv6 kv6 d_Mo_fault_22 ?_
      refine ax_goto (tgt := 41) O d_Mo_fault_25 (by decide) ?_
      exact ax_retE O hE hf rfl d_Mo_fault_41
  · rw [if_pos q2] at hf
    refine ax_aload_n O d_Mo_fault_9 rfl 0 rfl ?_
    obtain ⟨fv7, v7, cv7, kv7, hf⟩ := mgi_some hf
    refine ax_get O fg_Mo_60 cv7 kv7 d_Mo_fault_10 ?_
    refine ax_goto (tgt := 41) O d_Mo_fault_13 (by decide) ?_
    exact ax_retE O hE hf rfl d_Mo_fault_41
theorem c_Mo_fault {ln : Launch} {n0 : Nat} {h0 h' : mH} {a0 : Nat} {x1 : Int32} {r' : Int32} (hf : f_Mo_fault n0 h0 a0 x1 = some (r', h')) : mMet ln y_Mo_fault b_Mo_fault 2 (some .int) (mR 0 0) [.ref a0, .int x1] h0 (some (.int r')) h' := mMet_of (by decide +kernel) (Nat.le_of_ble_eq_true rfl) (fun X ad O hE => cb_Mo_fault O r' h' hE n0 h0 a0 x1 hf)
/-! ===== StreamFiltersModel.keep()I ===== -/
theorem d_Mo_keep_0 : decode b_Mo_keep 0 = .ok (.aload_n 0, 1) := by decide +kernel
theorem d_Mo_keep_1 : decode b_Mo_keep 1 = .ok (.aload_n 0, 1) := by decide +kernel
theorem d_Mo_keep_2 : decode b_Mo_keep 2 = .ok (.getfield 273, 3) := by decide +kernel
theorem d_Mo_keep_5 : decode b_Mo_keep 5 = .ok (.sipush 16384, 3) := by decide +kernel
theorem d_Mo_keep_8 : decode b_Mo_keep 8 = .ok (.if_icmp .le 7, 3) := by decide +kernel
theorem d_Mo_keep_11 : decode b_Mo_keep 11 = .ok (.iconst 1, 1) := by decide +kernel
theorem d_Mo_keep_12 : decode b_Mo_keep 12 = .ok (.goto 4, 3) := by decide +kernel
theorem d_Mo_keep_15 : decode b_Mo_keep 15 = .ok (.iconst 0, 1) := by decide +kernel
theorem d_Mo_keep_16 : decode b_Mo_keep 16 = .ok (.invokevirtual 79, 3) := by decide +kernel
theorem d_Mo_keep_19 : decode b_Mo_keep 19 = .ok (.ifCond .eq 5, 3) := by decide +kernel
theorem d_Mo_keep_22 : decode b_Mo_keep 22 = .ok (.iconst 0, 1) := by decide +kernel
theorem d_Mo_keep_23 : decode b_Mo_keep 23 = .ok (.ireturn, 1) := by decide +kernel
theorem d_Mo_keep_24 : decode b_Mo_keep 24 = .ok (.aload_n 0, 1) := by decide +kernel
theorem d_Mo_keep_25 : decode b_Mo_keep 25 = .ok (.getfield 269, 3) := by decide +kernel
theorem d_Mo_keep_28 : decode b_Mo_keep 28 = .ok (.ifCond .ne 8, 3) := by decide +kernel
theorem d_Mo_keep_31 : decode b_Mo_keep 31 = .ok (.aload_n 0, 1) := by decide +kernel
theorem d_Mo_keep_32 : decode b_Mo_keep 32 = .ok (.getfield 72, 3) := by decide +kernel
theorem d_Mo_keep_35 : decode b_Mo_keep 35 = .ok (.ireturn, 1) := by decide +kernel
theorem d_Mo_keep_36 : decode b_Mo_keep 36 = .ok (.aload_n 0, 1) := by decide +kernel
theorem d_Mo_keep_37 : decode b_Mo_keep 37 = .ok (.aload_n 0, 1) := by decide +kernel
theorem d_Mo_keep_38 : decode b_Mo_keep 38 = .ok (.getfield 273, 3) := by decide +kernel
theorem d_Mo_keep_41 : decode b_Mo_keep 41 = .ok (.putfield 72, 3) := by decide +kernel
theorem d_Mo_keep_44 : decode b_Mo_keep 44 = .ok (.iconst 0, 1) := by decide +kernel
theorem d_Mo_keep_45 : decode b_Mo_keep 45 = .ok (.istore_n 1, 1) := by decide +kernel
theorem d_Mo_keep_46 : decode b_Mo_keep 46 = .ok (.iload_n 1, 1) := by decide +kernel
theorem d_Mo_keep_47 : decode b_Mo_keep 47 = .ok (.aload_n 0, 1) := by decide +kernel
theorem d_Mo_keep_48 : decode b_Mo_keep 48 = .ok (.getfield 72, 3) := by decide +kernel
theorem d_Mo_keep_51 : decode b_Mo_keep 51 = .ok (.if_icmp .ge 21, 3) := by decide +kernel
theorem d_Mo_keep_54 : decode b_Mo_keep 54 = .ok (.aload_n 0, 1) := by decide +kernel
theorem d_Mo_keep_55 : decode b_Mo_keep 55 = .ok (.getfield 7, 3) := by decide +kernel
theorem d_Mo_keep_58 : decode b_Mo_keep 58 = .ok (.iload_n 1, 1) := by decide +kernel
theorem d_Mo_keep_59 : decode b_Mo_keep 59 = .ok (.aload_n 0, 1) := by decide +kernel
theorem d_Mo_keep_60 : decode b_Mo_keep 60 = .ok (.getfield 57, 3) := by decide +kernel
theorem d_Mo_keep_63 : decode b_Mo_keep 63 = .ok (.iload_n 1, 1) := by decide +kernel
theorem d_Mo_keep_64 : decode b_Mo_keep 64 = .ok (.iaload, 1) := by decide +kernel
theorem d_Mo_keep_65 : decode b_Mo_keep 65 = .ok (.iastore, 1) := by decide +kernel
theorem d_Mo_keep_66 : decode b_Mo_keep 66 = .ok (.iinc 1 1, 3) := by decide +kernel
theorem d_Mo_keep_69 : decode b_Mo_keep 69 = .ok (.goto (-23), 3) := by decide +kernel
theorem d_Mo_keep_72 : decode b_Mo_keep 72 = .ok (.aload_n 0, 1) := by decide +kernel
theorem d_Mo_keep_73 : decode b_Mo_keep 73 = .ok (.getfield 72, 3) := by decide +kernel
theorem d_Mo_keep_76 : decode b_Mo_keep 76 = .ok (.ireturn, 1) := by decide +kernel
noncomputable def f_Mo_keep_L46  (n0 : Nat) : Nat → mH → Nat → Int32 → Option (Int32 × mH)
  | 0, _, _, _ => none
  | n + 1, h0, a0, x1 =>
    mgi h0 a0 10 1 fun v11 =>
    if v11 ≤ x1 then
      mgi h0 a0 10 1 fun v13 =>
      some (v13, h0)
    else
      mgr h0 a0 10 2 fun r14 =>
      mgr h0 a0 10 27 fun r15 =>
      mai h0 r15 .int x1 fun v16 =>
      mas h0 r14 .int x1 v16 fun h17 =>
      mnm (x1 + 1) fun v18 =>
      (f_Mo_keep_L46 n0 n) h17 a0 v18
noncomputable def f_Mo_keep_B16  (n0 : Nat) (h0 : mH) (a0 : Nat) (p0 : Int32) (b1 : Nat) : Option (Int32 × mH) :=
  mis h0 b1 10 <|
  mcl (f_Mo_refused n0 h0 b1 p0) fun v4 h5 =>
  if v4 = 0 then
    mgi h5 a0 10 25 fun v7 =>
    if v7 = 0 then
      mgi h5 a0 10 1 fun v19 =>
      some (v19, h5)
    else
      mgi h5 a0 10 26 fun v9 =>
      mpt h5 a0 10 1 (.int v9) fun h10 =>
      f_Mo_keep_L46 n0 n0 h10 a0 0
  else
    some (0, h5)
noncomputable def f_Mo_keep  (n0 : Nat) (h0 : mH) (a0 : Nat) : Option (Int32 × mH) :=
  mgi h0 a0 10 26 fun v1 =>
  if v1 ≤ 16384 then
    f_Mo_keep_B16 n0 h0 a0 0 a0
  else
    f_Mo_keep_B16 n0 h0 a0 1 a0
set_option maxHeartbeats 4000000 in
set_option maxRecDepth 100000 in
theorem cb_Mo_keep_L46 {X : mX} {ad : Nat → Nat} {ln : Launch} (O : mO X ad R_Mo b_Mo_keep 2 (mR 1 21) ln) (r' : Int32) (h' : mH) (hE : mEnd X ad (some .int) (some (.int r')) h') (n0 : Nat) : ∀ (n : Nat) (h0 : mH) (a0 : Nat) (x1 : Int32), f_Mo_keep_L46 n0 n h0 a0 x1 = some (r', h') → mAW X ad 0 0 46 [(0, .ref a0), (1, .int x1)] [] h0 := by
  intro n
  induction n with
  | zero =>
    intro h0 a0 x1 hf
    rw [f_Mo_keep_L46.eq_1] at hf
    cases hf
  | succ n ih =>
    intro h0 a0 x1 hf
    rw [f_Mo_keep_L46.eq_2] at hf
    refine ax_iload_n O d_Mo_keep_46 rfl 1 rfl ?_
    refine ax_aload_n O d_Mo_keep_47 rfl 0 rfl ?_
    obtain ⟨fv11, v11, cv11, kv11, hf⟩ := mgi_some hf
    refine ax_get O fg_Mo_72 cv11 kv11 d_Mo_keep_48 ?_
    refine ax_icmp_ge (tgt := 72) O d_Mo_keep_51 (by decide) (fun q12 => ?_) (fun q12 => ?_)
    · rw [if_pos q12] at hf
      refine ax_aload_n O d_Mo_keep_72 rfl 0 rfl ?_
      obtain ⟨fv13, v13, cv13, kv13, hf⟩ := mgi_some hf
      refine ax_get O fg_Mo_72 cv13 kv13 d_Mo_keep_73 ?_
      exact ax_retE O hE hf rfl d_Mo_keep_76
    · rw [if_neg q12] at hf
      refine ax_aload_n O d_Mo_keep_54 rfl 0 rfl ?_
      obtain ⟨fr14, r14, cr14, kr14, hf⟩ := mgr_some hf
      refine ax_get O fg_Mo_7 cr14 kr14 d_Mo_keep_55 ?_
      refine ax_iload_n O d_Mo_keep_58 rfl 1 rfl ?_
      refine ax_aload_n O d_Mo_keep_59 rfl 0 rfl ?_
      obtain ⟨fr15, r15, cr15, kr15, hf⟩ := mgr_some hf
      refine ax_get O fg_Mo_57 cr15 kr15 d_Mo_keep_60 ?_
      refine ax_iload_n O d_Mo_keep_63 rfl 1 rfl ?_
      obtain ⟨nv16, fv16, v16, cv16, iv16, kv16, hf⟩ := mai_some hf
      refine ax_iald O cv16 iv16 kv16 d_Mo_keep_64 ?_
      obtain ⟨nh17, fh17, h17, ch17, ih17, eh17, hf⟩ := mas_some hf
      refine ax_iast O ch17 ih17 eh17 d_Mo_keep_65 ?_
      obtain ⟨v18, ev18, hf⟩ := mnm_some hf
      refine ax_iinc (j := 1) (v := v18) (lv' := [(1, .int v18), (0, .ref a0)]) O d_Mo_keep_66 rfl (by rw [ev18]; rfl) (by decide) rfl ?_
      refine ax_goto (tgt := 46) O d_Mo_keep_69 (by decide) ?_
      refine ax_sub [1, 0] rfl ?_
      exact ih _ _ _ hf
set_option maxHeartbeats 4000000 in
set_option maxRecDepth 100000 in
theorem cb_Mo_keep_B16 {X : mX} {ad : Nat → Nat} {ln : Launch} (O : mO X ad R_Mo b_Mo_keep 2 (mR 1 21) ln) (r' : Int32) (h' : mH) (hE : mEnd X ad (some .int) (some (.int r')) h') (n0 : Nat) (h0 : mH) (a0 : Nat) (p0 : Int32) (b1 : Nat) (hf : f_Mo_keep_B16 n0 h0 a0 p0 b1 = some (r', h')) : mAW X ad 0 0 16 [(0, .ref a0)] [.int p0, .ref b1] h0 := by
  unfold f_Mo_keep_B16 at hf
  obtain ⟨fh5, ch5, hf⟩ := mis_some hf
  obtain ⟨v4, h5, mh5, hf⟩ := mcl_some hf
  refine ax_callV (As := [.int p0]) (rest := []) O cw_Mo_refused (q := (R_Mo, T_Mo, 31)) rfl rfl in_Mo_refused se_Mo_refused lk_Mo_79 ch5 (c_Mo_refused mh5) rfl ⟨rfl, rfl⟩ (by decide) (by decide) (Nat.le_of_ble_eq_true rfl) d_Mo_keep_16 ?_
  refine ax_if_eq (tgt := 24) O d_Mo_keep_19 (by decide) (fun q6 => ?_) (fun q6 => ?_)
  · rw [if_pos q6] at hf
    refine ax_aload_n O d_Mo_keep_24 rfl 0 rfl ?_
    obtain ⟨fv7, v7, cv7, kv7, hf⟩ := mgi_some hf
    refine ax_get O fg_Mo_269 cv7 kv7 d_Mo_keep_25 ?_
    refine ax_if_ne (tgt := 36) O d_Mo_keep_28 (by decide) (fun q8 => ?_) (fun q8 => ?_)
    · rw [if_neg q8] at hf
      refine ax_aload_n O d_Mo_keep_36 rfl 0 rfl ?_
      refine ax_aload_n O d_Mo_keep_37 rfl 0 rfl ?_
      obtain ⟨fv9, v9, cv9, kv9, hf⟩ := mgi_some hf
      refine ax_get O fg_Mo_273 cv9 kv9 d_Mo_keep_38 ?_
      obtain ⟨fh10, h10, ch10, kh10, eh10, hf⟩ := mpt_some hf
      refine ax_put (v := .int v9) O fp_Mo_72 ch10 kh10 eh10 rfl rfl d_Mo_keep_41 ?_
      refine ax_iconst (v := 0) O d_Mo_keep_44 (by decide) ?_
      refine ax_istore_n (lv' := [(1, .int 0), (0, .ref a0)]) O d_Mo_keep_45 rfl (by decide) rfl ?_
      refine ax_sub [1, 0] rfl ?_
      exact cb_Mo_keep_L46 O _ _ hE n0 n0 _ _ _ hf
    · rw [if_pos q8] at hf
      refine ax_aload_n O d_Mo_keep_31 rfl 0 rfl ?_
      obtain ⟨fv19, v19, cv19, kv19, hf⟩ := mgi_some hf
      refine ax_get O fg_Mo_72 cv19 kv19 d_Mo_keep_32 ?_
      exact ax_retE O hE hf rfl d_Mo_keep_35
  · rw [if_neg q6] at hf
    refine ax_iconst (v := 0) O d_Mo_keep_22 (by decide) ?_
    exact ax_retE O hE hf rfl d_Mo_keep_23
set_option maxHeartbeats 4000000 in
set_option maxRecDepth 100000 in
theorem cb_Mo_keep {X : mX} {ad : Nat → Nat} {ln : Launch} (O : mO X ad R_Mo b_Mo_keep 2 (mR 1 21) ln) (r' : Int32) (h' : mH) (hE : mEnd X ad (some .int) (some (.int r')) h') (n0 : Nat) (h0 : mH) (a0 : Nat) (hf : f_Mo_keep n0 h0 a0 = some (r', h')) : mAW X ad 0 0 0 [(0, .ref a0)] [] h0 := by
  unfold f_Mo_keep at hf
  refine ax_aload_n O d_Mo_keep_0 rfl 0 rfl ?_
  refine ax_aload_n O d_Mo_keep_1 rfl 0 rfl ?_
  obtain ⟨fv1, v1, cv1, kv1, hf⟩ := mgi_some hf
  refine ax_get O fg_Mo_273 cv1 kv1 d_Mo_keep_2 ?_
  refine ax_sipush (v := 16384) O d_Mo_keep_5 (by decide) ?_
  refine ax_icmp_le (tgt := 15) O d_Mo_keep_8 (by decide) (fun q2 => ?_) (fun q2 => ?_)
  · rw [if_pos q2] at hf
    refine ax_iconst (v := 0) O d_Mo_keep_15 (by decide) ?_
    exact cb_Mo_keep_B16 O _ _ hE n0 _ _ _ _ hf
  · rw [if_neg q2] at hf
    refine ax_iconst (v := 1) O d_Mo_keep_11 (by decide) ?_
    refine ax_goto (tgt := 16) O d_Mo_keep_12 (by decide) ?_
    exact cb_Mo_keep_B16 O _ _ hE n0 _ _ _ _ hf
theorem c_Mo_keep {ln : Launch} {n0 : Nat} {h0 h' : mH} {a0 : Nat} {r' : Int32} (hf : f_Mo_keep n0 h0 a0 = some (r', h')) : mMet ln y_Mo_keep b_Mo_keep 2 (some .int) (mR 1 21) [.ref a0] h0 (some (.int r')) h' := mMet_of (by decide +kernel) (Nat.le_of_ble_eq_true rfl) (fun X ad O hE => cb_Mo_keep O r' h' hE n0 h0 a0 hf)
