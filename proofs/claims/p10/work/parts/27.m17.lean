/-! ===== StreamFilters$Flate.readCodes(LStreamFilters$Pass;)Z ===== -/
theorem d_Fl_readCodes_0 : decode b_Fl_readCodes 0 = .ok (.aload_n 1, 1) := by decide +kernel
theorem d_Fl_readCodes_1 : decode b_Fl_readCodes 1 = .ok (.iconst 5, 1) := by decide +kernel
theorem d_Fl_readCodes_2 : decode b_Fl_readCodes 2 = .ok (.invokevirtual 48, 3) := by decide +kernel
theorem d_Fl_readCodes_5 : decode b_Fl_readCodes 5 = .ok (.sipush 257, 3) := by decide +kernel
theorem d_Fl_readCodes_8 : decode b_Fl_readCodes 8 = .ok (.iadd, 1) := by decide +kernel
theorem d_Fl_readCodes_9 : decode b_Fl_readCodes 9 = .ok (.istore_n 2, 1) := by decide +kernel
theorem d_Fl_readCodes_10 : decode b_Fl_readCodes 10 = .ok (.aload_n 1, 1) := by decide +kernel
theorem d_Fl_readCodes_11 : decode b_Fl_readCodes 11 = .ok (.iconst 5, 1) := by decide +kernel
theorem d_Fl_readCodes_12 : decode b_Fl_readCodes 12 = .ok (.invokevirtual 48, 3) := by decide +kernel
theorem d_Fl_readCodes_15 : decode b_Fl_readCodes 15 = .ok (.iconst 1, 1) := by decide +kernel
theorem d_Fl_readCodes_16 : decode b_Fl_readCodes 16 = .ok (.iadd, 1) := by decide +kernel
theorem d_Fl_readCodes_17 : decode b_Fl_readCodes 17 = .ok (.istore_n 3, 1) := by decide +kernel
theorem d_Fl_readCodes_18 : decode b_Fl_readCodes 18 = .ok (.aload_n 1, 1) := by decide +kernel
theorem d_Fl_readCodes_19 : decode b_Fl_readCodes 19 = .ok (.iconst 4, 1) := by decide +kernel
theorem d_Fl_readCodes_20 : decode b_Fl_readCodes 20 = .ok (.invokevirtual 48, 3) := by decide +kernel
theorem d_Fl_readCodes_23 : decode b_Fl_readCodes 23 = .ok (.istore 4, 2) := by decide +kernel
theorem d_Fl_readCodes_25 : decode b_Fl_readCodes 25 = .ok (.iload 4, 2) := by decide +kernel
theorem d_Fl_readCodes_27 : decode b_Fl_readCodes 27 = .ok (.iconst (-1), 1) := by decide +kernel
theorem d_Fl_readCodes_28 : decode b_Fl_readCodes 28 = .ok (.if_icmp .ne 5, 3) := by decide +kernel
theorem d_Fl_readCodes_31 : decode b_Fl_readCodes 31 = .ok (.iconst 0, 1) := by decide +kernel
theorem d_Fl_readCodes_32 : decode b_Fl_readCodes 32 = .ok (.ireturn, 1) := by decide +kernel
theorem d_Fl_readCodes_33 : decode b_Fl_readCodes 33 = .ok (.iload_n 2, 1) := by decide +kernel
theorem d_Fl_readCodes_34 : decode b_Fl_readCodes 34 = .ok (.sipush 286, 3) := by decide +kernel
theorem d_Fl_readCodes_37 : decode b_Fl_readCodes 37 = .ok (.if_icmp .gt 9, 3) := by decide +kernel
theorem d_Fl_readCodes_40 : decode b_Fl_readCodes 40 = .ok (.iload_n 3, 1) := by decide +kernel
theorem d_Fl_readCodes_41 : decode b_Fl_readCodes 41 = .ok (.bipush 30, 2) := by decide +kernel
theorem d_Fl_readCodes_43 : decode b_Fl_readCodes 43 = .ok (.if_icmp .le 10, 3) := by decide +kernel
theorem d_Fl_readCodes_46 : decode b_Fl_readCodes 46 = .ok (.aload_n 1, 1) := by decide +kernel
theorem d_Fl_readCodes_47 : decode b_Fl_readCodes 47 = .ok (.bipush 6, 2) := by decide +kernel
theorem d_Fl_readCodes_49 : decode b_Fl_readCodes 49 = .ok (.invokevirtual 64, 3) := by decide +kernel
theorem d_Fl_readCodes_52 : decode b_Fl_readCodes 52 = .ok (.ireturn, 1) := by decide +kernel
theorem d_Fl_readCodes_53 : decode b_Fl_readCodes 53 = .ok (.aload_n 0, 1) := by decide +kernel
theorem d_Fl_readCodes_54 : decode b_Fl_readCodes 54 = .ok (.aload_n 1, 1) := by decide +kernel
theorem d_Fl_readCodes_55 : decode b_Fl_readCodes 55 = .ok (.iload 4, 2) := by decide +kernel
theorem d_Fl_readCodes_57 : decode b_Fl_readCodes 57 = .ok (.iconst 4, 1) := by decide +kernel
theorem d_Fl_readCodes_58 : decode b_Fl_readCodes 58 = .ok (.iadd, 1) := by decide +kernel
theorem d_Fl_readCodes_59 : decode b_Fl_readCodes 59 = .ok (.invokevirtual 84, 3) := by decide +kernel
theorem d_Fl_readCodes_62 : decode b_Fl_readCodes 62 = .ok (.ifCond .eq 14, 3) := by decide +kernel
theorem d_Fl_readCodes_65 : decode b_Fl_readCodes 65 = .ok (.aload_n 0, 1) := by decide +kernel
theorem d_Fl_readCodes_66 : decode b_Fl_readCodes 66 = .ok (.aload_n 1, 1) := by decide +kernel
theorem d_Fl_readCodes_67 : decode b_Fl_readCodes 67 = .ok (.iload_n 2, 1) := by decide +kernel
theorem d_Fl_readCodes_68 : decode b_Fl_readCodes 68 = .ok (.iload_n 3, 1) := by decide +kernel
theorem d_Fl_readCodes_69 : decode b_Fl_readCodes 69 = .ok (.iadd, 1) := by decide +kernel
theorem d_Fl_readCodes_70 : decode b_Fl_readCodes 70 = .ok (.invokevirtual 88, 3) := by decide +kernel
theorem d_Fl_readCodes_73 : decode b_Fl_readCodes 73 = .ok (.ifCond .ne 5, 3) := by decide +kernel
theorem d_Fl_readCodes_76 : decode b_Fl_readCodes 76 = .ok (.iconst 0, 1) := by decide +kernel
theorem d_Fl_readCodes_77 : decode b_Fl_readCodes 77 = .ok (.ireturn, 1) := by decide +kernel
theorem d_Fl_readCodes_78 : decode b_Fl_readCodes 78 = .ok (.aload_n 0, 1) := by decide +kernel
theorem d_Fl_readCodes_79 : decode b_Fl_readCodes 79 = .ok (.getfield 23, 3) := by decide +kernel
theorem d_Fl_readCodes_82 : decode b_Fl_readCodes 82 = .ok (.aload_n 0, 1) := by decide +kernel
theorem d_Fl_readCodes_83 : decode b_Fl_readCodes 83 = .ok (.getfield 36, 3) := by decide +kernel
theorem d_Fl_readCodes_86 : decode b_Fl_readCodes 86 = .ok (.iconst 0, 1) := by decide +kernel
theorem d_Fl_readCodes_87 : decode b_Fl_readCodes 87 = .ok (.iload_n 2, 1) := by decide +kernel
theorem d_Fl_readCodes_88 : decode b_Fl_readCodes 88 = .ok (.invokevirtual 39, 3) := by decide +kernel
theorem d_Fl_readCodes_91 : decode b_Fl_readCodes 91 = .ok (.aload_n 0, 1) := by decide +kernel
theorem d_Fl_readCodes_92 : decode b_Fl_readCodes 92 = .ok (.getfield 26, 3) := by decide +kernel
theorem d_Fl_readCodes_95 : decode b_Fl_readCodes 95 = .ok (.aload_n 0, 1) := by decide +kernel
theorem d_Fl_readCodes_96 : decode b_Fl_readCodes 96 = .ok (.getfield 36, 3) := by decide +kernel
theorem d_Fl_readCodes_99 : decode b_Fl_readCodes 99 = .ok (.iload_n 2, 1) := by decide +kernel
theorem d_Fl_readCodes_100 : decode b_Fl_readCodes 100 = .ok (.iload_n 3, 1) := by decide +kernel
theorem d_Fl_readCodes_101 : decode b_Fl_readCodes 101 = .ok (.invokevirtual 39, 3) := by decide +kernel
theorem d_Fl_readCodes_104 : decode b_Fl_readCodes 104 = .ok (.aload_n 0, 1) := by decide +kernel
theorem d_Fl_readCodes_105 : decode b_Fl_readCodes 105 = .ok (.getfield 23, 3) := by decide +kernel
theorem d_Fl_readCodes_108 : decode b_Fl_readCodes 108 = .ok (.invokevirtual 91, 3) := by decide +kernel
theorem d_Fl_readCodes_111 : decode b_Fl_readCodes 111 = .ok (.ifCond .eq 38, 3) := by decide +kernel
theorem d_Fl_readCodes_114 : decode b_Fl_readCodes 114 = .ok (.aload_n 0, 1) := by decide +kernel
theorem d_Fl_readCodes_115 : decode b_Fl_readCodes 115 = .ok (.getfield 36, 3) := by decide +kernel
theorem d_Fl_readCodes_118 : decode b_Fl_readCodes 118 = .ok (.sipush 256, 3) := by decide +kernel
theorem d_Fl_readCodes_121 : decode b_Fl_readCodes 121 = .ok (.iaload, 1) := by decide +kernel
theorem d_Fl_readCodes_122 : decode b_Fl_readCodes 122 = .ok (.ifCond .le 27, 3) := by decide +kernel
theorem d_Fl_readCodes_125 : decode b_Fl_readCodes 125 = .ok (.aload_n 0, 1) := by decide +kernel
theorem d_Fl_readCodes_126 : decode b_Fl_readCodes 126 = .ok (.getfield 26, 3) := by decide +kernel
theorem d_Fl_readCodes_129 : decode b_Fl_readCodes 129 = .ok (.invokevirtual 91, 3) := by decide +kernel
theorem d_Fl_readCodes_132 : decode b_Fl_readCodes 132 = .ok (.ifCond .ne 13, 3) := by decide +kernel
theorem d_Fl_readCodes_135 : decode b_Fl_readCodes 135 = .ok (.aload_n 0, 1) := by decide +kernel
theorem d_Fl_readCodes_136 : decode b_Fl_readCodes 136 = .ok (.getfield 26, 3) := by decide +kernel
theorem d_Fl_readCodes_139 : decode b_Fl_readCodes 139 = .ok (.invokevirtual 95, 3) := by decide +kernel
theorem d_Fl_readCodes_142 : decode b_Fl_readCodes 142 = .ok (.ifCond .eq 7, 3) := by decide +kernel
theorem d_Fl_readCodes_145 : decode b_Fl_readCodes 145 = .ok (.iconst 1, 1) := by decide +kernel
theorem d_Fl_readCodes_146 : decode b_Fl_readCodes 146 = .ok (.goto 4, 3) := by decide +kernel
theorem d_Fl_readCodes_149 : decode b_Fl_readCodes 149 = .ok (.iconst 0, 1) := by decide +kernel
theorem d_Fl_readCodes_150 : decode b_Fl_readCodes 150 = .ok (.istore 5, 2) := by decide +kernel
theorem d_Fl_readCodes_152 : decode b_Fl_readCodes 152 = .ok (.iload 5, 2) := by decide +kernel
theorem d_Fl_readCodes_154 : decode b_Fl_readCodes 154 = .ok (.ifCond .ne 12, 3) := by decide +kernel
theorem d_Fl_readCodes_157 : decode b_Fl_readCodes 157 = .ok (.aload_n 1, 1) := by decide +kernel
theorem d_Fl_readCodes_158 : decode b_Fl_readCodes 158 = .ok (.bipush 6, 2) := by decide +kernel
theorem d_Fl_readCodes_160 : decode b_Fl_readCodes 160 = .ok (.invokevirtual 64, 3) := by decide +kernel
theorem d_Fl_readCodes_163 : decode b_Fl_readCodes 163 = .ok (.ifCond .eq 7, 3) := by decide +kernel
theorem d_Fl_readCodes_166 : decode b_Fl_readCodes 166 = .ok (.iconst 1, 1) := by decide +kernel
theorem d_Fl_readCodes_167 : decode b_Fl_readCodes 167 = .ok (.goto 4, 3) := by decide +kernel
theorem d_Fl_readCodes_170 : decode b_Fl_readCodes 170 = .ok (.iconst 0, 1) := by decide +kernel
theorem d_Fl_readCodes_171 : decode b_Fl_readCodes 171 = .ok (.ireturn, 1) := by decide +kernel
noncomputable def f_Fl_readCodes_B46  (n0 : Nat) (h0 : mH) (a1 : Nat) : Option (Int32 × mH) :=
  mis h0 a1 8 <|
  mcl (f_Pa_fail n0 h0 a1 6) fun v15 h16 =>
  mge (narrow .boolean (.int v15) = .int v15) <|
  some (v15, h16)
noncomputable def f_Fl_readCodes_B150  (n0 : Nat) (h0 : mH) (a1 : Nat) (p0 : Int32) : Option (Int32 × mH) :=
  if p0 = 0 then
    mis h0 a1 8 <|
    mcl (f_Pa_fail n0 h0 a1 6) fun v46 h47 =>
    if v46 = 0 then
      some (0, h47)
    else
      some (1, h47)
  else
    some (1, h0)
noncomputable def f_Fl_readCodes_B149  (n0 : Nat) (h0 : mH) (a1 : Nat) : Option (Int32 × mH) :=
  f_Fl_readCodes_B150 n0 h0 a1 0
noncomputable def f_Fl_readCodes_B145  (n0 : Nat) (h0 : mH) (a1 : Nat) : Option (Int32 × mH) :=
  f_Fl_readCodes_B150 n0 h0 a1 1
noncomputable def f_Fl_readCodes  (n0 : Nat) (h0 : mH) (a0 : Nat) (a1 : Nat) : Option (Int32 × mH) :=
  mis h0 a1 8 <|
  mcl (f_Pa_lowNumber n0 h0 a1 5) fun v2 h3 =>
  mnm (v2 + 257) fun v4 =>
  mis h3 a1 8 <|
  mcl (f_Pa_lowNumber n0 h3 a1 5) fun v6 h7 =>
  mnm (v6 + 1) fun v8 =>
  mis h7 a1 8 <|
  mcl (f_Pa_lowNumber n0 h7 a1 4) fun v10 h11 =>
  if v10 = (-1) then
    some (0, h11)
  else
    if 286 < v4 then
      f_Fl_readCodes_B46 n0 h11 a1
    else
      if v8 ≤ 30 then
        mis h11 a0 3 <|
        mcl (f_Fl_readLengthCodes n0 h11 a0 a1 (v10 + 4)) fun v20 h21 =>
        if v20 = 0 then
          some (0, h21)
        else
          mis h21 a0 3 <|
          mcl (f_Fl_readLengths n0 h21 a0 a1 (v4 + v8)) fun v24 h25 =>
          if v24 = 0 then
            some (0, h25)
          else
            mgr h25 a0 3 2 fun r27 =>
            mgr h25 a0 3 5 fun r28 =>
            mis h25 r27 2 <|
            mcl (f_Co_build n0 h25 r27 r28 0 v4) fun _ h31 =>
            mgr h31 a0 3 3 fun r33 =>
            mgr h31 a0 3 5 fun r34 =>
            mis h31 r33 2 <|
            mcl (f_Co_build n0 h31 r33 r34 v4 v8) fun _ h37 =>
            mgr h37 a0 3 2 fun r39 =>
            mis h37 r39 2 <|
            mcl (f_Co_isGood n0 h37 r39) fun v41 h42 =>
            if v41 = 0 then
              f_Fl_readCodes_B149 n0 h42 a1
            else
              mgr h42 a0 3 5 fun r49 =>
              mai h42 r49 .int 256 fun v50 =>
              if v50 ≤ 0 then
                f_Fl_readCodes_B149 n0 h42 a1
              else
                mgr h42 a0 3 3 fun r52 =>
                mis h42 r52 2 <|
                mcl (f_Co_isGood n0 h42 r52) fun v54 h55 =>
                if v54 = 0 then
                  mgr h55 a0 3 3 fun r57 =>
                  mis h55 r57 2 <|
                  mcl (f_Co_isEmpty n0 h55 r57) fun v59 h60 =>
                  if v59 = 0 then
                    f_Fl_readCodes_B149 n0 h60 a1
                  else
                    f_Fl_readCodes_B145 n0 h60 a1
                else
                  f_Fl_readCodes_B145 n0 h55 a1
      else
        f_Fl_readCodes_B46 n0 h11 a1
set_option maxHeartbeats 4000000 in
set_option maxRecDepth 100000 in
theorem cb_Fl_readCodes_B46 {X : mX} {ad : Nat → Nat} {ln : Launch} (O : mO X ad R_Fl b_Fl_readCodes 6 (mR 5 116) ln) (r' : Int32) (h' : mH) (hE : mEnd X ad (some .boolean) (some (.int r')) h') (n0 : Nat) (h0 : mH) (a1 : Nat) (hf : f_Fl_readCodes_B46 n0 h0 a1 = some (r', h')) : mAW X ad 0 0 46 [(1, .ref a1)] [] h0 := by
  unfold f_Fl_readCodes_B46 at hf
  refine ax_aload_n O d_Fl_readCodes_46 rfl 0 rfl ?_
  refine ax_bipush (v := 6) O d_Fl_readCodes_47 (by decide) ?_
  obtain ⟨fh16, ch16, hf⟩ := mis_some hf
  obtain ⟨v15, h16, mh16, hf⟩ := mcl_some hf
  refine ax_callV (As := [.int 6]) (rest := []) O cw_Pa_fail (q := (R_Pa, T_Pa, 7)) rfl rfl in_Pa_fail se_Pa_fail lk_Fl_64 ch16 (c_Pa_fail mh16) rfl ⟨rfl, rfl⟩ (by decide) (by decide) (Nat.le_of_ble_eq_true rfl) d_Fl_readCodes_49 ?_
  obtain ⟨q17, hf⟩ := mge_some hf
  exact ax_retE O hE hf q17 d_Fl_readCodes_52
set_option maxHeartbeats 4000000 in
set_option maxRecDepth 100000 in
theorem cb_Fl_readCodes_B150 {X : mX} {ad : Nat → Nat} {ln : Launch} (O : mO X ad R_Fl b_Fl_readCodes 6 (mR 5 116) ln) (r' : Int32) (h' : mH) (hE : mEnd X ad (some .boolean) (some (.int r')) h') (n0 : Nat) (h0 : mH) (a1 : Nat) (p0 : Int32) (hf : f_Fl_readCodes_B150 n0 h0 a1 p0 = some (r', h')) : mAW X ad 0 0 150 [(1, .ref a1)] [.int p0] h0 := by
  unfold f_Fl_readCodes_B150 at hf
  refine ax_istore (lv' := [(5, .int p0), (1, .ref a1)]) O d_Fl_readCodes_150 (by decide) rfl ?_
  refine ax_iload O d_Fl_readCodes_152 0 rfl ?_
  refine ax_if_ne (tgt := 166) O d_Fl_readCodes_154 (by decide) (fun q44 => ?_) (fun q44 => ?_)
  · rw [if_neg q44] at hf
    refine ax_iconst (v := 1) O d_Fl_readCodes_166 (by decide) ?_
    refine ax_goto (tgt := 171) O d_Fl_readCodes_167 (by decide) ?_
    exact ax_retE O hE hf rfl d_Fl_readCodes_171
  · rw [if_pos q44] at hf
    refine ax_aload_n O d_Fl_readCodes_157 rfl 1 rfl ?_
    refine ax_bipush (v := 6) O d_Fl_readCodes_158 (by decide) ?_
    obtain ⟨fh47, ch47, hf⟩ := mis_some hf
    obtain ⟨v46, h47, mh47, hf⟩ := mcl_some hf
    refine ax_callV (As := [.int 6]) (rest := []) O cw_Pa_fail (q := (R_Pa, T_Pa, 7)) rfl rfl in_Pa_fail se_Pa_fail lk_Fl_64 ch47 (c_Pa_fail mh47) rfl ⟨rfl, rfl⟩ (by decide) (by decide) (Nat.le_of_ble_eq_true rfl) d_Fl_readCodes_160 ?_
    refine ax_if_eq (tgt := 170) O d_Fl_readCodes_163 (by decide) (fun q48 => ?_) (fun q48 => ?_)
    · rw [if_pos q48] at hf
      refine ax_iconst (v := 0) O d_Fl_readCodes_170 (by decide) ?_
      exact ax_retE O hE hf rfl d_Fl_readCodes_171
    · rw [if_neg q48] at hf
      refine ax_iconst (v := 1) O d_Fl_readCodes_166 (by decide) ?_
      refine ax_goto (tgt := 171) O d_Fl_readCodes_167 (by decide) ?_
      exact ax_retE O hE hf rfl d_Fl_readCodes_171
set_option maxHeartbeats 4000000 in
set_option maxRecDepth 100000 in
theorem cb_Fl_readCodes_B149 {X : mX} {ad : Nat → Nat} {ln : Launch} (O : mO X ad R_Fl b_Fl_readCodes 6 (mR 5 116) ln) (r' : Int32) (h' : mH) (hE : mEnd X ad (some .boolean) (some (.int r')) h') (n0 : Nat) (h0 : mH) (a1 : Nat) (hf : f_Fl_readCodes_B149 n0 h0 a1 = some (r', h')) : mAW X ad 0 0 149 [(1, .ref a1)] [] h0 := by
  unfold f_Fl_readCodes_B149 at hf
  refine ax_iconst (v := 0) O d_Fl_readCodes_149 (by decide) ?_
  exact cb_Fl_readCodes_B150 O _ _ hE n0 _ _ _ hf
set_option maxHeartbeats 4000000 in
set_option maxRecDepth 100000 in
theorem cb_Fl_readCodes_B145 {X : mX} {ad : Nat → Nat} {ln : Launch} (O : mO X ad R_Fl b_Fl_readCodes 6 (mR 5 116) ln) (r' : Int32) (h' : mH) (hE : mEnd X ad (some .boolean) (some (.int r')) h') (n0 : Nat) (h0 : mH) (a1 : Nat) (hf : f_Fl_readCodes_B145 n0 h0 a1 = some (r', h')) : mAW X ad 0 0 145 [(1, .ref a1)] [] h0 := by
  unfold f_Fl_readCodes_B145 at hf
  refine ax_iconst (v := 1) O d_Fl_readCodes_145 (by decide) ?_
  refine ax_goto (tgt := 150) O d_Fl_readCodes_146 (by decide) ?_
  exact cb_Fl_readCodes_B150 O _ _ hE n0 _ _ _ hf
set_option maxHeartbeats 4000000 in
set_option maxRecDepth 100000 in
theorem cb_Fl_readCodes {X : mX} {ad : Nat → Nat} {ln : Launch} (O : mO X ad R_Fl b_Fl_readCodes 6 (mR 5 116) ln) (r' : Int32) (h' : mH) (hE : mEnd X ad (some .boolean) (some (.int r')) h') (n0 : Nat) (h0 : mH) (a0 : Nat) (a1 : Nat) (hf : f_Fl_readCodes n0 h0 a0 a1 = some (r', h')) : mAW X ad 0 0 0 [(0, .ref a0), (1, .ref a1)] [] h0 := by
  unfold f_Fl_readCodes at hf
  refine ax_aload_n O d_Fl_readCodes_0 rfl 1 rfl ?_
  refine ax_iconst (v := 5) O d_Fl_readCodes_1 (by decide) ?_
  obtain ⟨fh3, ch3, hf⟩ := mis_some hf
  obtain ⟨v2, h3, mh3, hf⟩ := mcl_some hf
  refine ax_callV (As := [.int 5]) (rest := []) O cw_Pa_lowNumber (q := (R_Pa, T_Pa, 7)) rfl rfl in_Pa_lowNumber se_Pa_lowNumber lk_Fl_48 ch3 (c_Pa_lowNumber mh3) rfl ⟨rfl, rfl⟩ (by decide) (by decide) (Nat.le_of_ble_eq_true rfl) d_Fl_readCodes_2 ?_
  refine ax_sipush (v := 257) O d_Fl_readCodes_5 (by decide) ?_
  refine ax_iadd O d_Fl_readCodes_8 ?_
  obtain ⟨v4, ev4, hf⟩ := mnm_some hf
  refine ax_nmi ev4 ?_
  refine ax_istore_n (lv' := [(2, .int v4), (0, .ref a0), (1, .ref a1)]) O d_Fl_readCodes_9 rfl (by decide) rfl ?_
  refine ax_aload_n O d_Fl_readCodes_10 rfl 2 rfl ?_
  refine ax_iconst (v := 5) O d_Fl_readCodes_11 (by decide) ?_
  obtain ⟨fh7, ch7, hf⟩ := mis_some hf
  obtain ⟨v6, h7, mh7, hf⟩ := mcl_some hf
  refine ax_callV (As := [.int 5]) (rest := []) O cw_Pa_lowNumber (q := (R_Pa, T_Pa, 7)) rfl rfl in_Pa_lowNumber se_Pa_lowNumber lk_Fl_48 ch7 (c_Pa_lowNumber mh7) rfl ⟨rfl, rfl⟩ (by decide) (by decide) (Nat.le_of_ble_eq_true rfl) d_Fl_readCodes_12 ?_
  refine ax_iconst (v := 1) O d_Fl_readCodes_15 (by decide) ?_
  refine ax_iadd O d_Fl_readCodes_16 ?_
  obtain ⟨v8, ev8, hf⟩ := mnm_some hf
  refine ax_nmi ev8 ?_
  refine ax_istore_n (lv' := [(3, .int v8), (2, .int v4), (0, .ref a0), (1, .ref a1)]) O d_Fl_readCodes_17 rfl (by decide) rfl ?_
  refine ax_aload_n O d_Fl_readCodes_18 rfl 3 rfl ?_
  refine ax_iconst (v := 4) O d_Fl_readCodes_19 (by decide) ?_
  obtain ⟨fh11, ch11, hf⟩ := mis_some hf
  obtain ⟨v10, h11, mh11, hf⟩ := mcl_some hf
  refine ax_callV (As := [.int 4]) (rest := []) O cw_Pa_lowNumber (q := (R_Pa, T_Pa, 7)) rfl rfl in_Pa_lowNumber se_Pa_lowNumber lk_Fl_48 ch11 (c_Pa_lowNumber mh11) rfl ⟨rfl, rfl⟩ (by decide) (by decide) (Nat.le_of_ble_eq_true rfl) d_Fl_readCodes_20 ?_
  refine ax_istore (lv' := [(4, .int v10), (3, .int v8), (2, .int v4), (0, .ref a0), (1, .ref a1)]) O d_Fl_readCodes_23 (by decide) rfl ?_
  refine ax_iload O d_Fl_readCodes_25 0 rfl ?_
  refine ax_iconst (v := (-1)) O d_Fl_readCodes_27 (by decide) ?_
  refine ax_icmp_ne (tgt := 33) O d_Fl_readCodes_28 (by decide) (fun q12 => ?_) (fun q12 => ?_)
  · rw [if_neg q12] at hf
    refine ax_iload_n O d_Fl_readCodes_33 rfl 2 rfl ?_
    refine ax_sipush (v := 286) O d_Fl_readCodes_34 (by decide) ?_
    refine ax_icmp_gt (tgt := 46) O d_Fl_readCodes_37 (by decide) (fun q13 => ?_) (fun q13 => ?_)
    · rw [if_pos q13] at hf
      refine ax_sub [4] rfl ?_
      exact cb_Fl_readCodes_B46 O _ _ hE n0 _ _ hf
    · rw [if_neg q13] at hf
      refine ax_iload_n O d_Fl_readCodes_40 rfl 1 rfl ?_
      refine ax_bipush (v := 30) O d_Fl_readCodes_41 (by decide) ?_
      refine ax_icmp_le (tgt := 53) O d_Fl_readCodes_43 (by decide) (fun q18 => ?_) (fun q18 => ?_)
      · rw [if_pos q18] at hf
        refine ax_aload_n O d_Fl_readCodes_53 rfl 3 rfl ?_
        refine ax_aload_n O d_Fl_readCodes_54 rfl 4 rfl ?_
        refine ax_iload O d_Fl_readCodes_55 0 rfl ?_
        refine ax_iconst (v := 4) O d_Fl_readCodes_57 (by decide) ?_
        refine ax_iadd O d_Fl_readCodes_58 ?_
        obtain ⟨fh21, ch21, hf⟩ := mis_some hf
        obtain ⟨v20, h21, mh21, hf⟩ := mcl_some hf
        refine ax_callV (As := [.ref a1, .int (v10 + 4)]) (rest := []) O cw_Fl_readLengthCodes (q := (R_Fl, T_Fl, 6)) rfl rfl in_Fl_readLengthCodes se_Fl_readLengthCodes lk_Fl_84 ch21 (c_Fl_readLengthCodes mh21) rfl ⟨rfl, rfl⟩ (by decide) (by decide) (Nat.le_of_ble_eq_true rfl) d_Fl_readCodes_59 ?_
        refine ax_if_eq (tgt := 76) O d_Fl_readCodes_62 (by decide) (fun q22 => ?_) (fun q22 => ?_)
        · rw [if_pos q22] at hf
          refine ax_iconst (v := 0) O d_Fl_readCodes_76 (by decide) ?_
          exact ax_retE O hE hf rfl d_Fl_readCodes_77
        · rw [if_neg q22] at hf
          refine ax_aload_n O d_Fl_readCodes_65 rfl 3 rfl ?_
          refine ax_aload_n O d_Fl_readCodes_66 rfl 4 rfl ?_
          refine ax_iload_n O d_Fl_readCodes_67 rfl 2 rfl ?_
          refine ax_iload_n O d_Fl_readCodes_68 rfl 1 rfl ?_
          refine ax_iadd O d_Fl_readCodes_69 ?_
          obtain ⟨fh25, ch25, hf⟩ := mis_some hf
          obtain ⟨v24, h25, mh25, hf⟩ := mcl_some hf
          refine ax_callV (As := [.ref a1, .int (v4 + v8)]) (rest := []) O cw_Fl_readLengths (q := (R_Fl, T_Fl, 6)) rfl rfl in_Fl_readLengths se_Fl_readLengths lk_Fl_88 ch25 (c_Fl_readLengths mh25) rfl ⟨rfl, rfl⟩ (by decide) (by decide) (Nat.le_of_ble_eq_true rfl) d_Fl_readCodes_70 ?_
          refine ax_if_ne (tgt := 78) O d_Fl_readCodes_73 (by decide) (fun q26 => ?_) (fun q26 => ?_)
          · rw [if_neg q26] at hf
            refine ax_aload_n O d_Fl_readCodes_78 rfl 3 rfl ?_
            obtain ⟨fr27, r27, cr27, kr27, hf⟩ := mgr_some hf
            refine ax_get O fg_Fl_23 cr27 kr27 d_Fl_readCodes_79 ?_
            refine ax_aload_n O d_Fl_readCodes_82 rfl 3 rfl ?_
            obtain ⟨fr28, r28, cr28, kr28, hf⟩ := mgr_some hf
            refine ax_get O fg_Fl_36 cr28 kr28 d_Fl_readCodes_83 ?_
            refine ax_iconst (v := 0) O d_Fl_readCodes_86 (by decide) ?_
            refine ax_iload_n O d_Fl_readCodes_87 rfl 2 rfl ?_
            obtain ⟨fh31, ch31, hf⟩ := mis_some hf
            obtain ⟨u32, h31, mh31, hf⟩ := mcl_some hf
            refine ax_callV (As := [.ref r28, .int 0, .int v4]) (rest := []) O cw_Co_build (q := (R_Co, T_Co, 5)) rfl rfl in_Co_build se_Co_build lk_Fl_39 ch31 (c_Co_build mh31) rfl ⟨rfl, rfl⟩ (by decide) (by decide) (Nat.le_of_ble_eq_true rfl) d_Fl_readCodes_88 ?_
            refine ax_aload_n O d_Fl_readCodes_91 rfl 3 rfl ?_
            obtain ⟨fr33, r33, cr33, kr33, hf⟩ := mgr_some hf
            refine ax_get O fg_Fl_26 cr33 kr33 d_Fl_readCodes_92 ?_
            refine ax_aload_n O d_Fl_readCodes_95 rfl 3 rfl ?_
            obtain ⟨fr34, r34, cr34, kr34, hf⟩ := mgr_some hf
            refine ax_get O fg_Fl_36 cr34 kr34 d_Fl_readCodes_96 ?_
            refine ax_iload_n O d_Fl_readCodes_99 rfl 2 rfl ?_
            refine ax_iload_n O d_Fl_readCodes_100 rfl 1 rfl ?_
            obtain ⟨fh37, ch37, hf⟩ := mis_some hf
            obtain ⟨u38, h37, mh37, hf⟩ := mcl_some hf
            refine ax_callV (As := [.ref r34, .int v4, .int v8]) (rest := []) O cw_Co_build (q := (R_Co, T_Co, 5)) rfl rfl in_Co_build se_Co_build lk_Fl_39 ch37 (c_Co_build mh37) rfl ⟨rfl, rfl⟩ (by decide) (by decide) (Nat.le_of_ble_eq_true rfl) d_Fl_readCodes_101 ?_
            refine ax_aload_n O d_Fl_readCodes_104 rfl 3 rfl ?_
            obtain ⟨fr39, r39, cr39, kr39, hf⟩ := mgr_some hf
            refine ax_get O fg_Fl_23 cr39 kr39 d_Fl_readCodes_105 ?_
            obtain ⟨fh42, ch42, hf⟩ := mis_some hf
            obtain ⟨v41, h42, mh42, hf⟩ := mcl_some hf
            refine ax_callV (As := []) (rest := []) O cw_Co_isGood (q := (R_Co, T_Co, 5)) rfl rfl in_Co_isGood se_Co_isGood lk_Fl_91 ch42 (c_Co_isGood mh42) rfl ⟨rfl, rfl⟩ (by decide) (by decide) (Nat.le_of_ble_eq_true rfl) d_Fl_readCodes_108 ?_
            refine ax_if_eq (tgt := 149) O d_Fl_readCodes_111 (by decide) (fun q43 => ?_) (fun q43 => ?_)
            · rw [if_pos q43] at hf
              refine ax_sub [4] rfl ?_
              exact cb_Fl_readCodes_B149 O _ _ hE n0 _ _ hf
            · rw [if_neg q43] at hf
              refine ax_aload_n O d_Fl_readCodes_114 rfl 3 rfl ?_
              obtain ⟨fr49, r49, cr49, kr49, hf⟩ := mgr_some hf
              refine ax_get O fg_Fl_36 cr49 kr49 d_Fl_readCodes_115 ?_
              refine ax_sipush (v := 256) O d_Fl_readCodes_118 (by decide) ?_
              obtain ⟨nv50, fv50, v50, cv50, iv50, kv50, hf⟩ := mai_some hf
              refine ax_iald O cv50 iv50 kv50 d_Fl_readCodes_121 ?_
              refine ax_if_le (tgt := 149) O d_Fl_readCodes_122 (by decide) (fun q51 => ?_) (fun q51 => ?_)
              · rw [if_pos q51] at hf
                refine ax_sub [4] rfl ?_
                exact cb_Fl_readCodes_B149 O _ _ hE n0 _ _ hf
              · rw [if_neg q51] at hf
                refine ax_aload_n O d_Fl_readCodes_125 rfl 3 rfl ?_
                obtain ⟨fr52, r52, cr52, kr52, hf⟩ := mgr_some hf
                refine ax_get O fg_Fl_26 cr52 kr52 d_Fl_readCodes_126 ?_
                obtain ⟨fh55, ch55, hf⟩ := mis_some hf
                obtain ⟨v54, h55, mh55, hf⟩ := mcl_some hf
                refine ax_callV (As := []) (rest := []) O cw_Co_isGood (q := (R_Co, T_Co, 5)) rfl rfl in_Co_isGood se_Co_isGood lk_Fl_91 ch55 (c_Co_isGood mh55) rfl ⟨rfl, rfl⟩ (by decide) (by decide) (Nat.le_of_ble_eq_true rfl) d_Fl_readCodes_129 ?_
                refine ax_if_ne (tgt := 145) O d_Fl_readCodes_132 (by decide) (fun q56 => ?_) (fun q56 => ?_)
                · rw [if_neg q56] at hf
                  refine ax_sub [4] rfl ?_
                  exact cb_Fl_readCodes_B145 O _ _ hE n0 _ _ hf
                · rw [if_pos q56] at hf
                  refine ax_aload_n O d_Fl_readCodes_135 rfl 3 rfl ?_
                  obtain ⟨fr57, r57, cr57, kr57, hf⟩ := mgr_some hf
                  refine ax_get O fg_Fl_26 cr57 kr57 d_Fl_readCodes_136 ?_
                  obtain ⟨fh60, ch60, hf⟩ := mis_some hf
                  obtain ⟨v59, h60, mh60, hf⟩ := mcl_some hf
                  refine ax_callV (As := []) (rest := []) O cw_Co_isEmpty (q := (R_Co, T_Co, 5)) rfl rfl in_Co_isEmpty se_Co_isEmpty lk_Fl_95 ch60 (c_Co_isEmpty mh60) rfl ⟨rfl, rfl⟩ (by decide) (by decide) (Nat.le_of_ble_eq_true rfl) d_Fl_readCodes_139 ?_
                  refine ax_if_eq (tgt := 149) O d_Fl_readCodes_142 (by decide) (fun q61 => ?_) (fun q61 => ?_)
                  · rw [if_pos q61] at hf
                    refine ax_sub [4] rfl ?_
                    exact cb_Fl_readCodes_B149 O _ _ hE n0 _ _ hf
                  · rw [if_neg q61] at hf
                    refine ax_sub [4] rfl ?_
                    exact cb_Fl_readCodes_B145 O _ _ hE n0 _ _ hf
          · rw [if_pos q26] at hf
            refine ax_iconst (v := 0) O d_Fl_readCodes_76 (by decide) ?_
            exact ax_retE O hE hf rfl d_Fl_readCodes_77
      · rw [if_neg q18] at hf
        refine ax_sub [4] rfl ?_
        exact cb_Fl_readCodes_B46 O _ _ hE n0 _ _ hf
  · rw [if_pos q12] at hf
    refine ax_iconst (v := 0) O d_Fl_readCodes_31 (by decide) ?_
    exact ax_retE O hE hf rfl d_Fl_readCodes_32
theorem c_Fl_readCodes {ln : Launch} {n0 : Nat} {h0 h' : mH} {a0 : Nat} {a1 : Nat} {r' : Int32} (hf : f_Fl_readCodes n0 h0 a0 a1 = some (r', h')) : mMet ln y_Fl_readCodes b_Fl_readCodes 6 (some .boolean) (mR 5 116) [.ref a0, .ref a1] h0 (some (.int r')) h' := mMet_of (by decide +kernel) (Nat.le_of_ble_eq_true rfl) (fun X ad O hE => cb_Fl_readCodes O r' h' hE n0 h0 a0 a1 hf)
/-! ===== StreamFilters$Flate.checkOf(LStreamFilters$Bytes;)J ===== -/
theorem d_Fl_checkOf_0 : decode b_Fl_checkOf 0 = .ok (.iconst 1, 1) := by decide +kernel
theorem d_Fl_checkOf_1 : decode b_Fl_checkOf 1 = .ok (.istore_n 1, 1) := by decide +kernel
theorem d_Fl_checkOf_2 : decode b_Fl_checkOf 2 = .ok (.iconst 0, 1) := by decide +kernel
theorem d_Fl_checkOf_3 : decode b_Fl_checkOf 3 = .ok (.istore_n 2, 1) := by decide +kernel
theorem d_Fl_checkOf_4 : decode b_Fl_checkOf 4 = .ok (.iconst 0, 1) := by decide +kernel
theorem d_Fl_checkOf_5 : decode b_Fl_checkOf 5 = .ok (.istore_n 3, 1) := by decide +kernel
theorem d_Fl_checkOf_6 : decode b_Fl_checkOf 6 = .ok (.iload_n 3, 1) := by decide +kernel
theorem d_Fl_checkOf_7 : decode b_Fl_checkOf 7 = .ok (.aload_n 0, 1) := by decide +kernel
theorem d_Fl_checkOf_8 : decode b_Fl_checkOf 8 = .ok (.getfield 126, 3) := by decide +kernel
theorem d_Fl_checkOf_11 : decode b_Fl_checkOf 11 = .ok (.if_icmp .ge 27, 3) := by decide +kernel
theorem d_Fl_checkOf_14 : decode b_Fl_checkOf 14 = .ok (.iload_n 1, 1) := by decide +kernel
theorem d_Fl_checkOf_15 : decode b_Fl_checkOf 15 = .ok (.aload_n 0, 1) := by decide +kernel
theorem d_Fl_checkOf_16 : decode b_Fl_checkOf 16 = .ok (.iload_n 3, 1) := by decide +kernel
theorem d_Fl_checkOf_17 : decode b_Fl_checkOf 17 = .ok (.invokevirtual 148, 3) := by decide +kernel
theorem d_Fl_checkOf_20 : decode b_Fl_checkOf 20 = .ok (.iadd, 1) := by decide +kernel
theorem d_Fl_checkOf_21 : decode b_Fl_checkOf 21 = .ok (.ldc 151, 2) := by decide +kernel
theorem d_Fl_checkOf_23 : decode b_Fl_checkOf 23 = .ok (.irem, 1) := by decide +kernel
theorem d_Fl_checkOf_24 : decode b_Fl_checkOf 24 = .ok (.istore_n 1, 1) := by decide +kernel
theorem d_Fl_checkOf_25 : decode b_Fl_checkOf 25 = .ok (.iload_n 2, 1) := by decide +kernel
theorem d_Fl_checkOf_26 : decode b_Fl_checkOf 26 = .ok (.iload_n 1, 1) := by decide +kernel
theorem d_Fl_checkOf_27 : decode b_Fl_checkOf 27 = .ok (.iadd, 1) := by decide +kernel
theorem d_Fl_checkOf_28 : decode b_Fl_checkOf 28 = .ok (.ldc 151, 2) := by decide +kernel
theorem d_Fl_checkOf_30 : decode b_Fl_checkOf 30 = .ok (.irem, 1) := by decide +kernel
theorem d_Fl_checkOf_31 : decode b_Fl_checkOf 31 = .ok (.istore_n 2, 1) := by decide +kernel
theorem d_Fl_checkOf_32 : decode b_Fl_checkOf 32 = .ok (.iinc 3 1, 3) := by decide +kernel
theorem d_Fl_checkOf_35 : decode b_Fl_checkOf 35 = .ok (.goto (-29), 3) := by decide +kernel
theorem d_Fl_checkOf_38 : decode b_Fl_checkOf 38 = .ok (.iload_n 2, 1) := by decide +kernel
theorem d_Fl_checkOf_39 : decode b_Fl_checkOf 39 = .ok (.i2l, 1) := by decide +kernel
theorem d_Fl_checkOf_40 : decode b_Fl_checkOf 40 = .ok (.ldc2_w 152, 3) := by decide +kernel
theorem d_Fl_checkOf_43 : decode b_Fl_checkOf 43 = .ok (.lmul, 1) := by decide +kernel
theorem d_Fl_checkOf_44 : decode b_Fl_checkOf 44 = .ok (.iload_n 1, 1) := by decide +kernel
theorem d_Fl_checkOf_45 : decode b_Fl_checkOf 45 = .ok (.i2l, 1) := by decide +kernel
theorem d_Fl_checkOf_46 : decode b_Fl_checkOf 46 = .ok (.ladd, 1) := by decide +kernel
theorem d_Fl_checkOf_47 : decode b_Fl_checkOf 47 = .ok (.lreturn, 1) := by decide +kernel
noncomputable def f_Fl_checkOf_L6  (n0 : Nat) : Nat → mH → Nat → Int32 → Int32 → Int32 → Option (Int64 × mH)
  | 0, _, _, _, _, _ => none
  | n + 1, h0, a0, x1, x2, x3 =>
    mgi h0 a0 1 1 fun v1 =>
    if v1 ≤ x3 then
      some (((x2.toInt64) * 65536) + (x1.toInt64), h0)
    else
      mis h0 a0 1 <|
      mcl (f_By_byteAt n0 h0 a0 x3) fun v4 h5 =>
      mnm ((x1 + v4) - (x1 + v4) / 65521 * 65521) fun v6 =>
      mnm ((x2 + v6) - (x2 + v6) / 65521 * 65521) fun v7 =>
      mnm (x3 + 1) fun v8 =>
      (f_Fl_checkOf_L6 n0 n) h5 a0 v6 v7 v8
noncomputable def f_Fl_checkOf  (n0 : Nat) (h0 : mH) (a0 : Nat) : Option (Int64 × mH) :=
  f_Fl_checkOf_L6 n0 n0 h0 a0 1 0 0
set_option maxHeartbeats 4000000 in
set_option maxRecDepth 100000 in
theorem cb_Fl_checkOf_L6 {X : mX} {ad : Nat → Nat} {ln : Launch} (O : mO X ad R_Fl b_Fl_checkOf 4 (mR 1 21) ln) (r' : Int64) (h' : mH) (hE : mEnd X ad (some .long) (some (.long r')) h') (n0 : Nat) : ∀ (n : Nat) (h0 : mH) (a0 : Nat) (x1 : Int32) (x2 : Int32) (x3 : Int32), f_Fl_checkOf_L6 n0 n h0 a0 x1 x2 x3 = some (r', h') → mAW X ad 0 0 6 [(0, .ref a0), (1, .int x1), (2, .int x2), (3, .int x3)] [] h0 := by
  intro n
  induction n with
  | zero =>
    intro h0 a0 x1 x2 x3 hf
    rw [f_Fl_checkOf_L6.eq_1] at hf
    cases hf
  | succ n ih =>
    intro h0 a0 x1 x2 x3 hf
    rw [f_Fl_checkOf_L6.eq_2] at hf
    refine ax_iload_n O d_Fl_checkOf_6 rfl 3 rfl ?_
    refine ax_aload_n O d_Fl_checkOf_7 rfl 0 rfl ?_
    obtain ⟨fv1, v1, cv1, kv1, hf⟩ := mgi_some hf
    refine ax_get O fg_Fl_126 cv1 kv1 d_Fl_checkOf_8 ?_
    refine ax_icmp_ge (tgt := 38) O d_Fl_checkOf_11 (by decide) (fun q2 => ?_) (fun q2 => ?_)
    · rw [if_pos q2] at hf
      refine ax_iload_n O d_Fl_checkOf_38 rfl 2 rfl ?_
      refine ax_i2l O d_Fl_checkOf_39 ?_
      refine ax_ldc2 (v := 65536) O d_Fl_checkOf_40 wd_26 ?_
      refine ax_lmul O d_Fl_checkOf_43 ?_
      refine ax_iload_n O d_Fl_checkOf_44 rfl 1 rfl ?_
      refine ax_i2l O d_Fl_checkOf_45 ?_
      refine ax_ladd O d_Fl_checkOf_46 ?_
      exact ax_lretE O hE hf d_Fl_checkOf_47
    · rw [if_neg q2] at hf
      refine ax_iload_n O d_Fl_checkOf_14 rfl 1 rfl ?_
      refine ax_aload_n O d_Fl_checkOf_15 rfl 0 rfl ?_
      refine ax_iload_n O d_Fl_checkOf_16 rfl 3 rfl ?_
      obtain ⟨fh5, ch5, hf⟩ := mis_some hf
      obtain ⟨v4, h5, mh5, hf⟩ := mcl_some hf
      refine ax_callV (As := [.int x3]) (rest := [.int x1]) O cw_By_byteAt (q := (R_By, T_By, 2)) rfl rfl in_By_byteAt se_By_byteAt lk_Fl_148 ch5 (c_By_byteAt mh5) rfl ⟨rfl, rfl⟩ (by decide) (by decide) (Nat.le_of_ble_eq_true rfl) d_Fl_checkOf_17 ?_
      refine ax_iadd O d_Fl_checkOf_20 ?_
      refine ax_ldc (v := 65521) O d_Fl_checkOf_21 wd_27 ?_
      refine ax_irem O d_Fl_checkOf_23 (by decide) ?_
      obtain ⟨v6, ev6, hf⟩ := mnm_some hf
      refine ax_nmi ev6 ?_
      refine ax_istore_n (lv' := [(1, .int v6), (0, .ref a0), (2, .int x2), (3, .int x3)]) O d_Fl_checkOf_24 rfl (by decide) rfl ?_
      refine ax_iload_n O d_Fl_checkOf_25 rfl 2 rfl ?_
      refine ax_iload_n O d_Fl_checkOf_26 rfl 0 rfl ?_
      refine ax_iadd O d_Fl_checkOf_27 ?_
      refine ax_ldc (v := 65521) O d_Fl_checkOf_28 wd_27 ?_
      refine ax_irem O d_Fl_checkOf_30 (by decide) ?_
      obtain ⟨v7, ev7, hf⟩ := mnm_some hf
      refine ax_nmi ev7 ?_
      refine ax_istore_n (lv' := [(2, .int v7), (1, .int v6), (0, .ref a0), (3, .int x3)]) O d_Fl_checkOf_31 rfl (by decide) rfl ?_
      obtain ⟨v8, ev8, hf⟩ := mnm_some hf
      refine ax_iinc (j := 3) (v := v8) (lv' := [(3, .int v8), (2, .int v7), (1, .int v6), (0, .ref a0)]) O d_Fl_checkOf_32 rfl (by rw [ev8]; rfl) (by decide) rfl ?_
      refine ax_goto (tgt := 6) O d_Fl_checkOf_35 (by decide) ?_
      refine ax_sub [3, 2, 1, 0] rfl ?_
      exact ih _ _ _ _ _ hf
set_option maxHeartbeats 4000000 in
set_option maxRecDepth 100000 in
theorem cb_Fl_checkOf {X : mX} {ad : Nat → Nat} {ln : Launch} (O : mO X ad R_Fl b_Fl_checkOf 4 (mR 1 21) ln) (r' : Int64) (h' : mH) (hE : mEnd X ad (some .long) (some (.long r')) h') (n0 : Nat) (h0 : mH) (a0 : Nat) (hf : f_Fl_checkOf n0 h0 a0 = some (r', h')) : mAW X ad 0 0 0 [(0, .ref a0)] [] h0 := by
  unfold f_Fl_checkOf at hf
  refine ax_iconst (v := 1) O d_Fl_checkOf_0 (by decide) ?_
  refine ax_istore_n (lv' := [(1, .int 1), (0, .ref a0)]) O d_Fl_checkOf_1 rfl (by decide) rfl ?_
  refine ax_iconst (v := 0) O d_Fl_checkOf_2 (by decide) ?_
  refine ax_istore_n (lv' := [(2, .int 0), (1, .int 1), (0, .ref a0)]) O d_Fl_checkOf_3 rfl (by decide) rfl ?_
  refine ax_iconst (v := 0) O d_Fl_checkOf_4 (by decide) ?_
  refine ax_istore_n (lv' := [(3, .int 0), (2, .int 0), (1, .int 1), (0, .ref a0)]) O d_Fl_checkOf_5 rfl (by decide) rfl ?_
  refine ax_sub [3, 2, 1, 0] rfl ?_
  exact cb_Fl_checkOf_L6 O _ _ hE n0 n0 _ _ _ _ _ hf
theorem c_Fl_checkOf {ln : Launch} {n0 : Nat} {h0 h' : mH} {a0 : Nat} {r' : Int64} (hf : f_Fl_checkOf n0 h0 a0 = some (r', h')) : mMet ln y_Fl_checkOf b_Fl_checkOf 4 (some .long) (mR 1 21) [.ref a0] h0 (some (.long r')) h' := mMet_of (by decide +kernel) (Nat.le_of_ble_eq_true rfl) (fun X ad O hE => cb_Fl_checkOf O r' h' hE n0 h0 a0 hf)
/-! ===== StreamFilters$Flate.compareCheck(LStreamFilters$Pass;)V ===== -/
theorem d_Fl_compareCheck_0 : decode b_Fl_compareCheck 0 = .ok (.lconst 0, 1) := by decide +kernel
theorem d_Fl_compareCheck_1 : decode b_Fl_compareCheck 1 = .ok (.lstore_n 1, 1) := by decide +kernel
theorem d_Fl_compareCheck_2 : decode b_Fl_compareCheck 2 = .ok (.iconst 0, 1) := by decide +kernel
theorem d_Fl_compareCheck_3 : decode b_Fl_compareCheck 3 = .ok (.istore_n 3, 1) := by decide +kernel
theorem d_Fl_compareCheck_4 : decode b_Fl_compareCheck 4 = .ok (.iload_n 3, 1) := by decide +kernel
theorem d_Fl_compareCheck_5 : decode b_Fl_compareCheck 5 = .ok (.iconst 4, 1) := by decide +kernel
theorem d_Fl_compareCheck_6 : decode b_Fl_compareCheck 6 = .ok (.if_icmp .ge 32, 3) := by decide +kernel
theorem d_Fl_compareCheck_9 : decode b_Fl_compareCheck 9 = .ok (.aload_n 0, 1) := by decide +kernel
theorem d_Fl_compareCheck_10 : decode b_Fl_compareCheck 10 = .ok (.invokevirtual 72, 3) := by decide +kernel
theorem d_Fl_compareCheck_13 : decode b_Fl_compareCheck 13 = .ok (.istore 4, 2) := by decide +kernel
theorem d_Fl_compareCheck_15 : decode b_Fl_compareCheck 15 = .ok (.iload 4, 2) := by decide +kernel
theorem d_Fl_compareCheck_17 : decode b_Fl_compareCheck 17 = .ok (.iconst (-1), 1) := by decide +kernel
theorem d_Fl_compareCheck_18 : decode b_Fl_compareCheck 18 = .ok (.if_icmp .ne 4, 3) := by decide +kernel
theorem d_Fl_compareCheck_21 : decode b_Fl_compareCheck 21 = .ok (.return_, 1) := by decide +kernel
theorem d_Fl_compareCheck_22 : decode b_Fl_compareCheck 22 = .ok (.lload_n 1, 1) := by decide +kernel
theorem d_Fl_compareCheck_23 : decode b_Fl_compareCheck 23 = .ok (.ldc2_w 142, 3) := by decide +kernel
theorem d_Fl_compareCheck_26 : decode b_Fl_compareCheck 26 = .ok (.lmul, 1) := by decide +kernel
theorem d_Fl_compareCheck_27 : decode b_Fl_compareCheck 27 = .ok (.iload 4, 2) := by decide +kernel
theorem d_Fl_compareCheck_29 : decode b_Fl_compareCheck 29 = .ok (.i2l, 1) := by decide +kernel
theorem d_Fl_compareCheck_30 : decode b_Fl_compareCheck 30 = .ok (.ladd, 1) := by decide +kernel
theorem d_Fl_compareCheck_31 : decode b_Fl_compareCheck 31 = .ok (.lstore_n 1, 1) := by decide +kernel
theorem d_Fl_compareCheck_32 : decode b_Fl_compareCheck 32 = .ok (.iinc 3 1, 3) := by decide +kernel
theorem d_Fl_compareCheck_35 : decode b_Fl_compareCheck 35 = .ok (.goto (-31), 3) := by decide +kernel
theorem d_Fl_compareCheck_38 : decode b_Fl_compareCheck 38 = .ok (.lload_n 1, 1) := by decide +kernel
theorem d_Fl_compareCheck_39 : decode b_Fl_compareCheck 39 = .ok (.aload_n 0, 1) := by decide +kernel
theorem d_Fl_compareCheck_40 : decode b_Fl_compareCheck 40 = .ok (.getfield 122, 3) := by decide +kernel
theorem d_Fl_compareCheck_43 : decode b_Fl_compareCheck 43 = .ok (.invokestatic 144, 3) := by decide +kernel
theorem d_Fl_compareCheck_46 : decode b_Fl_compareCheck 46 = .ok (.lcmp, 1) := by decide +kernel
theorem d_Fl_compareCheck_47 : decode b_Fl_compareCheck 47 = .ok (.ifCond .eq 10, 3) := by decide +kernel
theorem d_Fl_compareCheck_50 : decode b_Fl_compareCheck 50 = .ok (.aload_n 0, 1) := by decide +kernel
theorem d_Fl_compareCheck_51 : decode b_Fl_compareCheck 51 = .ok (.bipush 9, 2) := by decide +kernel
theorem d_Fl_compareCheck_53 : decode b_Fl_compareCheck 53 = .ok (.invokevirtual 64, 3) := by decide +kernel
theorem d_Fl_compareCheck_56 : decode b_Fl_compareCheck 56 = .ok (.pop, 1) := by decide +kernel
theorem d_Fl_compareCheck_57 : decode b_Fl_compareCheck 57 = .ok (.return_, 1) := by decide +kernel
noncomputable def f_Fl_compareCheck_L4  (n0 : Nat) : Nat → mH → Nat → Int64 → Int32 → Option (Unit × mH)
  | 0, _, _, _, _ => none
  | n + 1, h0, a0, y1, x3 =>
    if 4 ≤ x3 then
      mgr h0 a0 8 1 fun r2 =>
      mcl (f_Fl_checkOf n0 h0 r2) fun w3 h5 =>
      if (lg_cmp y1 w3) = 0 then
        some ((), h5)
      else
        mis h5 a0 8 <|
        mcl (f_Pa_fail n0 h5 a0 9) fun v8 h9 =>
        some ((), h9)
    else
      mis h0 a0 8 <|
      mcl (f_Pa_nextByte n0 h0 a0) fun v11 h12 =>
      if v11 = (-1) then
        some ((), h12)
      else
        mnm ((y1 * 256) + (v11.toInt64)) fun v14 =>
        mnm (x3 + 1) fun v15 =>
        (f_Fl_compareCheck_L4 n0 n) h12 a0 v14 v15
noncomputable def f_Fl_compareCheck  (n0 : Nat) (h0 : mH) (a0 : Nat) : Option (Unit × mH) :=
  f_Fl_compareCheck_L4 n0 n0 h0 a0 0 0
set_option maxHeartbeats 4000000 in
set_option maxRecDepth 100000 in
theorem cb_Fl_compareCheck_L4 {X : mX} {ad : Nat → Nat} {ln : Launch} (O : mO X ad R_Fl b_Fl_compareCheck 5 (mR 2 44) ln) (r' : Unit) (h' : mH) (hE : mEnd X ad none none h') (n0 : Nat) : ∀ (n : Nat) (h0 : mH) (a0 : Nat) (y1 : Int64) (x3 : Int32), f_Fl_compareCheck_L4 n0 n h0 a0 y1 x3 = some (r', h') → mAW X ad 0 0 4 [(0, .ref a0), (1, .long y1), (3, .int x3)] [] h0 := by
  intro n
  induction n with
  | zero =>
    intro h0 a0 y1 x3 hf
    rw [f_Fl_compareCheck_L4.eq_1] at hf
    cases hf
  | succ n ih =>
    intro h0 a0 y1 x3 hf
    rw [f_Fl_compareCheck_L4.eq_2] at hf
    refine ax_iload_n O d_Fl_compareCheck_4 rfl 2 rfl ?_
    refine ax_iconst (v := 4) O d_Fl_compareCheck_5 (by decide) ?_
    refine ax_icmp_ge (tgt := 38) O d_Fl_compareCheck_6 (by decide) (fun q1 => ?_) (fun q1 => ?_)
    · rw [if_pos q1] at hf
      refine ax_lload_n O d_Fl_compareCheck_38 rfl 1 rfl ?_
      refine ax_aload_n O d_Fl_compareCheck_39 rfl 0 rfl ?_
      obtain ⟨fr2, r2, cr2, kr2, hf⟩ := mgr_some hf
      refine ax_get O fg_Fl_122 cr2 kr2 d_Fl_compareCheck_40 ?_
      obtain ⟨w3, h5, mh5, hf⟩ := mcl_some hf
      refine ax_callS (As := [.ref r2]) (rest := [.long y1]) O cw_Fl_checkOf st_Fl_checkOf lk_Fl_144 (c_Fl_checkOf mh5) rfl ⟨rfl, rfl⟩ (by decide) (by decide) (Nat.le_of_ble_eq_true rfl) d_Fl_compareCheck_43 ?_
      refine ax_lcmp O d_Fl_compareCheck_46 ?_
      refine ax_if_eq (tgt := 57) O d_Fl_compareCheck_47 (by decide) (fun q6 => ?_) (fun q6 => ?_)
      · rw [if_pos q6] at hf
        exact ax_vretE O hE hf d_Fl_compareCheck_57
      · rw [if_neg q6] at hf
        refine ax_aload_n O d_Fl_compareCheck_50 rfl 0 rfl ?_
        refine ax_bipush (v := 9) O d_Fl_compareCheck_51 (by decide) ?_
        obtain ⟨fh9, ch9, hf⟩ := mis_some hf
        obtain ⟨v8, h9, mh9, hf⟩ := mcl_some hf
        refine ax_callV (As := [.int 9]) (rest := []) O cw_Pa_fail (q := (R_Pa, T_Pa, 7)) rfl rfl in_Pa_fail se_Pa_fail lk_Fl_64 ch9 (c_Pa_fail mh9) rfl ⟨rfl, rfl⟩ (by decide) (by decide) (Nat.le_of_ble_eq_true rfl) d_Fl_compareCheck_53 ?_
        refine ax_pop O d_Fl_compareCheck_56 rfl ?_
        exact ax_vretE O hE hf d_Fl_compareCheck_57
    · rw [if_neg q1] at hf
      refine ax_aload_n O d_Fl_compareCheck_9 rfl 0 rfl ?_
      obtain ⟨fh12, ch12, hf⟩ := mis_some hf
      obtain ⟨v11, h12, mh12, hf⟩ := mcl_some hf
      refine ax_callV (As := []) (rest := []) O cw_Pa_nextByte (q := (R_Pa, T_Pa, 7)) rfl rfl in_Pa_nextByte se_Pa_nextByte lk_Fl_72 ch12 (c_Pa_nextByte mh12) rfl ⟨rfl, rfl⟩ (by decide) (by decide) (Nat.le_of_ble_eq_true rfl) d_Fl_compareCheck_10 ?_
      refine ax_istore (lv' := [(4, .int v11), (0, .ref a0), (1, .long y1), (3, .int x3)]) O d_Fl_compareCheck_13 (by decide) rfl ?_
      refine ax_iload O d_Fl_compareCheck_15 0 rfl ?_
      refine ax_iconst (v := (-1)) O d_Fl_compareCheck_17 (by decide) ?_
      refine ax_icmp_ne (tgt := 22) O d_Fl_compareCheck_18 (by decide) (fun q13 => ?_) (fun q13 => ?_)
      · rw [if_neg q13] at hf
        refine ax_lload_n O d_Fl_compareCheck_22 rfl 2 rfl ?_
        refine ax_ldc2 (v := 256) O d_Fl_compareCheck_23 wd_28 ?_
        refine ax_lmul O d_Fl_compareCheck_26 ?_
        refine ax_iload O d_Fl_compareCheck_27 0 rfl ?_
        refine ax_i2l O d_Fl_compareCheck_29 ?_
        refine ax_ladd O d_Fl_compareCheck_30 ?_
        obtain ⟨v14, ev14, hf⟩ := mnm_some hf
        refine ax_nml ev14 ?_
        refine ax_lstore_n (lv' := [(1, .long v14), (4, .int v11), (0, .ref a0), (3, .int x3)]) O d_Fl_compareCheck_31 rfl (by decide) rfl ?_
        obtain ⟨v15, ev15, hf⟩ := mnm_some hf
        refine ax_iinc (j := 3) (v := v15) (lv' := [(3, .int v15), (1, .long v14), (4, .int v11), (0, .ref a0)]) O d_Fl_compareCheck_32 rfl (by rw [ev15]; rfl) (by decide) rfl ?_
        refine ax_goto (tgt := 4) O d_Fl_compareCheck_35 (by decide) ?_
        refine ax_sub [3, 1, 0] rfl ?_
        exact ih _ _ _ _ hf
      · rw [if_pos q13] at hf
        exact ax_vretE O hE hf d_Fl_compareCheck_21
set_option maxHeartbeats 4000000 in
set_option maxRecDepth 100000 in
theorem cb_Fl_compareCheck {X : mX} {ad : Nat → Nat} {ln : Launch} (O : mO X ad R_Fl b_Fl_compareCheck 5 (mR 2 44) ln) (r' : Unit) (h' : mH) (hE : mEnd X ad none none h') (n0 : Nat) (h0 : mH) (a0 : Nat) (hf : f_Fl_compareCheck n0 h0 a0 = some (r', h')) : mAW X ad 0 0 0 [(0, .ref a0)] [] h0 := by
  unfold f_Fl_compareCheck at hf
  refine ax_lconst (v := 0) O d_Fl_compareCheck_0 (by decide) ?_
  refine ax_lstore_n (lv' := [(1, .long 0), (0, .ref a0)]) O d_Fl_compareCheck_1 rfl (by decide) rfl ?_
  refine ax_iconst (v := 0) O d_Fl_compareCheck_2 (by decide) ?_
  refine ax_istore_n (lv' := [(3, .int 0), (1, .long 0), (0, .ref a0)]) O d_Fl_compareCheck_3 rfl (by decide) rfl ?_
  refine ax_sub [2, 1, 0] rfl ?_
  exact cb_Fl_compareCheck_L4 O _ _ hE n0 n0 _ _ _ _ hf
theorem c_Fl_compareCheck {ln : Launch} {n0 : Nat} {h0 h' : mH} {a0 : Nat} {r' : Unit} (hf : f_Fl_compareCheck n0 h0 a0 = some (r', h')) : mMet ln y_Fl_compareCheck b_Fl_compareCheck 5 none (mR 2 44) [.ref a0] h0 none h' := mMet_of (by decide +kernel) (Nat.le_of_ble_eq_true rfl) (fun X ad O hE => cb_Fl_compareCheck O r' h' hE n0 h0 a0 hf)
/-! ===== StreamFilters$Flate.unpack(LStreamFilters$Pass;I)V ===== -/
theorem d_Fl_unpack_0 : decode b_Fl_unpack 0 = .ok (.aload_n 1, 1) := by decide +kernel
theorem d_Fl_unpack_1 : decode b_Fl_unpack 1 = .ok (.invokestatic 43, 3) := by decide +kernel
theorem d_Fl_unpack_4 : decode b_Fl_unpack 4 = .ok (.istore_n 3, 1) := by decide +kernel
theorem d_Fl_unpack_5 : decode b_Fl_unpack 5 = .ok (.iconst 0, 1) := by decide +kernel
theorem d_Fl_unpack_6 : decode b_Fl_unpack 6 = .ok (.istore 4, 2) := by decide +kernel
theorem d_Fl_unpack_8 : decode b_Fl_unpack 8 = .ok (.iconst 0, 1) := by decide +kernel
theorem d_Fl_unpack_9 : decode b_Fl_unpack 9 = .ok (.istore 5, 2) := by decide +kernel
theorem d_Fl_unpack_11 : decode b_Fl_unpack 11 = .ok (.iload 5, 2) := by decide +kernel
theorem d_Fl_unpack_13 : decode b_Fl_unpack 13 = .ok (.ldc 47, 2) := by decide +kernel
theorem d_Fl_unpack_15 : decode b_Fl_unpack 15 = .ok (.if_icmp .ge 141, 3) := by decide +kernel
theorem d_Fl_unpack_18 : decode b_Fl_unpack 18 = .ok (.iload_n 3, 1) := by decide +kernel
theorem d_Fl_unpack_19 : decode b_Fl_unpack 19 = .ok (.ifCond .eq 137, 3) := by decide +kernel
theorem d_Fl_unpack_22 : decode b_Fl_unpack 22 = .ok (.iload 4, 2) := by decide +kernel
theorem d_Fl_unpack_24 : decode b_Fl_unpack 24 = .ok (.ifCond .ne 132, 3) := by decide +kernel
theorem d_Fl_unpack_27 : decode b_Fl_unpack 27 = .ok (.aload_n 1, 1) := by decide +kernel
theorem d_Fl_unpack_28 : decode b_Fl_unpack 28 = .ok (.iconst 3, 1) := by decide +kernel
theorem d_Fl_unpack_29 : decode b_Fl_unpack 29 = .ok (.invokevirtual 48, 3) := by decide +kernel
theorem d_Fl_unpack_32 : decode b_Fl_unpack 32 = .ok (.istore 6, 2) := by decide +kernel
theorem d_Fl_unpack_34 : decode b_Fl_unpack 34 = .ok (.iload 6, 2) := by decide +kernel
theorem d_Fl_unpack_36 : decode b_Fl_unpack 36 = .ok (.iconst (-1), 1) := by decide +kernel
theorem d_Fl_unpack_37 : decode b_Fl_unpack 37 = .ok (.if_icmp .ne 4, 3) := by decide +kernel
theorem d_Fl_unpack_40 : decode b_Fl_unpack 40 = .ok (.return_, 1) := by decide +kernel
theorem d_Fl_unpack_41 : decode b_Fl_unpack 41 = .ok (.iload 6, 2) := by decide +kernel
theorem d_Fl_unpack_43 : decode b_Fl_unpack 43 = .ok (.iconst 1, 1) := by decide +kernel
theorem d_Fl_unpack_44 : decode b_Fl_unpack 44 = .ok (.iand, 1) := by decide +kernel
theorem d_Fl_unpack_45 : decode b_Fl_unpack 45 = .ok (.iconst 1, 1) := by decide +kernel
theorem d_Fl_unpack_46 : decode b_Fl_unpack 46 = .ok (.if_icmp .ne 7, 3) := by decide +kernel
theorem d_Fl_unpack_49 : decode b_Fl_unpack 49 = .ok (.iconst 1, 1) := by decide +kernel
theorem d_Fl_unpack_50 : decode b_Fl_unpack 50 = .ok (.goto 4, 3) := by decide +kernel
theorem d_Fl_unpack_53 : decode b_Fl_unpack 53 = .ok (.iconst 0, 1) := by decide +kernel
theorem d_Fl_unpack_54 : decode b_Fl_unpack 54 = .ok (.istore 4, 2) := by decide +kernel
theorem d_Fl_unpack_56 : decode b_Fl_unpack 56 = .ok (.iload 6, 2) := by decide +kernel
theorem d_Fl_unpack_58 : decode b_Fl_unpack 58 = .ok (.iconst 1, 1) := by decide +kernel
theorem d_Fl_unpack_59 : decode b_Fl_unpack 59 = .ok (.ishr, 1) := by decide +kernel
theorem d_Fl_unpack_60 : decode b_Fl_unpack 60 = .ok (.tableswitch 84 0 2 #[28, 36, 52], 28) := by decide +kernel
theorem d_Fl_unpack_88 : decode b_Fl_unpack 88 = .ok (.aload_n 1, 1) := by decide +kernel
theorem d_Fl_unpack_89 : decode b_Fl_unpack 89 = .ok (.invokestatic 54, 3) := by decide +kernel
theorem d_Fl_unpack_92 : decode b_Fl_unpack 92 = .ok (.istore_n 3, 1) := by decide +kernel
theorem d_Fl_unpack_93 : decode b_Fl_unpack 93 = .ok (.goto 57, 3) := by decide +kernel
theorem d_Fl_unpack_96 : decode b_Fl_unpack 96 = .ok (.aload_n 1, 1) := by decide +kernel
theorem d_Fl_unpack_97 : decode b_Fl_unpack 97 = .ok (.aload_n 0, 1) := by decide +kernel
theorem d_Fl_unpack_98 : decode b_Fl_unpack 98 = .ok (.getfield 16, 3) := by decide +kernel
theorem d_Fl_unpack_101 : decode b_Fl_unpack 101 = .ok (.aload_n 0, 1) := by decide +kernel
theorem d_Fl_unpack_102 : decode b_Fl_unpack 102 = .ok (.getfield 20, 3) := by decide +kernel
theorem d_Fl_unpack_105 : decode b_Fl_unpack 105 = .ok (.invokestatic 57, 3) := by decide +kernel
theorem d_Fl_unpack_108 : decode b_Fl_unpack 108 = .ok (.istore_n 3, 1) := by decide +kernel
theorem d_Fl_unpack_109 : decode b_Fl_unpack 109 = .ok (.goto 41, 3) := by decide +kernel
theorem d_Fl_unpack_112 : decode b_Fl_unpack 112 = .ok (.aload_n 0, 1) := by decide +kernel
theorem d_Fl_unpack_113 : decode b_Fl_unpack 113 = .ok (.aload_n 1, 1) := by decide +kernel
theorem d_Fl_unpack_114 : decode b_Fl_unpack 114 = .ok (.invokevirtual 61, 3) := by decide +kernel
theorem d_Fl_unpack_117 : decode b_Fl_unpack 117 = .ok (.ifCond .eq 22, 3) := by decide +kernel
theorem d_Fl_unpack_120 : decode b_Fl_unpack 120 = .ok (.aload_n 1, 1) := by decide +kernel
theorem d_Fl_unpack_121 : decode b_Fl_unpack 121 = .ok (.aload_n 0, 1) := by decide +kernel
theorem d_Fl_unpack_122 : decode b_Fl_unpack 122 = .ok (.getfield 23, 3) := by decide +kernel
theorem d_Fl_unpack_125 : decode b_Fl_unpack 125 = .ok (.aload_n 0, 1) := by decide +kernel
theorem d_Fl_unpack_126 : decode b_Fl_unpack 126 = .ok (.getfield 26, 3) := by decide +kernel
theorem d_Fl_unpack_129 : decode b_Fl_unpack 129 = .ok (.invokestatic 57, 3) := by decide +kernel
theorem d_Fl_unpack_132 : decode b_Fl_unpack 132 = .ok (.ifCond .eq 7, 3) := by decide +kernel
theorem d_Fl_unpack_135 : decode b_Fl_unpack 135 = .ok (.iconst 1, 1) := by decide +kernel
theorem d_Fl_unpack_136 : decode b_Fl_unpack 136 = .ok (.goto 4, 3) := by decide +kernel
theorem d_Fl_unpack_139 : decode b_Fl_unpack 139 = .ok (.iconst 0, 1) := by decide +kernel
theorem d_Fl_unpack_140 : decode b_Fl_unpack 140 = .ok (.istore_n 3, 1) := by decide +kernel
theorem d_Fl_unpack_141 : decode b_Fl_unpack 141 = .ok (.goto 9, 3) := by decide +kernel
theorem d_Fl_unpack_144 : decode b_Fl_unpack 144 = .ok (.aload_n 1, 1) := by decide +kernel
theorem d_Fl_unpack_145 : decode b_Fl_unpack 145 = .ok (.iconst 4, 1) := by decide +kernel
theorem d_Fl_unpack_146 : decode b_Fl_unpack 146 = .ok (.invokevirtual 64, 3) := by decide +kernel
theorem d_Fl_unpack_149 : decode b_Fl_unpack 149 = .ok (.istore_n 3, 1) := by decide +kernel
theorem d_Fl_unpack_150 : decode b_Fl_unpack 150 = .ok (.iinc 5 1, 3) := by decide +kernel
theorem d_Fl_unpack_153 : decode b_Fl_unpack 153 = .ok (.goto (-142), 3) := by decide +kernel
theorem d_Fl_unpack_156 : decode b_Fl_unpack 156 = .ok (.iload_n 3, 1) := by decide +kernel
theorem d_Fl_unpack_157 : decode b_Fl_unpack 157 = .ok (.ifCond .eq 7, 3) := by decide +kernel
theorem d_Fl_unpack_160 : decode b_Fl_unpack 160 = .ok (.aload_n 1, 1) := by decide +kernel
theorem d_Fl_unpack_161 : decode b_Fl_unpack 161 = .ok (.invokestatic 68, 3) := by decide +kernel
theorem d_Fl_unpack_164 : decode b_Fl_unpack 164 = .ok (.return_, 1) := by decide +kernel
noncomputable def f_Fl_unpack_B156  (n0 : Nat) (h0 : mH) (a1 : Nat) (x3 : Int32) : Option (Unit × mH) :=
  if x3 = 0 then
    some ((), h0)
  else
    mcl (f_Fl_compareCheck n0 h0 a1) fun _ h8 =>
    some ((), h8)
noncomputable def f_Fl_unpack_B139 (K11 : mH → Nat → Nat → Int32 → Int32 → Int32 → Option (Unit × mH)) (n0 : Nat) (h0 : mH) (a0 : Nat) (a1 : Nat) (x4 : Int32) (x5 : Int32) : Option (Unit × mH) :=
  mnm (x5 + 1) fun v35 =>
  K11 h0 a0 a1 0 x4 v35
noncomputable def f_Fl_unpack_B54 (K11 : mH → Nat → Nat → Int32 → Int32 → Int32 → Option (Unit × mH)) (n0 : Nat) (h0 : mH) (a0 : Nat) (a1 : Nat) (x5 : Int32) (x6 : Int32) (p0 : Int32) : Option (Unit × mH) :=
  mnm (x6 >>> (1 &&& 31)) fun v17 =>
  if v17 = 0 then
    mcl (f_Fl_unpackStored n0 h0 a1) fun v20 h21 =>
    mnm (x5 + 1) fun v22 =>
    K11 h21 a0 a1 v20 p0 v22
  else
    if v17 = 1 then
      mgr h0 a0 3 0 fun r24 =>
      mgr h0 a0 3 1 fun r25 =>
      mcl (f_Fl_unpackCodes n0 h0 a1 r24 r25) fun v27 h28 =>
      mnm (x5 + 1) fun v29 =>
      K11 h28 a0 a1 v27 p0 v29
    else
      if v17 = 2 then
        mis h0 a0 3 <|
        mcl (f_Fl_readCodes n0 h0 a0 a1) fun v32 h33 =>
        if v32 = 0 then
          f_Fl_unpack_B139 K11 n0 h33 a0 a1 p0 x5
        else
          mgr h33 a0 3 2 fun r36 =>
          mgr h33 a0 3 3 fun r37 =>
          mcl (f_Fl_unpackCodes n0 h33 a1 r36 r37) fun v39 h40 =>
          if v39 = 0 then
            f_Fl_unpack_B139 K11 n0 h40 a0 a1 p0 x5
          else
            mnm (x5 + 1) fun v42 =>
            K11 h40 a0 a1 1 p0 v42
      else
        mis h0 a1 8 <|
        mcl (f_Pa_fail n0 h0 a1 4) fun v44 h45 =>
        mnm (x5 + 1) fun v46 =>
        K11 h45 a0 a1 v44 p0 v46
noncomputable def f_Fl_unpack_L11  (n0 : Nat) : Nat → mH → Nat → Nat → Int32 → Int32 → Int32 → Option (Unit × mH)
  | 0, _, _, _, _, _, _ => none
  | n + 1, h0, a0, a1, x3, x4, x5 =>
    if 1000000 ≤ x5 then
      f_Fl_unpack_B156 n0 h0 a1 x3
    else
      if x3 = 0 then
        f_Fl_unpack_B156 n0 h0 a1 x3
      else
        if x4 = 0 then
          mis h0 a1 8 <|
          mcl (f_Pa_lowNumber n0 h0 a1 3) fun v13 h14 =>
          if v13 = (-1) then
            some ((), h14)
          else
            if (v13 &&& 1) = 1 then
              f_Fl_unpack_B54 (f_Fl_unpack_L11 n0 n) n0 h14 a0 a1 x5 v13 1
            else
              f_Fl_unpack_B54 (f_Fl_unpack_L11 n0 n) n0 h14 a0 a1 x5 v13 0
        else
          f_Fl_unpack_B156 n0 h0 a1 x3
noncomputable def f_Fl_unpack  (n0 : Nat) (h0 : mH) (a0 : Nat) (a1 : Nat) (x2 : Int32) : Option (Unit × mH) :=
  mcl (f_Fl_readHeader n0 h0 a1) fun v2 h3 =>
  f_Fl_unpack_L11 n0 n0 h3 a0 a1 v2 0 0
set_option maxHeartbeats 4000000 in
set_option maxRecDepth 100000 in
theorem cb_Fl_unpack_B156 {X : mX} {ad : Nat → Nat} {ln : Launch} (O : mO X ad R_Fl b_Fl_unpack 7 (mR 6 142) ln) (r' : Unit) (h' : mH) (hE : mEnd X ad none none h') (n0 : Nat) (h0 : mH) (a1 : Nat) (x3 : Int32) (hf : f_Fl_unpack_B156 n0 h0 a1 x3 = some (r', h')) : mAW X ad 0 0 156 [(1, .ref a1), (3, .int x3)] [] h0 := by
  unfold f_Fl_unpack_B156 at hf
  refine ax_iload_n O d_Fl_unpack_156 rfl 1 rfl ?_
  refine ax_if_eq (tgt := 164) O d_Fl_unpack_157 (by decide) (fun q5 => ?_) (fun q5 => ?_)
  · rw [if_pos q5] at hf
    exact ax_vretE O hE hf d_Fl_unpack_164
  · rw [if_neg q5] at hf
    refine ax_aload_n O d_Fl_unpack_160 rfl 0 rfl ?_
    obtain ⟨u9, h8, mh8, hf⟩ := mcl_some hf
    refine ax_callS (As := [.ref a1]) (rest := []) O cw_Fl_compareCheck st_Fl_compareCheck lk_Fl_68 (c_Fl_compareCheck mh8) rfl ⟨rfl, rfl⟩ (by decide) (by decide) (Nat.le_of_ble_eq_true rfl) d_Fl_unpack_161 ?_
    exact ax_vretE O hE hf d_Fl_unpack_164
set_option maxHeartbeats 4000000 in
set_option maxRecDepth 100000 in
theorem cb_Fl_unpack_B139 {X : mX} {ad : Nat → Nat} {ln : Launch} (O : mO X ad R_Fl b_Fl_unpack 7 (mR 6 142) ln) (K11 : mH → Nat → Nat → Int32 → Int32 → Int32 → Option (Unit × mH)) (r' : Unit) (h' : mH) (hE : mEnd X ad none none h') (hK11 : ∀ (h : mH) (a0 : Nat) (a1 : Nat) (x3 : Int32) (x4 : Int32) (x5 : Int32), K11 h a0 a1 x3 x4 x5 = some (r', h') → mAW X ad 0 0 11 [(0, .ref a0), (1, .ref a1), (3, .int x3), (4, .int x4), (5, .int x5)] [] h) (n0 : Nat) (h0 : mH) (a0 : Nat) (a1 : Nat) (x4 : Int32) (x5 : Int32) (hf : f_Fl_unpack_B139 K11 n0 h0 a0 a1 x4 x5 = some (r', h')) : mAW X ad 0 0 139 [(0, .ref a0), (1, .ref a1), (4, .int x4), (5, .int x5)] [] h0 := by
  unfold f_Fl_unpack_B139 at hf
  refine ax_iconst (v := 0) O d_Fl_unpack_139 (by decide) ?_
  refine ax_istore_n (lv' := [(3, .int 0), (0, .ref a0), (1, .ref a1), (4, .int x4), (5, .int x5)]) O d_Fl_unpack_140 rfl (by decide) rfl ?_
  refine ax_goto (tgt := 150) O d_Fl_unpack_141 (by decide) ?_
  obtain ⟨v35, ev35, hf⟩ := mnm_some hf
  refine ax_iinc (j := 4) (v := v35) (lv' := [(5, .int v35), (3, .int 0), (0, .ref a0), (1, .ref a1), (4, .int x4)]) O d_Fl_unpack_150 rfl (by rw [ev35]; rfl) (by decide) rfl ?_
  refine ax_goto (tgt := 11) O d_Fl_unpack_153 (by decide) ?_
  refine ax_sub [2, 3, 1, 4, 0] rfl ?_
  exact hK11 _ _ _ _ _ _ hf
set_option maxHeartbeats 4000000 in
set_option maxRecDepth 100000 in
theorem cb_Fl_unpack_B54 {X : mX} {ad : Nat → Nat} {ln : Launch} (O : mO X ad R_Fl b_Fl_unpack 7 (mR 6 142) ln) (K11 : mH → Nat → Nat → Int32 → Int32 → Int32 → Option (Unit × mH)) (r' : Unit) (h' : mH) (hE : mEnd X ad none none h') (hK11 : ∀ (h : mH) (a0 : Nat) (a1 : Nat) (x3 : Int32) (x4 : Int32) (x5 : Int32), K11 h a0 a1 x3 x4 x5 = some (r', h') → mAW X ad 0 0 11 [(0, .ref a0), (1, .ref a1), (3, .int x3), (4, .int x4), (5, .int x5)] [] h) (n0 : Nat) (h0 : mH) (a0 : Nat) (a1 : Nat) (x5 : Int32) (x6 : Int32) (p0 : Int32) (hf : f_Fl_unpack_B54 K11 n0 h0 a0 a1 x5 x6 p0 = some (r', h')) : mAW X ad 0 0 54 [(0, .ref a0), (1, .ref a1), (5, .int x5), (6, .int x6)] [.int p0] h0 := by
  unfold f_Fl_unpack_B54 at hf
  refine ax_istore (lv' := [(4, .int p0), (0, .ref a0), (1, .ref a1), (5, .int x5), (6, .int x6)]) O d_Fl_unpack_54 (by decide) rfl ?_
  refine ax_iload O d_Fl_unpack_56 4 rfl ?_
  refine ax_iconst (v := 1) O d_Fl_unpack_58 (by decide) ?_
  refine ax_ishr O d_Fl_unpack_59 ?_
  obtain ⟨v17, ev17, hf⟩ := mnm_some hf
  refine ax_nmi ev17 ?_
  by_cases q18 : v17 = 0
  · rw [if_pos q18] at hf
    refine ax_tableIn (tgt := 88) O d_Fl_unpack_60 (by rw [q18]; decide) (by rw [q18]; decide) (by rw [q18]; rfl) (by decide) ?_
    refine ax_aload_n O d_Fl_unpack_88 rfl 2 rfl ?_
    obtain ⟨v20, h21, mh21, hf⟩ := mcl_some hf
    refine ax_callS (As := [.ref a1]) (rest := []) O cw_Fl_unpackStored st_Fl_unpackStored lk_Fl_54 (c_Fl_unpackStored mh21) rfl ⟨rfl, rfl⟩ (by decide) (by decide) (Nat.le_of_ble_eq_true rfl) d_Fl_unpack_89 ?_
    refine ax_istore_n (lv' := [(3, .int v20), (4, .int p0), (0, .ref a0), (1, .ref a1), (5, .int x5), (6, .int x6)]) O d_Fl_unpack_92 rfl (by decide) rfl ?_
    refine ax_goto (tgt := 150) O d_Fl_unpack_93 (by decide) ?_
    obtain ⟨v22, ev22, hf⟩ := mnm_some hf
    refine ax_iinc (j := 4) (v := v22) (lv' := [(5, .int v22), (3, .int v20), (4, .int p0), (0, .ref a0), (1, .ref a1), (6, .int x6)]) O d_Fl_unpack_150 rfl (by rw [ev22]; rfl) (by decide) rfl ?_
    refine ax_goto (tgt := 11) O d_Fl_unpack_153 (by decide) ?_
    refine ax_sub [3, 4, 1, 2, 0] rfl ?_
    exact hK11 _ _ _ _ _ _ hf
  · rw [if_neg q18] at hf
    by_cases q23 : v17 = 1
    · rw [if_pos q23] at hf
      refine ax_tableIn (tgt := 96) O d_Fl_unpack_60 (by rw [q23]; decide) (by rw [q23]; decide) (by rw [q23]; rfl) (by decide) ?_
      refine ax_aload_n O d_Fl_unpack_96 rfl 2 rfl ?_
      refine ax_aload_n O d_Fl_unpack_97 rfl 1 rfl ?_
      obtain ⟨fr24, r24, cr24, kr24, hf⟩ := mgr_some hf
      refine ax_get O fg_Fl_16 cr24 kr24 d_Fl_unpack_98 ?_
      refine ax_aload_n O d_Fl_unpack_101 rfl 1 rfl ?_
      obtain ⟨fr25, r25, cr25, kr25, hf⟩ := mgr_some hf
      refine ax_get O fg_Fl_20 cr25 kr25 d_Fl_unpack_102 ?_
      obtain ⟨v27, h28, mh28, hf⟩ := mcl_some hf
      refine ax_callS (As := [.ref a1, .ref r24, .ref r25]) (rest := []) O cw_Fl_unpackCodes st_Fl_unpackCodes lk_Fl_57 (c_Fl_unpackCodes mh28) rfl ⟨rfl, rfl⟩ (by decide) (by decide) (Nat.le_of_ble_eq_true rfl) d_Fl_unpack_105 ?_
      refine ax_istore_n (lv' := [(3, .int v27), (4, .int p0), (0, .ref a0), (1, .ref a1), (5, .int x5), (6, .int x6)]) O d_Fl_unpack_108 rfl (by decide) rfl ?_
      refine ax_goto (tgt := 150) O d_Fl_unpack_109 (by decide) ?_
      obtain ⟨v29, ev29, hf⟩ := mnm_some hf
      refine ax_iinc (j := 4) (v := v29) (lv' := [(5, .int v29), (3, .int v27), (4, .int p0), (0, .ref a0), (1, .ref a1), (6, .int x6)]) O d_Fl_unpack_150 rfl (by rw [ev29]; rfl) (by decide) rfl ?_
      refine ax_goto (tgt := 11) O d_Fl_unpack_153 (by decide) ?_
      refine ax_sub [3, 4, 1, 2, 0] rfl ?_
      exact hK11 _ _ _ _ _ _ hf
    · rw [if_neg q23] at hf
      by_cases q30 : v17 = 2
      · rw [if_pos q30] at hf
        refine ax_tableIn (tgt := 112) O d_Fl_unpack_60 (by rw [q30]; decide) (by rw [q30]; decide) (by rw [q30]; rfl) (by decide) ?_
        refine ax_aload_n O d_Fl_unpack_112 rfl 1 rfl ?_
        refine ax_aload_n O d_Fl_unpack_113 rfl 2 rfl ?_
        obtain ⟨fh33, ch33, hf⟩ := mis_some hf
        obtain ⟨v32, h33, mh33, hf⟩ := mcl_some hf
        refine ax_callV (As := [.ref a1]) (rest := []) O cw_Fl_readCodes (q := (R_Fl, T_Fl, 6)) rfl rfl in_Fl_readCodes se_Fl_readCodes lk_Fl_61 ch33 (c_Fl_readCodes mh33) rfl ⟨rfl, rfl⟩ (by decide) (by decide) (Nat.le_of_ble_eq_true rfl) d_Fl_unpack_114 ?_
        refine ax_if_eq (tgt := 139) O d_Fl_unpack_117 (by decide) (fun q34 => ?_) (fun q34 => ?_)
        · rw [if_pos q34] at hf
          refine ax_sub [1, 2, 0, 3] rfl ?_
          exact cb_Fl_unpack_B139 O K11 _ _ hE hK11 n0 _ _ _ _ _ hf
        · rw [if_neg q34] at hf
          refine ax_aload_n O d_Fl_unpack_120 rfl 2 rfl ?_
          refine ax_aload_n O d_Fl_unpack_121 rfl 1 rfl ?_
          obtain ⟨fr36, r36, cr36, kr36, hf⟩ := mgr_some hf
          refine ax_get O fg_Fl_23 cr36 kr36 d_Fl_unpack_122 ?_
          refine ax_aload_n O d_Fl_unpack_125 rfl 1 rfl ?_
          obtain ⟨fr37, r37, cr37, kr37, hf⟩ := mgr_some hf
          refine ax_get O fg_Fl_26 cr37 kr37 d_Fl_unpack_126 ?_
          obtain ⟨v39, h40, mh40, hf⟩ := mcl_some hf
          refine ax_callS (As := [.ref a1, .ref r36, .ref r37]) (rest := []) O cw_Fl_unpackCodes st_Fl_unpackCodes lk_Fl_57 (c_Fl_unpackCodes mh40) rfl ⟨rfl, rfl⟩ (by decide) (by decide) (Nat.le_of_ble_eq_true rfl) d_Fl_unpack_129 ?_
          refine ax_if_eq (tgt := 139) O d_Fl_unpack_132 (by decide) (fun q41 => ?_) (fun q41 => ?_)
          · rw [if_pos q41] at hf
            refine ax_sub [1, 2, 0, 3] rfl ?_
            exact cb_Fl_unpack_B139 O K11 _ _ hE hK11 n0 _ _ _ _ _ hf
          · rw [if_neg q41] at hf
            refine ax_iconst (v := 1) O d_Fl_unpack_135 (by decide) ?_
            refine ax_goto (tgt := 140) O d_Fl_unpack_136 (by decide) ?_
            refine ax_istore_n (lv' := [(3, .int 1), (4, .int p0), (0, .ref a0), (1, .ref a1), (5, .int x5), (6, .int x6)]) O d_Fl_unpack_140 rfl (by decide) rfl ?_
            refine ax_goto (tgt := 150) O d_Fl_unpack_141 (by decide) ?_
            obtain ⟨v42, ev42, hf⟩ := mnm_some hf
            refine ax_iinc (j := 4) (v := v42) (lv' := [(5, .int v42), (3, .int 1), (4, .int p0), (0, .ref a0), (1, .ref a1), (6, .int x6)]) O d_Fl_unpack_150 rfl (by rw [ev42]; rfl) (by decide) rfl ?_
            refine ax_goto (tgt := 11) O d_Fl_unpack_153 (by decide) ?_
            refine ax_sub [3, 4, 1, 2, 0] rfl ?_
            exact hK11 _ _ _ _ _ _ hf
      · rw [if_neg q30] at hf
        refine ax_tableOut (tgt := 144) O d_Fl_unpack_60 (mTi (fun z h1 h2 => by rcases (show z = 0 ∨ z = 1 ∨ z = 2 by omega) with rfl | rfl | rfl; exact lv_neT q18 (by decide); exact lv_neT q23 (by decide); exact lv_neT q30 (by decide))) (by decide) ?_
        refine ax_aload_n O d_Fl_unpack_144 rfl 2 rfl ?_
        refine ax_iconst (v := 4) O d_Fl_unpack_145 (by decide) ?_
        obtain ⟨fh45, ch45, hf⟩ := mis_some hf
        obtain ⟨v44, h45, mh45, hf⟩ := mcl_some hf
        refine ax_callV (As := [.int 4]) (rest := []) O cw_Pa_fail (q := (R_Pa, T_Pa, 7)) rfl rfl in_Pa_fail se_Pa_fail lk_Fl_64 ch45 (c_Pa_fail mh45) rfl ⟨rfl, rfl⟩ (by decide) (by decide) (Nat.le_of_ble_eq_true rfl) d_Fl_unpack_146 ?_
        refine ax_istore_n (lv' := [(3, .int v44), (4, .int p0), (0, .ref a0), (1, .ref a1), (5, .int x5), (6, .int x6)]) O d_Fl_unpack_149 rfl (by decide) rfl ?_
        obtain ⟨v46, ev46, hf⟩ := mnm_some hf
        refine ax_iinc (j := 4) (v := v46) (lv' := [(5, .int v46), (3, .int v44), (4, .int p0), (0, .ref a0), (1, .ref a1), (6, .int x6)]) O d_Fl_unpack_150 rfl (by rw [ev46]; rfl) (by decide) rfl ?_
        refine ax_goto (tgt := 11) O d_Fl_unpack_153 (by decide) ?_
        refine ax_sub [3, 4, 1, 2, 0] rfl ?_
        exact hK11 _ _ _ _ _ _ hf
set_option maxHeartbeats 4000000 in
set_option maxRecDepth 100000 in
theorem cb_Fl_unpack_L11 {X : mX} {ad : Nat → Nat} {ln : Launch} (O : mO X ad R_Fl b_Fl_unpack 7 (mR 6 142) ln) (r' : Unit) (h' : mH) (hE : mEnd X ad none none h') (n0 : Nat) : ∀ (n : Nat) (h0 : mH) (a0 : Nat) (a1 : Nat) (x3 : Int32) (x4 : Int32) (x5 : Int32), f_Fl_unpack_L11 n0 n h0 a0 a1 x3 x4 x5 = some (r', h') → mAW X ad 0 0 11 [(0, .ref a0), (1, .ref a1), (3, .int x3), (4, .int x4), (5, .int x5)] [] h0 := by
  intro n
  induction n with
  | zero =>
    intro h0 a0 a1 x3 x4 x5 hf
    rw [f_Fl_unpack_L11.eq_1] at hf
    cases hf
  | succ n ih =>
    intro h0 a0 a1 x3 x4 x5 hf
    rw [f_Fl_unpack_L11.eq_2] at hf
    refine ax_iload O d_Fl_unpack_11 4 rfl ?_
    refine ax_ldc (v := 1000000) O d_Fl_unpack_13 wd_24 ?_
    refine ax_icmp_ge (tgt := 156) O d_Fl_unpack_15 (by decide) (fun q4 => ?_) (fun q4 => ?_)
    · rw [if_pos q4] at hf
      refine ax_sub [1, 2] rfl ?_
      exact cb_Fl_unpack_B156 O _ _ hE n0 _ _ _ hf
    · rw [if_neg q4] at hf
      refine ax_iload_n O d_Fl_unpack_18 rfl 2 rfl ?_
      refine ax_if_eq (tgt := 156) O d_Fl_unpack_19 (by decide) (fun q10 => ?_) (fun q10 => ?_)
      · rw [if_pos q10] at hf
        refine ax_sub [1, 2] rfl ?_
        exact cb_Fl_unpack_B156 O _ _ hE n0 _ _ _ hf
      · rw [if_neg q10] at hf
        refine ax_iload O d_Fl_unpack_22 3 rfl ?_
        refine ax_if_ne (tgt := 156) O d_Fl_unpack_24 (by decide) (fun q11 => ?_) (fun q11 => ?_)
        · rw [if_neg q11] at hf
          refine ax_sub [1, 2] rfl ?_
          exact cb_Fl_unpack_B156 O _ _ hE n0 _ _ _ hf
        · rw [if_pos q11] at hf
          refine ax_aload_n O d_Fl_unpack_27 rfl 1 rfl ?_
          refine ax_iconst (v := 3) O d_Fl_unpack_28 (by decide) ?_
          obtain ⟨fh14, ch14, hf⟩ := mis_some hf
          obtain ⟨v13, h14, mh14, hf⟩ := mcl_some hf
          refine ax_callV (As := [.int 3]) (rest := []) O cw_Pa_lowNumber (q := (R_Pa, T_Pa, 7)) rfl rfl in_Pa_lowNumber se_Pa_lowNumber lk_Fl_48 ch14 (c_Pa_lowNumber mh14) rfl ⟨rfl, rfl⟩ (by decide) (by decide) (Nat.le_of_ble_eq_true rfl) d_Fl_unpack_29 ?_
          refine ax_istore (lv' := [(6, .int v13), (0, .ref a0), (1, .ref a1), (3, .int x3), (4, .int x4), (5, .int x5)]) O d_Fl_unpack_32 (by decide) rfl ?_
          refine ax_iload O d_Fl_unpack_34 0 rfl ?_
          refine ax_iconst (v := (-1)) O d_Fl_unpack_36 (by decide) ?_
          refine ax_icmp_ne (tgt := 41) O d_Fl_unpack_37 (by decide) (fun q15 => ?_) (fun q15 => ?_)
          · rw [if_neg q15] at hf
            refine ax_iload O d_Fl_unpack_41 0 rfl ?_
            refine ax_iconst (v := 1) O d_Fl_unpack_43 (by decide) ?_
            refine ax_iand O d_Fl_unpack_44 ?_
            refine ax_iconst (v := 1) O d_Fl_unpack_45 (by decide) ?_
            refine ax_icmp_ne (tgt := 53) O d_Fl_unpack_46 (by decide) (fun q16 => ?_) (fun q16 => ?_)
            · rw [if_neg q16] at hf
              refine ax_iconst (v := 0) O d_Fl_unpack_53 (by decide) ?_
              refine ax_sub [1, 2, 5, 0] rfl ?_
              exact cb_Fl_unpack_B54 O (f_Fl_unpack_L11 n0 n) _ _ hE ih n0 _ _ _ _ _ _ hf
            · rw [if_pos q16] at hf
              refine ax_iconst (v := 1) O d_Fl_unpack_49 (by decide) ?_
              refine ax_goto (tgt := 54) O d_Fl_unpack_50 (by decide) ?_
              refine ax_sub [1, 2, 5, 0] rfl ?_
              exact cb_Fl_unpack_B54 O (f_Fl_unpack_L11 n0 n) _ _ hE ih n0 _ _ _ _ _ _ hf
          · rw [if_pos q15] at hf
            exact ax_vretE O hE hf d_Fl_unpack_40
set_option maxHeartbeats 4000000 in
set_option maxRecDepth 100000 in
theorem cb_Fl_unpack {X : mX} {ad : Nat → Nat} {ln : Launch} (O : mO X ad R_Fl b_Fl_unpack 7 (mR 6 142) ln) (r' : Unit) (h' : mH) (hE : mEnd X ad none none h') (n0 : Nat) (h0 : mH) (a0 : Nat) (a1 : Nat) (x2 : Int32) (hf : f_Fl_unpack n0 h0 a0 a1 x2 = some (r', h')) : mAW X ad 0 0 0 [(0, .ref a0), (1, .ref a1), (2, .int x2)] [] h0 := by
  unfold f_Fl_unpack at hf
  refine ax_aload_n O d_Fl_unpack_0 rfl 1 rfl ?_
  obtain ⟨v2, h3, mh3, hf⟩ := mcl_some hf
  refine ax_callS (As := [.ref a1]) (rest := []) O cw_Fl_readHeader st_Fl_readHeader lk_Fl_43 (c_Fl_readHeader mh3) rfl ⟨rfl, rfl⟩ (by decide) (by decide) (Nat.le_of_ble_eq_true rfl) d_Fl_unpack_1 ?_
  refine ax_istore_n (lv' := [(3, .int v2), (0, .ref a0), (1, .ref a1), (2, .int x2)]) O d_Fl_unpack_4 rfl (by decide) rfl ?_
  refine ax_iconst (v := 0) O d_Fl_unpack_5 (by decide) ?_
  refine ax_istore (lv' := [(4, .int 0), (3, .int v2), (0, .ref a0), (1, .ref a1), (2, .int x2)]) O d_Fl_unpack_6 (by decide) rfl ?_
  refine ax_iconst (v := 0) O d_Fl_unpack_8 (by decide) ?_
  refine ax_istore (lv' := [(5, .int 0), (4, .int 0), (3, .int v2), (0, .ref a0), (1, .ref a1), (2, .int x2)]) O d_Fl_unpack_9 (by decide) rfl ?_
  refine ax_sub [3, 4, 2, 1, 0] rfl ?_
  exact cb_Fl_unpack_L11 O _ _ hE n0 n0 _ _ _ _ _ _ hf
theorem c_Fl_unpack {ln : Launch} {n0 : Nat} {h0 h' : mH} {a0 : Nat} {a1 : Nat} {x2 : Int32} {r' : Unit} (hf : f_Fl_unpack n0 h0 a0 a1 x2 = some (r', h')) : mMet ln y_Fl_unpack b_Fl_unpack 7 none (mR 6 142) [.ref a0, .ref a1, .int x2] h0 none h' := mMet_of (by decide +kernel) (Nat.le_of_ble_eq_true rfl) (fun X ad O hE => cb_Fl_unpack O r' h' hE n0 h0 a0 a1 x2 hf)
