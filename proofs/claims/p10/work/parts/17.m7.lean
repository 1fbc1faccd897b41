/-! ===== StreamFiltersModel.readCodes()V ===== -/
theorem d_Mo_readCodes_0 : decode b_Mo_readCodes 0 = .ok (.iconst 0, 1) := by decide +kernel
theorem d_Mo_readCodes_1 : decode b_Mo_readCodes 1 = .ok (.istore_n 1, 1) := by decide +kernel
theorem d_Mo_readCodes_2 : decode b_Mo_readCodes 2 = .ok (.iload_n 1, 1) := by decide +kernel
theorem d_Mo_readCodes_3 : decode b_Mo_readCodes 3 = .ok (.sipush 339, 3) := by decide +kernel
theorem d_Mo_readCodes_6 : decode b_Mo_readCodes 6 = .ok (.if_icmp .ge 16, 3) := by decide +kernel
theorem d_Mo_readCodes_9 : decode b_Mo_readCodes 9 = .ok (.aload_n 0, 1) := by decide +kernel
theorem d_Mo_readCodes_10 : decode b_Mo_readCodes 10 = .ok (.getfield 42, 3) := by decide +kernel
theorem d_Mo_readCodes_13 : decode b_Mo_readCodes 13 = .ok (.iload_n 1, 1) := by decide +kernel
theorem d_Mo_readCodes_14 : decode b_Mo_readCodes 14 = .ok (.iconst 0, 1) := by decide +kernel
theorem d_Mo_readCodes_15 : decode b_Mo_readCodes 15 = .ok (.iastore, 1) := by decide +kernel
theorem d_Mo_readCodes_16 : decode b_Mo_readCodes 16 = .ok (.iinc 1 1, 3) := by decide +kernel
theorem d_Mo_readCodes_19 : decode b_Mo_readCodes 19 = .ok (.goto (-17), 3) := by decide +kernel
theorem d_Mo_readCodes_22 : decode b_Mo_readCodes 22 = .ok (.aload_n 0, 1) := by decide +kernel
theorem d_Mo_readCodes_23 : decode b_Mo_readCodes 23 = .ok (.iconst 5, 1) := by decide +kernel
theorem d_Mo_readCodes_24 : decode b_Mo_readCodes 24 = .ok (.invokevirtual 127, 3) := by decide +kernel
theorem d_Mo_readCodes_27 : decode b_Mo_readCodes 27 = .ok (.sipush 257, 3) := by decide +kernel
theorem d_Mo_readCodes_30 : decode b_Mo_readCodes 30 = .ok (.iadd, 1) := by decide +kernel
theorem d_Mo_readCodes_31 : decode b_Mo_readCodes 31 = .ok (.istore_n 1, 1) := by decide +kernel
theorem d_Mo_readCodes_32 : decode b_Mo_readCodes 32 = .ok (.aload_n 0, 1) := by decide +kernel
theorem d_Mo_readCodes_33 : decode b_Mo_readCodes 33 = .ok (.iconst 5, 1) := by decide +kernel
theorem d_Mo_readCodes_34 : decode b_Mo_readCodes 34 = .ok (.invokevirtual 127, 3) := by decide +kernel
theorem d_Mo_readCodes_37 : decode b_Mo_readCodes 37 = .ok (.iconst 1, 1) := by decide +kernel
theorem d_Mo_readCodes_38 : decode b_Mo_readCodes 38 = .ok (.iadd, 1) := by decide +kernel
theorem d_Mo_readCodes_39 : decode b_Mo_readCodes 39 = .ok (.istore_n 2, 1) := by decide +kernel
theorem d_Mo_readCodes_40 : decode b_Mo_readCodes 40 = .ok (.aload_n 0, 1) := by decide +kernel
theorem d_Mo_readCodes_41 : decode b_Mo_readCodes 41 = .ok (.iconst 4, 1) := by decide +kernel
theorem d_Mo_readCodes_42 : decode b_Mo_readCodes 42 = .ok (.invokevirtual 127, 3) := by decide +kernel
theorem d_Mo_readCodes_45 : decode b_Mo_readCodes 45 = .ok (.iconst 4, 1) := by decide +kernel
theorem d_Mo_readCodes_46 : decode b_Mo_readCodes 46 = .ok (.iadd, 1) := by decide +kernel
theorem d_Mo_readCodes_47 : decode b_Mo_readCodes 47 = .ok (.istore_n 3, 1) := by decide +kernel
theorem d_Mo_readCodes_48 : decode b_Mo_readCodes 48 = .ok (.aload_n 0, 1) := by decide +kernel
theorem d_Mo_readCodes_49 : decode b_Mo_readCodes 49 = .ok (.invokevirtual 89, 3) := by decide +kernel
theorem d_Mo_readCodes_52 : decode b_Mo_readCodes 52 = .ok (.ifCond .eq 22, 3) := by decide +kernel
theorem d_Mo_readCodes_55 : decode b_Mo_readCodes 55 = .ok (.iload_n 1, 1) := by decide +kernel
theorem d_Mo_readCodes_56 : decode b_Mo_readCodes 56 = .ok (.sipush 286, 3) := by decide +kernel
theorem d_Mo_readCodes_59 : decode b_Mo_readCodes 59 = .ok (.if_icmp .gt 9, 3) := by decide +kernel
theorem d_Mo_readCodes_62 : decode b_Mo_readCodes 62 = .ok (.iload_n 2, 1) := by decide +kernel
theorem d_Mo_readCodes_63 : decode b_Mo_readCodes 63 = .ok (.bipush 30, 2) := by decide +kernel
theorem d_Mo_readCodes_65 : decode b_Mo_readCodes 65 = .ok (.if_icmp .le 9, 3) := by decide +kernel
theorem d_Mo_readCodes_68 : decode b_Mo_readCodes 68 = .ok (.aload_n 0, 1) := by decide +kernel
theorem d_Mo_readCodes_69 : decode b_Mo_readCodes 69 = .ok (.bipush 6, 2) := by decide +kernel
theorem d_Mo_readCodes_71 : decode b_Mo_readCodes 71 = .ok (.invokevirtual 99, 3) := by decide +kernel
theorem d_Mo_readCodes_74 : decode b_Mo_readCodes 74 = .ok (.iconst 0, 1) := by decide +kernel
theorem d_Mo_readCodes_75 : decode b_Mo_readCodes 75 = .ok (.istore 4, 2) := by decide +kernel
theorem d_Mo_readCodes_77 : decode b_Mo_readCodes 77 = .ok (.iload 4, 2) := by decide +kernel
theorem d_Mo_readCodes_79 : decode b_Mo_readCodes 79 = .ok (.iload_n 3, 1) := by decide +kernel
theorem d_Mo_readCodes_80 : decode b_Mo_readCodes 80 = .ok (.if_icmp .ge 35, 3) := by decide +kernel
theorem d_Mo_readCodes_83 : decode b_Mo_readCodes 83 = .ok (.aload_n 0, 1) := by decide +kernel
theorem d_Mo_readCodes_84 : decode b_Mo_readCodes 84 = .ok (.invokevirtual 89, 3) := by decide +kernel
theorem d_Mo_readCodes_87 : decode b_Mo_readCodes 87 = .ok (.ifCond .eq 28, 3) := by decide +kernel
theorem d_Mo_readCodes_90 : decode b_Mo_readCodes 90 = .ok (.aload_n 0, 1) := by decide +kernel
theorem d_Mo_readCodes_91 : decode b_Mo_readCodes 91 = .ok (.getfield 42, 3) := by decide +kernel
theorem d_Mo_readCodes_94 : decode b_Mo_readCodes 94 = .ok (.sipush 320, 3) := by decide +kernel
theorem d_Mo_readCodes_97 : decode b_Mo_readCodes 97 = .ok (.iload 4, 2) := by decide +kernel
theorem d_Mo_readCodes_99 : decode b_Mo_readCodes 99 = .ok (.invokestatic 131, 3) := by decide +kernel
theorem d_Mo_readCodes_102 : decode b_Mo_readCodes 102 = .ok (.iadd, 1) := by decide +kernel
theorem d_Mo_readCodes_103 : decode b_Mo_readCodes 103 = .ok (.aload_n 0, 1) := by decide +kernel
theorem d_Mo_readCodes_104 : decode b_Mo_readCodes 104 = .ok (.iconst 3, 1) := by decide +kernel
theorem d_Mo_readCodes_105 : decode b_Mo_readCodes 105 = .ok (.invokevirtual 127, 3) := by decide +kernel
theorem d_Mo_readCodes_108 : decode b_Mo_readCodes 108 = .ok (.iastore, 1) := by decide +kernel
theorem d_Mo_readCodes_109 : decode b_Mo_readCodes 109 = .ok (.iinc 4 1, 3) := by decide +kernel
theorem d_Mo_readCodes_112 : decode b_Mo_readCodes 112 = .ok (.goto (-35), 3) := by decide +kernel
theorem d_Mo_readCodes_115 : decode b_Mo_readCodes 115 = .ok (.aload_n 0, 1) := by decide +kernel
theorem d_Mo_readCodes_116 : decode b_Mo_readCodes 116 = .ok (.invokevirtual 89, 3) := by decide +kernel
theorem d_Mo_readCodes_119 : decode b_Mo_readCodes 119 = .ok (.ifCond .eq 22, 3) := by decide +kernel
theorem d_Mo_readCodes_122 : decode b_Mo_readCodes 122 = .ok (.aload_n 0, 1) := by decide +kernel
theorem d_Mo_readCodes_123 : decode b_Mo_readCodes 123 = .ok (.sipush 320, 3) := by decide +kernel
theorem d_Mo_readCodes_126 : decode b_Mo_readCodes 126 = .ok (.bipush 19, 2) := by decide +kernel
theorem d_Mo_readCodes_128 : decode b_Mo_readCodes 128 = .ok (.iconst 0, 1) := by decide +kernel
theorem d_Mo_readCodes_129 : decode b_Mo_readCodes 129 = .ok (.invokevirtual 134, 3) := by decide +kernel
theorem d_Mo_readCodes_132 : decode b_Mo_readCodes 132 = .ok (.ifCond .ne 9, 3) := by decide +kernel
theorem d_Mo_readCodes_135 : decode b_Mo_readCodes 135 = .ok (.aload_n 0, 1) := by decide +kernel
theorem d_Mo_readCodes_136 : decode b_Mo_readCodes 136 = .ok (.bipush 6, 2) := by decide +kernel
theorem d_Mo_readCodes_138 : decode b_Mo_readCodes 138 = .ok (.invokevirtual 99, 3) := by decide +kernel
theorem d_Mo_readCodes_141 : decode b_Mo_readCodes 141 = .ok (.aload_n 0, 1) := by decide +kernel
theorem d_Mo_readCodes_142 : decode b_Mo_readCodes 142 = .ok (.sipush 320, 3) := by decide +kernel
theorem d_Mo_readCodes_145 : decode b_Mo_readCodes 145 = .ok (.bipush 19, 2) := by decide +kernel
theorem d_Mo_readCodes_147 : decode b_Mo_readCodes 147 = .ok (.invokevirtual 123, 3) := by decide +kernel
theorem d_Mo_readCodes_150 : decode b_Mo_readCodes 150 = .ok (.aload_n 0, 1) := by decide +kernel
theorem d_Mo_readCodes_151 : decode b_Mo_readCodes 151 = .ok (.iload_n 1, 1) := by decide +kernel
theorem d_Mo_readCodes_152 : decode b_Mo_readCodes 152 = .ok (.iload_n 2, 1) := by decide +kernel
theorem d_Mo_readCodes_153 : decode b_Mo_readCodes 153 = .ok (.invokevirtual 138, 3) := by decide +kernel
theorem d_Mo_readCodes_156 : decode b_Mo_readCodes 156 = .ok (.aload_n 0, 1) := by decide +kernel
theorem d_Mo_readCodes_157 : decode b_Mo_readCodes 157 = .ok (.invokevirtual 89, 3) := by decide +kernel
theorem d_Mo_readCodes_160 : decode b_Mo_readCodes 160 = .ok (.ifCond .eq 45, 3) := by decide +kernel
theorem d_Mo_readCodes_163 : decode b_Mo_readCodes 163 = .ok (.aload_n 0, 1) := by decide +kernel
theorem d_Mo_readCodes_164 : decode b_Mo_readCodes 164 = .ok (.iconst 0, 1) := by decide +kernel
theorem d_Mo_readCodes_165 : decode b_Mo_readCodes 165 = .ok (.sipush 286, 3) := by decide +kernel
theorem d_Mo_readCodes_168 : decode b_Mo_readCodes 168 = .ok (.iconst 0, 1) := by decide +kernel
theorem d_Mo_readCodes_169 : decode b_Mo_readCodes 169 = .ok (.invokevirtual 134, 3) := by decide +kernel
theorem d_Mo_readCodes_172 : decode b_Mo_readCodes 172 = .ok (.ifCond .eq 27, 3) := by decide +kernel
theorem d_Mo_readCodes_175 : decode b_Mo_readCodes 175 = .ok (.aload_n 0, 1) := by decide +kernel
theorem d_Mo_readCodes_176 : decode b_Mo_readCodes 176 = .ok (.getfield 42, 3) := by decide +kernel
theorem d_Mo_readCodes_179 : decode b_Mo_readCodes 179 = .ok (.sipush 256, 3) := by decide +kernel
theorem d_Mo_readCodes_182 : decode b_Mo_readCodes 182 = .ok (.iaload, 1) := by decide +kernel
theorem d_Mo_readCodes_183 : decode b_Mo_readCodes 183 = .ok (.ifCond .eq 16, 3) := by decide +kernel
theorem d_Mo_readCodes_186 : decode b_Mo_readCodes 186 = .ok (.aload_n 0, 1) := by decide +kernel
theorem d_Mo_readCodes_187 : decode b_Mo_readCodes 187 = .ok (.sipush 288, 3) := by decide +kernel
theorem d_Mo_readCodes_190 : decode b_Mo_readCodes 190 = .ok (.bipush 30, 2) := by decide +kernel
theorem d_Mo_readCodes_192 : decode b_Mo_readCodes 192 = .ok (.iconst 1, 1) := by decide +kernel
theorem d_Mo_readCodes_193 : decode b_Mo_readCodes 193 = .ok (.invokevirtual 134, 3) := by decide +kernel
theorem d_Mo_readCodes_196 : decode b_Mo_readCodes 196 = .ok (.ifCond .ne 9, 3) := by decide +kernel
theorem d_Mo_readCodes_199 : decode b_Mo_readCodes 199 = .ok (.aload_n 0, 1) := by decide +kernel
theorem d_Mo_readCodes_200 : decode b_Mo_readCodes 200 = .ok (.bipush 6, 2) := by decide +kernel
theorem d_Mo_readCodes_202 : decode b_Mo_readCodes 202 = .ok (.invokevirtual 99, 3) := by decide +kernel
theorem d_Mo_readCodes_205 : decode b_Mo_readCodes 205 = .ok (.aload_n 0, 1) := by decide +kernel
theorem d_Mo_readCodes_206 : decode b_Mo_readCodes 206 = .ok (.iconst 0, 1) := by decide +kernel
theorem d_Mo_readCodes_207 : decode b_Mo_readCodes 207 = .ok (.sipush 288, 3) := by decide +kernel
theorem d_Mo_readCodes_210 : decode b_Mo_readCodes 210 = .ok (.invokevirtual 123, 3) := by decide +kernel
theorem d_Mo_readCodes_213 : decode b_Mo_readCodes 213 = .ok (.aload_n 0, 1) := by decide +kernel
theorem d_Mo_readCodes_214 : decode b_Mo_readCodes 214 = .ok (.sipush 288, 3) := by decide +kernel
theorem d_Mo_readCodes_217 : decode b_Mo_readCodes 217 = .ok (.bipush 32, 2) := by decide +kernel
theorem d_Mo_readCodes_219 : decode b_Mo_readCodes 219 = .ok (.invokevirtual 123, 3) := by decide +kernel
theorem d_Mo_readCodes_222 : decode b_Mo_readCodes 222 = .ok (.return_, 1) := by decide +kernel
noncomputable def f_Mo_readCodes_B205  (n0 : Nat) (h0 : mH) (a0 : Nat) : Option (Unit × mH) :=
  mis h0 a0 10 <|
  mcl (f_Mo_makeCodes n0 h0 a0 0 288) fun _ h37 =>
  mis h37 a0 10 <|
  mcl (f_Mo_makeCodes n0 h37 a0 288 32) fun _ h41 =>
  some ((), h41)
noncomputable def f_Mo_readCodes_B199  (n0 : Nat) (h0 : mH) (a0 : Nat) : Option (Unit × mH) :=
  mis h0 a0 10 <|
  mcl (f_Mo_fail n0 h0 a0 6) fun _ h49 =>
  f_Mo_readCodes_B205 n0 h49 a0
noncomputable def f_Mo_readCodes_B141  (n0 : Nat) (h0 : mH) (a0 : Nat) (x1 : Int32) (x2 : Int32) : Option (Unit × mH) :=
  mis h0 a0 10 <|
  mcl (f_Mo_makeCodes n0 h0 a0 320 19) fun _ h25 =>
  mis h25 a0 10 <|
  mcl (f_Mo_readLengths n0 h25 a0 x1 x2) fun _ h29 =>
  mis h29 a0 10 <|
  mcl (f_Mo_isGood n0 h29 a0) fun v32 h33 =>
  if v32 = 0 then
    f_Mo_readCodes_B205 n0 h33 a0
  else
    mis h33 a0 10 <|
    mcl (f_Mo_isWhole n0 h33 a0 0 286 0) fun v44 h45 =>
    if v44 = 0 then
      f_Mo_readCodes_B199 n0 h45 a0
    else
      mgr h45 a0 10 20 fun r51 =>
      mai h45 r51 .int 256 fun v52 =>
      if v52 = 0 then
        f_Mo_readCodes_B199 n0 h45 a0
      else
        mis h45 a0 10 <|
        mcl (f_Mo_isWhole n0 h45 a0 288 30 1) fun v55 h56 =>
        if v55 = 0 then
          f_Mo_readCodes_B199 n0 h56 a0
        else
          f_Mo_readCodes_B205 n0 h56 a0
noncomputable def f_Mo_readCodes_B115  (n0 : Nat) (h0 : mH) (a0 : Nat) (x1 : Int32) (x2 : Int32) : Option (Unit × mH) :=
  mis h0 a0 10 <|
  mcl (f_Mo_isGood n0 h0 a0) fun v20 h21 =>
  if v20 = 0 then
    f_Mo_readCodes_B141 n0 h21 a0 x1 x2
  else
    mis h21 a0 10 <|
    mcl (f_Mo_isWhole n0 h21 a0 320 19 0) fun v59 h60 =>
    if v59 = 0 then
      mis h60 a0 10 <|
      mcl (f_Mo_fail n0 h60 a0 6) fun _ h64 =>
      f_Mo_readCodes_B141 n0 h64 a0 x1 x2
    else
      f_Mo_readCodes_B141 n0 h60 a0 x1 x2
noncomputable def f_Mo_readCodes_L77  (n0 : Nat) : Nat → mH → Nat → Int32 → Int32 → Int32 → Int32 → Option (Unit × mH)
  | 0, _, _, _, _, _, _ => none
  | n + 1, h0, a0, x1, x2, x3, x4 =>
    if x3 ≤ x4 then
      f_Mo_readCodes_B115 n0 h0 a0 x1 x2
    else
      mis h0 a0 10 <|
      mcl (f_Mo_isGood n0 h0 a0) fun v67 h68 =>
      if v67 = 0 then
        f_Mo_readCodes_B115 n0 h68 a0 x1 x2
      else
        mgr h68 a0 10 20 fun r70 =>
        mcl (f_Mo_orderOf n0 h68 x4) fun v72 h73 =>
        mis h73 a0 10 <|
        mcl (f_Mo_number n0 h73 a0 3) fun v75 h76 =>
        mas h76 r70 .int (320 + v72) v75 fun h77 =>
        mnm (x4 + 1) fun v78 =>
        (f_Mo_readCodes_L77 n0 n) h77 a0 x1 x2 x3 v78
noncomputable def f_Mo_readCodes_B74  (n0 : Nat) (h0 : mH) (a0 : Nat) (x1 : Int32) (x2 : Int32) (x3 : Int32) : Option (Unit × mH) :=
  f_Mo_readCodes_L77 n0 n0 h0 a0 x1 x2 x3 0
noncomputable def f_Mo_readCodes_B68  (n0 : Nat) (h0 : mH) (a0 : Nat) (x1 : Int32) (x2 : Int32) (x3 : Int32) : Option (Unit × mH) :=
  mis h0 a0 10 <|
  mcl (f_Mo_fail n0 h0 a0 6) fun _ h82 =>
  f_Mo_readCodes_B74 n0 h82 a0 x1 x2 x3
noncomputable def f_Mo_readCodes_L2  (n0 : Nat) : Nat → mH → Nat → Int32 → Option (Unit × mH)
  | 0, _, _, _ => none
  | n + 1, h0, a0, x1 =>
    if 339 ≤ x1 then
      mis h0 a0 10 <|
      mcl (f_Mo_number n0 h0 a0 5) fun v3 h4 =>
      mnm (v3 + 257) fun v5 =>
      mis h4 a0 10 <|
      mcl (f_Mo_number n0 h4 a0 5) fun v7 h8 =>
      mnm (v7 + 1) fun v9 =>
      mis h8 a0 10 <|
      mcl (f_Mo_number n0 h8 a0 4) fun v11 h12 =>
      mnm (v11 + 4) fun v13 =>
      mis h12 a0 10 <|
      mcl (f_Mo_isGood n0 h12 a0) fun v15 h16 =>
      if v15 = 0 then
        f_Mo_readCodes_B74 n0 h16 a0 v5 v9 v13
      else
        if 286 < v5 then
          f_Mo_readCodes_B68 n0 h16 a0 v5 v9 v13
        else
          if v9 ≤ 30 then
            f_Mo_readCodes_B74 n0 h16 a0 v5 v9 v13
          else
            f_Mo_readCodes_B68 n0 h16 a0 v5 v9 v13
    else
      mgr h0 a0 10 20 fun r85 =>
      mas h0 r85 .int x1 0 fun h86 =>
      mnm (x1 + 1) fun v87 =>
      (f_Mo_readCodes_L2 n0 n) h86 a0 v87
noncomputable def f_Mo_readCodes  (n0 : Nat) (h0 : mH) (a0 : Nat) : Option (Unit × mH) :=
  f_Mo_readCodes_L2 n0 n0 h0 a0 0
set_option maxHeartbeats 4000000 in
set_option maxRecDepth 100000 in
theorem cb_Mo_readCodes_B205 {X : mX} {ad : Nat → Nat} {ln : Launch} (O : mO X ad R_Mo b_Mo_readCodes 5 (mR 5 117) ln) (r' : Unit) (h' : mH) (hE : mEnd X ad none none h') (n0 : Nat) (h0 : mH) (a0 : Nat) (hf : f_Mo_readCodes_B205 n0 h0 a0 = some (r', h')) : mAW X ad 0 0 205 [(0, .ref a0)] [] h0 := by
  unfold f_Mo_readCodes_B205 at hf
  refine ax_aload_n O d_Mo_readCodes_205 rfl 0 rfl ?_
  refine ax_iconst (v := 0) O d_Mo_readCodes_206 (by decide) ?_
  refine ax_sipush (v := 288) O d_Mo_readCodes_207 (by decide) ?_
  obtain ⟨fh37, ch37, hf⟩ := mis_some hf
  obtain ⟨u38, h37, mh37, hf⟩ := mcl_some hf
  refine ax_callV (As := [.int 0, .int 288]) (rest := []) O cw_Mo_makeCodes (q := (R_Mo, T_Mo, 31)) rfl rfl in_Mo_makeCodes se_Mo_makeCodes lk_Mo_123 ch37 (c_Mo_makeCodes mh37) rfl ⟨rfl, rfl⟩ (by decide) (by decide) (Nat.le_of_ble_eq_true rfl) d_Mo_readCodes_210 ?_
  refine ax_aload_n O d_Mo_readCodes_213 rfl 0 rfl ?_
  refine ax_sipush (v := 288) O d_Mo_readCodes_214 (by decide) ?_
  refine ax_bipush (v := 32) O d_Mo_readCodes_217 (by decide) ?_
  obtain ⟨fh41, ch41, hf⟩ := mis_some hf
  obtain ⟨u42, h41, mh41, hf⟩ := mcl_some hf
  refine ax_callV (As := [.int 288, .int 32]) (rest := []) O cw_Mo_makeCodes (q := (R_Mo, T_Mo, 31)) rfl rfl in_Mo_makeCodes se_Mo_makeCodes lk_Mo_123 ch41 (c_Mo_makeCodes mh41) rfl ⟨rfl, rfl⟩ (by decide) (by decide) (Nat.le_of_ble_eq_true rfl) d_Mo_readCodes_219 ?_
  exact ax_vretE O hE hf d_Mo_readCodes_222
set_option maxHeartbeats 4000000 in
set_option maxRecDepth 100000 in
theorem cb_Mo_readCodes_B199 {X : mX} {ad : Nat → Nat} {ln : Launch} (O : mO X ad R_Mo b_Mo_readCodes 5 (mR 5 117) ln) (r' : Unit) (h' : mH) (hE : mEnd X ad none none h') (n0 : Nat) (h0 : mH) (a0 : Nat) (hf : f_Mo_readCodes_B199 n0 h0 a0 = some (r', h')) : mAW X ad 0 0 199 [(0, .ref a0)] [] h0 := by
  unfold f_Mo_readCodes_B199 at hf
  refine ax_aload_n O d_Mo_readCodes_199 rfl 0 rfl ?_
  refine ax_bipush (v := 6) O d_Mo_readCodes_200 (by decide) ?_
  obtain ⟨fh49, ch49, hf⟩ := mis_some hf
  obtain ⟨u50, h49, mh49, hf⟩ := mcl_some hf
  refine ax_callV (As := [.int 6]) (rest := []) O cw_Mo_fail (q := (R_Mo, T_Mo, 31)) rfl rfl in_Mo_fail se_Mo_fail lk_Mo_99 ch49 (c_Mo_fail mh49) rfl ⟨rfl, rfl⟩ (by decide) (by decide) (Nat.le_of_ble_eq_true rfl) d_Mo_readCodes_202 ?_
  exact cb_Mo_readCodes_B205 O _ _ hE n0 _ _ hf
set_option maxHeartbeats 4000000 in
set_option maxRecDepth 100000 in
theorem cb_Mo_readCodes_B141 {X : mX} {ad : Nat → Nat} {ln : Launch} (O : mO X ad R_Mo b_Mo_readCodes 5 (mR 5 117) ln) (r' : Unit) (h' : mH) (hE : mEnd X ad none none h') (n0 : Nat) (h0 : mH) (a0 : Nat) (x1 : Int32) (x2 : Int32) (hf : f_Mo_readCodes_B141 n0 h0 a0 x1 x2 = some (r', h')) : mAW X ad 0 0 141 [(0, .ref a0), (1, .int x1), (2, .int x2)] [] h0 := by
  unfold f_Mo_readCodes_B141 at hf
  refine ax_aload_n O d_Mo_readCodes_141 rfl 0 rfl ?_
  refine ax_sipush (v := 320) O d_Mo_readCodes_142 (by decide) ?_
  refine ax_bipush (v := 19) O d_Mo_readCodes_145 (by decide) ?_
  obtain ⟨fh25, ch25, hf⟩ := mis_some hf
  obtain ⟨u26, h25, mh25, hf⟩ := mcl_some hf
  refine ax_callV (As := [.int 320, .int 19]) (rest := []) O cw_Mo_makeCodes (q := (R_Mo, T_Mo, 31)) rfl rfl in_Mo_makeCodes se_Mo_makeCodes lk_Mo_123 ch25 (c_Mo_makeCodes mh25) rfl ⟨rfl, rfl⟩ (by decide) (by decide) (Nat.le_of_ble_eq_true rfl) d_Mo_readCodes_147 ?_
  refine ax_aload_n O d_Mo_readCodes_150 rfl 0 rfl ?_
  refine ax_iload_n O d_Mo_readCodes_151 rfl 1 rfl ?_
  refine ax_iload_n O d_Mo_readCodes_152 rfl 2 rfl ?_
  obtain ⟨fh29, ch29, hf⟩ := mis_some hf
  obtain ⟨u30, h29, mh29, hf⟩ := mcl_some hf
  refine ax_callV (As := [.int x1, .int x2]) (rest := []) O cw_Mo_readLengths (q := (R_Mo, T_Mo, 31)) rfl rfl in_Mo_readLengths se_Mo_readLengths lk_Mo_138 ch29 (c_Mo_readLengths mh29) rfl ⟨rfl, rfl⟩ (by decide) (by decide) (Nat.le_of_ble_eq_true rfl) d_Mo_readCodes_153 ?_
  refine ax_aload_n O d_Mo_readCodes_156 rfl 0 rfl ?_
  obtain ⟨fh33, ch33, hf⟩ := mis_some hf
  obtain ⟨v32, h33, mh33, hf⟩ := mcl_some hf
  refine ax_callV (As := []) (rest := []) O cw_Mo_isGood (q := (R_Mo, T_Mo, 31)) rfl rfl in_Mo_isGood se_Mo_isGood lk_Mo_89 ch33 (c_Mo_isGood mh33) rfl ⟨rfl, rfl⟩ (by decide) (by decide) (Nat.le_of_ble_eq_true rfl) d_Mo_readCodes_157 ?_
  refine ax_if_eq (tgt := 205) O d_Mo_readCodes_160 (by decide) (fun q34 => ?_) (fun q34 => ?_)
  · rw [if_pos q34] at hf
    refine ax_sub [0] rfl ?_
    exact cb_Mo_readCodes_B205 O _ _ hE n0 _ _ hf
  · rw [if_neg q34] at hf
    refine ax_aload_n O d_Mo_readCodes_163 rfl 0 rfl ?_
    refine ax_iconst (v := 0) O d_Mo_readCodes_164 (by decide) ?_
    refine ax_sipush (v := 286) O d_Mo_readCodes_165 (by decide) ?_
    refine ax_iconst (v := 0) O d_Mo_readCodes_168 (by decide) ?_
    obtain ⟨fh45, ch45, hf⟩ := mis_some hf
    obtain ⟨v44, h45, mh45, hf⟩ := mcl_some hf
    refine ax_callV (As := [.int 0, .int 286, .int 0]) (rest := []) O cw_Mo_isWhole (q := (R_Mo, T_Mo, 31)) rfl rfl in_Mo_isWhole se_Mo_isWhole lk_Mo_134 ch45 (c_Mo_isWhole mh45) rfl ⟨rfl, rfl⟩ (by decide) (by decide) (Nat.le_of_ble_eq_true rfl) d_Mo_readCodes_169 ?_
    refine ax_if_eq (tgt := 199) O d_Mo_readCodes_172 (by decide) (fun q46 => ?_) (fun q46 => ?_)
    · rw [if_pos q46] at hf
      refine ax_sub [0] rfl ?_
      exact cb_Mo_readCodes_B199 O _ _ hE n0 _ _ hf
    · rw [if_neg q46] at hf
      refine ax_aload_n O d_Mo_readCodes_175 rfl 0 rfl ?_
      obtain ⟨fr51, r51, cr51, kr51, hf⟩ := mgr_some hf
      refine ax_get O fg_Mo_42 cr51 kr51 d_Mo_readCodes_176 ?_
      refine ax_sipush (v := 256) O d_Mo_readCodes_179 (by decide) ?_
      obtain ⟨nv52, fv52, v52, cv52, iv52, kv52, hf⟩ := mai_some hf
      refine ax_iald O cv52 iv52 kv52 d_Mo_readCodes_182 ?_
      refine ax_if_eq (tgt := 199) O d_Mo_readCodes_183 (by decide) (fun q53 => ?_) (fun q53 => ?_)
      · rw [if_pos q53] at hf
        refine ax_sub [0] rfl ?_
        exact cb_Mo_readCodes_B199 O _ _ hE n0 _ _ hf
      · rw [if_neg q53] at hf
        refine ax_aload_n O d_Mo_readCodes_186 rfl 0 rfl ?_
        refine ax_sipush (v := 288) O d_Mo_readCodes_187 (by decide) ?_
        refine ax_bipush (v := 30) O d_Mo_readCodes_190 (by decide) ?_
        refine ax_iconst (v := 1) O d_Mo_readCodes_192 (by decide) ?_
        obtain ⟨fh56, ch56, hf⟩ := mis_some hf
        obtain ⟨v55, h56, mh56, hf⟩ := mcl_some hf
        refine ax_callV (As := [.int 288, .int 30, .int 1]) (rest := []) O cw_Mo_isWhole (q := (R_Mo, T_Mo, 31)) rfl rfl in_Mo_isWhole se_Mo_isWhole lk_Mo_134 ch56 (c_Mo_isWhole mh56) rfl ⟨rfl, rfl⟩ (by decide) (by decide) (Nat.le_of_ble_eq_true rfl) d_Mo_readCodes_193 ?_
        refine ax_if_ne (tgt := 205) O d_Mo_readCodes_196 (by decide) (fun q57 => ?_) (fun q57 => ?_)
        · rw [if_neg q57] at hf
          refine ax_sub [0] rfl ?_
          exact cb_Mo_readCodes_B205 O _ _ hE n0 _ _ hf
        · rw [if_pos q57] at hf
          refine ax_sub [0] rfl ?_
          exact cb_Mo_readCodes_B199 O _ _ hE n0 _ _ hf
set_option maxHeartbeats 4000000 in
set_option maxRecDepth 100000 in
theorem cb_Mo_readCodes_B115 {X : mX} {ad : Nat → Nat} {ln : Launch} (O : mO X ad R_Mo b_Mo_readCodes 5 (mR 5 117) ln) (r' : Unit) (h' : mH) (hE : mEnd X ad none none h') (n0 : Nat) (h0 : mH) (a0 : Nat) (x1 : Int32) (x2 : Int32) (hf : f_Mo_readCodes_B115 n0 h0 a0 x1 x2 = some (r', h')) : mAW X ad 0 0 115 [(0, .ref a0), (1, .int x1), (2, .int x2)] [] h0 := by
  unfold f_Mo_readCodes_B115 at hf
  refine ax_aload_n O d_Mo_readCodes_115 rfl 0 rfl ?_
  obtain ⟨fh21, ch21, hf⟩ := mis_some hf
  obtain ⟨v20, h21, mh21, hf⟩ := mcl_some hf
  refine ax_callV (As := []) (rest := []) O cw_Mo_isGood (q := (R_Mo, T_Mo, 31)) rfl rfl in_Mo_isGood se_Mo_isGood lk_Mo_89 ch21 (c_Mo_isGood mh21) rfl ⟨rfl, rfl⟩ (by decide) (by decide) (Nat.le_of_ble_eq_true rfl) d_Mo_readCodes_116 ?_
  refine ax_if_eq (tgt := 141) O d_Mo_readCodes_119 (by decide) (fun q22 => ?_) (fun q22 => ?_)
  · rw [if_pos q22] at hf
    exact cb_Mo_readCodes_B141 O _ _ hE n0 _ _ _ _ hf
  · rw [if_neg q22] at hf
    refine ax_aload_n O d_Mo_readCodes_122 rfl 0 rfl ?_
    refine ax_sipush (v := 320) O d_Mo_readCodes_123 (by decide) ?_
    refine ax_bipush (v := 19) O d_Mo_readCodes_126 (by decide) ?_
    refine ax_iconst (v := 0) O d_Mo_readCodes_128 (by decide) ?_
    obtain ⟨fh60, ch60, hf⟩ := mis_some hf
    obtain ⟨v59, h60, mh60, hf⟩ := mcl_some hf
    refine ax_callV (As := [.int 320, .int 19, .int 0]) (rest := []) O cw_Mo_isWhole (q := (R_Mo, T_Mo, 31)) rfl rfl in_Mo_isWhole se_Mo_isWhole lk_Mo_134 ch60 (c_Mo_isWhole mh60) rfl ⟨rfl, rfl⟩ (by decide) (by decide) (Nat.le_of_ble_eq_true rfl) d_Mo_readCodes_129 ?_
    refine ax_if_ne (tgt := 141) O d_Mo_readCodes_132 (by decide) (fun q61 => ?_) (fun q61 => ?_)
    · rw [if_neg q61] at hf
      exact cb_Mo_readCodes_B141 O _ _ hE n0 _ _ _ _ hf
    · rw [if_pos q61] at hf
      refine ax_aload_n O d_Mo_readCodes_135 rfl 0 rfl ?_
      refine ax_bipush (v := 6) O d_Mo_readCodes_136 (by decide) ?_
      obtain ⟨fh64, ch64, hf⟩ := mis_some hf
      obtain ⟨u65, h64, mh64, hf⟩ := mcl_some hf
      refine ax_callV (As := [.int 6]) (rest := []) O cw_Mo_fail (q := (R_Mo, T_Mo, 31)) rfl rfl in_Mo_fail se_Mo_fail lk_Mo_99 ch64 (c_Mo_fail mh64) rfl ⟨rfl, rfl⟩ (by decide) (by decide) (Nat.le_of_ble_eq_true rfl) d_Mo_readCodes_138 ?_
      exact cb_Mo_readCodes_B141 O _ _ hE n0 _ _ _ _ hf
set_option maxHeartbeats 4000000 in
set_option maxRecDepth 100000 in
theorem cb_Mo_readCodes_L77 {X : mX} {ad : Nat → Nat} {ln : Launch} (O : mO X ad R_Mo b_Mo_readCodes 5 (mR 5 117) ln) (r' : Unit) (h' : mH) (hE : mEnd X ad none none h') (n0 : Nat) : ∀ (n : Nat) (h0 : mH) (a0 : Nat) (x1 : Int32) (x2 : Int32) (x3 : Int32) (x4 : Int32), f_Mo_readCodes_L77 n0 n h0 a0 x1 x2 x3 x4 = some (r', h') → mAW X ad 0 0 77 [(0, .ref a0), (1, .int x1), (2, .int x2), (3, .int x3), (4, .int x4)] [] h0 := by
  intro n
  induction n with
  | zero =>
    intro h0 a0 x1 x2 x3 x4 hf
    rw [f_Mo_readCodes_L77.eq_1] at hf
    cases hf
  | succ n ih =>
    intro h0 a0 x1 x2 x3 x4 hf
    rw [f_Mo_readCodes_L77.eq_2] at hf
    refine ax_iload O d_Mo_readCodes_77 4 rfl ?_
    refine ax_iload_n O d_Mo_readCodes_79 rfl 3 rfl ?_
    refine ax_icmp_ge (tgt := 115) O d_Mo_readCodes_80 (by decide) (fun q18 => ?_) (fun q18 => ?_)
    · rw [if_pos q18] at hf
      refine ax_sub [0, 1, 2] rfl ?_
      exact cb_Mo_readCodes_B115 O _ _ hE n0 _ _ _ _ hf
    · rw [if_neg q18] at hf
      refine ax_aload_n O d_Mo_readCodes_83 rfl 0 rfl ?_
      obtain ⟨fh68, ch68, hf⟩ := mis_some hf
      obtain ⟨v67, h68, mh68, hf⟩ := mcl_some hf
      refine ax_callV (As := []) (rest := []) O cw_Mo_isGood (q := (R_Mo, T_Mo, 31)) rfl rfl in_Mo_isGood se_Mo_isGood lk_Mo_89 ch68 (c_Mo_isGood mh68) rfl ⟨rfl, rfl⟩ (by decide) (by decide) (Nat.le_of_ble_eq_true rfl) d_Mo_readCodes_84 ?_
      refine ax_if_eq (tgt := 115) O d_Mo_readCodes_87 (by decide) (fun q69 => ?_) (fun q69 => ?_)
      · rw [if_pos q69] at hf
        refine ax_sub [0, 1, 2] rfl ?_
        exact cb_Mo_readCodes_B115 O _ _ hE n0 _ _ _ _ hf
      · rw [if_neg q69] at hf
        refine ax_aload_n O d_Mo_readCodes_90 rfl 0 rfl ?_
        obtain ⟨fr70, r70, cr70, kr70, hf⟩ := mgr_some hf
        refine ax_get O fg_Mo_42 cr70 kr70 d_Mo_readCodes_91 ?_
        refine ax_sipush (v := 320) O d_Mo_readCodes_94 (by decide) ?_
        refine ax_iload O d_Mo_readCodes_97 4 rfl ?_
        obtain ⟨v72, h73, mh73, hf⟩ := mcl_some hf
        refine ax_callS (As := [.int x4]) (rest := [.int 320, .ref r70]) O cw_Mo_orderOf st_Mo_orderOf lk_Mo_131 (c_Mo_orderOf mh73) rfl ⟨rfl, rfl⟩ (by decide) (by decide) (Nat.le_of_ble_eq_true rfl) d_Mo_readCodes_99 ?_
        refine ax_iadd O d_Mo_readCodes_102 ?_
        refine ax_aload_n O d_Mo_readCodes_103 rfl 0 rfl ?_
        refine ax_iconst (v := 3) O d_Mo_readCodes_104 (by decide) ?_
        obtain ⟨fh76, ch76, hf⟩ := mis_some hf
        obtain ⟨v75, h76, mh76, hf⟩ := mcl_some hf
        refine ax_callV (As := [.int 3]) (rest := [.int (320 + v72), .ref r70]) O cw_Mo_number (q := (R_Mo, T_Mo, 31)) rfl rfl in_Mo_number se_Mo_number lk_Mo_127 ch76 (c_Mo_number mh76) rfl ⟨rfl, rfl⟩ (by decide) (by decide) (Nat.le_of_ble_eq_true rfl) d_Mo_readCodes_105 ?_
        obtain ⟨nh77, fh77, h77, ch77, ih77, eh77, hf⟩ := mas_some hf
        refine ax_iast O ch77 ih77 eh77 d_Mo_readCodes_108 ?_
        obtain ⟨v78, ev78, hf⟩ := mnm_some hf
        refine ax_iinc (j := 4) (v := v78) (lv' := [(4, .int v78), (0, .ref a0), (1, .int x1), (2, .int x2), (3, .int x3)]) O d_Mo_readCodes_109 rfl (by rw [ev78]; rfl) (by decide) rfl ?_
        refine ax_goto (tgt := 77) O d_Mo_readCodes_112 (by decide) ?_
        refine ax_sub [1, 2, 3, 4, 0] rfl ?_
        exact ih _ _ _ _ _ _ hf
set_option maxHeartbeats 4000000 in
set_option maxRecDepth 100000 in
theorem cb_Mo_readCodes_B74 {X : mX} {ad : Nat → Nat} {ln : Launch} (O : mO X ad R_Mo b_Mo_readCodes 5 (mR 5 117) ln) (r' : Unit) (h' : mH) (hE : mEnd X ad none none h') (n0 : Nat) (h0 : mH) (a0 : Nat) (x1 : Int32) (x2 : Int32) (x3 : Int32) (hf : f_Mo_readCodes_B74 n0 h0 a0 x1 x2 x3 = some (r', h')) : mAW X ad 0 0 74 [(0, .ref a0), (1, .int x1), (2, .int x2), (3, .int x3)] [] h0 := by
  unfold f_Mo_readCodes_B74 at hf
  refine ax_iconst (v := 0) O d_Mo_readCodes_74 (by decide) ?_
  refine ax_istore (lv' := [(4, .int 0), (0, .ref a0), (1, .int x1), (2, .int x2), (3, .int x3)]) O d_Mo_readCodes_75 (by decide) rfl ?_
  refine ax_sub [1, 2, 3, 4, 0] rfl ?_
  exact cb_Mo_readCodes_L77 O _ _ hE n0 n0 _ _ _ _ _ _ hf
set_option maxHeartbeats 4000000 in
set_option maxRecDepth 100000 in
theorem cb_Mo_readCodes_B68 {X : mX} {ad : Nat → Nat} {ln : Launch} (O : mO X ad R_Mo b_Mo_readCodes 5 (mR 5 117) ln) (r' : Unit) (h' : mH) (hE : mEnd X ad none none h') (n0 : Nat) (h0 : mH) (a0 : Nat) (x1 : Int32) (x2 : Int32) (x3 : Int32) (hf : f_Mo_readCodes_B68 n0 h0 a0 x1 x2 x3 = some (r', h')) : mAW X ad 0 0 68 [(0, .ref a0), (1, .int x1), (2, .int x2), (3, .int x3)] [] h0 := by
  unfold f_Mo_readCodes_B68 at hf
  refine ax_aload_n O d_Mo_readCodes_68 rfl 0 rfl ?_
  refine ax_bipush (v := 6) O d_Mo_readCodes_69 (by decide) ?_
  obtain ⟨fh82, ch82, hf⟩ := mis_some hf
  obtain ⟨u83, h82, mh82, hf⟩ := mcl_some hf
  refine ax_callV (As := [.int 6]) (rest := []) O cw_Mo_fail (q := (R_Mo, T_Mo, 31)) rfl rfl in_Mo_fail se_Mo_fail lk_Mo_99 ch82 (c_Mo_fail mh82) rfl ⟨rfl, rfl⟩ (by decide) (by decide) (Nat.le_of_ble_eq_true rfl) d_Mo_readCodes_71 ?_
  exact cb_Mo_readCodes_B74 O _ _ hE n0 _ _ _ _ _ hf
set_option maxHeartbeats 4000000 in
set_option maxRecDepth 100000 in
theorem cb_Mo_readCodes_L2 {X : mX} {ad : Nat → Nat} {ln : Launch} (O : mO X ad R_Mo b_Mo_readCodes 5 (mR 5 117) ln) (r' : Unit) (h' : mH) (hE : mEnd X ad none none h') (n0 : Nat) : ∀ (n : Nat) (h0 : mH) (a0 : Nat) (x1 : Int32), f_Mo_readCodes_L2 n0 n h0 a0 x1 = some (r', h') → mAW X ad 0 0 2 [(0, .ref a0), (1, .int x1)] [] h0 := by
  intro n
  induction n with
  | zero =>
    intro h0 a0 x1 hf
    rw [f_Mo_readCodes_L2.eq_1] at hf
    cases hf
  | succ n ih =>
    intro h0 a0 x1 hf
    rw [f_Mo_readCodes_L2.eq_2] at hf
    refine ax_iload_n O d_Mo_readCodes_2 rfl 1 rfl ?_
    refine ax_sipush (v := 339) O d_Mo_readCodes_3 (by decide) ?_
    refine ax_icmp_ge (tgt := 22) O d_Mo_readCodes_6 (by decide) (fun q1 => ?_) (fun q1 => ?_)
    · rw [if_pos q1] at hf
      refine ax_aload_n O d_Mo_readCodes_22 rfl 0 rfl ?_
      refine ax_iconst (v := 5) O d_Mo_readCodes_23 (by decide) ?_
      obtain ⟨fh4, ch4, hf⟩ := mis_some hf
      obtain ⟨v3, h4, mh4, hf⟩ := mcl_some hf
      refine ax_callV (As := [.int 5]) (rest := []) O cw_Mo_number (q := (R_Mo, T_Mo, 31)) rfl rfl in_Mo_number se_Mo_number lk_Mo_127 ch4 (c_Mo_number mh4) rfl ⟨rfl, rfl⟩ (by decide) (by decide) (Nat.le_of_ble_eq_true rfl) d_Mo_readCodes_24 ?_
      refine ax_sipush (v := 257) O d_Mo_readCodes_27 (by decide) ?_
      refine ax_iadd O d_Mo_readCodes_30 ?_
      obtain ⟨v5, ev5, hf⟩ := mnm_some hf
      refine ax_nmi ev5 ?_
      refine ax_istore_n (lv' := [(1, .int v5), (0, .ref a0)]) O d_Mo_readCodes_31 rfl (by decide) rfl ?_
      refine ax_aload_n O d_Mo_readCodes_32 rfl 1 rfl ?_
      refine ax_iconst (v := 5) O d_Mo_readCodes_33 (by decide) ?_
      obtain ⟨fh8, ch8, hf⟩ := mis_some hf
      obtain ⟨v7, h8, mh8, hf⟩ := mcl_some hf
      refine ax_callV (As := [.int 5]) (rest := []) O cw_Mo_number (q := (R_Mo, T_Mo, 31)) rfl rfl in_Mo_number se_Mo_number lk_Mo_127 ch8 (c_Mo_number mh8) rfl ⟨rfl, rfl⟩ (by decide) (by decide) (Nat.le_of_ble_eq_true rfl) d_Mo_readCodes_34 ?_
      refine ax_iconst (v := 1) O d_Mo_readCodes_37 (by decide) ?_
      refine ax_iadd O d_Mo_readCodes_38 ?_
      obtain ⟨v9, ev9, hf⟩ := mnm_some hf
      refine ax_nmi ev9 ?_
      refine ax_istore_n (lv' := [(2, .int v9), (1, .int v5), (0, .ref a0)]) O d_Mo_readCodes_39 rfl (by decide) rfl ?_
      refine ax_aload_n O d_Mo_readCodes_40 rfl 2 rfl ?_
      refine ax_iconst (v := 4) O d_Mo_readCodes_41 (by decide) ?_
      obtain ⟨fh12, ch12, hf⟩ := mis_some hf
      obtain ⟨v11, h12, mh12, hf⟩ := mcl_some hf
      refine ax_callV (As := [.int 4]) (rest := []) O cw_Mo_number (q := (R_Mo, T_Mo, 31)) rfl rfl in_Mo_number se_Mo_number lk_Mo_127 ch12 (c_Mo_number mh12) rfl ⟨rfl, rfl⟩ (by decide) (by decide) (Nat.le_of_ble_eq_true rfl) d_Mo_readCodes_42 ?_
      refine ax_iconst (v := 4) O d_Mo_readCodes_45 (by decide) ?_
      refine ax_iadd O d_Mo_readCodes_46 ?_
      obtain ⟨v13, ev13, hf⟩ := mnm_some hf
      refine ax_nmi ev13 ?_
      refine ax_istore_n (lv' := [(3, .int v13), (2, .int v9), (1, .int v5), (0, .ref a0)]) O d_Mo_readCodes_47 rfl (by decide) rfl ?_
      refine ax_aload_n O d_Mo_readCodes_48 rfl 3 rfl ?_
      obtain ⟨fh16, ch16, hf⟩ := mis_some hf
      obtain ⟨v15, h16, mh16, hf⟩ := mcl_some hf
      refine ax_callV (As := []) (rest := []) O cw_Mo_isGood (q := (R_Mo, T_Mo, 31)) rfl rfl in_Mo_isGood se_Mo_isGood lk_Mo_89 ch16 (c_Mo_isGood mh16) rfl ⟨rfl, rfl⟩ (by decide) (by decide) (Nat.le_of_ble_eq_true rfl) d_Mo_readCodes_49 ?_
      refine ax_if_eq (tgt := 74) O d_Mo_readCodes_52 (by decide) (fun q17 => ?_) (fun q17 => ?_)
      · rw [if_pos q17] at hf
        refine ax_sub [3, 2, 1, 0] rfl ?_
        exact cb_Mo_readCodes_B74 O _ _ hE n0 _ _ _ _ _ hf
      · rw [if_neg q17] at hf
        refine ax_iload_n O d_Mo_readCodes_55 rfl 2 rfl ?_
        refine ax_sipush (v := 286) O d_Mo_readCodes_56 (by decide) ?_
        refine ax_icmp_gt (tgt := 68) O d_Mo_readCodes_59 (by decide) (fun q79 => ?_) (fun q79 => ?_)
        · rw [if_pos q79] at hf
          refine ax_sub [3, 2, 1, 0] rfl ?_
          exact cb_Mo_readCodes_B68 O _ _ hE n0 _ _ _ _ _ hf
        · rw [if_neg q79] at hf
          refine ax_iload_n O d_Mo_readCodes_62 rfl 1 rfl ?_
          refine ax_bipush (v := 30) O d_Mo_readCodes_63 (by decide) ?_
          refine ax_icmp_le (tgt := 74) O d_Mo_readCodes_65 (by decide) (fun q84 => ?_) (fun q84 => ?_)
          · rw [if_pos q84] at hf
            refine ax_sub [3, 2, 1, 0] rfl ?_
            exact cb_Mo_readCodes_B74 O _ _ hE n0 _ _ _ _ _ hf
          · rw [if_neg q84] at hf
            refine ax_sub [3, 2, 1, 0] rfl ?_
            exact cb_Mo_readCodes_B68 O _ _ hE n0 _ _ _ _ _ hf
    · rw [if_neg q1] at hf
      refine ax_aload_n O d_Mo_readCodes_9 rfl 0 rfl ?_
      obtain ⟨fr85, r85, cr85, kr85, hf⟩ := mgr_some hf
      refine ax_get O fg_Mo_42 cr85 kr85 d_Mo_readCodes_10 ?_
      refine ax_iload_n O d_Mo_readCodes_13 rfl 1 rfl ?_
      refine ax_iconst (v := 0) O d_Mo_readCodes_14 (by decide) ?_
      obtain ⟨nh86, fh86, h86, ch86, ih86, eh86, hf⟩ := mas_some hf
      refine ax_iast O ch86 ih86 eh86 d_Mo_readCodes_15 ?_
      obtain ⟨v87, ev87, hf⟩ := mnm_some hf
      refine ax_iinc (j := 1) (v := v87) (lv' := [(1, .int v87), (0, .ref a0)]) O d_Mo_readCodes_16 rfl (by rw [ev87]; rfl) (by decide) rfl ?_
      refine ax_goto (tgt := 2) O d_Mo_readCodes_19 (by decide) ?_
      refine ax_sub [1, 0] rfl ?_
      exact ih _ _ _ hf
set_option maxHeartbeats 4000000 in
set_option maxRecDepth 100000 in
theorem cb_Mo_readCodes {X : mX} {ad : Nat → Nat} {ln : Launch} (O : mO X ad R_Mo b_Mo_readCodes 5 (mR 5 117) ln) (r' : Unit) (h' : mH) (hE : mEnd X ad none none h') (n0 : Nat) (h0 : mH) (a0 : Nat) (hf : f_Mo_readCodes n0 h0 a0 = some (r', h')) : mAW X ad 0 0 0 [(0, .ref a0)] [] h0 := by
  unfold f_Mo_readCodes at hf
  refine ax_iconst (v := 0) O d_Mo_readCodes_0 (by decide) ?_
  refine ax_istore_n (lv' := [(1, .int 0), (0, .ref a0)]) O d_Mo_readCodes_1 rfl (by decide) rfl ?_
  refine ax_sub [1, 0] rfl ?_
  exact cb_Mo_readCodes_L2 O _ _ hE n0 n0 _ _ _ hf
theorem c_Mo_readCodes {ln : Launch} {n0 : Nat} {h0 h' : mH} {a0 : Nat} {r' : Unit} (hf : f_Mo_readCodes n0 h0 a0 = some (r', h')) : mMet ln y_Mo_readCodes b_Mo_readCodes 5 none (mR 5 117) [.ref a0] h0 none h' := mMet_of (by decide +kernel) (Nat.le_of_ble_eq_true rfl) (fun X ad O hE => cb_Mo_readCodes O r' h' hE n0 h0 a0 hf)
/-! ===== StreamFiltersModel.lengthBits(I)I ===== -/
theorem d_Mo_lengthBits_0 : decode b_Mo_lengthBits 0 = .ok (.iload_n 0, 1) := by decide +kernel
theorem d_Mo_lengthBits_1 : decode b_Mo_lengthBits 1 = .ok (.sipush 265, 3) := by decide +kernel
theorem d_Mo_lengthBits_4 : decode b_Mo_lengthBits 4 = .ok (.if_icmp .lt 10, 3) := by decide +kernel
theorem d_Mo_lengthBits_7 : decode b_Mo_lengthBits 7 = .ok (.iload_n 0, 1) := by decide +kernel
theorem d_Mo_lengthBits_8 : decode b_Mo_lengthBits 8 = .ok (.sipush 285, 3) := by decide +kernel
theorem d_Mo_lengthBits_11 : decode b_Mo_lengthBits 11 = .ok (.if_icmp .ne 7, 3) := by decide +kernel
theorem d_Mo_lengthBits_14 : decode b_Mo_lengthBits 14 = .ok (.iconst 0, 1) := by decide +kernel
theorem d_Mo_lengthBits_15 : decode b_Mo_lengthBits 15 = .ok (.goto 10, 3) := by decide +kernel
theorem d_Mo_lengthBits_18 : decode b_Mo_lengthBits 18 = .ok (.iload_n 0, 1) := by decide +kernel
theorem d_Mo_lengthBits_19 : decode b_Mo_lengthBits 19 = .ok (.sipush 261, 3) := by decide +kernel
theorem d_Mo_lengthBits_22 : decode b_Mo_lengthBits 22 = .ok (.isub, 1) := by decide +kernel
theorem d_Mo_lengthBits_23 : decode b_Mo_lengthBits 23 = .ok (.iconst 4, 1) := by decide +kernel
theorem d_Mo_lengthBits_24 : decode b_Mo_lengthBits 24 = .ok (.idiv, 1) := by decide +kernel
theorem d_Mo_lengthBits_25 : decode b_Mo_lengthBits 25 = .ok (.ireturn, 1) := by decide +kernel
noncomputable def f_Mo_lengthBits  (n0 : Nat) (h0 : mH) (x0 : Int32) : Option (Int32 × mH) :=
  if x0 < 265 then
    some (0, h0)
  else
    if x0 = 285 then
      some (0, h0)
    else
      some ((x0 - 261) / 4, h0)
set_option maxHeartbeats 4000000 in
set_option maxRecDepth 100000 in
theorem cb_Mo_lengthBits {X : mX} {ad : Nat → Nat} {ln : Launch} (O : mO X ad R_Mo b_Mo_lengthBits 1 (mR 0 0) ln) (r' : Int32) (h' : mH) (hE : mEnd X ad (some .int) (some (.int r')) h') (n0 : Nat) (h0 : mH) (x0 : Int32) (hf : f_Mo_lengthBits n0 h0 x0 = some (r', h')) : mAW X ad 0 0 0 [(0, .int x0)] [] h0 := by
  unfold f_Mo_lengthBits at hf
  refine ax_iload_n O d_Mo_lengthBits_0 rfl 0 rfl ?_
  refine ax_sipush (v := 265) O d_Mo_lengthBits_1 (by decide) ?_
  refine ax_icmp_lt (tgt := 14) O d_Mo_lengthBits_4 (by decide) (fun q1 => ?_) (fun q1 => ?_)
  · rw [if_pos q1] at hf
    refine ax_iconst (v := 0) O d_Mo_lengthBits_14 (by decide) ?_
    refine ax_goto (tgt := 25) O d_Mo_lengthBits_15 (by decide) ?_
    exact ax_retE O hE hf rfl d_Mo_lengthBits_25
  · rw [if_neg q1] at hf
    refine ax_iload_n O d_Mo_lengthBits_7 rfl 0 rfl ?_
    refine ax_sipush (v := 285) O d_Mo_lengthBits_8 (by decide) ?_
    refine ax_icmp_ne (tgt := 18) O d_Mo_lengthBits_11 (by decide) (fun q2 => ?_) (fun q2 => ?_)
    · rw [if_neg q2] at hf
      refine ax_iload_n O d_Mo_lengthBits_18 rfl 0 rfl ?_
      refine ax_sipush (v := 261) O d_Mo_lengthBits_19 (by decide) ?_
      refine ax_isub O d_Mo_lengthBits_22 ?_
      refine ax_iconst (v := 4) O d_Mo_lengthBits_23 (by decide) ?_
      refine ax_idiv O d_Mo_lengthBits_24 (by decide) ?_
      exact ax_retE O hE hf rfl d_Mo_lengthBits_25
    · rw [if_pos q2] at hf
      refine ax_iconst (v := 0) O d_Mo_lengthBits_14 (by decide) ?_
      refine ax_goto (tgt := 25) O d_Mo_lengthBits_15 (by decide) ?_
      exact ax_retE O hE hf rfl d_Mo_lengthBits_25
theorem c_Mo_lengthBits {ln : Launch} {n0 : Nat} {h0 h' : mH} {x0 : Int32} {r' : Int32} (hf : f_Mo_lengthBits n0 h0 x0 = some (r', h')) : mMet ln y_Mo_lengthBits b_Mo_lengthBits 1 (some .int) (mR 0 0) [.int x0] h0 (some (.int r')) h' := mMet_of (by decide +kernel) (Nat.le_of_ble_eq_true rfl) (fun X ad O hE => cb_Mo_lengthBits O r' h' hE n0 h0 x0 hf)
/-! ===== StreamFiltersModel.lengthOf(I)I ===== -/
theorem d_Mo_lengthOf_0 : decode b_Mo_lengthOf 0 = .ok (.iconst 3, 1) := by decide +kernel
theorem d_Mo_lengthOf_1 : decode b_Mo_lengthOf 1 = .ok (.istore_n 1, 1) := by decide +kernel
theorem d_Mo_lengthOf_2 : decode b_Mo_lengthOf 2 = .ok (.sipush 257, 3) := by decide +kernel
theorem d_Mo_lengthOf_5 : decode b_Mo_lengthOf 5 = .ok (.istore_n 2, 1) := by decide +kernel
theorem d_Mo_lengthOf_6 : decode b_Mo_lengthOf 6 = .ok (.iload_n 2, 1) := by decide +kernel
theorem d_Mo_lengthOf_7 : decode b_Mo_lengthOf 7 = .ok (.iload_n 0, 1) := by decide +kernel
theorem d_Mo_lengthOf_8 : decode b_Mo_lengthOf 8 = .ok (.if_icmp .ge 18, 3) := by decide +kernel
theorem d_Mo_lengthOf_11 : decode b_Mo_lengthOf 11 = .ok (.iload_n 1, 1) := by decide +kernel
theorem d_Mo_lengthOf_12 : decode b_Mo_lengthOf 12 = .ok (.iconst 1, 1) := by decide +kernel
theorem d_Mo_lengthOf_13 : decode b_Mo_lengthOf 13 = .ok (.iload_n 2, 1) := by decide +kernel
theorem d_Mo_lengthOf_14 : decode b_Mo_lengthOf 14 = .ok (.invokestatic 145, 3) := by decide +kernel
theorem d_Mo_lengthOf_17 : decode b_Mo_lengthOf 17 = .ok (.ishl, 1) := by decide +kernel
theorem d_Mo_lengthOf_18 : decode b_Mo_lengthOf 18 = .ok (.iadd, 1) := by decide +kernel
theorem d_Mo_lengthOf_19 : decode b_Mo_lengthOf 19 = .ok (.istore_n 1, 1) := by decide +kernel
theorem d_Mo_lengthOf_20 : decode b_Mo_lengthOf 20 = .ok (.iinc 2 1, 3) := by decide +kernel
theorem d_Mo_lengthOf_23 : decode b_Mo_lengthOf 23 = .ok (.goto (-17), 3) := by decide +kernel
theorem d_Mo_lengthOf_26 : decode b_Mo_lengthOf 26 = .ok (.iload_n 0, 1) := by decide +kernel
theorem d_Mo_lengthOf_27 : decode b_Mo_lengthOf 27 = .ok (.sipush 285, 3) := by decide +kernel
theorem d_Mo_lengthOf_30 : decode b_Mo_lengthOf 30 = .ok (.if_icmp .ne 9, 3) := by decide +kernel
theorem d_Mo_lengthOf_33 : decode b_Mo_lengthOf 33 = .ok (.sipush 258, 3) := by decide +kernel
theorem d_Mo_lengthOf_36 : decode b_Mo_lengthOf 36 = .ok (.goto 4, 3) := by decide +kernel
theorem d_Mo_lengthOf_39 : decode b_Mo_lengthOf 39 = .ok (.iload_n 1, 1) := by decide +kernel
theorem d_Mo_lengthOf_40 : decode b_Mo_lengthOf 40 = .ok (.ireturn, 1) := by decide +kernel
noncomputable def f_Mo_lengthOf_L6  (n0 : Nat) : Nat → mH → Int32 → Int32 → Int32 → Option (Int32 × mH)
  | 0, _, _, _, _ => none
  | n + 1, h0, x0, x1, x2 =>
    if x0 ≤ x2 then
      if x0 = 285 then
        some (258, h0)
      else
        some (x1, h0)
    else
      mcl (f_Mo_lengthBits n0 h0 x2) fun v4 h5 =>
      mnm (x1 + (1 <<< (v4 &&& 31))) fun v6 =>
      mnm (x2 + 1) fun v7 =>
      (f_Mo_lengthOf_L6 n0 n) h5 x0 v6 v7
noncomputable def f_Mo_lengthOf  (n0 : Nat) (h0 : mH) (x0 : Int32) : Option (Int32 × mH) :=
  f_Mo_lengthOf_L6 n0 n0 h0 x0 3 257
set_option maxHeartbeats 4000000 in
set_option maxRecDepth 100000 in
theorem cb_Mo_lengthOf_L6 {X : mX} {ad : Nat → Nat} {ln : Launch} (O : mO X ad R_Mo b_Mo_lengthOf 3 (mR 1 20) ln) (r' : Int32) (h' : mH) (hE : mEnd X ad (some .int) (some (.int r')) h') (n0 : Nat) : ∀ (n : Nat) (h0 : mH) (x0 : Int32) (x1 : Int32) (x2 : Int32), f_Mo_lengthOf_L6 n0 n h0 x0 x1 x2 = some (r', h') → mAW X ad 0 0 6 [(0, .int x0), (1, .int x1), (2, .int x2)] [] h0 := by
  intro n
  induction n with
  | zero =>
    intro h0 x0 x1 x2 hf
    rw [f_Mo_lengthOf_L6.eq_1] at hf
    cases hf
  | succ n ih =>
    intro h0 x0 x1 x2 hf
    rw [f_Mo_lengthOf_L6.eq_2] at hf
    refine ax_iload_n O d_Mo_lengthOf_6 rfl 2 rfl ?_
    refine ax_iload_n O d_Mo_lengthOf_7 rfl 0 rfl ?_
    refine ax_icmp_ge (tgt := 26) O d_Mo_lengthOf_8 (by decide) (fun q1 => ?_) (fun q1 => ?_)
    · rw [if_pos q1] at hf
      refine ax_iload_n O d_Mo_lengthOf_26 rfl 0 rfl ?_
      refine ax_sipush (v := 285) O d_Mo_lengthOf_27 (by decide) ?_
      refine ax_icmp_ne (tgt := 39) O d_Mo_lengthOf_30 (by decide) (fun q2 => ?_) (fun q2 => ?_)
      · rw [if_neg q2] at hf
        refine ax_iload_n O d_Mo_lengthOf_39 rfl 1 rfl ?_
        exact ax_retE O hE hf rfl d_Mo_lengthOf_40
      · rw [if_pos q2] at hf
        refine ax_sipush (v := 258) O d_Mo_lengthOf_33 (by decide) ?_
        refine ax_goto (tgt := 40) O d_Mo_lengthOf_36 (by decide) ?_
        exact ax_retE O hE hf rfl d_Mo_lengthOf_40
    · rw [if_neg q1] at hf
      refine ax_iload_n O d_Mo_lengthOf_11 rfl 1 rfl ?_
      refine ax_iconst (v := 1) O d_Mo_lengthOf_12 (by decide) ?_
      refine ax_iload_n O d_Mo_lengthOf_13 rfl 2 rfl ?_
      obtain ⟨v4, h5, mh5, hf⟩ := mcl_some hf
      refine ax_callS (As := [.int x2]) (rest := [.int 1, .int x1]) O cw_Mo_lengthBits st_Mo_lengthBits lk_Mo_145 (c_Mo_lengthBits mh5) rfl ⟨rfl, rfl⟩ (by decide) (by decide) (Nat.le_of_ble_eq_true rfl) d_Mo_lengthOf_14 ?_
      refine ax_ishl O d_Mo_lengthOf_17 ?_
      refine ax_iadd O d_Mo_lengthOf_18 ?_
      obtain ⟨v6, ev6, hf⟩ := mnm_some hf
      refine ax_nmi ev6 ?_
      refine ax_istore_n (lv' := [(1, .int v6), (0, .int x0), (2, .int x2)]) O d_Mo_lengthOf_19 rfl (by decide) rfl ?_
      obtain ⟨v7, ev7, hf⟩ := mnm_some hf
      refine ax_iinc (j := 2) (v := v7) (lv' := [(2, .int v7), (1, .int v6), (0, .int x0)]) O d_Mo_lengthOf_20 rfl (by rw [ev7]; rfl) (by decide) rfl ?_
      refine ax_goto (tgt := 6) O d_Mo_lengthOf_23 (by decide) ?_
      refine ax_sub [2, 1, 0] rfl ?_
      exact ih _ _ _ _ hf
set_option maxHeartbeats 4000000 in
set_option maxRecDepth 100000 in
theorem cb_Mo_lengthOf {X : mX} {ad : Nat → Nat} {ln : Launch} (O : mO X ad R_Mo b_Mo_lengthOf 3 (mR 1 20) ln) (r' : Int32) (h' : mH) (hE : mEnd X ad (some .int) (some (.int r')) h') (n0 : Nat) (h0 : mH) (x0 : Int32) (hf : f_Mo_lengthOf n0 h0 x0 = some (r', h')) : mAW X ad 0 0 0 [(0, .int x0)] [] h0 := by
  unfold f_Mo_lengthOf at hf
  refine ax_iconst (v := 3) O d_Mo_lengthOf_0 (by decide) ?_
  refine ax_istore_n (lv' := [(1, .int 3), (0, .int x0)]) O d_Mo_lengthOf_1 rfl (by decide) rfl ?_
  refine ax_sipush (v := 257) O d_Mo_lengthOf_2 (by decide) ?_
  refine ax_istore_n (lv' := [(2, .int 257), (1, .int 3), (0, .int x0)]) O d_Mo_lengthOf_5 rfl (by decide) rfl ?_
  refine ax_sub [2, 1, 0] rfl ?_
  exact cb_Mo_lengthOf_L6 O _ _ hE n0 n0 _ _ _ _ hf
theorem c_Mo_lengthOf {ln : Launch} {n0 : Nat} {h0 h' : mH} {x0 : Int32} {r' : Int32} (hf : f_Mo_lengthOf n0 h0 x0 = some (r', h')) : mMet ln y_Mo_lengthOf b_Mo_lengthOf 3 (some .int) (mR 1 20) [.int x0] h0 (some (.int r')) h' := mMet_of (by decide +kernel) (Nat.le_of_ble_eq_true rfl) (fun X ad O hE => cb_Mo_lengthOf O r' h' hE n0 h0 x0 hf)
/-! ===== StreamFiltersModel.distanceBits(I)I ===== -/
theorem d_Mo_distanceBits_0 : decode b_Mo_distanceBits 0 = .ok (.iload_n 0, 1) := by decide +kernel
theorem d_Mo_distanceBits_1 : decode b_Mo_distanceBits 1 = .ok (.iconst 4, 1) := by decide +kernel
theorem d_Mo_distanceBits_2 : decode b_Mo_distanceBits 2 = .ok (.if_icmp .ge 7, 3) := by decide +kernel
theorem d_Mo_distanceBits_5 : decode b_Mo_distanceBits 5 = .ok (.iconst 0, 1) := by decide +kernel
theorem d_Mo_distanceBits_6 : decode b_Mo_distanceBits 6 = .ok (.goto 8, 3) := by decide +kernel
theorem d_Mo_distanceBits_9 : decode b_Mo_distanceBits 9 = .ok (.iload_n 0, 1) := by decide +kernel
theorem d_Mo_distanceBits_10 : decode b_Mo_distanceBits 10 = .ok (.iconst 2, 1) := by decide +kernel
theorem d_Mo_distanceBits_11 : decode b_Mo_distanceBits 11 = .ok (.idiv, 1) := by decide +kernel
theorem d_Mo_distanceBits_12 : decode b_Mo_distanceBits 12 = .ok (.iconst 1, 1) := by decide +kernel
theorem d_Mo_distanceBits_13 : decode b_Mo_distanceBits 13 = .ok (.isub, 1) := by decide +kernel
theorem d_Mo_distanceBits_14 : decode b_Mo_distanceBits 14 = .ok (.ireturn, 1) := by decide +kernel
noncomputable def f_Mo_distanceBits  (n0 : Nat) (h0 : mH) (x0 : Int32) : Option (Int32 × mH) :=
  if 4 ≤ x0 then
    some ((x0 / 2) - 1, h0)
  else
    some (0, h0)
set_option maxHeartbeats 4000000 in
set_option maxRecDepth 100000 in
theorem cb_Mo_distanceBits {X : mX} {ad : Nat → Nat} {ln : Launch} (O : mO X ad R_Mo b_Mo_distanceBits 1 (mR 0 0) ln) (r' : Int32) (h' : mH) (hE : mEnd X ad (some .int) (some (.int r')) h') (n0 : Nat) (h0 : mH) (x0 : Int32) (hf : f_Mo_distanceBits n0 h0 x0 = some (r', h')) : mAW X ad 0 0 0 [(0, .int x0)] [] h0 := by
  unfold f_Mo_distanceBits at hf
  refine ax_iload_n O d_Mo_distanceBits_0 rfl 0 rfl ?_
  refine ax_iconst (v := 4) O d_Mo_distanceBits_1 (by decide) ?_
  refine ax_icmp_ge (tgt := 9) O d_Mo_distanceBits_2 (by decide) (fun q1 => ?_) (fun q1 => ?_)
  · rw [if_pos q1] at hf
    refine ax_iload_n O d_Mo_distanceBits_9 rfl 0 rfl ?_
    refine ax_iconst (v := 2) O d_Mo_distanceBits_10 (by decide) ?_
    refine ax_idiv O d_Mo_distanceBits_11 (by decide) ?_
    refine ax_iconst (v := 1) O d_Mo_distanceBits_12 (by decide) ?_
    refine ax_isub O d_Mo_distanceBits_13 ?_
    exact ax_retE O hE hf rfl d_Mo_distanceBits_14
  · rw [if_neg q1] at hf
    refine ax_iconst (v := 0) O d_Mo_distanceBits_5 (by decide) ?_
    refine ax_goto (tgt := 14) O d_Mo_distanceBits_6 (by decide) ?_
    exact ax_retE O hE hf rfl d_Mo_distanceBits_14
theorem c_Mo_distanceBits {ln : Launch} {n0 : Nat} {h0 h' : mH} {x0 : Int32} {r' : Int32} (hf : f_Mo_distanceBits n0 h0 x0 = some (r', h')) : mMet ln y_Mo_distanceBits b_Mo_distanceBits 1 (some .int) (mR 0 0) [.int x0] h0 (some (.int r')) h' := mMet_of (by decide +kernel) (Nat.le_of_ble_eq_true rfl) (fun X ad O hE => cb_Mo_distanceBits O r' h' hE n0 h0 x0 hf)
/-! ===== StreamFiltersModel.distanceOf(I)I ===== -/
theorem d_Mo_distanceOf_0 : decode b_Mo_distanceOf 0 = .ok (.iconst 1, 1) := by decide +kernel
theorem d_Mo_distanceOf_1 : decode b_Mo_distanceOf 1 = .ok (.istore_n 1, 1) := by decide +kernel
theorem d_Mo_distanceOf_2 : decode b_Mo_distanceOf 2 = .ok (.iconst 0, 1) := by decide +kernel
theorem d_Mo_distanceOf_3 : decode b_Mo_distanceOf 3 = .ok (.istore_n 2, 1) := by decide +kernel
theorem d_Mo_distanceOf_4 : decode b_Mo_distanceOf 4 = .ok (.iload_n 2, 1) := by decide +kernel
theorem d_Mo_distanceOf_5 : decode b_Mo_distanceOf 5 = .ok (.iload_n 0, 1) := by decide +kernel
theorem d_Mo_distanceOf_6 : decode b_Mo_distanceOf 6 = .ok (.if_icmp .ge 18, 3) := by decide +kernel
theorem d_Mo_distanceOf_9 : decode b_Mo_distanceOf 9 = .ok (.iload_n 1, 1) := by decide +kernel
theorem d_Mo_distanceOf_10 : decode b_Mo_distanceOf 10 = .ok (.iconst 1, 1) := by decide +kernel
theorem d_Mo_distanceOf_11 : decode b_Mo_distanceOf 11 = .ok (.iload_n 2, 1) := by decide +kernel
theorem d_Mo_distanceOf_12 : decode b_Mo_distanceOf 12 = .ok (.invokestatic 148, 3) := by decide +kernel
theorem d_Mo_distanceOf_15 : decode b_Mo_distanceOf 15 = .ok (.ishl, 1) := by decide +kernel
theorem d_Mo_distanceOf_16 : decode b_Mo_distanceOf 16 = .ok (.iadd, 1) := by decide +kernel
theorem d_Mo_distanceOf_17 : decode b_Mo_distanceOf 17 = .ok (.istore_n 1, 1) := by decide +kernel
theorem d_Mo_distanceOf_18 : decode b_Mo_distanceOf 18 = .ok (.iinc 2 1, 3) := by decide +kernel
theorem d_Mo_distanceOf_21 : decode b_Mo_distanceOf 21 = .ok (.goto (-17), 3) := by decide +kernel
theorem d_Mo_distanceOf_24 : decode b_Mo_distanceOf 24 = .ok (.iload_n 1, 1) := by decide +kernel
theorem d_Mo_distanceOf_25 : decode b_Mo_distanceOf 25 = .ok (.ireturn, 1) := by decide +kernel
noncomputable def f_Mo_distanceOf_L4  (n0 : Nat) : Nat → mH → Int32 → Int32 → Int32 → Option (Int32 × mH)
  | 0, _, _, _, _ => none
  | n + 1, h0, x0, x1, x2 =>
    if x0 ≤ x2 then
      some (x1, h0)
    else
      mcl (f_Mo_distanceBits n0 h0 x2) fun v3 h4 =>
      mnm (x1 + (1 <<< (v3 &&& 31))) fun v5 =>
      mnm (x2 + 1) fun v6 =>
      (f_Mo_distanceOf_L4 n0 n) h4 x0 v5 v6
noncomputable def f_Mo_distanceOf  (n0 : Nat) (h0 : mH) (x0 : Int32) : Option (Int32 × mH) :=
  f_Mo_distanceOf_L4 n0 n0 h0 x0 1 0
set_option maxHeartbeats 4000000 in
set_option maxRecDepth 100000 in
theorem cb_Mo_distanceOf_L4 {X : mX} {ad : Nat → Nat} {ln : Launch} (O : mO X ad R_Mo b_Mo_distanceOf 3 (mR 1 20) ln) (r' : Int32) (h' : mH) (hE : mEnd X ad (some .int) (some (.int r')) h') (n0 : Nat) : ∀ (n : Nat) (h0 : mH) (x0 : Int32) (x1 : Int32) (x2 : Int32), f_Mo_distanceOf_L4 n0 n h0 x0 x1 x2 = some (r', h') → mAW X ad 0 0 4 [(0, .int x0), (1, .int x1), (2, .int x2)] [] h0 := by
  intro n
  induction n with
  | zero =>
    intro h0 x0 x1 x2 hf
    rw [f_Mo_distanceOf_L4.eq_1] at hf
    cases hf
  | succ n ih =>
    intro h0 x0 x1 x2 hf
    rw [f_Mo_distanceOf_L4.eq_2] at hf
    refine ax_iload_n O d_Mo_distanceOf_4 rfl 2 rfl ?_
    refine ax_iload_n O d_Mo_distanceOf_5 rfl 0 rfl ?_
    refine ax_icmp_ge (tgt := 24) O d_Mo_distanceOf_6 (by decide) (fun q1 => ?_) (fun q1 => ?_)
    · rw [if_pos q1] at hf
      refine ax_iload_n O d_Mo_distanceOf_24 rfl 1 rfl ?_
      exact ax_retE O hE hf rfl d_Mo_distanceOf_25
    · rw [if_neg q1] at hf
      refine ax_iload_n O d_Mo_distanceOf_9 rfl 1 rfl ?_
      refine ax_iconst (v := 1) O d_Mo_distanceOf_10 (by decide) ?_
      refine ax_iload_n O d_Mo_distanceOf_11 rfl 2 rfl ?_
      obtain ⟨v3, h4, mh4, hf⟩ := mcl_some hf
      refine ax_callS (As := [.int x2]) (rest := [.int 1, .int x1]) O cw_Mo_distanceBits st_Mo_distanceBits lk_Mo_148 (c_Mo_distanceBits mh4) rfl ⟨rfl, rfl⟩ (by decide) (by decide) (Nat.le_of_ble_eq_true rfl) d_Mo_distanceOf_12 ?_
      refine ax_ishl O d_Mo_distanceOf_15 ?_
      refine ax_iadd O d_Mo_distanceOf_16 ?_
      obtain ⟨v5, ev5, hf⟩ := mnm_some hf
      refine ax_nmi ev5 ?_
      refine ax_istore_n (lv' := [(1, .int v5), (0, .int x0), (2, .int x2)]) O d_Mo_distanceOf_17 rfl (by decide) rfl ?_
      obtain ⟨v6, ev6, hf⟩ := mnm_some hf
      refine ax_iinc (j := 2) (v := v6) (lv' := [(2, .int v6), (1, .int v5), (0, .int x0)]) O d_Mo_distanceOf_18 rfl (by rw [ev6]; rfl) (by decide) rfl ?_
      refine ax_goto (tgt := 4) O d_Mo_distanceOf_21 (by decide) ?_
      refine ax_sub [2, 1, 0] rfl ?_
      exact ih _ _ _ _ hf
set_option maxHeartbeats 4000000 in
set_option maxRecDepth 100000 in
theorem cb_Mo_distanceOf {X : mX} {ad : Nat → Nat} {ln : Launch} (O : mO X ad R_Mo b_Mo_distanceOf 3 (mR 1 20) ln) (r' : Int32) (h' : mH) (hE : mEnd X ad (some .int) (some (.int r')) h') (n0 : Nat) (h0 : mH) (x0 : Int32) (hf : f_Mo_distanceOf n0 h0 x0 = some (r', h')) : mAW X ad 0 0 0 [(0, .int x0)] [] h0 := by
  unfold f_Mo_distanceOf at hf
  refine ax_iconst (v := 1) O d_Mo_distanceOf_0 (by decide) ?_
  refine ax_istore_n (lv' := [(1, .int 1), (0, .int x0)]) O d_Mo_distanceOf_1 rfl (by decide) rfl ?_
  refine ax_iconst (v := 0) O d_Mo_distanceOf_2 (by decide) ?_
  refine ax_istore_n (lv' := [(2, .int 0), (1, .int 1), (0, .int x0)]) O d_Mo_distanceOf_3 rfl (by decide) rfl ?_
  refine ax_sub [2, 1, 0] rfl ?_
  exact cb_Mo_distanceOf_L4 O _ _ hE n0 n0 _ _ _ _ hf
theorem c_Mo_distanceOf {ln : Launch} {n0 : Nat} {h0 h' : mH} {x0 : Int32} {r' : Int32} (hf : f_Mo_distanceOf n0 h0 x0 = some (r', h')) : mMet ln y_Mo_distanceOf b_Mo_distanceOf 3 (some .int) (mR 1 20) [.int x0] h0 (some (.int r')) h' := mMet_of (by decide +kernel) (Nat.le_of_ble_eq_true rfl) (fun X ad O hE => cb_Mo_distanceOf O r' h' hE n0 h0 x0 hf)
/-! ===== StreamFiltersModel.match(I)V ===== -/
theorem d_Mo_match_0 : decode b_Mo_match 0 = .ok (.iload_n 1, 1) := by decide +kernel
theorem d_Mo_match_1 : decode b_Mo_match 1 = .ok (.sipush 285, 3) := by decide +kernel
theorem d_Mo_match_4 : decode b_Mo_match 4 = .ok (.if_icmp .le 10, 3) := by decide +kernel
theorem d_Mo_match_7 : decode b_Mo_match 7 = .ok (.aload_n 0, 1) := by decide +kernel
theorem d_Mo_match_8 : decode b_Mo_match 8 = .ok (.bipush 7, 2) := by decide +kernel
theorem d_Mo_match_10 : decode b_Mo_match 10 = .ok (.invokevirtual 99, 3) := by decide +kernel
theorem d_Mo_match_13 : decode b_Mo_match 13 = .ok (.return_, 1) := by decide +kernel
theorem d_Mo_match_14 : decode b_Mo_match 14 = .ok (.iload_n 1, 1) := by decide +kernel
theorem d_Mo_match_15 : decode b_Mo_match 15 = .ok (.invokestatic 151, 3) := by decide +kernel
theorem d_Mo_match_18 : decode b_Mo_match 18 = .ok (.aload_n 0, 1) := by decide +kernel
theorem d_Mo_match_19 : decode b_Mo_match 19 = .ok (.iload_n 1, 1) := by decide +kernel
theorem d_Mo_match_20 : decode b_Mo_match 20 = .ok (.invokestatic 145, 3) := by decide +kernel
theorem d_Mo_match_23 : decode b_Mo_match 23 = .ok (.invokevirtual 127, 3) := by decide +kernel
theorem d_Mo_match_26 : decode b_Mo_match 26 = .ok (.iadd, 1) := by decide +kernel
theorem d_Mo_match_27 : decode b_Mo_match 27 = .ok (.istore_n 2, 1) := by decide +kernel
theorem d_Mo_match_28 : decode b_Mo_match 28 = .ok (.aload_n 0, 1) := by decide +kernel
theorem d_Mo_match_29 : decode b_Mo_match 29 = .ok (.sipush 288, 3) := by decide +kernel
theorem d_Mo_match_32 : decode b_Mo_match 32 = .ok (.bipush 32, 2) := by decide +kernel
theorem d_Mo_match_34 : decode b_Mo_match 34 = .ok (.invokevirtual 141, 3) := by decide +kernel
theorem d_Mo_match_37 : decode b_Mo_match 37 = .ok (.istore_n 3, 1) := by decide +kernel
theorem d_Mo_match_38 : decode b_Mo_match 38 = .ok (.aload_n 0, 1) := by decide +kernel
theorem d_Mo_match_39 : decode b_Mo_match 39 = .ok (.invokevirtual 89, 3) := by decide +kernel
theorem d_Mo_match_42 : decode b_Mo_match 42 = .ok (.ifCond .eq 15, 3) := by decide +kernel
theorem d_Mo_match_45 : decode b_Mo_match 45 = .ok (.iload_n 3, 1) := by decide +kernel
theorem d_Mo_match_46 : decode b_Mo_match 46 = .ok (.bipush 29, 2) := by decide +kernel
theorem d_Mo_match_48 : decode b_Mo_match 48 = .ok (.if_icmp .le 9, 3) := by decide +kernel
theorem d_Mo_match_51 : decode b_Mo_match 51 = .ok (.aload_n 0, 1) := by decide +kernel
theorem d_Mo_match_52 : decode b_Mo_match 52 = .ok (.bipush 7, 2) := by decide +kernel
theorem d_Mo_match_54 : decode b_Mo_match 54 = .ok (.invokevirtual 99, 3) := by decide +kernel
theorem d_Mo_match_57 : decode b_Mo_match 57 = .ok (.aload_n 0, 1) := by decide +kernel
theorem d_Mo_match_58 : decode b_Mo_match 58 = .ok (.invokevirtual 89, 3) := by decide +kernel
theorem d_Mo_match_61 : decode b_Mo_match 61 = .ok (.ifCond .eq 19, 3) := by decide +kernel
theorem d_Mo_match_64 : decode b_Mo_match 64 = .ok (.iload_n 3, 1) := by decide +kernel
theorem d_Mo_match_65 : decode b_Mo_match 65 = .ok (.invokestatic 154, 3) := by decide +kernel
theorem d_Mo_match_68 : decode b_Mo_match 68 = .ok (.aload_n 0, 1) := by decide +kernel
theorem d_Mo_match_69 : decode b_Mo_match 69 = .ok (.iload_n 3, 1) := by decide +kernel
theorem d_Mo_match_70 : decode b_Mo_match 70 = .ok (.invokestatic 148, 3) := by decide +kernel
theorem d_Mo_match_73 : decode b_Mo_match 73 = .ok (.invokevirtual 127, 3) := by decide +kernel
theorem d_Mo_match_76 : decode b_Mo_match 76 = .ok (.iadd, 1) := by decide +kernel
theorem d_Mo_match_77 : decode b_Mo_match 77 = .ok (.goto 4, 3) := by decide +kernel
theorem d_Mo_match_80 : decode b_Mo_match 80 = .ok (.iconst 0, 1) := by decide +kernel
theorem d_Mo_match_81 : decode b_Mo_match 81 = .ok (.istore 4, 2) := by decide +kernel
theorem d_Mo_match_83 : decode b_Mo_match 83 = .ok (.aload_n 0, 1) := by decide +kernel
theorem d_Mo_match_84 : decode b_Mo_match 84 = .ok (.invokevirtual 89, 3) := by decide +kernel
theorem d_Mo_match_87 : decode b_Mo_match 87 = .ok (.ifCond .eq 18, 3) := by decide +kernel
theorem d_Mo_match_90 : decode b_Mo_match 90 = .ok (.iload 4, 2) := by decide +kernel
theorem d_Mo_match_92 : decode b_Mo_match 92 = .ok (.aload_n 0, 1) := by decide +kernel
theorem d_Mo_match_93 : decode b_Mo_match 93 = .ok (.getfield 106, 3) := by decide +kernel
theorem d_Mo_match_96 : decode b_Mo_match 96 = .ok (.if_icmp .le 9, 3) := by decide +kernel
theorem d_Mo_match_99 : decode b_Mo_match 99 = .ok (.aload_n 0, 1) := by decide +kernel
theorem d_Mo_match_100 : decode b_Mo_match 100 = .ok (.bipush 8, 2) := by decide +kernel
theorem d_Mo_match_102 : decode b_Mo_match 102 = .ok (.invokevirtual 99, 3) := by decide +kernel
theorem d_Mo_match_105 : decode b_Mo_match 105 = .ok (.iconst 0, 1) := by decide +kernel
theorem d_Mo_match_106 : decode b_Mo_match 106 = .ok (.istore 5, 2) := by decide +kernel
theorem d_Mo_match_108 : decode b_Mo_match 108 = .ok (.iload 5, 2) := by decide +kernel
theorem d_Mo_match_110 : decode b_Mo_match 110 = .ok (.iload_n 2, 1) := by decide +kernel
theorem d_Mo_match_111 : decode b_Mo_match 111 = .ok (.if_icmp .ge 32, 3) := by decide +kernel
theorem d_Mo_match_114 : decode b_Mo_match 114 = .ok (.aload_n 0, 1) := by decide +kernel
theorem d_Mo_match_115 : decode b_Mo_match 115 = .ok (.invokevirtual 89, 3) := by decide +kernel
theorem d_Mo_match_118 : decode b_Mo_match 118 = .ok (.ifCond .eq 25, 3) := by decide +kernel
theorem d_Mo_match_121 : decode b_Mo_match 121 = .ok (.aload_n 0, 1) := by decide +kernel
theorem d_Mo_match_122 : decode b_Mo_match 122 = .ok (.aload_n 0, 1) := by decide +kernel
theorem d_Mo_match_123 : decode b_Mo_match 123 = .ok (.getfield 39, 3) := by decide +kernel
theorem d_Mo_match_126 : decode b_Mo_match 126 = .ok (.aload_n 0, 1) := by decide +kernel
theorem d_Mo_match_127 : decode b_Mo_match 127 = .ok (.getfield 106, 3) := by decide +kernel
theorem d_Mo_match_130 : decode b_Mo_match 130 = .ok (.iload 4, 2) := by decide +kernel
theorem d_Mo_match_132 : decode b_Mo_match 132 = .ok (.isub, 1) := by decide +kernel
theorem d_Mo_match_133 : decode b_Mo_match 133 = .ok (.iaload, 1) := by decide +kernel
theorem d_Mo_match_134 : decode b_Mo_match 134 = .ok (.invokevirtual 157, 3) := by decide +kernel
theorem d_Mo_match_137 : decode b_Mo_match 137 = .ok (.iinc 5 1, 3) := by decide +kernel
theorem d_Mo_match_140 : decode b_Mo_match 140 = .ok (.goto (-32), 3) := by decide +kernel
theorem d_Mo_match_143 : decode b_Mo_match 143 = .ok (.return_, 1) := by decide +kernel
noncomputable def f_Mo_match_L108  (n0 : Nat) : Nat → mH → Nat → Int32 → Int32 → Int32 → Option (Unit × mH)
  | 0, _, _, _, _, _ => none
  | n + 1, h0, a0, x2, x4, x5 =>
    if x2 ≤ x5 then
      some ((), h0)
    else
      mis h0 a0 10 <|
      mcl (f_Mo_isGood n0 h0 a0) fun v29 h30 =>
      if v29 = 0 then
        some ((), h30)
      else
        mgr h30 a0 10 14 fun r32 =>
        mgi h30 a0 10 13 fun v33 =>
        mai h30 r32 .int (v33 - x4) fun v34 =>
        mis h30 a0 10 <|
        mcl (f_Mo_give n0 h30 a0 v34) fun _ h37 =>
        mnm (x5 + 1) fun v39 =>
        (f_Mo_match_L108 n0 n) h37 a0 x2 x4 v39
noncomputable def f_Mo_match_B105  (n0 : Nat) (h0 : mH) (a0 : Nat) (x2 : Int32) (x4 : Int32) : Option (Unit × mH) :=
  f_Mo_match_L108 n0 n0 h0 a0 x2 x4 0
noncomputable def f_Mo_match_B81  (n0 : Nat) (h0 : mH) (a0 : Nat) (x2 : Int32) (p0 : Int32) : Option (Unit × mH) :=
  mis h0 a0 10 <|
  mcl (f_Mo_isGood n0 h0 a0) fun v24 h25 =>
  if v24 = 0 then
    f_Mo_match_B105 n0 h25 a0 x2 p0
  else
    mgi h25 a0 10 13 fun v40 =>
    if p0 ≤ v40 then
      f_Mo_match_B105 n0 h25 a0 x2 p0
    else
      mis h25 a0 10 <|
      mcl (f_Mo_fail n0 h25 a0 8) fun _ h44 =>
      f_Mo_match_B105 n0 h44 a0 x2 p0
noncomputable def f_Mo_match_B57  (n0 : Nat) (h0 : mH) (a0 : Nat) (x2 : Int32) (x3 : Int32) : Option (Unit × mH) :=
  mis h0 a0 10 <|
  mcl (f_Mo_isGood n0 h0 a0) fun v20 h21 =>
  if v20 = 0 then
    f_Mo_match_B81 n0 h21 a0 x2 0
  else
    mcl (f_Mo_distanceOf n0 h21 x3) fun v47 h48 =>
    mcl (f_Mo_distanceBits n0 h48 x3) fun v50 h51 =>
    mis h51 a0 10 <|
    mcl (f_Mo_number n0 h51 a0 v50) fun v53 h54 =>
    f_Mo_match_B81 n0 h54 a0 x2 (v47 + v53)
noncomputable def f_Mo_match  (n0 : Nat) (h0 : mH) (a0 : Nat) (x1 : Int32) : Option (Unit × mH) :=
  if x1 ≤ 285 then
    mcl (f_Mo_lengthOf n0 h0 x1) fun v3 h4 =>
    mcl (f_Mo_lengthBits n0 h4 x1) fun v6 h7 =>
    mis h7 a0 10 <|
    mcl (f_Mo_number n0 h7 a0 v6) fun v9 h10 =>
    mnm (v3 + v9) fun v11 =>
    mis h10 a0 10 <|
    mcl (f_Mo_symbol n0 h10 a0 288 32) fun v13 h14 =>
    mis h14 a0 10 <|
    mcl (f_Mo_isGood n0 h14 a0) fun v16 h17 =>
    if v16 = 0 then
      f_Mo_match_B57 n0 h17 a0 v11 v13
    else
      if v13 ≤ 29 then
        f_Mo_match_B57 n0 h17 a0 v11 v13
      else
        mis h17 a0 10 <|
        mcl (f_Mo_fail n0 h17 a0 7) fun _ h58 =>
        f_Mo_match_B57 n0 h58 a0 v11 v13
  else
    mis h0 a0 10 <|
    mcl (f_Mo_fail n0 h0 a0 7) fun _ h62 =>
    some ((), h62)
set_option maxHeartbeats 4000000 in
set_option maxRecDepth 100000 in
theorem cb_Mo_match_L108 {X : mX} {ad : Nat → Nat} {ln : Launch} (O : mO X ad R_Mo b_Mo_match 6 (mR 4 88) ln) (r' : Unit) (h' : mH) (hE : mEnd X ad none none h') (n0 : Nat) : ∀ (n : Nat) (h0 : mH) (a0 : Nat) (x2 : Int32) (x4 : Int32) (x5 : Int32), f_Mo_match_L108 n0 n h0 a0 x2 x4 x5 = some (r', h') → mAW X ad 0 0 108 [(0, .ref a0), (2, .int x2), (4, .int x4), (5, .int x5)] [] h0 := by
  intro n
  induction n with
  | zero =>
    intro h0 a0 x2 x4 x5 hf
    rw [f_Mo_match_L108.eq_1] at hf
    cases hf
  | succ n ih =>
    intro h0 a0 x2 x4 x5 hf
    rw [f_Mo_match_L108.eq_2] at hf
    refine ax_iload O d_Mo_match_108 3 rfl ?_
    refine ax_iload_n O d_Mo_match_110 rfl 1 rfl ?_
    refine ax_icmp_ge (tgt := 143) O d_Mo_match_111 (by decide) (fun q27 => ?_) (fun q27 => ?_)
    · rw [if_pos q27] at hf
      exact ax_vretE O hE hf d_Mo_match_143
    · rw [if_neg q27] at hf
      refine ax_aload_n O d_Mo_match_114 rfl 0 rfl ?_
      obtain ⟨fh30, ch30, hf⟩ := mis_some hf
      obtain ⟨v29, h30, mh30, hf⟩ := mcl_some hf
      refine ax_callV (As := []) (rest := []) O cw_Mo_isGood (q := (R_Mo, T_Mo, 31)) rfl rfl in_Mo_isGood se_Mo_isGood lk_Mo_89 ch30 (c_Mo_isGood mh30) rfl ⟨rfl, rfl⟩ (by decide) (by decide) (Nat.le_of_ble_eq_true rfl) d_Mo_match_115 ?_
      refine ax_if_eq (tgt := 143) O d_Mo_match_118 (by decide) (fun q31 => ?_) (fun q31 => ?_)
      · rw [if_pos q31] at hf
        exact ax_vretE O hE hf d_Mo_match_143
      · rw [if_neg q31] at hf
        refine ax_aload_n O d_Mo_match_121 rfl 0 rfl ?_
        refine ax_aload_n O d_Mo_match_122 rfl 0 rfl ?_
        obtain ⟨fr32, r32, cr32, kr32, hf⟩ := mgr_some hf
        refine ax_get O fg_Mo_39 cr32 kr32 d_Mo_match_123 ?_
        refine ax_aload_n O d_Mo_match_126 rfl 0 rfl ?_
        obtain ⟨fv33, v33, cv33, kv33, hf⟩ := mgi_some hf
        refine ax_get O fg_Mo_106 cv33 kv33 d_Mo_match_127 ?_
        refine ax_iload O d_Mo_match_130 2 rfl ?_
        refine ax_isub O d_Mo_match_132 ?_
        obtain ⟨nv34, fv34, v34, cv34, iv34, kv34, hf⟩ := mai_some hf
        refine ax_iald O cv34 iv34 kv34 d_Mo_match_133 ?_
        obtain ⟨fh37, ch37, hf⟩ := mis_some hf
        obtain ⟨u38, h37, mh37, hf⟩ := mcl_some hf
        refine ax_callV (As := [.int v34]) (rest := []) O cw_Mo_give (q := (R_Mo, T_Mo, 31)) rfl rfl in_Mo_give se_Mo_give lk_Mo_157 ch37 (c_Mo_give mh37) rfl ⟨rfl, rfl⟩ (by decide) (by decide) (Nat.le_of_ble_eq_true rfl) d_Mo_match_134 ?_
        obtain ⟨v39, ev39, hf⟩ := mnm_some hf
        refine ax_iinc (j := 3) (v := v39) (lv' := [(5, .int v39), (0, .ref a0), (2, .int x2), (4, .int x4)]) O d_Mo_match_137 rfl (by rw [ev39]; rfl) (by decide) rfl ?_
        refine ax_goto (tgt := 108) O d_Mo_match_140 (by decide) ?_
        refine ax_sub [1, 2, 3, 0] rfl ?_
        exact ih _ _ _ _ _ hf
set_option maxHeartbeats 4000000 in
set_option maxRecDepth 100000 in
theorem cb_Mo_match_B105 {X : mX} {ad : Nat → Nat} {ln : Launch} (O : mO X ad R_Mo b_Mo_match 6 (mR 4 88) ln) (r' : Unit) (h' : mH) (hE : mEnd X ad none none h') (n0 : Nat) (h0 : mH) (a0 : Nat) (x2 : Int32) (x4 : Int32) (hf : f_Mo_match_B105 n0 h0 a0 x2 x4 = some (r', h')) : mAW X ad 0 0 105 [(0, .ref a0), (2, .int x2), (4, .int x4)] [] h0 := by
  unfold f_Mo_match_B105 at hf
  refine ax_iconst (v := 0) O d_Mo_match_105 (by decide) ?_
  refine ax_istore (lv' := [(5, .int 0), (0, .ref a0), (2, .int x2), (4, .int x4)]) O d_Mo_match_106 (by decide) rfl ?_
  refine ax_sub [1, 2, 3, 0] rfl ?_
  exact cb_Mo_match_L108 O _ _ hE n0 n0 _ _ _ _ _ hf
set_option maxHeartbeats 4000000 in
set_option maxRecDepth 100000 in
theorem cb_Mo_match_B81 {X : mX} {ad : Nat → Nat} {ln : Launch} (O : mO X ad R_Mo b_Mo_match 6 (mR 4 88) ln) (r' : Unit) (h' : mH) (hE : mEnd X ad none none h') (n0 : Nat) (h0 : mH) (a0 : Nat) (x2 : Int32) (p0 : Int32) (hf : f_Mo_match_B81 n0 h0 a0 x2 p0 = some (r', h')) : mAW X ad 0 0 81 [(0, .ref a0), (2, .int x2)] [.int p0] h0 := by
  unfold f_Mo_match_B81 at hf
  refine ax_istore (lv' := [(4, .int p0), (0, .ref a0), (2, .int x2)]) O d_Mo_match_81 (by decide) rfl ?_
  refine ax_aload_n O d_Mo_match_83 rfl 1 rfl ?_
  obtain ⟨fh25, ch25, hf⟩ := mis_some hf
  obtain ⟨v24, h25, mh25, hf⟩ := mcl_some hf
  refine ax_callV (As := []) (rest := []) O cw_Mo_isGood (q := (R_Mo, T_Mo, 31)) rfl rfl in_Mo_isGood se_Mo_isGood lk_Mo_89 ch25 (c_Mo_isGood mh25) rfl ⟨rfl, rfl⟩ (by decide) (by decide) (Nat.le_of_ble_eq_true rfl) d_Mo_match_84 ?_
  refine ax_if_eq (tgt := 105) O d_Mo_match_87 (by decide) (fun q26 => ?_) (fun q26 => ?_)
  · rw [if_pos q26] at hf
    refine ax_sub [1, 2, 0] rfl ?_
    exact cb_Mo_match_B105 O _ _ hE n0 _ _ _ _ hf
  · rw [if_neg q26] at hf
    refine ax_iload O d_Mo_match_90 0 rfl ?_
    refine ax_aload_n O d_Mo_match_92 rfl 1 rfl ?_
    obtain ⟨fv40, v40, cv40, kv40, hf⟩ := mgi_some hf
    refine ax_get O fg_Mo_106 cv40 kv40 d_Mo_match_93 ?_
    refine ax_icmp_le (tgt := 105) O d_Mo_match_96 (by decide) (fun q41 => ?_) (fun q41 => ?_)
    · rw [if_pos q41] at hf
      refine ax_sub [1, 2, 0] rfl ?_
      exact cb_Mo_match_B105 O _ _ hE n0 _ _ _ _ hf
    · rw [if_neg q41] at hf
      refine ax_aload_n O d_Mo_match_99 rfl 1 rfl ?_
      refine ax_bipush (v := 8) O d_Mo_match_100 (by decide) ?_
      obtain ⟨fh44, ch44, hf⟩ := mis_some hf
      obtain ⟨u45, h44, mh44, hf⟩ := mcl_some hf
      refine ax_callV (As := [.int 8]) (rest := []) O cw_Mo_fail (q := (R_Mo, T_Mo, 31)) rfl rfl in_Mo_fail se_Mo_fail lk_Mo_99 ch44 (c_Mo_fail mh44) rfl ⟨rfl, rfl⟩ (by decide) (by decide) (Nat.le_of_ble_eq_true rfl) d_Mo_match_102 ?_
      refine ax_sub [1, 2, 0] rfl ?_
      exact cb_Mo_match_B105 O _ _ hE n0 _ _ _ _ hf
set_option maxHeartbeats 4000000 in
set_option maxRecDepth 100000 in
theorem cb_Mo_match_B57 {X : mX} {ad : Nat → Nat} {ln : Launch} (O : mO X ad R_Mo b_Mo_match 6 (mR 4 88) ln) (r' : Unit) (h' : mH) (hE : mEnd X ad none none h') (n0 : Nat) (h0 : mH) (a0 : Nat) (x2 : Int32) (x3 : Int32) (hf : f_Mo_match_B57 n0 h0 a0 x2 x3 = some (r', h')) : mAW X ad 0 0 57 [(0, .ref a0), (2, .int x2), (3, .int x3)] [] h0 := by
  unfold f_Mo_match_B57 at hf
  refine ax_aload_n O d_Mo_match_57 rfl 0 rfl ?_
  obtain ⟨fh21, ch21, hf⟩ := mis_some hf
  obtain ⟨v20, h21, mh21, hf⟩ := mcl_some hf
  refine ax_callV (As := []) (rest := []) O cw_Mo_isGood (q := (R_Mo, T_Mo, 31)) rfl rfl in_Mo_isGood se_Mo_isGood lk_Mo_89 ch21 (c_Mo_isGood mh21) rfl ⟨rfl, rfl⟩ (by decide) (by decide) (Nat.le_of_ble_eq_true rfl) d_Mo_match_58 ?_
  refine ax_if_eq (tgt := 80) O d_Mo_match_61 (by decide) (fun q22 => ?_) (fun q22 => ?_)
  · rw [if_pos q22] at hf
    refine ax_iconst (v := 0) O d_Mo_match_80 (by decide) ?_
    refine ax_sub [0, 1] rfl ?_
    exact cb_Mo_match_B81 O _ _ hE n0 _ _ _ _ hf
  · rw [if_neg q22] at hf
    refine ax_iload_n O d_Mo_match_64 rfl 2 rfl ?_
    obtain ⟨v47, h48, mh48, hf⟩ := mcl_some hf
    refine ax_callS (As := [.int x3]) (rest := []) O cw_Mo_distanceOf st_Mo_distanceOf lk_Mo_154 (c_Mo_distanceOf mh48) rfl ⟨rfl, rfl⟩ (by decide) (by decide) (Nat.le_of_ble_eq_true rfl) d_Mo_match_65 ?_
    refine ax_aload_n O d_Mo_match_68 rfl 0 rfl ?_
    refine ax_iload_n O d_Mo_match_69 rfl 2 rfl ?_
    obtain ⟨v50, h51, mh51, hf⟩ := mcl_some hf
    refine ax_callS (As := [.int x3]) (rest := [.ref a0, .int v47]) O cw_Mo_distanceBits st_Mo_distanceBits lk_Mo_148 (c_Mo_distanceBits mh51) rfl ⟨rfl, rfl⟩ (by decide) (by decide) (Nat.le_of_ble_eq_true rfl) d_Mo_match_70 ?_
    obtain ⟨fh54, ch54, hf⟩ := mis_some hf
    obtain ⟨v53, h54, mh54, hf⟩ := mcl_some hf
    refine ax_callV (As := [.int v50]) (rest := [.int v47]) O cw_Mo_number (q := (R_Mo, T_Mo, 31)) rfl rfl in_Mo_number se_Mo_number lk_Mo_127 ch54 (c_Mo_number mh54) rfl ⟨rfl, rfl⟩ (by decide) (by decide) (Nat.le_of_ble_eq_true rfl) d_Mo_match_73 ?_
    refine ax_iadd O d_Mo_match_76 ?_
    refine ax_goto (tgt := 81) O d_Mo_match_77 (by decide) ?_
    refine ax_sub [0, 1] rfl ?_
    exact cb_Mo_match_B81 O _ _ hE n0 _ _ _ _ hf
set_option maxHeartbeats 4000000 in
set_option maxRecDepth 100000 in
theorem cb_Mo_match {X : mX} {ad : Nat → Nat} {ln : Launch} (O : mO X ad R_Mo b_Mo_match 6 (mR 4 88) ln) (r' : Unit) (h' : mH) (hE : mEnd X ad none none h') (n0 : Nat) (h0 : mH) (a0 : Nat) (x1 : Int32) (hf : f_Mo_match n0 h0 a0 x1 = some (r', h')) : mAW X ad 0 0 0 [(0, .ref a0), (1, .int x1)] [] h0 := by
  unfold f_Mo_match at hf
  refine ax_iload_n O d_Mo_match_0 rfl 1 rfl ?_
  refine ax_sipush (v := 285) O d_Mo_match_1 (by decide) ?_
  refine ax_icmp_le (tgt := 14) O d_Mo_match_4 (by decide) (fun q1 => ?_) (fun q1 => ?_)
  · rw [if_pos q1] at hf
    refine ax_iload_n O d_Mo_match_14 rfl 1 rfl ?_
    obtain ⟨v3, h4, mh4, hf⟩ := mcl_some hf
    refine ax_callS (As := [.int x1]) (rest := []) O cw_Mo_lengthOf st_Mo_lengthOf lk_Mo_151 (c_Mo_lengthOf mh4) rfl ⟨rfl, rfl⟩ (by decide) (by decide) (Nat.le_of_ble_eq_true rfl) d_Mo_match_15 ?_
    refine ax_aload_n O d_Mo_match_18 rfl 0 rfl ?_
    refine ax_iload_n O d_Mo_match_19 rfl 1 rfl ?_
    obtain ⟨v6, h7, mh7, hf⟩ := mcl_some hf
    refine ax_callS (As := [.int x1]) (rest := [.ref a0, .int v3]) O cw_Mo_lengthBits st_Mo_lengthBits lk_Mo_145 (c_Mo_lengthBits mh7) rfl ⟨rfl, rfl⟩ (by decide) (by decide) (Nat.le_of_ble_eq_true rfl) d_Mo_match_20 ?_
    obtain ⟨fh10, ch10, hf⟩ := mis_some hf
    obtain ⟨v9, h10, mh10, hf⟩ := mcl_some hf
    refine ax_callV (As := [.int v6]) (rest := [.int v3]) O cw_Mo_number (q := (R_Mo, T_Mo, 31)) rfl rfl in_Mo_number se_Mo_number lk_Mo_127 ch10 (c_Mo_number mh10) rfl ⟨rfl, rfl⟩ (by decide) (by decide) (Nat.le_of_ble_eq_true rfl) d_Mo_match_23 ?_
    refine ax_iadd O d_Mo_match_26 ?_
    obtain ⟨v11, ev11, hf⟩ := mnm_some hf
    refine ax_nmi ev11 ?_
    refine ax_istore_n (lv' := [(2, .int v11), (0, .ref a0), (1, .int x1)]) O d_Mo_match_27 rfl (by decide) rfl ?_
    refine ax_aload_n O d_Mo_match_28 rfl 1 rfl ?_
    refine ax_sipush (v := 288) O d_Mo_match_29 (by decide) ?_
    refine ax_bipush (v := 32) O d_Mo_match_32 (by decide) ?_
    obtain ⟨fh14, ch14, hf⟩ := mis_some hf
    obtain ⟨v13, h14, mh14, hf⟩ := mcl_some hf
    refine ax_callV (As := [.int 288, .int 32]) (rest := []) O cw_Mo_symbol (q := (R_Mo, T_Mo, 31)) rfl rfl in_Mo_symbol se_Mo_symbol lk_Mo_141 ch14 (c_Mo_symbol mh14) rfl ⟨rfl, rfl⟩ (by decide) (by decide) (Nat.le_of_ble_eq_true rfl) d_Mo_match_34 ?_
    refine ax_istore_n (lv' := [(3, .int v13), (2, .int v11), (0, .ref a0), (1, .int x1)]) O d_Mo_match_37 rfl (by decide) rfl ?_
    refine ax_aload_n O d_Mo_match_38 rfl 2 rfl ?_
    obtain ⟨fh17, ch17, hf⟩ := mis_some hf
    obtain ⟨v16, h17, mh17, hf⟩ := mcl_some hf
    refine ax_callV (As := []) (rest := []) O cw_Mo_isGood (q := (R_Mo, T_Mo, 31)) rfl rfl in_Mo_isGood se_Mo_isGood lk_Mo_89 ch17 (c_Mo_isGood mh17) rfl ⟨rfl, rfl⟩ (by decide) (by decide) (Nat.le_of_ble_eq_true rfl) d_Mo_match_39 ?_
    refine ax_if_eq (tgt := 57) O d_Mo_match_42 (by decide) (fun q18 => ?_) (fun q18 => ?_)
    · rw [if_pos q18] at hf
      refine ax_sub [2, 1, 0] rfl ?_
      exact cb_Mo_match_B57 O _ _ hE n0 _ _ _ _ hf
    · rw [if_neg q18] at hf
      refine ax_iload_n O d_Mo_match_45 rfl 0 rfl ?_
      refine ax_bipush (v := 29) O d_Mo_match_46 (by decide) ?_
      refine ax_icmp_le (tgt := 57) O d_Mo_match_48 (by decide) (fun q55 => ?_) (fun q55 => ?_)
      · rw [if_pos q55] at hf
        refine ax_sub [2, 1, 0] rfl ?_
        exact cb_Mo_match_B57 O _ _ hE n0 _ _ _ _ hf
      · rw [if_neg q55] at hf
        refine ax_aload_n O d_Mo_match_51 rfl 2 rfl ?_
        refine ax_bipush (v := 7) O d_Mo_match_52 (by decide) ?_
        obtain ⟨fh58, ch58, hf⟩ := mis_some hf
        obtain ⟨u59, h58, mh58, hf⟩ := mcl_some hf
        refine ax_callV (As := [.int 7]) (rest := []) O cw_Mo_fail (q := (R_Mo, T_Mo, 31)) rfl rfl in_Mo_fail se_Mo_fail lk_Mo_99 ch58 (c_Mo_fail mh58) rfl ⟨rfl, rfl⟩ (by decide) (by decide) (Nat.le_of_ble_eq_true rfl) d_Mo_match_54 ?_
        refine ax_sub [2, 1, 0] rfl ?_
        exact cb_Mo_match_B57 O _ _ hE n0 _ _ _ _ hf
  · rw [if_neg q1] at hf
    refine ax_aload_n O d_Mo_match_7 rfl 0 rfl ?_
    refine ax_bipush (v := 7) O d_Mo_match_8 (by decide) ?_
    obtain ⟨fh62, ch62, hf⟩ := mis_some hf
    obtain ⟨u63, h62, mh62, hf⟩ := mcl_some hf
    refine ax_callV (As := [.int 7]) (rest := []) O cw_Mo_fail (q := (R_Mo, T_Mo, 31)) rfl rfl in_Mo_fail se_Mo_fail lk_Mo_99 ch62 (c_Mo_fail mh62) rfl ⟨rfl, rfl⟩ (by decide) (by decide) (Nat.le_of_ble_eq_true rfl) d_Mo_match_10 ?_
    exact ax_vretE O hE hf d_Mo_match_13
theorem c_Mo_match {ln : Launch} {n0 : Nat} {h0 h' : mH} {a0 : Nat} {x1 : Int32} {r' : Unit} (hf : f_Mo_match n0 h0 a0 x1 = some (r', h')) : mMet ln y_Mo_match b_Mo_match 6 none (mR 4 88) [.ref a0, .int x1] h0 none h' := mMet_of (by decide +kernel) (Nat.le_of_ble_eq_true rfl) (fun X ad O hE => cb_Mo_match O r' h' hE n0 h0 a0 x1 hf)
