
def y_Un_unpack : MethodName := ⟨R_Un, "unpack", "(LStreamFilters$Pass;I)V"⟩
noncomputable def f_Un_unpack (n0 : Nat) (h0 : mH) (a0 a1 : Nat) (x2 : Int32) : Option (Unit × mH) := if mic h0 a0 3 = true then f_Fl_unpack n0 h0 a0 a1 x2 else if mic h0 a0 4 = true then f_Hx_unpack n0 h0 a0 a1 x2 else if mic h0 a0 5 = true then f_Le_unpack n0 h0 a0 a1 x2 else if mic h0 a0 7 = true then f_Lz_unpack n0 h0 a0 a1 x2 else if mic h0 a0 9 = true then f_T8_unpack n0 h0 a0 a1 x2 else none
theorem seA_Fl_unpack : Cond.selects R_Fl y_Un_unpack y_Fl_unpack ∈ mGood := mg_of (i := 384) (by decide +kernel) rfl
theorem seA_Hx_unpack : Cond.selects R_Hx y_Un_unpack y_Hx_unpack ∈ mGood := mg_of (i := 491) (by decide +kernel) rfl
theorem seA_Le_unpack : Cond.selects R_Le y_Un_unpack y_Le_unpack ∈ mGood := mg_of (i := 508) (by decide +kernel) rfl
theorem seA_Lz_unpack : Cond.selects R_Lz y_Un_unpack y_Lz_unpack ∈ mGood := mg_of (i := 521) (by decide +kernel) rfl
theorem seA_T8_unpack : Cond.selects R_T8 y_Un_unpack y_T8_unpack ∈ mGood := mg_of (i := 555) (by decide +kernel) rfl
theorem wU_1 : Cond.sameMethod y_Un_unpack.cls y_Un_unpack.cls y_Un_unpack.name y_Un_unpack.desc ∈ mGood := mg_of (i := 383) (by decide +kernel) rfl
theorem wU_2 : Cond.methodLink R_SF 186 y_Un_unpack ∈ mGood := mg_of (i := 381) (by decide +kernel) rfl
theorem wU_3 : Cond.declares y_Un_unpack ∈ mNest := List.mem_of_getElem? (i := 25) (by decide +kernel)
set_option maxHeartbeats 4000000 in
theorem ax_callUn {X : mX} {ad : Nat → Nat} {cc : ByteArray} {N cs ss pc : Nat} {lv : List (Nat × Value)} {h h' : mH} {Rm : Room} {ln : Launch} {rest : List Value} {n0 b p : Nat} {e : Int32} {u : Unit} (O : mO X ad R_SF cc N Rm ln) (hm : f_Un_unpack n0 h b p e = some (u, h')) (hR : 7 ≤ Rm.frames ∧ 168 ≤ Rm.locals) (hcs : cs ≤ Rm.cells ∧ ss ≤ Rm.slots) (hrs : (rest.map fun v => v.category).sum ≤ 8) (d : decode cc pc = .ok (.invokevirtual 186, 3)) (k : mAW X ad cs ss (pc + 3) lv rest h') : mAW X ad cs ss pc lv (.int e :: .ref p :: .ref b :: rest) h := by
  unfold f_Un_unpack at hm
  split at hm
  · rename_i hc
    obtain ⟨fs, hb⟩ := mic_some hc
    exact ax_callA (x := y_Un_unpack) (As := [.ref p, .int e]) (rest := rest) (v := none) (q := (R_Fl, T_Fl, 6)) O cw_Fl_unpack rfl in_Fl_unpack seA_Fl_unpack wU_1 wU_2 wU_3 ⟨by decide +kernel, by decide +kernel, by decide +kernel⟩ hb (c_Fl_unpack hm) rfl ⟨rfl, rfl⟩ ⟨Nat.le_trans (by decide) hR.1, Nat.le_trans (by decide) hR.2⟩ hcs hrs d k
  · skip
    split at hm
    · rename_i hc
      obtain ⟨fs, hb⟩ := mic_some hc
      exact ax_callA (x := y_Un_unpack) (As := [.ref p, .int e]) (rest := rest) (v := none) (q := (R_Hx, T_Hx, 0)) O cw_Hx_unpack rfl in_Hx_unpack seA_Hx_unpack wU_1 wU_2 wU_3 ⟨by decide +kernel, by decide +kernel, by decide +kernel⟩ hb (c_Hx_unpack hm) rfl ⟨rfl, rfl⟩ ⟨Nat.le_trans (by decide) hR.1, Nat.le_trans (by decide) hR.2⟩ hcs hrs d k
    · skip
      split at hm
      · rename_i hc
        obtain ⟨fs, hb⟩ := mic_some hc
        exact ax_callA (x := y_Un_unpack) (As := [.ref p, .int e]) (rest := rest) (v := none) (q := (R_Le, T_Le, 0)) O cw_Le_unpack rfl in_Le_unpack seA_Le_unpack wU_1 wU_2 wU_3 ⟨by decide +kernel, by decide +kernel, by decide +kernel⟩ hb (c_Le_unpack hm) rfl ⟨rfl, rfl⟩ ⟨Nat.le_trans (by decide) hR.1, Nat.le_trans (by decide) hR.2⟩ hcs hrs d k
      · skip
        split at hm
        · rename_i hc
          obtain ⟨fs, hb⟩ := mic_some hc
          exact ax_callA (x := y_Un_unpack) (As := [.ref p, .int e]) (rest := rest) (v := none) (q := (R_Lz, T_Lz, 5)) O cw_Lz_unpack rfl in_Lz_unpack seA_Lz_unpack wU_1 wU_2 wU_3 ⟨by decide +kernel, by decide +kernel, by decide +kernel⟩ hb (c_Lz_unpack hm) rfl ⟨rfl, rfl⟩ ⟨Nat.le_trans (by decide) hR.1, Nat.le_trans (by decide) hR.2⟩ hcs hrs d k
        · skip
          split at hm
          · rename_i hc
            obtain ⟨fs, hb⟩ := mic_some hc
            exact ax_callA (x := y_Un_unpack) (As := [.ref p, .int e]) (rest := rest) (v := none) (q := (R_T8, T_T8, 2)) O cw_T8_unpack rfl in_T8_unpack seA_T8_unpack wU_1 wU_2 wU_3 ⟨by decide +kernel, by decide +kernel, by decide +kernel⟩ hb (c_T8_unpack hm) rfl ⟨rfl, rfl⟩ ⟨Nat.le_trans (by decide) hR.1, Nat.le_trans (by decide) hR.2⟩ hcs hrs d k
          · skip
            cases hm
theorem fg_SF_35 : mFg R_SF 35 0 4 := ⟨R_SF, T_SF, 17, rfl, by decide, in_SF, Or.inl (mg_of (i := 291) (by decide +kernel) rfl)⟩
theorem fg_SF_29 : mFg R_SF 29 0 3 := ⟨R_SF, T_SF, 17, rfl, by decide, in_SF, Or.inl (mg_of (i := 290) (by decide +kernel) rfl)⟩
theorem fg_SF_77 : mFg R_SF 77 0 11 := ⟨R_SF, T_SF, 17, rfl, by decide, in_SF, Or.inl (mg_of (i := 298) (by decide +kernel) rfl)⟩
theorem fg_SF_176 : mFg R_SF 176 6 0 := ⟨R_Li, T_Li, 6, rfl, by decide, in_Li, Or.inr ⟨"StreamFilters", List.mem_of_getElem? (i := 23) (by decide +kernel)⟩⟩
theorem fg_SF_183 : mFg R_SF 183 6 1 := ⟨R_Li, T_Li, 6, rfl, by decide, in_Li, Or.inr ⟨"StreamFilters", List.mem_of_getElem? (i := 24) (by decide +kernel)⟩⟩
theorem fg_SF_196 : mFg R_SF 196 8 5 := ⟨R_Pa, T_Pa, 7, rfl, by decide, in_Pa, Or.inr ⟨"StreamFilters", List.mem_of_getElem? (i := 11) (by decide +kernel)⟩⟩
theorem fg_SF_199 : mFg R_SF 199 8 2 := ⟨R_Pa, T_Pa, 7, rfl, by decide, in_Pa, Or.inr ⟨"StreamFilters", List.mem_of_getElem? (i := 10) (by decide +kernel)⟩⟩
theorem fp_SF_166 : mFp R_SF 166 8 6 .int false := ⟨R_Pa, T_Pa, 7, ty_Pa, rfl, by decide, in_Pa, Or.inr ⟨"StreamFilters", List.mem_of_getElem? (i := 12) (by decide +kernel)⟩, tyok_Pa, nm_Pa, rfl, rfl, fun h => absurd h (by decide)⟩
theorem lk_SF_162 : mLk R_SF 162 y_SF_noteFault := Or.inl (mg_of (i := 359) (by decide +kernel) rfl)
theorem lk_SF_173 : mLk R_SF 173 y_Pa_begin := Or.inl (mg_of (i := 373) (by decide +kernel) rfl)
theorem lk_SF_179 : mLk R_SF 179 y_SF_unpackerOf := Or.inl (mg_of (i := 377) (by decide +kernel) rfl)
theorem lk_SF_192 : mLk R_SF 192 y_Li_undo := Or.inl (mg_of (i := 578) (by decide +kernel) rfl)
theorem cw_SF_decode : mCw y_SF_decode b_SF_decode 5 (some .int) 0 := ⟨mg_of (i := 358) (by decide +kernel) rfl, mg_of (i := 58) (by decide +kernel) rfl, ⟨by decide +kernel, by decide +kernel⟩, by decide +kernel⟩
theorem in_SF_decode : Cond.instanceMethod y_SF_decode ∈ mGood := mg_of (i := 356) (by decide +kernel) rfl
theorem se_SF_decode : Cond.selects R_SF y_SF_decode y_SF_decode ∈ mGood := mg_of (i := 357) (by decide +kernel) rfl
/-! ===== StreamFilters.decode()I ===== -/
theorem d_SF_decode_0 : decode b_SF_decode 0 = .ok (.aload_n 0, 1) := by decide +kernel
theorem d_SF_decode_1 : decode b_SF_decode 1 = .ok (.iconst 1, 1) := by decide +kernel
theorem d_SF_decode_2 : decode b_SF_decode 2 = .ok (.putfield 83, 3) := by decide +kernel
theorem d_SF_decode_5 : decode b_SF_decode 5 = .ok (.aload_n 0, 1) := by decide +kernel
theorem d_SF_decode_6 : decode b_SF_decode 6 = .ok (.iconst (-1), 1) := by decide +kernel
theorem d_SF_decode_7 : decode b_SF_decode 7 = .ok (.iconst (-1), 1) := by decide +kernel
theorem d_SF_decode_8 : decode b_SF_decode 8 = .ok (.iconst (-1), 1) := by decide +kernel
theorem d_SF_decode_9 : decode b_SF_decode 9 = .ok (.invokevirtual 162, 3) := by decide +kernel
theorem d_SF_decode_12 : decode b_SF_decode 12 = .ok (.aload_n 0, 1) := by decide +kernel
theorem d_SF_decode_13 : decode b_SF_decode 13 = .ok (.getfield 35, 3) := by decide +kernel
theorem d_SF_decode_16 : decode b_SF_decode 16 = .ok (.aload_n 0, 1) := by decide +kernel
theorem d_SF_decode_17 : decode b_SF_decode 17 = .ok (.getfield 29, 3) := by decide +kernel
theorem d_SF_decode_20 : decode b_SF_decode 20 = .ok (.putfield 166, 3) := by decide +kernel
theorem d_SF_decode_23 : decode b_SF_decode 23 = .ok (.aload_n 0, 1) := by decide +kernel
theorem d_SF_decode_24 : decode b_SF_decode 24 = .ok (.aload_n 0, 1) := by decide +kernel
theorem d_SF_decode_25 : decode b_SF_decode 25 = .ok (.getfield 74, 3) := by decide +kernel
theorem d_SF_decode_28 : decode b_SF_decode 28 = .ok (.putfield 80, 3) := by decide +kernel
theorem d_SF_decode_31 : decode b_SF_decode 31 = .ok (.aload_n 0, 1) := by decide +kernel
theorem d_SF_decode_32 : decode b_SF_decode 32 = .ok (.getfield 24, 3) := by decide +kernel
theorem d_SF_decode_35 : decode b_SF_decode 35 = .ok (.ifCond .ne 14, 3) := by decide +kernel
theorem d_SF_decode_38 : decode b_SF_decode 38 = .ok (.aload_n 0, 1) := by decide +kernel
theorem d_SF_decode_39 : decode b_SF_decode 39 = .ok (.getfield 74, 3) := by decide +kernel
theorem d_SF_decode_42 : decode b_SF_decode 42 = .ok (.aload_n 0, 1) := by decide +kernel
theorem d_SF_decode_43 : decode b_SF_decode 43 = .ok (.getfield 14, 3) := by decide +kernel
theorem d_SF_decode_46 : decode b_SF_decode 46 = .ok (.invokevirtual 169, 3) := by decide +kernel
theorem d_SF_decode_49 : decode b_SF_decode 49 = .ok (.aload_n 0, 1) := by decide +kernel
theorem d_SF_decode_50 : decode b_SF_decode 50 = .ok (.getfield 14, 3) := by decide +kernel
theorem d_SF_decode_53 : decode b_SF_decode 53 = .ok (.astore_n 1, 1) := by decide +kernel
theorem d_SF_decode_54 : decode b_SF_decode 54 = .ok (.iconst 0, 1) := by decide +kernel
theorem d_SF_decode_55 : decode b_SF_decode 55 = .ok (.istore_n 2, 1) := by decide +kernel
theorem d_SF_decode_56 : decode b_SF_decode 56 = .ok (.iload_n 2, 1) := by decide +kernel
theorem d_SF_decode_57 : decode b_SF_decode 57 = .ok (.aload_n 0, 1) := by decide +kernel
theorem d_SF_decode_58 : decode b_SF_decode 58 = .ok (.getfield 24, 3) := by decide +kernel
theorem d_SF_decode_61 : decode b_SF_decode 61 = .ok (.if_icmp .ge 152, 3) := by decide +kernel
theorem d_SF_decode_64 : decode b_SF_decode 64 = .ok (.iload_n 2, 1) := by decide +kernel
theorem d_SF_decode_65 : decode b_SF_decode 65 = .ok (.aload_n 0, 1) := by decide +kernel
theorem d_SF_decode_66 : decode b_SF_decode 66 = .ok (.getfield 20, 3) := by decide +kernel
theorem d_SF_decode_69 : decode b_SF_decode 69 = .ok (.arraylength, 1) := by decide +kernel
theorem d_SF_decode_70 : decode b_SF_decode 70 = .ok (.if_icmp .ge 143, 3) := by decide +kernel
theorem d_SF_decode_73 : decode b_SF_decode 73 = .ok (.aload_n 0, 1) := by decide +kernel
theorem d_SF_decode_74 : decode b_SF_decode 74 = .ok (.getfield 90, 3) := by decide +kernel
theorem d_SF_decode_77 : decode b_SF_decode 77 = .ok (.iconst (-1), 1) := by decide +kernel
theorem d_SF_decode_78 : decode b_SF_decode 78 = .ok (.if_icmp .ne 135, 3) := by decide +kernel
theorem d_SF_decode_81 : decode b_SF_decode 81 = .ok (.aload_n 0, 1) := by decide +kernel
theorem d_SF_decode_82 : decode b_SF_decode 82 = .ok (.getfield 20, 3) := by decide +kernel
theorem d_SF_decode_85 : decode b_SF_decode 85 = .ok (.iload_n 2, 1) := by decide +kernel
theorem d_SF_decode_86 : decode b_SF_decode 86 = .ok (.aaload, 1) := by decide +kernel
theorem d_SF_decode_87 : decode b_SF_decode 87 = .ok (.astore_n 3, 1) := by decide +kernel
theorem d_SF_decode_88 : decode b_SF_decode 88 = .ok (.aload_n 0, 1) := by decide +kernel
theorem d_SF_decode_89 : decode b_SF_decode 89 = .ok (.iload_n 2, 1) := by decide +kernel
theorem d_SF_decode_90 : decode b_SF_decode 90 = .ok (.iconst 2, 1) := by decide +kernel
theorem d_SF_decode_91 : decode b_SF_decode 91 = .ok (.irem, 1) := by decide +kernel
theorem d_SF_decode_92 : decode b_SF_decode 92 = .ok (.ifCond .ne 10, 3) := by decide +kernel
theorem d_SF_decode_95 : decode b_SF_decode 95 = .ok (.aload_n 0, 1) := by decide +kernel
theorem d_SF_decode_96 : decode b_SF_decode 96 = .ok (.getfield 74, 3) := by decide +kernel
theorem d_SF_decode_99 : decode b_SF_decode 99 = .ok (.goto 7, 3) := by decide +kernel
theorem d_SF_decode_102 : decode b_SF_decode 102 = .ok (.aload_n 0, 1) := by decide +kernel
theorem d_SF_decode_103 : decode b_SF_decode 103 = .ok (.getfield 77, 3) := by decide +kernel
theorem d_SF_decode_106 : decode b_SF_decode 106 = .ok (.putfield 80, 3) := by decide +kernel
theorem d_SF_decode_109 : decode b_SF_decode 109 = .ok (.aload_n 0, 1) := by decide +kernel
theorem d_SF_decode_110 : decode b_SF_decode 110 = .ok (.getfield 35, 3) := by decide +kernel
theorem d_SF_decode_113 : decode b_SF_decode 113 = .ok (.aload_n 1, 1) := by decide +kernel
theorem d_SF_decode_114 : decode b_SF_decode 114 = .ok (.aload_n 0, 1) := by decide +kernel
theorem d_SF_decode_115 : decode b_SF_decode 115 = .ok (.getfield 80, 3) := by decide +kernel
theorem d_SF_decode_118 : decode b_SF_decode 118 = .ok (.invokevirtual 173, 3) := by decide +kernel
theorem d_SF_decode_121 : decode b_SF_decode 121 = .ok (.aload_n 0, 1) := by decide +kernel
theorem d_SF_decode_122 : decode b_SF_decode 122 = .ok (.aload_n 3, 1) := by decide +kernel
theorem d_SF_decode_123 : decode b_SF_decode 123 = .ok (.getfield 176, 3) := by decide +kernel
theorem d_SF_decode_126 : decode b_SF_decode 126 = .ok (.invokevirtual 179, 3) := by decide +kernel
theorem d_SF_decode_129 : decode b_SF_decode 129 = .ok (.aload_n 0, 1) := by decide +kernel
theorem d_SF_decode_130 : decode b_SF_decode 130 = .ok (.getfield 35, 3) := by decide +kernel
theorem d_SF_decode_133 : decode b_SF_decode 133 = .ok (.aload_n 3, 1) := by decide +kernel
theorem d_SF_decode_134 : decode b_SF_decode 134 = .ok (.getfield 183, 3) := by decide +kernel
theorem d_SF_decode_137 : decode b_SF_decode 137 = .ok (.invokevirtual 186, 3) := by decide +kernel
theorem d_SF_decode_140 : decode b_SF_decode 140 = .ok (.aload_n 3, 1) := by decide +kernel
theorem d_SF_decode_141 : decode b_SF_decode 141 = .ok (.aload_n 0, 1) := by decide +kernel
theorem d_SF_decode_142 : decode b_SF_decode 142 = .ok (.getfield 80, 3) := by decide +kernel
theorem d_SF_decode_145 : decode b_SF_decode 145 = .ok (.invokevirtual 192, 3) := by decide +kernel
theorem d_SF_decode_148 : decode b_SF_decode 148 = .ok (.istore 4, 2) := by decide +kernel
theorem d_SF_decode_150 : decode b_SF_decode 150 = .ok (.aload_n 0, 1) := by decide +kernel
theorem d_SF_decode_151 : decode b_SF_decode 151 = .ok (.getfield 35, 3) := by decide +kernel
theorem d_SF_decode_154 : decode b_SF_decode 154 = .ok (.getfield 196, 3) := by decide +kernel
theorem d_SF_decode_157 : decode b_SF_decode 157 = .ok (.iconst (-1), 1) := by decide +kernel
theorem d_SF_decode_158 : decode b_SF_decode 158 = .ok (.if_icmp .eq 25, 3) := by decide +kernel
theorem d_SF_decode_161 : decode b_SF_decode 161 = .ok (.aload_n 0, 1) := by decide +kernel
theorem d_SF_decode_162 : decode b_SF_decode 162 = .ok (.iload_n 2, 1) := by decide +kernel
theorem d_SF_decode_163 : decode b_SF_decode 163 = .ok (.aload_n 0, 1) := by decide +kernel
theorem d_SF_decode_164 : decode b_SF_decode 164 = .ok (.getfield 35, 3) := by decide +kernel
theorem d_SF_decode_167 : decode b_SF_decode 167 = .ok (.getfield 196, 3) := by decide +kernel
theorem d_SF_decode_170 : decode b_SF_decode 170 = .ok (.aload_n 0, 1) := by decide +kernel
theorem d_SF_decode_171 : decode b_SF_decode 171 = .ok (.getfield 35, 3) := by decide +kernel
theorem d_SF_decode_174 : decode b_SF_decode 174 = .ok (.getfield 199, 3) := by decide +kernel
theorem d_SF_decode_177 : decode b_SF_decode 177 = .ok (.invokevirtual 162, 3) := by decide +kernel
theorem d_SF_decode_180 : decode b_SF_decode 180 = .ok (.goto 22, 3) := by decide +kernel
theorem d_SF_decode_183 : decode b_SF_decode 183 = .ok (.iload 4, 2) := by decide +kernel
theorem d_SF_decode_185 : decode b_SF_decode 185 = .ok (.ifCond .ne 17, 3) := by decide +kernel
theorem d_SF_decode_188 : decode b_SF_decode 188 = .ok (.aload_n 0, 1) := by decide +kernel
theorem d_SF_decode_189 : decode b_SF_decode 189 = .ok (.iload_n 2, 1) := by decide +kernel
theorem d_SF_decode_190 : decode b_SF_decode 190 = .ok (.bipush 13, 2) := by decide +kernel
theorem d_SF_decode_192 : decode b_SF_decode 192 = .ok (.aload_n 0, 1) := by decide +kernel
theorem d_SF_decode_193 : decode b_SF_decode 193 = .ok (.getfield 35, 3) := by decide +kernel
theorem d_SF_decode_196 : decode b_SF_decode 196 = .ok (.getfield 199, 3) := by decide +kernel
theorem d_SF_decode_199 : decode b_SF_decode 199 = .ok (.invokevirtual 162, 3) := by decide +kernel
theorem d_SF_decode_202 : decode b_SF_decode 202 = .ok (.aload_n 0, 1) := by decide +kernel
theorem d_SF_decode_203 : decode b_SF_decode 203 = .ok (.getfield 80, 3) := by decide +kernel
theorem d_SF_decode_206 : decode b_SF_decode 206 = .ok (.astore_n 1, 1) := by decide +kernel
theorem d_SF_decode_207 : decode b_SF_decode 207 = .ok (.iinc 2 1, 3) := by decide +kernel
theorem d_SF_decode_210 : decode b_SF_decode 210 = .ok (.goto (-154), 3) := by decide +kernel
theorem d_SF_decode_213 : decode b_SF_decode 213 = .ok (.aload_n 0, 1) := by decide +kernel
theorem d_SF_decode_214 : decode b_SF_decode 214 = .ok (.getfield 80, 3) := by decide +kernel
theorem d_SF_decode_217 : decode b_SF_decode 217 = .ok (.getfield 97, 3) := by decide +kernel
theorem d_SF_decode_220 : decode b_SF_decode 220 = .ok (.ireturn, 1) := by decide +kernel
noncomputable def f_SF_decode_B202 (K56 : mH → Nat → Nat → Int32 → Option (Int32 × mH)) (n0 : Nat) (h0 : mH) (a0 : Nat) (x2 : Int32) : Option (Int32 × mH) :=
  mgr h0 a0 0 12 fun r56 =>
  mnm (x2 + 1) fun v57 =>
  K56 h0 a0 r56 v57
noncomputable def f_SF_decode_B106 (K56 : mH → Nat → Nat → Int32 → Option (Int32 × mH)) (n0 : Nat) (h0 : mH) (a0 : Nat) (a1 : Nat) (x2 : Int32) (a3 : Nat) (b0 : Nat) (b1 : Nat) : Option (Int32 × mH) :=
  mpt h0 b1 0 12 (.ref b0) fun h31 =>
  mgr h31 a0 0 4 fun r32 =>
  mgr h31 a0 0 12 fun r33 =>
  mis h31 r32 8 <|
  mcl (f_Pa_begin n0 h31 r32 a1 r33) fun _ h36 =>
  mgi h36 a3 6 0 fun v38 =>
  mis h36 a0 0 <|
  mcl (f_SF_unpackerOf n0 h36 a0 v38) fun r40 h41 =>
  mgr h41 a0 0 4 fun r42 =>
  mgi h41 a3 6 1 fun v43 =>
  mcl (f_Un_unpack n0 h41 r40 r42 v43) fun _ h46 =>
  mgr h46 a0 0 12 fun r48 =>
  mis h46 a3 6 <|
  mcl (f_Li_undo n0 h46 a3 r48) fun v50 h51 =>
  mgr h51 a0 0 4 fun r52 =>
  mgi h51 r52 8 5 fun v53 =>
  if v53 = (-1) then
    if v50 = 0 then
      mgr h51 a0 0 4 fun r58 =>
      mgi h51 r58 8 2 fun v59 =>
      mis h51 a0 0 <|
      mcl (f_SF_noteFault n0 h51 a0 x2 13 v59) fun _ h62 =>
      f_SF_decode_B202 K56 n0 h62 a0 x2
    else
      f_SF_decode_B202 K56 n0 h51 a0 x2
  else
    mgr h51 a0 0 4 fun r64 =>
    mgi h51 r64 8 5 fun v65 =>
    mgr h51 a0 0 4 fun r66 =>
    mgi h51 r66 8 2 fun v67 =>
    mis h51 a0 0 <|
    mcl (f_SF_noteFault n0 h51 a0 x2 v65 v67) fun _ h70 =>
    f_SF_decode_B202 K56 n0 h70 a0 x2
noncomputable def f_SF_decode_L56  (n0 : Nat) : Nat → mH → Nat → Nat → Int32 → Option (Int32 × mH)
  | 0, _, _, _, _ => none
  | n + 1, h0, a0, a1, x2 =>
    mgi h0 a0 0 2 fun v14 =>
    if v14 ≤ x2 then
      mgr h0 a0 0 12 fun r16 =>
      mgi h0 r16 1 1 fun v17 =>
      some (v17, h0)
    else
      mgr h0 a0 0 1 fun r18 =>
      mln h0 r18 (.object "StreamFilters$Link") fun v19 =>
      if v19 ≤ x2 then
        mgr h0 a0 0 12 fun r21 =>
        mgi h0 r21 1 1 fun v22 =>
        some (v22, h0)
      else
        mgi h0 a0 0 15 fun v23 =>
        if v23 = (-1) then
          mgr h0 a0 0 1 fun r27 =>
          mar h0 r27 (.object "StreamFilters$Link") x2 fun r28 =>
          if (x2 - x2 / 2 * 2) = 0 then
            mgr h0 a0 0 10 fun r72 =>
            f_SF_decode_B106 (f_SF_decode_L56 n0 n) n0 h0 a0 a1 x2 r28 r72 a0
          else
            mgr h0 a0 0 11 fun r30 =>
            f_SF_decode_B106 (f_SF_decode_L56 n0 n) n0 h0 a0 a1 x2 r28 r30 a0
        else
          mgr h0 a0 0 12 fun r25 =>
          mgi h0 r25 1 1 fun v26 =>
          some (v26, h0)
noncomputable def f_SF_decode_B49  (n0 : Nat) (h0 : mH) (a0 : Nat) : Option (Int32 × mH) :=
  mgr h0 a0 0 0 fun r13 =>
  f_SF_decode_L56 n0 n0 h0 a0 r13 0
noncomputable def f_SF_decode  (n0 : Nat) (h0 : mH) (a0 : Nat) : Option (Int32 × mH) :=
  mpt h0 a0 0 13 (.int 1) fun h1 =>
  mis h1 a0 0 <|
  mcl (f_SF_noteFault n0 h1 a0 (-1) (-1) (-1)) fun _ h4 =>
  mgr h4 a0 0 4 fun r6 =>
  mgi h4 a0 0 3 fun v7 =>
  mpt h4 r6 8 6 (.int v7) fun h8 =>
  mgr h8 a0 0 10 fun r9 =>
  mpt h8 a0 0 12 (.ref r9) fun h10 =>
  mgi h10 a0 0 2 fun v11 =>
  if v11 = 0 then
    mgr h10 a0 0 10 fun r73 =>
    mgr h10 a0 0 0 fun r74 =>
    mis h10 r73 1 <|
    mcl (f_By_become n0 h10 r73 r74) fun _ h77 =>
    f_SF_decode_B49 n0 h77 a0
  else
    f_SF_decode_B49 n0 h10 a0
set_option maxHeartbeats 4000000 in
set_option maxRecDepth 100000 in
theorem cb_SF_decode_B202 {X : mX} {ad : Nat → Nat} {ln : Launch} (O : mO X ad R_SF b_SF_decode 5 (mR 7 168) ln) (K56 : mH → Nat → Nat → Int32 → Option (Int32 × mH)) (r' : Int32) (h' : mH) (hE : mEnd X ad (some .int) (some (.int r')) h') (hK56 : ∀ (h : mH) (a0 : Nat) (a1 : Nat) (x2 : Int32), K56 h a0 a1 x2 = some (r', h') → mAW X ad 0 0 56 [(0, .ref a0), (1, .ref a1), (2, .int x2)] [] h) (n0 : Nat) (h0 : mH) (a0 : Nat) (x2 : Int32) (hf : f_SF_decode_B202 K56 n0 h0 a0 x2 = some (r', h')) : mAW X ad 0 0 202 [(0, .ref a0), (2, .int x2)] [] h0 := by
  unfold f_SF_decode_B202 at hf
  refine ax_aload_n O d_SF_decode_202 rfl 0 rfl ?_
  obtain ⟨fr56, r56, cr56, kr56, hf⟩ := mgr_some hf
  refine ax_get O fg_SF_80 cr56 kr56 d_SF_decode_203 ?_
  refine ax_astore_n (lv' := [(1, .ref r56), (0, .ref a0), (2, .int x2)]) O d_SF_decode_206 rfl (by decide) rfl ?_
  obtain ⟨v57, ev57, hf⟩ := mnm_some hf
  refine ax_iinc (j := 2) (v := v57) (lv' := [(2, .int v57), (1, .ref r56), (0, .ref a0)]) O d_SF_decode_207 rfl (by rw [ev57]; rfl) (by decide) rfl ?_
  refine ax_goto (tgt := 56) O d_SF_decode_210 (by decide) ?_
  refine ax_sub [2, 1, 0] rfl ?_
  exact hK56 _ _ _ _ hf
set_option maxHeartbeats 4000000 in
set_option maxRecDepth 100000 in
theorem cb_SF_decode_B106 {X : mX} {ad : Nat → Nat} {ln : Launch} (O : mO X ad R_SF b_SF_decode 5 (mR 7 168) ln) (K56 : mH → Nat → Nat → Int32 → Option (Int32 × mH)) (r' : Int32) (h' : mH) (hE : mEnd X ad (some .int) (some (.int r')) h') (hK56 : ∀ (h : mH) (a0 : Nat) (a1 : Nat) (x2 : Int32), K56 h a0 a1 x2 = some (r', h') → mAW X ad 0 0 56 [(0, .ref a0), (1, .ref a1), (2, .int x2)] [] h) (n0 : Nat) (h0 : mH) (a0 : Nat) (a1 : Nat) (x2 : Int32) (a3 : Nat) (b0 : Nat) (b1 : Nat) (hf : f_SF_decode_B106 K56 n0 h0 a0 a1 x2 a3 b0 b1 = some (r', h')) : mAW X ad 0 0 106 [(0, .ref a0), (1, .ref a1), (2, .int x2), (3, .ref a3)] [.ref b0, .ref b1] h0 := by
  unfold f_SF_decode_B106 at hf
  obtain ⟨fh31, h31, ch31, kh31, eh31, hf⟩ := mpt_some hf
  refine ax_put (v := .ref b0) O fp_SF_80 ch31 kh31 eh31 rfl rfl d_SF_decode_106 ?_
  refine ax_aload_n O d_SF_decode_109 rfl 0 rfl ?_
  obtain ⟨fr32, r32, cr32, kr32, hf⟩ := mgr_some hf
  refine ax_get O fg_SF_35 cr32 kr32 d_SF_decode_110 ?_
  refine ax_aload_n O d_SF_decode_113 rfl 1 rfl ?_
  refine ax_aload_n O d_SF_decode_114 rfl 0 rfl ?_
  obtain ⟨fr33, r33, cr33, kr33, hf⟩ := mgr_some hf
  refine ax_get O fg_SF_80 cr33 kr33 d_SF_decode_115 ?_
  obtain ⟨fh36, ch36, hf⟩ := mis_some hf
  obtain ⟨u37, h36, mh36, hf⟩ := mcl_some hf
  refine ax_callV (As := [.ref a1, .ref r33]) (rest := []) O cw_Pa_begin (q := (R_Pa, T_Pa, 7)) rfl rfl in_Pa_begin se_Pa_begin lk_SF_173 ch36 (c_Pa_begin mh36) rfl ⟨rfl, rfl⟩ (by decide) (by decide) (Nat.le_of_ble_eq_true rfl) d_SF_decode_118 ?_
  refine ax_aload_n O d_SF_decode_121 rfl 0 rfl ?_
  refine ax_aload_n O d_SF_decode_122 rfl 3 rfl ?_
  obtain ⟨fv38, v38, cv38, kv38, hf⟩ := mgi_some hf
  refine ax_get O fg_SF_176 cv38 kv38 d_SF_decode_123 ?_
  obtain ⟨fh41, ch41, hf⟩ := mis_some hf
  obtain ⟨r40, h41, mh41, hf⟩ := mcl_some hf
  refine ax_callV (As := [.int v38]) (rest := []) O cw_SF_unpackerOf (q := (R_SF, T_SF, 17)) rfl rfl in_SF_unpackerOf se_SF_unpackerOf lk_SF_179 ch41 (c_SF_unpackerOf mh41) rfl ⟨rfl, rfl⟩ (by decide) (by decide) (Nat.le_of_ble_eq_true rfl) d_SF_decode_126 ?_
  refine ax_aload_n O d_SF_decode_129 rfl 0 rfl ?_
  obtain ⟨fr42, r42, cr42, kr42, hf⟩ := mgr_some hf
  refine ax_get O fg_SF_35 cr42 kr42 d_SF_decode_130 ?_
  refine ax_aload_n O d_SF_decode_133 rfl 3 rfl ?_
  obtain ⟨fv43, v43, cv43, kv43, hf⟩ := mgi_some hf
  refine ax_get O fg_SF_183 cv43 kv43 d_SF_decode_134 ?_
  obtain ⟨u47, h46, mh46, hf⟩ := mcl_some hf
  refine ax_callUn (rest := []) O mh46 (by decide) (by decide) (Nat.le_of_ble_eq_true rfl) d_SF_decode_137 ?_
  refine ax_aload_n O d_SF_decode_140 rfl 3 rfl ?_
  refine ax_aload_n O d_SF_decode_141 rfl 0 rfl ?_
  obtain ⟨fr48, r48, cr48, kr48, hf⟩ := mgr_some hf
  refine ax_get O fg_SF_80 cr48 kr48 d_SF_decode_142 ?_
  obtain ⟨fh51, ch51, hf⟩ := mis_some hf
  obtain ⟨v50, h51, mh51, hf⟩ := mcl_some hf
  refine ax_callV (As := [.ref r48]) (rest := []) O cw_Li_undo (q := (R_Li, T_Li, 6)) rfl rfl in_Li_undo se_Li_undo lk_SF_192 ch51 (c_Li_undo mh51) rfl ⟨rfl, rfl⟩ (by decide) (by decide) (Nat.le_of_ble_eq_true rfl) d_SF_decode_145 ?_
  refine ax_istore (lv' := [(4, .int v50), (0, .ref a0), (1, .ref a1), (2, .int x2), (3, .ref a3)]) O d_SF_decode_148 (by decide) rfl ?_
  refine ax_aload_n O d_SF_decode_150 rfl 1 rfl ?_
  obtain ⟨fr52, r52, cr52, kr52, hf⟩ := mgr_some hf
  refine ax_get O fg_SF_35 cr52 kr52 d_SF_decode_151 ?_
  obtain ⟨fv53, v53, cv53, kv53, hf⟩ := mgi_some hf
  refine ax_get O fg_SF_196 cv53 kv53 d_SF_decode_154 ?_
  refine ax_iconst (v := (-1)) O d_SF_decode_157 (by decide) ?_
  refine ax_icmp_eq (tgt := 183) O d_SF_decode_158 (by decide) (fun q54 => ?_) (fun q54 => ?_)
  · rw [if_pos q54] at hf
    refine ax_iload O d_SF_decode_183 0 rfl ?_
    refine ax_if_ne (tgt := 202) O d_SF_decode_185 (by decide) (fun q55 => ?_) (fun q55 => ?_)
    · rw [if_neg q55] at hf
      refine ax_sub [1, 3] rfl ?_
      exact cb_SF_decode_B202 O K56 _ _ hE hK56 n0 _ _ _ hf
    · rw [if_pos q55] at hf
      refine ax_aload_n O d_SF_decode_188 rfl 1 rfl ?_
      refine ax_iload_n O d_SF_decode_189 rfl 3 rfl ?_
      refine ax_bipush (v := 13) O d_SF_decode_190 (by decide) ?_
      refine ax_aload_n O d_SF_decode_192 rfl 1 rfl ?_
      obtain ⟨fr58, r58, cr58, kr58, hf⟩ := mgr_some hf
      refine ax_get O fg_SF_35 cr58 kr58 d_SF_decode_193 ?_
      obtain ⟨fv59, v59, cv59, kv59, hf⟩ := mgi_some hf
      refine ax_get O fg_SF_199 cv59 kv59 d_SF_decode_196 ?_
      obtain ⟨fh62, ch62, hf⟩ := mis_some hf
      obtain ⟨u63, h62, mh62, hf⟩ := mcl_some hf
      refine ax_callV (As := [.int x2, .int 13, .int v59]) (rest := []) O cw_SF_noteFault (q := (R_SF, T_SF, 17)) rfl rfl in_SF_noteFault se_SF_noteFault lk_SF_162 ch62 (c_SF_noteFault mh62) rfl ⟨rfl, rfl⟩ (by decide) (by decide) (Nat.le_of_ble_eq_true rfl) d_SF_decode_199 ?_
      refine ax_sub [1, 3] rfl ?_
      exact cb_SF_decode_B202 O K56 _ _ hE hK56 n0 _ _ _ hf
  · rw [if_neg q54] at hf
    refine ax_aload_n O d_SF_decode_161 rfl 1 rfl ?_
    refine ax_iload_n O d_SF_decode_162 rfl 3 rfl ?_
    refine ax_aload_n O d_SF_decode_163 rfl 1 rfl ?_
    obtain ⟨fr64, r64, cr64, kr64, hf⟩ := mgr_some hf
    refine ax_get O fg_SF_35 cr64 kr64 d_SF_decode_164 ?_
    obtain ⟨fv65, v65, cv65, kv65, hf⟩ := mgi_some hf
    refine ax_get O fg_SF_196 cv65 kv65 d_SF_decode_167 ?_
    refine ax_aload_n O d_SF_decode_170 rfl 1 rfl ?_
    obtain ⟨fr66, r66, cr66, kr66, hf⟩ := mgr_some hf
    refine ax_get O fg_SF_35 cr66 kr66 d_SF_decode_171 ?_
    obtain ⟨fv67, v67, cv67, kv67, hf⟩ := mgi_some hf
    refine ax_get O fg_SF_199 cv67 kv67 d_SF_decode_174 ?_
    obtain ⟨fh70, ch70, hf⟩ := mis_some hf
    obtain ⟨u71, h70, mh70, hf⟩ := mcl_some hf
    refine ax_callV (As := [.int x2, .int v65, .int v67]) (rest := []) O cw_SF_noteFault (q := (R_SF, T_SF, 17)) rfl rfl in_SF_noteFault se_SF_noteFault lk_SF_162 ch70 (c_SF_noteFault mh70) rfl ⟨rfl, rfl⟩ (by decide) (by decide) (Nat.le_of_ble_eq_true rfl) d_SF_decode_177 ?_
    refine ax_goto (tgt := 202) O d_SF_decode_180 (by decide) ?_
    refine ax_sub [1, 3] rfl ?_
    exact cb_SF_decode_B202 O K56 _ _ hE hK56 n0 _ _ _ hf
set_option maxHeartbeats 4000000 in
set_option maxRecDepth 100000 in
theorem cb_SF_decode_L56 {X : mX} {ad : Nat → Nat} {ln : Launch} (O : mO X ad R_SF b_SF_decode 5 (mR 7 168) ln) (r' : Int32) (h' : mH) (hE : mEnd X ad (some .int) (some (.int r')) h') (n0 : Nat) : ∀ (n : Nat) (h0 : mH) (a0 : Nat) (a1 : Nat) (x2 : Int32), f_SF_decode_L56 n0 n h0 a0 a1 x2 = some (r', h') → mAW X ad 0 0 56 [(0, .ref a0), (1, .ref a1), (2, .int x2)] [] h0 := by
  intro n
  induction n with
  | zero =>
    intro h0 a0 a1 x2 hf
    rw [f_SF_decode_L56.eq_1] at hf
    cases hf
  | succ n ih =>
    intro h0 a0 a1 x2 hf
    rw [f_SF_decode_L56.eq_2] at hf
    refine ax_iload_n O d_SF_decode_56 rfl 2 rfl ?_
    refine ax_aload_n O d_SF_decode_57 rfl 0 rfl ?_
    obtain ⟨fv14, v14, cv14, kv14, hf⟩ := mgi_some hf
    refine ax_get O fg_SF_24 cv14 kv14 d_SF_decode_58 ?_
    refine ax_icmp_ge (tgt := 213) O d_SF_decode_61 (by decide) (fun q15 => ?_) (fun q15 => ?_)
    · rw [if_pos q15] at hf
      refine ax_aload_n O d_SF_decode_213 rfl 0 rfl ?_
      obtain ⟨fr16, r16, cr16, kr16, hf⟩ := mgr_some hf
      refine ax_get O fg_SF_80 cr16 kr16 d_SF_decode_214 ?_
      obtain ⟨fv17, v17, cv17, kv17, hf⟩ := mgi_some hf
      refine ax_get O fg_SF_97 cv17 kv17 d_SF_decode_217 ?_
      exact ax_retE O hE hf rfl d_SF_decode_220
    · rw [if_neg q15] at hf
      refine ax_iload_n O d_SF_decode_64 rfl 2 rfl ?_
      refine ax_aload_n O d_SF_decode_65 rfl 0 rfl ?_
      obtain ⟨fr18, r18, cr18, kr18, hf⟩ := mgr_some hf
      refine ax_get O fg_SF_20 cr18 kr18 d_SF_decode_66 ?_
      obtain ⟨xv19, v19, cv19, kv19, hf⟩ := mln_some hf
      refine ax_alen O (by decide) cv19 kv19 d_SF_decode_69 ?_
      refine ax_icmp_ge (tgt := 213) O d_SF_decode_70 (by decide) (fun q20 => ?_) (fun q20 => ?_)
      · rw [if_pos q20] at hf
        refine ax_aload_n O d_SF_decode_213 rfl 0 rfl ?_
        obtain ⟨fr21, r21, cr21, kr21, hf⟩ := mgr_some hf
        refine ax_get O fg_SF_80 cr21 kr21 d_SF_decode_214 ?_
        obtain ⟨fv22, v22, cv22, kv22, hf⟩ := mgi_some hf
        refine ax_get O fg_SF_97 cv22 kv22 d_SF_decode_217 ?_
        exact ax_retE O hE hf rfl d_SF_decode_220
      · rw [if_neg q20] at hf
        refine ax_aload_n O d_SF_decode_73 rfl 0 rfl ?_
        obtain ⟨fv23, v23, cv23, kv23, hf⟩ := mgi_some hf
        refine ax_get O fg_SF_90 cv23 kv23 d_SF_decode_74 ?_
        refine ax_iconst (v := (-1)) O d_SF_decode_77 (by decide) ?_
        refine ax_icmp_ne (tgt := 213) O d_SF_decode_78 (by decide) (fun q24 => ?_) (fun q24 => ?_)
        · rw [if_neg q24] at hf
          refine ax_aload_n O d_SF_decode_213 rfl 0 rfl ?_
          obtain ⟨fr25, r25, cr25, kr25, hf⟩ := mgr_some hf
          refine ax_get O fg_SF_80 cr25 kr25 d_SF_decode_214 ?_
          obtain ⟨fv26, v26, cv26, kv26, hf⟩ := mgi_some hf
          refine ax_get O fg_SF_97 cv26 kv26 d_SF_decode_217 ?_
          exact ax_retE O hE hf rfl d_SF_decode_220
        · rw [if_pos q24] at hf
          refine ax_aload_n O d_SF_decode_81 rfl 0 rfl ?_
          obtain ⟨fr27, r27, cr27, kr27, hf⟩ := mgr_some hf
          refine ax_get O fg_SF_20 cr27 kr27 d_SF_decode_82 ?_
          refine ax_iload_n O d_SF_decode_85 rfl 2 rfl ?_
          obtain ⟨nr28, fr28, r28, cr28, ir28, kr28, hf⟩ := mar_some hf
          refine ax_aald O (by decide) cr28 ir28 kr28 d_SF_decode_86 ?_
          refine ax_astore_n (lv' := [(3, .ref r28), (0, .ref a0), (1, .ref a1), (2, .int x2)]) O d_SF_decode_87 rfl (by decide) rfl ?_
          refine ax_aload_n O d_SF_decode_88 rfl 1 rfl ?_
          refine ax_iload_n O d_SF_decode_89 rfl 3 rfl ?_
          refine ax_iconst (v := 2) O d_SF_decode_90 (by decide) ?_
          refine ax_irem O d_SF_decode_91 (by decide) ?_
          refine ax_if_ne (tgt := 102) O d_SF_decode_92 (by decide) (fun q29 => ?_) (fun q29 => ?_)
          · rw [if_neg q29] at hf
            refine ax_aload_n O d_SF_decode_102 rfl 1 rfl ?_
            obtain ⟨fr30, r30, cr30, kr30, hf⟩ := mgr_some hf
            refine ax_get O fg_SF_77 cr30 kr30 d_SF_decode_103 ?_
            refine ax_sub [1, 2, 3, 0] rfl ?_
            exact cb_SF_decode_B106 O (f_SF_decode_L56 n0 n) _ _ hE ih n0 _ _ _ _ _ _ _ hf
          · rw [if_pos q29] at hf
            refine ax_aload_n O d_SF_decode_95 rfl 1 rfl ?_
            obtain ⟨fr72, r72, cr72, kr72, hf⟩ := mgr_some hf
            refine ax_get O fg_SF_74 cr72 kr72 d_SF_decode_96 ?_
            refine ax_goto (tgt := 106) O d_SF_decode_99 (by decide) ?_
            refine ax_sub [1, 2, 3, 0] rfl ?_
            exact cb_SF_decode_B106 O (f_SF_decode_L56 n0 n) _ _ hE ih n0 _ _ _ _ _ _ _ hf
set_option maxHeartbeats 4000000 in
set_option maxRecDepth 100000 in
theorem cb_SF_decode_B49 {X : mX} {ad : Nat → Nat} {ln : Launch} (O : mO X ad R_SF b_SF_decode 5 (mR 7 168) ln) (r' : Int32) (h' : mH) (hE : mEnd X ad (some .int) (some (.int r')) h') (n0 : Nat) (h0 : mH) (a0 : Nat) (hf : f_SF_decode_B49 n0 h0 a0 = some (r', h')) : mAW X ad 0 0 49 [(0, .ref a0)] [] h0 := by
  unfold f_SF_decode_B49 at hf
  refine ax_aload_n O d_SF_decode_49 rfl 0 rfl ?_
  obtain ⟨fr13, r13, cr13, kr13, hf⟩ := mgr_some hf
  refine ax_get O fg_SF_14 cr13 kr13 d_SF_decode_50 ?_
  refine ax_astore_n (lv' := [(1, .ref r13), (0, .ref a0)]) O d_SF_decode_53 rfl (by decide) rfl ?_
  refine ax_iconst (v := 0) O d_SF_decode_54 (by decide) ?_
  refine ax_istore_n (lv' := [(2, .int 0), (1, .ref r13), (0, .ref a0)]) O d_SF_decode_55 rfl (by decide) rfl ?_
  refine ax_sub [2, 1, 0] rfl ?_
  exact cb_SF_decode_L56 O _ _ hE n0 n0 _ _ _ _ hf
set_option maxHeartbeats 4000000 in
set_option maxRecDepth 100000 in
theorem cb_SF_decode {X : mX} {ad : Nat → Nat} {ln : Launch} (O : mO X ad R_SF b_SF_decode 5 (mR 7 168) ln) (r' : Int32) (h' : mH) (hE : mEnd X ad (some .int) (some (.int r')) h') (n0 : Nat) (h0 : mH) (a0 : Nat) (hf : f_SF_decode n0 h0 a0 = some (r', h')) : mAW X ad 0 0 0 [(0, .ref a0)] [] h0 := by
  unfold f_SF_decode at hf
  refine ax_aload_n O d_SF_decode_0 rfl 0 rfl ?_
  refine ax_iconst (v := 1) O d_SF_decode_1 (by decide) ?_
  obtain ⟨fh1, h1, ch1, kh1, eh1, hf⟩ := mpt_some hf
  refine ax_put (v := .int 1) O fp_SF_83 ch1 kh1 eh1 rfl rfl d_SF_decode_2 ?_
  refine ax_aload_n O d_SF_decode_5 rfl 0 rfl ?_
  refine ax_iconst (v := (-1)) O d_SF_decode_6 (by decide) ?_
  refine ax_iconst (v := (-1)) O d_SF_decode_7 (by decide) ?_
  refine ax_iconst (v := (-1)) O d_SF_decode_8 (by decide) ?_
  obtain ⟨fh4, ch4, hf⟩ := mis_some hf
  obtain ⟨u5, h4, mh4, hf⟩ := mcl_some hf
  refine ax_callV (As := [.int (-1), .int (-1), .int (-1)]) (rest := []) O cw_SF_noteFault (q := (R_SF, T_SF, 17)) rfl rfl in_SF_noteFault se_SF_noteFault lk_SF_162 ch4 (c_SF_noteFault mh4) rfl ⟨rfl, rfl⟩ (by decide) (by decide) (Nat.le_of_ble_eq_true rfl) d_SF_decode_9 ?_
  refine ax_aload_n O d_SF_decode_12 rfl 0 rfl ?_
  obtain ⟨fr6, r6, cr6, kr6, hf⟩ := mgr_some hf
  refine ax_get O fg_SF_35 cr6 kr6 d_SF_decode_13 ?_
  refine ax_aload_n O d_SF_decode_16 rfl 0 rfl ?_
  obtain ⟨fv7, v7, cv7, kv7, hf⟩ := mgi_some hf
  refine ax_get O fg_SF_29 cv7 kv7 d_SF_decode_17 ?_
  obtain ⟨fh8, h8, ch8, kh8, eh8, hf⟩ := mpt_some hf
  refine ax_put (v := .int v7) O fp_SF_166 ch8 kh8 eh8 rfl rfl d_SF_decode_20 ?_
  refine ax_aload_n O d_SF_decode_23 rfl 0 rfl ?_
  refine ax_aload_n O d_SF_decode_24 rfl 0 rfl ?_
  obtain ⟨fr9, r9, cr9, kr9, hf⟩ := mgr_some hf
  refine ax_get O fg_SF_74 cr9 kr9 d_SF_decode_25 ?_
  obtain ⟨fh10, h10, ch10, kh10, eh10, hf⟩ := mpt_some hf
  refine ax_put (v := .ref r9) O fp_SF_80 ch10 kh10 eh10 rfl rfl d_SF_decode_28 ?_
  refine ax_aload_n O d_SF_decode_31 rfl 0 rfl ?_
  obtain ⟨fv11, v11, cv11, kv11, hf⟩ := mgi_some hf
  refine ax_get O fg_SF_24 cv11 kv11 d_SF_decode_32 ?_
  refine ax_if_ne (tgt := 49) O d_SF_decode_35 (by decide) (fun q12 => ?_) (fun q12 => ?_)
  · rw [if_neg q12] at hf
    exact cb_SF_decode_B49 O _ _ hE n0 _ _ hf
  · rw [if_pos q12] at hf
    refine ax_aload_n O d_SF_decode_38 rfl 0 rfl ?_
    obtain ⟨fr73, r73, cr73, kr73, hf⟩ := mgr_some hf
    refine ax_get O fg_SF_74 cr73 kr73 d_SF_decode_39 ?_
    refine ax_aload_n O d_SF_decode_42 rfl 0 rfl ?_
    obtain ⟨fr74, r74, cr74, kr74, hf⟩ := mgr_some hf
    refine ax_get O fg_SF_14 cr74 kr74 d_SF_decode_43 ?_
    obtain ⟨fh77, ch77, hf⟩ := mis_some hf
    obtain ⟨u78, h77, mh77, hf⟩ := mcl_some hf
    refine ax_callV (As := [.ref r74]) (rest := []) O cw_By_become (q := (R_By, T_By, 2)) rfl rfl in_By_become se_By_become lk_SF_169 ch77 (c_By_become mh77) rfl ⟨rfl, rfl⟩ (by decide) (by decide) (Nat.le_of_ble_eq_true rfl) d_SF_decode_46 ?_
    exact cb_SF_decode_B49 O _ _ hE n0 _ _ hf
theorem c_SF_decode {ln : Launch} {n0 : Nat} {h0 h' : mH} {a0 : Nat} {r' : Int32} (hf : f_SF_decode n0 h0 a0 = some (r', h')) : mMet ln y_SF_decode b_SF_decode 5 (some .int) (mR 7 168) [.ref a0] h0 (some (.int r')) h' := mMet_of (by decide +kernel) (Nat.le_of_ble_eq_true rfl) (fun X ad O hE => cb_SF_decode O r' h' hE n0 h0 a0 hf)
