/-! ===== StreamFiltersModel.symbol(II)I ===== -/
theorem d_Mo_symbol_0 : decode b_Mo_symbol 0 = .ok (.iconst 0, 1) := by decide +kernel
theorem d_Mo_symbol_1 : decode b_Mo_symbol 1 = .ok (.istore_n 3, 1) := by decide +kernel
theorem d_Mo_symbol_2 : decode b_Mo_symbol 2 = .ok (.iconst 0, 1) := by decide +kernel
theorem d_Mo_symbol_3 : decode b_Mo_symbol 3 = .ok (.istore 4, 2) := by decide +kernel
theorem d_Mo_symbol_5 : decode b_Mo_symbol 5 = .ok (.aload_n 0, 1) := by decide +kernel
theorem d_Mo_symbol_6 : decode b_Mo_symbol 6 = .ok (.invokevirtual 89, 3) := by decide +kernel
theorem d_Mo_symbol_9 : decode b_Mo_symbol 9 = .ok (.ifCond .eq 131, 3) := by decide +kernel
theorem d_Mo_symbol_12 : decode b_Mo_symbol 12 = .ok (.iconst 0, 1) := by decide +kernel
theorem d_Mo_symbol_13 : decode b_Mo_symbol 13 = .ok (.istore 5, 2) := by decide +kernel
theorem d_Mo_symbol_15 : decode b_Mo_symbol 15 = .ok (.iload_n 1, 1) := by decide +kernel
theorem d_Mo_symbol_16 : decode b_Mo_symbol 16 = .ok (.istore 6, 2) := by decide +kernel
theorem d_Mo_symbol_18 : decode b_Mo_symbol 18 = .ok (.iload 6, 2) := by decide +kernel
theorem d_Mo_symbol_20 : decode b_Mo_symbol 20 = .ok (.iload_n 1, 1) := by decide +kernel
theorem d_Mo_symbol_21 : decode b_Mo_symbol 21 = .ok (.iload_n 2, 1) := by decide +kernel
theorem d_Mo_symbol_22 : decode b_Mo_symbol 22 = .ok (.iadd, 1) := by decide +kernel
theorem d_Mo_symbol_23 : decode b_Mo_symbol 23 = .ok (.if_icmp .ge 88, 3) := by decide +kernel
theorem d_Mo_symbol_26 : decode b_Mo_symbol 26 = .ok (.iload 4, 2) := by decide +kernel
theorem d_Mo_symbol_28 : decode b_Mo_symbol 28 = .ok (.ifCond .le 31, 3) := by decide +kernel
theorem d_Mo_symbol_31 : decode b_Mo_symbol 31 = .ok (.aload_n 0, 1) := by decide +kernel
theorem d_Mo_symbol_32 : decode b_Mo_symbol 32 = .ok (.getfield 42, 3) := by decide +kernel
theorem d_Mo_symbol_35 : decode b_Mo_symbol 35 = .ok (.iload 6, 2) := by decide +kernel
theorem d_Mo_symbol_37 : decode b_Mo_symbol 37 = .ok (.iaload, 1) := by decide +kernel
theorem d_Mo_symbol_38 : decode b_Mo_symbol 38 = .ok (.iload 4, 2) := by decide +kernel
theorem d_Mo_symbol_40 : decode b_Mo_symbol 40 = .ok (.if_icmp .ne 19, 3) := by decide +kernel
theorem d_Mo_symbol_43 : decode b_Mo_symbol 43 = .ok (.aload_n 0, 1) := by decide +kernel
theorem d_Mo_symbol_44 : decode b_Mo_symbol 44 = .ok (.getfield 45, 3) := by decide +kernel
theorem d_Mo_symbol_47 : decode b_Mo_symbol 47 = .ok (.iload 6, 2) := by decide +kernel
theorem d_Mo_symbol_49 : decode b_Mo_symbol 49 = .ok (.iaload, 1) := by decide +kernel
theorem d_Mo_symbol_50 : decode b_Mo_symbol 50 = .ok (.iload_n 3, 1) := by decide +kernel
theorem d_Mo_symbol_51 : decode b_Mo_symbol 51 = .ok (.if_icmp .ne 8, 3) := by decide +kernel
theorem d_Mo_symbol_54 : decode b_Mo_symbol 54 = .ok (.iload 6, 2) := by decide +kernel
theorem d_Mo_symbol_56 : decode b_Mo_symbol 56 = .ok (.iload_n 1, 1) := by decide +kernel
theorem d_Mo_symbol_57 : decode b_Mo_symbol 57 = .ok (.isub, 1) := by decide +kernel
theorem d_Mo_symbol_58 : decode b_Mo_symbol 58 = .ok (.ireturn, 1) := by decide +kernel
theorem d_Mo_symbol_59 : decode b_Mo_symbol 59 = .ok (.iload 5, 2) := by decide +kernel
theorem d_Mo_symbol_61 : decode b_Mo_symbol 61 = .ok (.ifCond .ne 37, 3) := by decide +kernel
theorem d_Mo_symbol_64 : decode b_Mo_symbol 64 = .ok (.aload_n 0, 1) := by decide +kernel
theorem d_Mo_symbol_65 : decode b_Mo_symbol 65 = .ok (.getfield 42, 3) := by decide +kernel
theorem d_Mo_symbol_68 : decode b_Mo_symbol 68 = .ok (.iload 6, 2) := by decide +kernel
theorem d_Mo_symbol_70 : decode b_Mo_symbol 70 = .ok (.iaload, 1) := by decide +kernel
theorem d_Mo_symbol_71 : decode b_Mo_symbol 71 = .ok (.iload 4, 2) := by decide +kernel
theorem d_Mo_symbol_73 : decode b_Mo_symbol 73 = .ok (.if_icmp .le 29, 3) := by decide +kernel
theorem d_Mo_symbol_76 : decode b_Mo_symbol 76 = .ok (.aload_n 0, 1) := by decide +kernel
theorem d_Mo_symbol_77 : decode b_Mo_symbol 77 = .ok (.getfield 45, 3) := by decide +kernel
theorem d_Mo_symbol_80 : decode b_Mo_symbol 80 = .ok (.iload 6, 2) := by decide +kernel
theorem d_Mo_symbol_82 : decode b_Mo_symbol 82 = .ok (.iaload, 1) := by decide +kernel
theorem d_Mo_symbol_83 : decode b_Mo_symbol 83 = .ok (.aload_n 0, 1) := by decide +kernel
theorem d_Mo_symbol_84 : decode b_Mo_symbol 84 = .ok (.getfield 42, 3) := by decide +kernel
theorem d_Mo_symbol_87 : decode b_Mo_symbol 87 = .ok (.iload 6, 2) := by decide +kernel
theorem d_Mo_symbol_89 : decode b_Mo_symbol 89 = .ok (.iaload, 1) := by decide +kernel
theorem d_Mo_symbol_90 : decode b_Mo_symbol 90 = .ok (.iload 4, 2) := by decide +kernel
theorem d_Mo_symbol_92 : decode b_Mo_symbol 92 = .ok (.isub, 1) := by decide +kernel
theorem d_Mo_symbol_93 : decode b_Mo_symbol 93 = .ok (.ishr, 1) := by decide +kernel
theorem d_Mo_symbol_94 : decode b_Mo_symbol 94 = .ok (.iload_n 3, 1) := by decide +kernel
theorem d_Mo_symbol_95 : decode b_Mo_symbol 95 = .ok (.if_icmp .ne 7, 3) := by decide +kernel
theorem d_Mo_symbol_98 : decode b_Mo_symbol 98 = .ok (.iconst 1, 1) := by decide +kernel
theorem d_Mo_symbol_99 : decode b_Mo_symbol 99 = .ok (.goto 4, 3) := by decide +kernel
theorem d_Mo_symbol_102 : decode b_Mo_symbol 102 = .ok (.iconst 0, 1) := by decide +kernel
theorem d_Mo_symbol_103 : decode b_Mo_symbol 103 = .ok (.istore 5, 2) := by decide +kernel
theorem d_Mo_symbol_105 : decode b_Mo_symbol 105 = .ok (.iinc 6 1, 3) := by decide +kernel
theorem d_Mo_symbol_108 : decode b_Mo_symbol 108 = .ok (.goto (-90), 3) := by decide +kernel
theorem d_Mo_symbol_111 : decode b_Mo_symbol 111 = .ok (.iload 5, 2) := by decide +kernel
theorem d_Mo_symbol_113 : decode b_Mo_symbol 113 = .ok (.ifCond .ne 12, 3) := by decide +kernel
theorem d_Mo_symbol_116 : decode b_Mo_symbol 116 = .ok (.aload_n 0, 1) := by decide +kernel
theorem d_Mo_symbol_117 : decode b_Mo_symbol 117 = .ok (.bipush 7, 2) := by decide +kernel
theorem d_Mo_symbol_119 : decode b_Mo_symbol 119 = .ok (.invokevirtual 99, 3) := by decide +kernel
theorem d_Mo_symbol_122 : decode b_Mo_symbol 122 = .ok (.goto 15, 3) := by decide +kernel
theorem d_Mo_symbol_125 : decode b_Mo_symbol 125 = .ok (.iload_n 3, 1) := by decide +kernel
theorem d_Mo_symbol_126 : decode b_Mo_symbol 126 = .ok (.iconst 1, 1) := by decide +kernel
theorem d_Mo_symbol_127 : decode b_Mo_symbol 127 = .ok (.ishl, 1) := by decide +kernel
theorem d_Mo_symbol_128 : decode b_Mo_symbol 128 = .ok (.aload_n 0, 1) := by decide +kernel
theorem d_Mo_symbol_129 : decode b_Mo_symbol 129 = .ok (.invokevirtual 119, 3) := by decide +kernel
theorem d_Mo_symbol_132 : decode b_Mo_symbol 132 = .ok (.ior, 1) := by decide +kernel
theorem d_Mo_symbol_133 : decode b_Mo_symbol 133 = .ok (.istore_n 3, 1) := by decide +kernel
theorem d_Mo_symbol_134 : decode b_Mo_symbol 134 = .ok (.iinc 4 1, 3) := by decide +kernel
theorem d_Mo_symbol_137 : decode b_Mo_symbol 137 = .ok (.goto (-132), 3) := by decide +kernel
theorem d_Mo_symbol_140 : decode b_Mo_symbol 140 = .ok (.iconst (-1), 1) := by decide +kernel
theorem d_Mo_symbol_141 : decode b_Mo_symbol 141 = .ok (.ireturn, 1) := by decide +kernel
noncomputable def f_Mo_symbol_B98 (K5 : mH → Nat → Int32 → Int32 → Int32 → Int32 → Option (Int32 × mH)) (K18 : mH → Nat → Int32 → Int32 → Int32 → Int32 → Int32 → Int32 → Option (Int32 × mH)) (n0 : Nat) (h0 : mH) (a0 : Nat) (x1 : Int32) (x2 : Int32) (x3 : Int32) (x4 : Int32) (x6 : Int32) : Option (Int32 × mH) :=
  mnm (x6 + 1) fun v18 =>
  K18 h0 a0 x1 x2 x3 x4 1 v18
noncomputable def f_Mo_symbol_B59 (K5 : mH → Nat → Int32 → Int32 → Int32 → Int32 → Option (Int32 × mH)) (K18 : mH → Nat → Int32 → Int32 → Int32 → Int32 → Int32 → Int32 → Option (Int32 × mH)) (n0 : Nat) (h0 : mH) (a0 : Nat) (x1 : Int32) (x2 : Int32) (x3 : Int32) (x4 : Int32) (x5 : Int32) (x6 : Int32) : Option (Int32 × mH) :=
  if x5 = 0 then
    mgr h0 a0 10 20 fun r19 =>
    mai h0 r19 .int x6 fun v20 =>
    if v20 ≤ x4 then
      mnm (x6 + 1) fun v22 =>
      K18 h0 a0 x1 x2 x3 x4 0 v22
    else
      mgr h0 a0 10 21 fun r23 =>
      mai h0 r23 .int x6 fun v24 =>
      mgr h0 a0 10 20 fun r25 =>
      mai h0 r25 .int x6 fun v26 =>
      if (v24 >>> ((v26 - x4) &&& 31)) = x3 then
        f_Mo_symbol_B98 K5 K18 n0 h0 a0 x1 x2 x3 x4 x6
      else
        mnm (x6 + 1) fun v28 =>
        K18 h0 a0 x1 x2 x3 x4 0 v28
  else
    f_Mo_symbol_B98 K5 K18 n0 h0 a0 x1 x2 x3 x4 x6
noncomputable def f_Mo_symbol_L18 (K5 : mH → Nat → Int32 → Int32 → Int32 → Int32 → Option (Int32 × mH)) (n0 : Nat) : Nat → mH → Nat → Int32 → Int32 → Int32 → Int32 → Int32 → Int32 → Option (Int32 × mH)
  | 0, _, _, _, _, _, _, _, _ => none
  | n + 1, h0, a0, x1, x2, x3, x4, x5, x6 =>
    if (x1 + x2) ≤ x6 then
      if x5 = 0 then
        mis h0 a0 10 <|
        mcl (f_Mo_fail n0 h0 a0 7) fun _ h14 =>
        K5 h14 a0 x1 x2 x3 x4
      else
        mis h0 a0 10 <|
        mcl (f_Mo_bit n0 h0 a0) fun v8 h9 =>
        mnm ((x3 <<< (1 &&& 31)) ||| v8) fun v10 =>
        mnm (x4 + 1) fun v11 =>
        K5 h9 a0 x1 x2 v10 v11
    else
      if x4 ≤ 0 then
        f_Mo_symbol_B59 K5 (f_Mo_symbol_L18 K5 n0 n) n0 h0 a0 x1 x2 x3 x4 x5 x6
      else
        mgr h0 a0 10 20 fun r29 =>
        mai h0 r29 .int x6 fun v30 =>
        if v30 = x4 then
          mgr h0 a0 10 21 fun r32 =>
          mai h0 r32 .int x6 fun v33 =>
          if v33 = x3 then
            some (x6 - x1, h0)
          else
            f_Mo_symbol_B59 K5 (f_Mo_symbol_L18 K5 n0 n) n0 h0 a0 x1 x2 x3 x4 x5 x6
        else
          f_Mo_symbol_B59 K5 (f_Mo_symbol_L18 K5 n0 n) n0 h0 a0 x1 x2 x3 x4 x5 x6
noncomputable def f_Mo_symbol_L5  (n0 : Nat) : Nat → mH → Nat → Int32 → Int32 → Int32 → Int32 → Option (Int32 × mH)
  | 0, _, _, _, _, _, _ => none
  | n + 1, h0, a0, x1, x2, x3, x4 =>
    mis h0 a0 10 <|
    mcl (f_Mo_isGood n0 h0 a0) fun v2 h3 =>
    if v2 = 0 then
      some ((-1), h3)
    else
      f_Mo_symbol_L18 (f_Mo_symbol_L5 n0 n) n0 n0 h3 a0 x1 x2 x3 x4 0 x1
noncomputable def f_Mo_symbol  (n0 : Nat) (h0 : mH) (a0 : Nat) (x1 : Int32) (x2 : Int32) : Option (Int32 × mH) :=
  f_Mo_symbol_L5 n0 n0 h0 a0 x1 x2 0 0
set_option maxHeartbeats 4000000 in
set_option maxRecDepth 100000 in
theorem cb_Mo_symbol_B98 {X : mX} {ad : Nat → Nat} {ln : Launch} (O : mO X ad R_Mo b_Mo_symbol 7 (mR 3 62) ln) (K5 : mH → Nat → Int32 → Int32 → Int32 → Int32 → Option (Int32 × mH)) (K18 : mH → Nat → Int32 → Int32 → Int32 → Int32 → Int32 → Int32 → Option (Int32 × mH)) (r' : Int32) (h' : mH) (hE : mEnd X ad (some .int) (some (.int r')) h') (hK5 : ∀ (h : mH) (a0 : Nat) (x1 : Int32) (x2 : Int32) (x3 : Int32) (x4 : Int32), K5 h a0 x1 x2 x3 x4 = some (r', h') → mAW X ad 0 0 5 [(0, .ref a0), (1, .int x1), (2, .int x2), (3, .int x3), (4, .int x4)] [] h) (hK18 : ∀ (h : mH) (a0 : Nat) (x1 : Int32) (x2 : Int32) (x3 : Int32) (x4 : Int32) (x5 : Int32) (x6 : Int32), K18 h a0 x1 x2 x3 x4 x5 x6 = some (r', h') → mAW X ad 0 0 18 [(0, .ref a0), (1, .int x1), (2, .int x2), (3, .int x3), (4, .int x4), (5, .int x5), (6, .int x6)] [] h) (n0 : Nat) (h0 : mH) (a0 : Nat) (x1 : Int32) (x2 : Int32) (x3 : Int32) (x4 : Int32) (x6 : Int32) (hf : f_Mo_symbol_B98 K5 K18 n0 h0 a0 x1 x2 x3 x4 x6 = some (r', h')) : mAW X ad 0 0 98 [(0, .ref a0), (1, .int x1), (2, .int x2), (3, .int x3), (4, .int x4), (6, .int x6)] [] h0 := by
  unfold f_Mo_symbol_B98 at hf
  refine ax_iconst (v := 1) O d_Mo_symbol_98 (by decide) ?_
  refine ax_goto (tgt := 103) O d_Mo_symbol_99 (by decide) ?_
  refine ax_istore (lv' := [(5, .int 1), (0, .ref a0), (1, .int x1), (2, .int x2), (3, .int x3), (4, .int x4), (6, .int x6)]) O d_Mo_symbol_103 (by decide) rfl ?_
  obtain ⟨v18, ev18, hf⟩ := mnm_some hf
  refine ax_iinc (j := 6) (v := v18) (lv' := [(6, .int v18), (5, .int 1), (0, .ref a0), (1, .int x1), (2, .int x2), (3, .int x3), (4, .int x4)]) O d_Mo_symbol_105 rfl (by rw [ev18]; rfl) (by decide) rfl ?_
  refine ax_goto (tgt := 18) O d_Mo_symbol_108 (by decide) ?_
  refine ax_sub [2, 3, 4, 5, 6, 1, 0] rfl ?_
  exact hK18 _ _ _ _ _ _ _ _ hf
set_option maxHeartbeats 4000000 in
set_option maxRecDepth 100000 in
theorem cb_Mo_symbol_B59 {X : mX} {ad : Nat → Nat} {ln : Launch} (O : mO X ad R_Mo b_Mo_symbol 7 (mR 3 62) ln) (K5 : mH → Nat → Int32 → Int32 → Int32 → Int32 → Option (Int32 × mH)) (K18 : mH → Nat → Int32 → Int32 → Int32 → Int32 → Int32 → Int32 → Option (Int32 × mH)) (r' : Int32) (h' : mH) (hE : mEnd X ad (some .int) (some (.int r')) h') (hK5 : ∀ (h : mH) (a0 : Nat) (x1 : Int32) (x2 : Int32) (x3 : Int32) (x4 : Int32), K5 h a0 x1 x2 x3 x4 = some (r', h') → mAW X ad 0 0 5 [(0, .ref a0), (1, .int x1), (2, .int x2), (3, .int x3), (4, .int x4)] [] h) (hK18 : ∀ (h : mH) (a0 : Nat) (x1 : Int32) (x2 : Int32) (x3 : Int32) (x4 : Int32) (x5 : Int32) (x6 : Int32), K18 h a0 x1 x2 x3 x4 x5 x6 = some (r', h') → mAW X ad 0 0 18 [(0, .ref a0), (1, .int x1), (2, .int x2), (3, .int x3), (4, .int x4), (5, .int x5), (6, .int x6)] [] h) (n0 : Nat) (h0 : mH) (a0 : Nat) (x1 : Int32) (x2 : Int32) (x3 : Int32) (x4 : Int32) (x5 : Int32) (x6 : Int32) (hf : f_Mo_symbol_B59 K5 K18 n0 h0 a0 x1 x2 x3 x4 x5 x6 = some (r', h')) : mAW X ad 0 0 59 [(0, .ref a0), (1, .int x1), (2, .int x2), (3, .int x3), (4, .int x4), (5, .int x5), (6, .int x6)] [] h0 := by
  unfold f_Mo_symbol_B59 at hf
  refine ax_iload O d_Mo_symbol_59 5 rfl ?_
  refine ax_if_ne (tgt := 98) O d_Mo_symbol_61 (by decide) (fun q17 => ?_) (fun q17 => ?_)
  · rw [if_neg q17] at hf
    refine ax_sub [0, 1, 2, 3, 4, 6] rfl ?_
    exact cb_Mo_symbol_B98 O K5 K18 _ _ hE hK5 hK18 n0 _ _ _ _ _ _ _ hf
  · rw [if_pos q17] at hf
    refine ax_aload_n O d_Mo_symbol_64 rfl 0 rfl ?_
    obtain ⟨fr19, r19, cr19, kr19, hf⟩ := mgr_some hf
    refine ax_get O fg_Mo_42 cr19 kr19 d_Mo_symbol_65 ?_
    refine ax_iload O d_Mo_symbol_68 6 rfl ?_
    obtain ⟨nv20, fv20, v20, cv20, iv20, kv20, hf⟩ := mai_some hf
    refine ax_iald O cv20 iv20 kv20 d_Mo_symbol_70 ?_
    refine ax_iload O d_Mo_symbol_71 4 rfl ?_
    refine ax_icmp_le (tgt := 102) O d_Mo_symbol_73 (by decide) (fun q21 => ?_) (fun q21 => ?_)
    · rw [if_pos q21] at hf
      refine ax_iconst (v := 0) O d_Mo_symbol_102 (by decide) ?_
      refine ax_istore (lv' := [(5, .int 0), (0, .ref a0), (1, .int x1), (2, .int x2), (3, .int x3), (4, .int x4), (6, .int x6)]) O d_Mo_symbol_103 (by decide) rfl ?_
      obtain ⟨v22, ev22, hf⟩ := mnm_some hf
      refine ax_iinc (j := 6) (v := v22) (lv' := [(6, .int v22), (5, .int 0), (0, .ref a0), (1, .int x1), (2, .int x2), (3, .int x3), (4, .int x4)]) O d_Mo_symbol_105 rfl (by rw [ev22]; rfl) (by decide) rfl ?_
      refine ax_goto (tgt := 18) O d_Mo_symbol_108 (by decide) ?_
      refine ax_sub [2, 3, 4, 5, 6, 1, 0] rfl ?_
      exact hK18 _ _ _ _ _ _ _ _ hf
    · rw [if_neg q21] at hf
      refine ax_aload_n O d_Mo_symbol_76 rfl 0 rfl ?_
      obtain ⟨fr23, r23, cr23, kr23, hf⟩ := mgr_some hf
      refine ax_get O fg_Mo_45 cr23 kr23 d_Mo_symbol_77 ?_
      refine ax_iload O d_Mo_symbol_80 6 rfl ?_
      obtain ⟨nv24, fv24, v24, cv24, iv24, kv24, hf⟩ := mai_some hf
      refine ax_iald O cv24 iv24 kv24 d_Mo_symbol_82 ?_
      refine ax_aload_n O d_Mo_symbol_83 rfl 0 rfl ?_
      obtain ⟨fr25, r25, cr25, kr25, hf⟩ := mgr_some hf
      refine ax_get O fg_Mo_42 cr25 kr25 d_Mo_symbol_84 ?_
      refine ax_iload O d_Mo_symbol_87 6 rfl ?_
      obtain ⟨nv26, fv26, v26, cv26, iv26, kv26, hf⟩ := mai_some hf
      refine ax_iald O cv26 iv26 kv26 d_Mo_symbol_89 ?_
      refine ax_iload O d_Mo_symbol_90 4 rfl ?_
      refine ax_isub O d_Mo_symbol_92 ?_
      refine ax_ishr O d_Mo_symbol_93 ?_
      refine ax_iload_n O d_Mo_symbol_94 rfl 3 rfl ?_
      refine ax_icmp_ne (tgt := 102) O d_Mo_symbol_95 (by decide) (fun q27 => ?_) (fun q27 => ?_)
      · rw [if_neg q27] at hf
        refine ax_iconst (v := 0) O d_Mo_symbol_102 (by decide) ?_
        refine ax_istore (lv' := [(5, .int 0), (0, .ref a0), (1, .int x1), (2, .int x2), (3, .int x3), (4, .int x4), (6, .int x6)]) O d_Mo_symbol_103 (by decide) rfl ?_
        obtain ⟨v28, ev28, hf⟩ := mnm_some hf
        refine ax_iinc (j := 6) (v := v28) (lv' := [(6, .int v28), (5, .int 0), (0, .ref a0), (1, .int x1), (2, .int x2), (3, .int x3), (4, .int x4)]) O d_Mo_symbol_105 rfl (by rw [ev28]; rfl) (by decide) rfl ?_
        refine ax_goto (tgt := 18) O d_Mo_symbol_108 (by decide) ?_
        refine ax_sub [2, 3, 4, 5, 6, 1, 0] rfl ?_
        exact hK18 _ _ _ _ _ _ _ _ hf
      · rw [if_pos q27] at hf
        refine ax_sub [0, 1, 2, 3, 4, 6] rfl ?_
        exact cb_Mo_symbol_B98 O K5 K18 _ _ hE hK5 hK18 n0 _ _ _ _ _ _ _ hf
set_option maxHeartbeats 4000000 in
set_option maxRecDepth 100000 in
theorem cb_Mo_symbol_L18 {X : mX} {ad : Nat → Nat} {ln : Launch} (O : mO X ad R_Mo b_Mo_symbol 7 (mR 3 62) ln) (K5 : mH → Nat → Int32 → Int32 → Int32 → Int32 → Option (Int32 × mH)) (r' : Int32) (h' : mH) (hE : mEnd X ad (some .int) (some (.int r')) h') (hK5 : ∀ (h : mH) (a0 : Nat) (x1 : Int32) (x2 : Int32) (x3 : Int32) (x4 : Int32), K5 h a0 x1 x2 x3 x4 = some (r', h') → mAW X ad 0 0 5 [(0, .ref a0), (1, .int x1), (2, .int x2), (3, .int x3), (4, .int x4)] [] h) (n0 : Nat) : ∀ (n : Nat) (h0 : mH) (a0 : Nat) (x1 : Int32) (x2 : Int32) (x3 : Int32) (x4 : Int32) (x5 : Int32) (x6 : Int32), f_Mo_symbol_L18 K5 n0 n h0 a0 x1 x2 x3 x4 x5 x6 = some (r', h') → mAW X ad 0 0 18 [(0, .ref a0), (1, .int x1), (2, .int x2), (3, .int x3), (4, .int x4), (5, .int x5), (6, .int x6)] [] h0 := by
  intro n
  induction n with
  | zero =>
    intro h0 a0 x1 x2 x3 x4 x5 x6 hf
    rw [f_Mo_symbol_L18.eq_1] at hf
    cases hf
  | succ n ih =>
    intro h0 a0 x1 x2 x3 x4 x5 x6 hf
    rw [f_Mo_symbol_L18.eq_2] at hf
    refine ax_iload O d_Mo_symbol_18 6 rfl ?_
    refine ax_iload_n O d_Mo_symbol_20 rfl 1 rfl ?_
    refine ax_iload_n O d_Mo_symbol_21 rfl 2 rfl ?_
    refine ax_iadd O d_Mo_symbol_22 ?_
    refine ax_icmp_ge (tgt := 111) O d_Mo_symbol_23 (by decide) (fun q5 => ?_) (fun q5 => ?_)
    · rw [if_pos q5] at hf
      refine ax_iload O d_Mo_symbol_111 5 rfl ?_
      refine ax_if_ne (tgt := 125) O d_Mo_symbol_113 (by decide) (fun q6 => ?_) (fun q6 => ?_)
      · rw [if_neg q6] at hf
        refine ax_iload_n O d_Mo_symbol_125 rfl 3 rfl ?_
        refine ax_iconst (v := 1) O d_Mo_symbol_126 (by decide) ?_
        refine ax_ishl O d_Mo_symbol_127 ?_
        refine ax_aload_n O d_Mo_symbol_128 rfl 0 rfl ?_
        obtain ⟨fh9, ch9, hf⟩ := mis_some hf
        obtain ⟨v8, h9, mh9, hf⟩ := mcl_some hf
        refine ax_callV (As := []) (rest := [.int (x3 <<< (1 &&& 31))]) O cw_Mo_bit (q := (R_Mo, T_Mo, 31)) rfl rfl in_Mo_bit se_Mo_bit lk_Mo_119 ch9 (c_Mo_bit mh9) rfl ⟨rfl, rfl⟩ (by decide) (by decide) (Nat.le_of_ble_eq_true rfl) d_Mo_symbol_129 ?_
        refine ax_ior O d_Mo_symbol_132 ?_
        obtain ⟨v10, ev10, hf⟩ := mnm_some hf
        refine ax_nmi ev10 ?_
        refine ax_istore_n (lv' := [(3, .int v10), (0, .ref a0), (1, .int x1), (2, .int x2), (4, .int x4), (5, .int x5), (6, .int x6)]) O d_Mo_symbol_133 rfl (by decide) rfl ?_
        obtain ⟨v11, ev11, hf⟩ := mnm_some hf
        refine ax_iinc (j := 4) (v := v11) (lv' := [(4, .int v11), (3, .int v10), (0, .ref a0), (1, .int x1), (2, .int x2), (5, .int x5), (6, .int x6)]) O d_Mo_symbol_134 rfl (by rw [ev11]; rfl) (by decide) rfl ?_
        refine ax_goto (tgt := 5) O d_Mo_symbol_137 (by decide) ?_
        refine ax_sub [2, 3, 4, 1, 0] rfl ?_
        exact hK5 _ _ _ _ _ _ hf
      · rw [if_pos q6] at hf
        refine ax_aload_n O d_Mo_symbol_116 rfl 0 rfl ?_
        refine ax_bipush (v := 7) O d_Mo_symbol_117 (by decide) ?_
        obtain ⟨fh14, ch14, hf⟩ := mis_some hf
        obtain ⟨u15, h14, mh14, hf⟩ := mcl_some hf
        refine ax_callV (As := [.int 7]) (rest := []) O cw_Mo_fail (q := (R_Mo, T_Mo, 31)) rfl rfl in_Mo_fail se_Mo_fail lk_Mo_99 ch14 (c_Mo_fail mh14) rfl ⟨rfl, rfl⟩ (by decide) (by decide) (Nat.le_of_ble_eq_true rfl) d_Mo_symbol_119 ?_
        refine ax_goto (tgt := 137) O d_Mo_symbol_122 (by decide) ?_
        refine ax_goto (tgt := 5) O d_Mo_symbol_137 (by decide) ?_
        refine ax_sub [0, 1, 2, 3, 4] rfl ?_
        exact hK5 _ _ _ _ _ _ hf
    · rw [if_neg q5] at hf
      refine ax_iload O d_Mo_symbol_26 4 rfl ?_
      refine ax_if_le (tgt := 59) O d_Mo_symbol_28 (by decide) (fun q16 => ?_) (fun q16 => ?_)
      · rw [if_pos q16] at hf
        exact cb_Mo_symbol_B59 O K5 (f_Mo_symbol_L18 K5 n0 n) _ _ hE hK5 ih n0 _ _ _ _ _ _ _ _ hf
      · rw [if_neg q16] at hf
        refine ax_aload_n O d_Mo_symbol_31 rfl 0 rfl ?_
        obtain ⟨fr29, r29, cr29, kr29, hf⟩ := mgr_some hf
        refine ax_get O fg_Mo_42 cr29 kr29 d_Mo_symbol_32 ?_
        refine ax_iload O d_Mo_symbol_35 6 rfl ?_
        obtain ⟨nv30, fv30, v30, cv30, iv30, kv30, hf⟩ := mai_some hf
        refine ax_iald O cv30 iv30 kv30 d_Mo_symbol_37 ?_
        refine ax_iload O d_Mo_symbol_38 4 rfl ?_
        refine ax_icmp_ne (tgt := 59) O d_Mo_symbol_40 (by decide) (fun q31 => ?_) (fun q31 => ?_)
        · rw [if_neg q31] at hf
          exact cb_Mo_symbol_B59 O K5 (f_Mo_symbol_L18 K5 n0 n) _ _ hE hK5 ih n0 _ _ _ _ _ _ _ _ hf
        · rw [if_pos q31] at hf
          refine ax_aload_n O d_Mo_symbol_43 rfl 0 rfl ?_
          obtain ⟨fr32, r32, cr32, kr32, hf⟩ := mgr_some hf
          refine ax_get O fg_Mo_45 cr32 kr32 d_Mo_symbol_44 ?_
          refine ax_iload O d_Mo_symbol_47 6 rfl ?_
          obtain ⟨nv33, fv33, v33, cv33, iv33, kv33, hf⟩ := mai_some hf
          refine ax_iald O cv33 iv33 kv33 d_Mo_symbol_49 ?_
          refine ax_iload_n O d_Mo_symbol_50 rfl 3 rfl ?_
          refine ax_icmp_ne (tgt := 59) O d_Mo_symbol_51 (by decide) (fun q34 => ?_) (fun q34 => ?_)
          · rw [if_neg q34] at hf
            exact cb_Mo_symbol_B59 O K5 (f_Mo_symbol_L18 K5 n0 n) _ _ hE hK5 ih n0 _ _ _ _ _ _ _ _ hf
          · rw [if_pos q34] at hf
            refine ax_iload O d_Mo_symbol_54 6 rfl ?_
            refine ax_iload_n O d_Mo_symbol_56 rfl 1 rfl ?_
            refine ax_isub O d_Mo_symbol_57 ?_
            exact ax_retE O hE hf rfl d_Mo_symbol_58
set_option maxHeartbeats 4000000 in
set_option maxRecDepth 100000 in
theorem cb_Mo_symbol_L5 {X : mX} {ad : Nat → Nat} {ln : Launch} (O : mO X ad R_Mo b_Mo_symbol 7 (mR 3 62) ln) (r' : Int32) (h' : mH) (hE : mEnd X ad (some .int) (some (.int r')) h') (n0 : Nat) : ∀ (n : Nat) (h0 : mH) (a0 : Nat) (x1 : Int32) (x2 : Int32) (x3 : Int32) (x4 : Int32), f_Mo_symbol_L5 n0 n h0 a0 x1 x2 x3 x4 = some (r', h') → mAW X ad 0 0 5 [(0, .ref a0), (1, .int x1), (2, .int x2), (3, .int x3), (4, .int x4)] [] h0 := by
  intro n
  induction n with
  | zero =>
    intro h0 a0 x1 x2 x3 x4 hf
    rw [f_Mo_symbol_L5.eq_1] at hf
    cases hf
  | succ n ih =>
    intro h0 a0 x1 x2 x3 x4 hf
    rw [f_Mo_symbol_L5.eq_2] at hf
    refine ax_aload_n O d_Mo_symbol_5 rfl 0 rfl ?_
    obtain ⟨fh3, ch3, hf⟩ := mis_some hf
    obtain ⟨v2, h3, mh3, hf⟩ := mcl_some hf
    refine ax_callV (As := []) (rest := []) O cw_Mo_isGood (q := (R_Mo, T_Mo, 31)) rfl rfl in_Mo_isGood se_Mo_isGood lk_Mo_89 ch3 (c_Mo_isGood mh3) rfl ⟨rfl, rfl⟩ (by decide) (by decide) (Nat.le_of_ble_eq_true rfl) d_Mo_symbol_6 ?_
    refine ax_if_eq (tgt := 140) O d_Mo_symbol_9 (by decide) (fun q4 => ?_) (fun q4 => ?_)
    · rw [if_pos q4] at hf
      refine ax_iconst (v := (-1)) O d_Mo_symbol_140 (by decide) ?_
      exact ax_retE O hE hf rfl d_Mo_symbol_141
    · rw [if_neg q4] at hf
      refine ax_iconst (v := 0) O d_Mo_symbol_12 (by decide) ?_
      refine ax_istore (lv' := [(5, .int 0), (0, .ref a0), (1, .int x1), (2, .int x2), (3, .int x3), (4, .int x4)]) O d_Mo_symbol_13 (by decide) rfl ?_
      refine ax_iload_n O d_Mo_symbol_15 rfl 2 rfl ?_
      refine ax_istore (lv' := [(6, .int x1), (5, .int 0), (0, .ref a0), (1, .int x1), (2, .int x2), (3, .int x3), (4, .int x4)]) O d_Mo_symbol_16 (by decide) rfl ?_
      refine ax_sub [2, 3, 4, 5, 6, 1, 0] rfl ?_
      exact cb_Mo_symbol_L18 O (f_Mo_symbol_L5 n0 n) _ _ hE ih n0 n0 _ _ _ _ _ _ _ _ hf
set_option maxHeartbeats 4000000 in
set_option maxRecDepth 100000 in
theorem cb_Mo_symbol {X : mX} {ad : Nat → Nat} {ln : Launch} (O : mO X ad R_Mo b_Mo_symbol 7 (mR 3 62) ln) (r' : Int32) (h' : mH) (hE : mEnd X ad (some .int) (some (.int r')) h') (n0 : Nat) (h0 : mH) (a0 : Nat) (x1 : Int32) (x2 : Int32) (hf : f_Mo_symbol n0 h0 a0 x1 x2 = some (r', h')) : mAW X ad 0 0 0 [(0, .ref a0), (1, .int x1), (2, .int x2)] [] h0 := by
  unfold f_Mo_symbol at hf
  refine ax_iconst (v := 0) O d_Mo_symbol_0 (by decide) ?_
  refine ax_istore_n (lv' := [(3, .int 0), (0, .ref a0), (1, .int x1), (2, .int x2)]) O d_Mo_symbol_1 rfl (by decide) rfl ?_
  refine ax_iconst (v := 0) O d_Mo_symbol_2 (by decide) ?_
  refine ax_istore (lv' := [(4, .int 0), (3, .int 0), (0, .ref a0), (1, .int x1), (2, .int x2)]) O d_Mo_symbol_3 (by decide) rfl ?_
  refine ax_sub [2, 3, 4, 1, 0] rfl ?_
  exact cb_Mo_symbol_L5 O _ _ hE n0 n0 _ _ _ _ _ _ hf
theorem c_Mo_symbol {ln : Launch} {n0 : Nat} {h0 h' : mH} {a0 : Nat} {x1 : Int32} {x2 : Int32} {r' : Int32} (hf : f_Mo_symbol n0 h0 a0 x1 x2 = some (r', h')) : mMet ln y_Mo_symbol b_Mo_symbol 7 (some .int) (mR 3 62) [.ref a0, .int x1, .int x2] h0 (some (.int r')) h' := mMet_of (by decide +kernel) (Nat.le_of_ble_eq_true rfl) (fun X ad O hE => cb_Mo_symbol O r' h' hE n0 h0 a0 x1 x2 hf)
/-! ===== StreamFiltersModel.fixCodes()V ===== -/
theorem d_Mo_fixCodes_0 : decode b_Mo_fixCodes 0 = .ok (.iconst 0, 1) := by decide +kernel
theorem d_Mo_fixCodes_1 : decode b_Mo_fixCodes 1 = .ok (.istore_n 1, 1) := by decide +kernel
theorem d_Mo_fixCodes_2 : decode b_Mo_fixCodes 2 = .ok (.iload_n 1, 1) := by decide +kernel
theorem d_Mo_fixCodes_3 : decode b_Mo_fixCodes 3 = .ok (.sipush 288, 3) := by decide +kernel
theorem d_Mo_fixCodes_6 : decode b_Mo_fixCodes 6 = .ok (.if_icmp .ge 53, 3) := by decide +kernel
theorem d_Mo_fixCodes_9 : decode b_Mo_fixCodes 9 = .ok (.aload_n 0, 1) := by decide +kernel
theorem d_Mo_fixCodes_10 : decode b_Mo_fixCodes 10 = .ok (.getfield 42, 3) := by decide +kernel
theorem d_Mo_fixCodes_13 : decode b_Mo_fixCodes 13 = .ok (.iload_n 1, 1) := by decide +kernel
theorem d_Mo_fixCodes_14 : decode b_Mo_fixCodes 14 = .ok (.iload_n 1, 1) := by decide +kernel
theorem d_Mo_fixCodes_15 : decode b_Mo_fixCodes 15 = .ok (.sipush 144, 3) := by decide +kernel
theorem d_Mo_fixCodes_18 : decode b_Mo_fixCodes 18 = .ok (.if_icmp .ge 8, 3) := by decide +kernel
theorem d_Mo_fixCodes_21 : decode b_Mo_fixCodes 21 = .ok (.bipush 8, 2) := by decide +kernel
theorem d_Mo_fixCodes_23 : decode b_Mo_fixCodes 23 = .ok (.goto 29, 3) := by decide +kernel
theorem d_Mo_fixCodes_26 : decode b_Mo_fixCodes 26 = .ok (.iload_n 1, 1) := by decide +kernel
theorem d_Mo_fixCodes_27 : decode b_Mo_fixCodes 27 = .ok (.sipush 256, 3) := by decide +kernel
theorem d_Mo_fixCodes_30 : decode b_Mo_fixCodes 30 = .ok (.if_icmp .ge 8, 3) := by decide +kernel
theorem d_Mo_fixCodes_33 : decode b_Mo_fixCodes 33 = .ok (.bipush 9, 2) := by decide +kernel
theorem d_Mo_fixCodes_35 : decode b_Mo_fixCodes 35 = .ok (.goto 17, 3) := by decide +kernel
theorem d_Mo_fixCodes_38 : decode b_Mo_fixCodes 38 = .ok (.iload_n 1, 1) := by decide +kernel
theorem d_Mo_fixCodes_39 : decode b_Mo_fixCodes 39 = .ok (.sipush 280, 3) := by decide +kernel
theorem d_Mo_fixCodes_42 : decode b_Mo_fixCodes 42 = .ok (.if_icmp .ge 8, 3) := by decide +kernel
theorem d_Mo_fixCodes_45 : decode b_Mo_fixCodes 45 = .ok (.bipush 7, 2) := by decide +kernel
theorem d_Mo_fixCodes_47 : decode b_Mo_fixCodes 47 = .ok (.goto 5, 3) := by decide +kernel
theorem d_Mo_fixCodes_50 : decode b_Mo_fixCodes 50 = .ok (.bipush 8, 2) := by decide +kernel
theorem d_Mo_fixCodes_52 : decode b_Mo_fixCodes 52 = .ok (.iastore, 1) := by decide +kernel
theorem d_Mo_fixCodes_53 : decode b_Mo_fixCodes 53 = .ok (.iinc 1 1, 3) := by decide +kernel
theorem d_Mo_fixCodes_56 : decode b_Mo_fixCodes 56 = .ok (.goto (-54), 3) := by decide +kernel
theorem d_Mo_fixCodes_59 : decode b_Mo_fixCodes 59 = .ok (.sipush 288, 3) := by decide +kernel
theorem d_Mo_fixCodes_62 : decode b_Mo_fixCodes 62 = .ok (.istore_n 1, 1) := by decide +kernel
theorem d_Mo_fixCodes_63 : decode b_Mo_fixCodes 63 = .ok (.iload_n 1, 1) := by decide +kernel
theorem d_Mo_fixCodes_64 : decode b_Mo_fixCodes 64 = .ok (.sipush 320, 3) := by decide +kernel
theorem d_Mo_fixCodes_67 : decode b_Mo_fixCodes 67 = .ok (.if_icmp .ge 16, 3) := by decide +kernel
theorem d_Mo_fixCodes_70 : decode b_Mo_fixCodes 70 = .ok (.aload_n 0, 1) := by decide +kernel
theorem d_Mo_fixCodes_71 : decode b_Mo_fixCodes 71 = .ok (.getfield 42, 3) := by decide +kernel
theorem d_Mo_fixCodes_74 : decode b_Mo_fixCodes 74 = .ok (.iload_n 1, 1) := by decide +kernel
theorem d_Mo_fixCodes_75 : decode b_Mo_fixCodes 75 = .ok (.iconst 5, 1) := by decide +kernel
theorem d_Mo_fixCodes_76 : decode b_Mo_fixCodes 76 = .ok (.iastore, 1) := by decide +kernel
theorem d_Mo_fixCodes_77 : decode b_Mo_fixCodes 77 = .ok (.iinc 1 1, 3) := by decide +kernel
theorem d_Mo_fixCodes_80 : decode b_Mo_fixCodes 80 = .ok (.goto (-17), 3) := by decide +kernel
theorem d_Mo_fixCodes_83 : decode b_Mo_fixCodes 83 = .ok (.aload_n 0, 1) := by decide +kernel
theorem d_Mo_fixCodes_84 : decode b_Mo_fixCodes 84 = .ok (.iconst 0, 1) := by decide +kernel
theorem d_Mo_fixCodes_85 : decode b_Mo_fixCodes 85 = .ok (.sipush 288, 3) := by decide +kernel
theorem d_Mo_fixCodes_88 : decode b_Mo_fixCodes 88 = .ok (.invokevirtual 123, 3) := by decide +kernel
theorem d_Mo_fixCodes_91 : decode b_Mo_fixCodes 91 = .ok (.aload_n 0, 1) := by decide +kernel
theorem d_Mo_fixCodes_92 : decode b_Mo_fixCodes 92 = .ok (.sipush 288, 3) := by decide +kernel
theorem d_Mo_fixCodes_95 : decode b_Mo_fixCodes 95 = .ok (.bipush 32, 2) := by decide +kernel
theorem d_Mo_fixCodes_97 : decode b_Mo_fixCodes 97 = .ok (.invokevirtual 123, 3) := by decide +kernel
theorem d_Mo_fixCodes_100 : decode b_Mo_fixCodes 100 = .ok (.return_, 1) := by decide +kernel
noncomputable def f_Mo_fixCodes_L63  (n0 : Nat) : Nat → mH → Nat → Int32 → Option (Unit × mH)
  | 0, _, _, _ => none
  | n + 1, h0, a0, x1 =>
    if 320 ≤ x1 then
      mis h0 a0 10 <|
      mcl (f_Mo_makeCodes n0 h0 a0 0 288) fun _ h5 =>
      mis h5 a0 10 <|
      mcl (f_Mo_makeCodes n0 h5 a0 288 32) fun _ h9 =>
      some ((), h9)
    else
      mgr h0 a0 10 20 fun r11 =>
      mas h0 r11 .int x1 5 fun h12 =>
      mnm (x1 + 1) fun v13 =>
      (f_Mo_fixCodes_L63 n0 n) h12 a0 v13
noncomputable def f_Mo_fixCodes_L2  (n0 : Nat) : Nat → mH → Nat → Int32 → Option (Unit × mH)
  | 0, _, _, _ => none
  | n + 1, h0, a0, x1 =>
    if 288 ≤ x1 then
      f_Mo_fixCodes_L63 n0 n0 h0 a0 288
    else
      mgr h0 a0 10 20 fun r14 =>
      if 144 ≤ x1 then
        if 256 ≤ x1 then
          if 280 ≤ x1 then
            mas h0 r14 .int x1 8 fun h18 =>
            mnm (x1 + 1) fun v19 =>
            (f_Mo_fixCodes_L2 n0 n) h18 a0 v19
          else
            mas h0 r14 .int x1 7 fun h20 =>
            mnm (x1 + 1) fun v21 =>
            (f_Mo_fixCodes_L2 n0 n) h20 a0 v21
        else
          mas h0 r14 .int x1 9 fun h22 =>
          mnm (x1 + 1) fun v23 =>
          (f_Mo_fixCodes_L2 n0 n) h22 a0 v23
      else
        mas h0 r14 .int x1 8 fun h24 =>
        mnm (x1 + 1) fun v25 =>
        (f_Mo_fixCodes_L2 n0 n) h24 a0 v25
noncomputable def f_Mo_fixCodes  (n0 : Nat) (h0 : mH) (a0 : Nat) : Option (Unit × mH) :=
  f_Mo_fixCodes_L2 n0 n0 h0 a0 0
set_option maxHeartbeats 4000000 in
set_option maxRecDepth 100000 in
theorem cb_Mo_fixCodes_L63 {X : mX} {ad : Nat → Nat} {ln : Launch} (O : mO X ad R_Mo b_Mo_fixCodes 2 (mR 1 25) ln) (r' : Unit) (h' : mH) (hE : mEnd X ad none none h') (n0 : Nat) : ∀ (n : Nat) (h0 : mH) (a0 : Nat) (x1 : Int32), f_Mo_fixCodes_L63 n0 n h0 a0 x1 = some (r', h') → mAW X ad 0 0 63 [(0, .ref a0), (1, .int x1)] [] h0 := by
  intro n
  induction n with
  | zero =>
    intro h0 a0 x1 hf
    rw [f_Mo_fixCodes_L63.eq_1] at hf
    cases hf
  | succ n ih =>
    intro h0 a0 x1 hf
    rw [f_Mo_fixCodes_L63.eq_2] at hf
    refine ax_iload_n O d_Mo_fixCodes_63 rfl 1 rfl ?_
    refine ax_sipush (v := 320) O d_Mo_fixCodes_64 (by decide) ?_
    refine ax_icmp_ge (tgt := 83) O d_Mo_fixCodes_67 (by decide) (fun q2 => ?_) (fun q2 => ?_)
    · rw [if_pos q2] at hf
      refine ax_aload_n O d_Mo_fixCodes_83 rfl 0 rfl ?_
      refine ax_iconst (v := 0) O d_Mo_fixCodes_84 (by decide) ?_
      refine ax_sipush (v := 288) O d_Mo_fixCodes_85 (by decide) ?_
      obtain ⟨fh5, ch5, hf⟩ := mis_some hf
      obtain ⟨u6, h5, mh5, hf⟩ := mcl_some hf
      refine ax_callV (As := [.int 0, .int 288]) (rest := []) O cw_Mo_makeCodes (q := (R_Mo, T_Mo, 31)) rfl rfl in_Mo_makeCodes se_Mo_makeCodes lk_Mo_123 ch5 (c_Mo_makeCodes mh5) rfl ⟨rfl, rfl⟩ (by decide) (by decide) (Nat.le_of_ble_eq_true rfl) d_Mo_fixCodes_88 ?_
      refine ax_aload_n O d_Mo_fixCodes_91 rfl 0 rfl ?_
      refine ax_sipush (v := 288) O d_Mo_fixCodes_92 (by decide) ?_
      refine ax_bipush (v := 32) O d_Mo_fixCodes_95 (by decide) ?_
      obtain ⟨fh9, ch9, hf⟩ := mis_some hf
      obtain ⟨u10, h9, mh9, hf⟩ := mcl_some hf
      refine ax_callV (As := [.int 288, .int 32]) (rest := []) O cw_Mo_makeCodes (q := (R_Mo, T_Mo, 31)) rfl rfl in_Mo_makeCodes se_Mo_makeCodes lk_Mo_123 ch9 (c_Mo_makeCodes mh9) rfl ⟨rfl, rfl⟩ (by decide) (by decide) (Nat.le_of_ble_eq_true rfl) d_Mo_fixCodes_97 ?_
      exact ax_vretE O hE hf d_Mo_fixCodes_100
    · rw [if_neg q2] at hf
      refine ax_aload_n O d_Mo_fixCodes_70 rfl 0 rfl ?_
      obtain ⟨fr11, r11, cr11, kr11, hf⟩ := mgr_some hf
      refine ax_get O fg_Mo_42 cr11 kr11 d_Mo_fixCodes_71 ?_
      refine ax_iload_n O d_Mo_fixCodes_74 rfl 1 rfl ?_
      refine ax_iconst (v := 5) O d_Mo_fixCodes_75 (by decide) ?_
      obtain ⟨nh12, fh12, h12, ch12, ih12, eh12, hf⟩ := mas_some hf
      refine ax_iast O ch12 ih12 eh12 d_Mo_fixCodes_76 ?_
      obtain ⟨v13, ev13, hf⟩ := mnm_some hf
      refine ax_iinc (j := 1) (v := v13) (lv' := [(1, .int v13), (0, .ref a0)]) O d_Mo_fixCodes_77 rfl (by rw [ev13]; rfl) (by decide) rfl ?_
      refine ax_goto (tgt := 63) O d_Mo_fixCodes_80 (by decide) ?_
      refine ax_sub [1, 0] rfl ?_
      exact ih _ _ _ hf
set_option maxHeartbeats 4000000 in
set_option maxRecDepth 100000 in
theorem cb_Mo_fixCodes_L2 {X : mX} {ad : Nat → Nat} {ln : Launch} (O : mO X ad R_Mo b_Mo_fixCodes 2 (mR 1 25) ln) (r' : Unit) (h' : mH) (hE : mEnd X ad none none h') (n0 : Nat) : ∀ (n : Nat) (h0 : mH) (a0 : Nat) (x1 : Int32), f_Mo_fixCodes_L2 n0 n h0 a0 x1 = some (r', h') → mAW X ad 0 0 2 [(0, .ref a0), (1, .int x1)] [] h0 := by
  intro n
  induction n with
  | zero =>
    intro h0 a0 x1 hf
    rw [f_Mo_fixCodes_L2.eq_1] at hf
    cases hf
  | succ n ih =>
    intro h0 a0 x1 hf
    rw [f_Mo_fixCodes_L2.eq_2] at hf
    refine ax_iload_n O d_Mo_fixCodes_2 rfl 1 rfl ?_
    refine ax_sipush (v := 288) O d_Mo_fixCodes_3 (by decide) ?_
    refine ax_icmp_ge (tgt := 59) O d_Mo_fixCodes_6 (by decide) (fun q1 => ?_) (fun q1 => ?_)
    · rw [if_pos q1] at hf
      refine ax_sipush (v := 288) O d_Mo_fixCodes_59 (by decide) ?_
      refine ax_istore_n (lv' := [(1, .int 288), (0, .ref a0)]) O d_Mo_fixCodes_62 rfl (by decide) rfl ?_
      refine ax_sub [1, 0] rfl ?_
      exact cb_Mo_fixCodes_L63 O _ _ hE n0 n0 _ _ _ hf
    · rw [if_neg q1] at hf
      refine ax_aload_n O d_Mo_fixCodes_9 rfl 0 rfl ?_
      obtain ⟨fr14, r14, cr14, kr14, hf⟩ := mgr_some hf
      refine ax_get O fg_Mo_42 cr14 kr14 d_Mo_fixCodes_10 ?_
      refine ax_iload_n O d_Mo_fixCodes_13 rfl 1 rfl ?_
      refine ax_iload_n O d_Mo_fixCodes_14 rfl 1 rfl ?_
      refine ax_sipush (v := 144) O d_Mo_fixCodes_15 (by decide) ?_
      refine ax_icmp_ge (tgt := 26) O d_Mo_fixCodes_18 (by decide) (fun q15 => ?_) (fun q15 => ?_)
      · rw [if_pos q15] at hf
        refine ax_iload_n O d_Mo_fixCodes_26 rfl 1 rfl ?_
        refine ax_sipush (v := 256) O d_Mo_fixCodes_27 (by decide) ?_
        refine ax_icmp_ge (tgt := 38) O d_Mo_fixCodes_30 (by decide) (fun q16 => ?_) (fun q16 => ?_)
        · rw [if_pos q16] at hf
          refine ax_iload_n O d_Mo_fixCodes_38 rfl 1 rfl ?_
          refine ax_sipush (v := 280) O d_Mo_fixCodes_39 (by decide) ?_
          refine ax_icmp_ge (tgt := 50) O d_Mo_fixCodes_42 (by decide) (fun q17 => ?_) (fun q17 => ?_)
          · rw [if_pos q17] at hf
            refine ax_bipush (v := 8) O d_Mo_fixCodes_50 (by decide) ?_
            obtain ⟨nh18, fh18, h18, ch18, ih18, eh18, hf⟩ := mas_some hf
            refine ax_iast O ch18 ih18 eh18 d_Mo_fixCodes_52 ?_
            obtain ⟨v19, ev19, hf⟩ := mnm_some hf
            refine ax_iinc (j := 1) (v := v19) (lv' := [(1, .int v19), (0, .ref a0)]) O d_Mo_fixCodes_53 rfl (by rw [ev19]; rfl) (by decide) rfl ?_
            refine ax_goto (tgt := 2) O d_Mo_fixCodes_56 (by decide) ?_
            refine ax_sub [1, 0] rfl ?_
            exact ih _ _ _ hf
          · rw [if_neg q17] at hf
            refine ax_bipush (v := 7) O d_Mo_fixCodes_45 (by decide) ?_
            refine ax_goto (tgt := 52) O d_Mo_fixCodes_47 (by decide) ?_
            obtain ⟨nh20, fh20, h20, ch20, ih20, eh20, hf⟩ := mas_some hf
            refine ax_iast O ch20 ih20 eh20 d_Mo_fixCodes_52 ?_
            obtain ⟨v21, ev21, hf⟩ := mnm_some hf
            refine ax_iinc (j := 1) (v := v21) (lv' := [(1, .int v21), (0, .ref a0)]) O d_Mo_fixCodes_53 rfl (by rw [ev21]; rfl) (by decide) rfl ?_
            refine ax_goto (tgt := 2) O d_Mo_fixCodes_56 (by decide) ?_
            refine ax_sub [1, 0] rfl ?_
            exact ih _ _ _ hf
        · rw [if_neg q16] at hf
          refine ax_bipush (v := 9) O d_Mo_fixCodes_33 (by decide) ?_
          refine ax_goto (tgt := 52) O d_Mo_fixCodes_35 (by decide) ?_
          obtain ⟨nh22, fh22, h22, ch22, ih22, eh22, hf⟩ := mas_some hf
          refine ax_iast O ch22 ih22 eh22 d_Mo_fixCodes_52 ?_
          obtain ⟨v23, ev23, hf⟩ := mnm_some hf
          refine ax_iinc (j := 1) (v := v23) (lv' := [(1, .int v23), (0, .ref a0)]) O d_Mo_fixCodes_53 rfl (by rw [ev23]; rfl) (by decide) rfl ?_
          refine ax_goto (tgt := 2) O d_Mo_fixCodes_56 (by decide) ?_
          refine ax_sub [1, 0] rfl ?_
          exact ih _ _ _ hf
      · rw [if_neg q15] at hf
        refine ax_bipush (v := 8) O d_Mo_fixCodes_21 (by decide) ?_
        refine ax_goto (tgt := 52) O d_Mo_fixCodes_23 (by decide) ?_
        obtain ⟨nh24, fh24, h24, ch24, ih24, eh24, hf⟩ := mas_some hf
        refine ax_iast O ch24 ih24 eh24 d_Mo_fixCodes_52 ?_
        obtain ⟨v25, ev25, hf⟩ := mnm_some hf
        refine ax_iinc (j := 1) (v := v25) (lv' := [(1, .int v25), (0, .ref a0)]) O d_Mo_fixCodes_53 rfl (by rw [ev25]; rfl) (by decide) rfl ?_
        refine ax_goto (tgt := 2) O d_Mo_fixCodes_56 (by decide) ?_
        refine ax_sub [1, 0] rfl ?_
        exact ih _ _ _ hf
set_option maxHeartbeats 4000000 in
set_option maxRecDepth 100000 in
theorem cb_Mo_fixCodes {X : mX} {ad : Nat → Nat} {ln : Launch} (O : mO X ad R_Mo b_Mo_fixCodes 2 (mR 1 25) ln) (r' : Unit) (h' : mH) (hE : mEnd X ad none none h') (n0 : Nat) (h0 : mH) (a0 : Nat) (hf : f_Mo_fixCodes n0 h0 a0 = some (r', h')) : mAW X ad 0 0 0 [(0, .ref a0)] [] h0 := by
  unfold f_Mo_fixCodes at hf
  refine ax_iconst (v := 0) O d_Mo_fixCodes_0 (by decide) ?_
  refine ax_istore_n (lv' := [(1, .int 0), (0, .ref a0)]) O d_Mo_fixCodes_1 rfl (by decide) rfl ?_
  refine ax_sub [1, 0] rfl ?_
  exact cb_Mo_fixCodes_L2 O _ _ hE n0 n0 _ _ _ hf
theorem c_Mo_fixCodes {ln : Launch} {n0 : Nat} {h0 h' : mH} {a0 : Nat} {r' : Unit} (hf : f_Mo_fixCodes n0 h0 a0 = some (r', h')) : mMet ln y_Mo_fixCodes b_Mo_fixCodes 2 none (mR 1 25) [.ref a0] h0 none h' := mMet_of (by decide +kernel) (Nat.le_of_ble_eq_true rfl) (fun X ad O hE => cb_Mo_fixCodes O r' h' hE n0 h0 a0 hf)
/-! ===== StreamFiltersModel.orderOf(I)I ===== -/
theorem d_Mo_orderOf_0 : decode b_Mo_orderOf 0 = .ok (.iload_n 0, 1) := by decide +kernel
theorem d_Mo_orderOf_1 : decode b_Mo_orderOf 1 = .ok (.tableswitch 42 0 3 #[31, 34, 37, 40], 31) := by decide +kernel
theorem d_Mo_orderOf_32 : decode b_Mo_orderOf 32 = .ok (.bipush 16, 2) := by decide +kernel
theorem d_Mo_orderOf_34 : decode b_Mo_orderOf 34 = .ok (.ireturn, 1) := by decide +kernel
theorem d_Mo_orderOf_35 : decode b_Mo_orderOf 35 = .ok (.bipush 17, 2) := by decide +kernel
theorem d_Mo_orderOf_37 : decode b_Mo_orderOf 37 = .ok (.ireturn, 1) := by decide +kernel
theorem d_Mo_orderOf_38 : decode b_Mo_orderOf 38 = .ok (.bipush 18, 2) := by decide +kernel
theorem d_Mo_orderOf_40 : decode b_Mo_orderOf 40 = .ok (.ireturn, 1) := by decide +kernel
theorem d_Mo_orderOf_41 : decode b_Mo_orderOf 41 = .ok (.iconst 0, 1) := by decide +kernel
theorem d_Mo_orderOf_42 : decode b_Mo_orderOf 42 = .ok (.ireturn, 1) := by decide +kernel
theorem d_Mo_orderOf_43 : decode b_Mo_orderOf 43 = .ok (.iload_n 0, 1) := by decide +kernel
theorem d_Mo_orderOf_44 : decode b_Mo_orderOf 44 = .ok (.iconst 2, 1) := by decide +kernel
theorem d_Mo_orderOf_45 : decode b_Mo_orderOf 45 = .ok (.irem, 1) := by decide +kernel
theorem d_Mo_orderOf_46 : decode b_Mo_orderOf 46 = .ok (.ifCond .ne 14, 3) := by decide +kernel
theorem d_Mo_orderOf_49 : decode b_Mo_orderOf 49 = .ok (.bipush 8, 2) := by decide +kernel
theorem d_Mo_orderOf_51 : decode b_Mo_orderOf 51 = .ok (.iload_n 0, 1) := by decide +kernel
theorem d_Mo_orderOf_52 : decode b_Mo_orderOf 52 = .ok (.iconst 4, 1) := by decide +kernel
theorem d_Mo_orderOf_53 : decode b_Mo_orderOf 53 = .ok (.isub, 1) := by decide +kernel
theorem d_Mo_orderOf_54 : decode b_Mo_orderOf 54 = .ok (.iconst 2, 1) := by decide +kernel
theorem d_Mo_orderOf_55 : decode b_Mo_orderOf 55 = .ok (.idiv, 1) := by decide +kernel
theorem d_Mo_orderOf_56 : decode b_Mo_orderOf 56 = .ok (.iadd, 1) := by decide +kernel
theorem d_Mo_orderOf_57 : decode b_Mo_orderOf 57 = .ok (.goto 11, 3) := by decide +kernel
theorem d_Mo_orderOf_60 : decode b_Mo_orderOf 60 = .ok (.bipush 7, 2) := by decide +kernel
theorem d_Mo_orderOf_62 : decode b_Mo_orderOf 62 = .ok (.iload_n 0, 1) := by decide +kernel
theorem d_Mo_orderOf_63 : decode b_Mo_orderOf 63 = .ok (.iconst 5, 1) := by decide +kernel
theorem d_Mo_orderOf_64 : decode b_Mo_orderOf 64 = .ok (.isub, 1) := by decide +kernel
theorem d_Mo_orderOf_65 : decode b_Mo_orderOf 65 = .ok (.iconst 2, 1) := by decide +kernel
theorem d_Mo_orderOf_66 : decode b_Mo_orderOf 66 = .ok (.idiv, 1) := by decide +kernel
theorem d_Mo_orderOf_67 : decode b_Mo_orderOf 67 = .ok (.isub, 1) := by decide +kernel
theorem d_Mo_orderOf_68 : decode b_Mo_orderOf 68 = .ok (.ireturn, 1) := by decide +kernel
noncomputable def f_Mo_orderOf  (n0 : Nat) (h0 : mH) (x0 : Int32) : Option (Int32 × mH) :=
  if x0 = 0 then
    some (16, h0)
  else
    if x0 = 1 then
      some (17, h0)
    else
      if x0 = 2 then
        some (18, h0)
      else
        if x0 = 3 then
          some (0, h0)
        else
          if (x0 - x0 / 2 * 2) = 0 then
            some (8 + ((x0 - 4) / 2), h0)
          else
            some (7 - ((x0 - 5) / 2), h0)
set_option maxHeartbeats 4000000 in
set_option maxRecDepth 100000 in
theorem cb_Mo_orderOf {X : mX} {ad : Nat → Nat} {ln : Launch} (O : mO X ad R_Mo b_Mo_orderOf 1 (mR 0 0) ln) (r' : Int32) (h' : mH) (hE : mEnd X ad (some .int) (some (.int r')) h') (n0 : Nat) (h0 : mH) (x0 : Int32) (hf : f_Mo_orderOf n0 h0 x0 = some (r', h')) : mAW X ad 0 0 0 [(0, .int x0)] [] h0 := by
  unfold f_Mo_orderOf at hf
  refine ax_iload_n O d_Mo_orderOf_0 rfl 0 rfl ?_
  by_cases q1 : x0 = 0
  · rw [if_pos q1] at hf
    refine ax_tableIn (tgt := 32) O d_Mo_orderOf_1 (by rw [q1]; decide) (by rw [q1]; decide) (by rw [q1]; rfl) (by decide) ?_
    refine ax_bipush (v := 16) O d_Mo_orderOf_32 (by decide) ?_
    exact ax_retE O hE hf rfl d_Mo_orderOf_34
  · rw [if_neg q1] at hf
    by_cases q2 : x0 = 1
    · rw [if_pos q2] at hf
      refine ax_tableIn (tgt := 35) O d_Mo_orderOf_1 (by rw [q2]; decide) (by rw [q2]; decide) (by rw [q2]; rfl) (by decide) ?_
      refine ax_bipush (v := 17) O d_Mo_orderOf_35 (by decide) ?_
      exact ax_retE O hE hf rfl d_Mo_orderOf_37
    · rw [if_neg q2] at hf
      by_cases q3 : x0 = 2
      · rw [if_pos q3] at hf
        refine ax_tableIn (tgt := 38) O d_Mo_orderOf_1 (by rw [q3]; decide) (by rw [q3]; decide) (by rw [q3]; rfl) (by decide) ?_
        refine ax_bipush (v := 18) O d_Mo_orderOf_38 (by decide) ?_
        exact ax_retE O hE hf rfl d_Mo_orderOf_40
      · rw [if_neg q3] at hf
        by_cases q4 : x0 = 3
        · rw [if_pos q4] at hf
          refine ax_tableIn (tgt := 41) O d_Mo_orderOf_1 (by rw [q4]; decide) (by rw [q4]; decide) (by rw [q4]; rfl) (by decide) ?_
          refine ax_iconst (v := 0) O d_Mo_orderOf_41 (by decide) ?_
          exact ax_retE O hE hf rfl d_Mo_orderOf_42
        · rw [if_neg q4] at hf
          refine ax_tableOut (tgt := 43) O d_Mo_orderOf_1 (mTi (fun z h1 h2 => by rcases (show z = 0 ∨ z = 1 ∨ z = 2 ∨ z = 3 by omega) with rfl | rfl | rfl | rfl; exact lv_neT q1 (by decide); exact lv_neT q2 (by decide); exact lv_neT q3 (by decide); exact lv_neT q4 (by decide))) (by decide) ?_
          refine ax_iload_n O d_Mo_orderOf_43 rfl 0 rfl ?_
          refine ax_iconst (v := 2) O d_Mo_orderOf_44 (by decide) ?_
          refine ax_irem O d_Mo_orderOf_45 (by decide) ?_
          refine ax_if_ne (tgt := 60) O d_Mo_orderOf_46 (by decide) (fun q5 => ?_) (fun q5 => ?_)
          · rw [if_neg q5] at hf
            refine ax_bipush (v := 7) O d_Mo_orderOf_60 (by decide) ?_
            refine ax_iload_n O d_Mo_orderOf_62 rfl 0 rfl ?_
            refine ax_iconst (v := 5) O d_Mo_orderOf_63 (by decide) ?_
            refine ax_isub O d_Mo_orderOf_64 ?_
            refine ax_iconst (v := 2) O d_Mo_orderOf_65 (by decide) ?_
            refine ax_idiv O d_Mo_orderOf_66 (by decide) ?_
            refine ax_isub O d_Mo_orderOf_67 ?_
            exact ax_retE O hE hf rfl d_Mo_orderOf_68
          · rw [if_pos q5] at hf
            refine ax_bipush (v := 8) O d_Mo_orderOf_49 (by decide) ?_
            refine ax_iload_n O d_Mo_orderOf_51 rfl 0 rfl ?_
            refine ax_iconst (v := 4) O d_Mo_orderOf_52 (by decide) ?_
            refine ax_isub O d_Mo_orderOf_53 ?_
            refine ax_iconst (v := 2) O d_Mo_orderOf_54 (by decide) ?_
            refine ax_idiv O d_Mo_orderOf_55 (by decide) ?_
            refine ax_iadd O d_Mo_orderOf_56 ?_
            refine ax_goto (tgt := 68) O d_Mo_orderOf_57 (by decide) ?_
            exact ax_retE O hE hf rfl d_Mo_orderOf_68
theorem c_Mo_orderOf {ln : Launch} {n0 : Nat} {h0 h' : mH} {x0 : Int32} {r' : Int32} (hf : f_Mo_orderOf n0 h0 x0 = some (r', h')) : mMet ln y_Mo_orderOf b_Mo_orderOf 1 (some .int) (mR 0 0) [.int x0] h0 (some (.int r')) h' := mMet_of (by decide +kernel) (Nat.le_of_ble_eq_true rfl) (fun X ad O hE => cb_Mo_orderOf O r' h' hE n0 h0 x0 hf)
/-! ===== StreamFiltersModel.readLengths(II)V ===== -/
theorem d_Mo_readLengths_0 : decode b_Mo_readLengths 0 = .ok (.iload_n 1, 1) := by decide +kernel
theorem d_Mo_readLengths_1 : decode b_Mo_readLengths 1 = .ok (.iload_n 2, 1) := by decide +kernel
theorem d_Mo_readLengths_2 : decode b_Mo_readLengths 2 = .ok (.iadd, 1) := by decide +kernel
theorem d_Mo_readLengths_3 : decode b_Mo_readLengths 3 = .ok (.istore_n 3, 1) := by decide +kernel
theorem d_Mo_readLengths_4 : decode b_Mo_readLengths 4 = .ok (.iconst 0, 1) := by decide +kernel
theorem d_Mo_readLengths_5 : decode b_Mo_readLengths 5 = .ok (.istore 4, 2) := by decide +kernel
theorem d_Mo_readLengths_7 : decode b_Mo_readLengths 7 = .ok (.iconst (-1), 1) := by decide +kernel
theorem d_Mo_readLengths_8 : decode b_Mo_readLengths 8 = .ok (.istore 5, 2) := by decide +kernel
theorem d_Mo_readLengths_10 : decode b_Mo_readLengths 10 = .ok (.iload 4, 2) := by decide +kernel
theorem d_Mo_readLengths_12 : decode b_Mo_readLengths 12 = .ok (.iload_n 3, 1) := by decide +kernel
theorem d_Mo_readLengths_13 : decode b_Mo_readLengths 13 = .ok (.if_icmp .ge 208, 3) := by decide +kernel
theorem d_Mo_readLengths_16 : decode b_Mo_readLengths 16 = .ok (.aload_n 0, 1) := by decide +kernel
theorem d_Mo_readLengths_17 : decode b_Mo_readLengths 17 = .ok (.invokevirtual 89, 3) := by decide +kernel
theorem d_Mo_readLengths_20 : decode b_Mo_readLengths 20 = .ok (.ifCond .eq 201, 3) := by decide +kernel
theorem d_Mo_readLengths_23 : decode b_Mo_readLengths 23 = .ok (.aload_n 0, 1) := by decide +kernel
theorem d_Mo_readLengths_24 : decode b_Mo_readLengths 24 = .ok (.sipush 320, 3) := by decide +kernel
theorem d_Mo_readLengths_27 : decode b_Mo_readLengths 27 = .ok (.bipush 19, 2) := by decide +kernel
theorem d_Mo_readLengths_29 : decode b_Mo_readLengths 29 = .ok (.invokevirtual 141, 3) := by decide +kernel
theorem d_Mo_readLengths_32 : decode b_Mo_readLengths 32 = .ok (.istore 6, 2) := by decide +kernel
theorem d_Mo_readLengths_34 : decode b_Mo_readLengths 34 = .ok (.aload_n 0, 1) := by decide +kernel
theorem d_Mo_readLengths_35 : decode b_Mo_readLengths 35 = .ok (.invokevirtual 89, 3) := by decide +kernel
theorem d_Mo_readLengths_38 : decode b_Mo_readLengths 38 = .ok (.ifCond .ne 7, 3) := by decide +kernel
theorem d_Mo_readLengths_41 : decode b_Mo_readLengths 41 = .ok (.iconst 0, 1) := by decide +kernel
theorem d_Mo_readLengths_42 : decode b_Mo_readLengths 42 = .ok (.goto 57, 3) := by decide +kernel
theorem d_Mo_readLengths_45 : decode b_Mo_readLengths 45 = .ok (.iload 6, 2) := by decide +kernel
theorem d_Mo_readLengths_47 : decode b_Mo_readLengths 47 = .ok (.bipush 16, 2) := by decide +kernel
theorem d_Mo_readLengths_49 : decode b_Mo_readLengths 49 = .ok (.if_icmp .ge 7, 3) := by decide +kernel
theorem d_Mo_readLengths_52 : decode b_Mo_readLengths 52 = .ok (.iconst 1, 1) := by decide +kernel
theorem d_Mo_readLengths_53 : decode b_Mo_readLengths 53 = .ok (.goto 46, 3) := by decide +kernel
theorem d_Mo_readLengths_56 : decode b_Mo_readLengths 56 = .ok (.iload 6, 2) := by decide +kernel
theorem d_Mo_readLengths_58 : decode b_Mo_readLengths 58 = .ok (.bipush 16, 2) := by decide +kernel
theorem d_Mo_readLengths_60 : decode b_Mo_readLengths 60 = .ok (.if_icmp .ne 13, 3) := by decide +kernel
theorem d_Mo_readLengths_63 : decode b_Mo_readLengths 63 = .ok (.iconst 3, 1) := by decide +kernel
theorem d_Mo_readLengths_64 : decode b_Mo_readLengths 64 = .ok (.aload_n 0, 1) := by decide +kernel
theorem d_Mo_readLengths_65 : decode b_Mo_readLengths 65 = .ok (.iconst 2, 1) := by decide +kernel
theorem d_Mo_readLengths_66 : decode b_Mo_readLengths 66 = .ok (.invokevirtual 127, 3) := by decide +kernel
theorem d_Mo_readLengths_69 : decode b_Mo_readLengths 69 = .ok (.iadd, 1) := by decide +kernel
theorem d_Mo_readLengths_70 : decode b_Mo_readLengths 70 = .ok (.goto 29, 3) := by decide +kernel
theorem d_Mo_readLengths_73 : decode b_Mo_readLengths 73 = .ok (.iload 6, 2) := by decide +kernel
theorem d_Mo_readLengths_75 : decode b_Mo_readLengths 75 = .ok (.bipush 17, 2) := by decide +kernel
theorem d_Mo_readLengths_77 : decode b_Mo_readLengths 77 = .ok (.if_icmp .ne 13, 3) := by decide +kernel
theorem d_Mo_readLengths_80 : decode b_Mo_readLengths 80 = .ok (.iconst 3, 1) := by decide +kernel
theorem d_Mo_readLengths_81 : decode b_Mo_readLengths 81 = .ok (.aload_n 0, 1) := by decide +kernel
theorem d_Mo_readLengths_82 : decode b_Mo_readLengths 82 = .ok (.iconst 3, 1) := by decide +kernel
theorem d_Mo_readLengths_83 : decode b_Mo_readLengths 83 = .ok (.invokevirtual 127, 3) := by decide +kernel
theorem d_Mo_readLengths_86 : decode b_Mo_readLengths 86 = .ok (.iadd, 1) := by decide +kernel
theorem d_Mo_readLengths_87 : decode b_Mo_readLengths 87 = .ok (.goto 12, 3) := by decide +kernel
theorem d_Mo_readLengths_90 : decode b_Mo_readLengths 90 = .ok (.bipush 11, 2) := by decide +kernel
theorem d_Mo_readLengths_92 : decode b_Mo_readLengths 92 = .ok (.aload_n 0, 1) := by decide +kernel
theorem d_Mo_readLengths_93 : decode b_Mo_readLengths 93 = .ok (.bipush 7, 2) := by decide +kernel
theorem d_Mo_readLengths_95 : decode b_Mo_readLengths 95 = .ok (.invokevirtual 127, 3) := by decide +kernel
theorem d_Mo_readLengths_98 : decode b_Mo_readLengths 98 = .ok (.iadd, 1) := by decide +kernel
theorem d_Mo_readLengths_99 : decode b_Mo_readLengths 99 = .ok (.istore 7, 2) := by decide +kernel
theorem d_Mo_readLengths_101 : decode b_Mo_readLengths 101 = .ok (.aload_n 0, 1) := by decide +kernel
theorem d_Mo_readLengths_102 : decode b_Mo_readLengths 102 = .ok (.invokevirtual 89, 3) := by decide +kernel
theorem d_Mo_readLengths_105 : decode b_Mo_readLengths 105 = .ok (.ifCond .eq 30, 3) := by decide +kernel
theorem d_Mo_readLengths_108 : decode b_Mo_readLengths 108 = .ok (.iload 6, 2) := by decide +kernel
theorem d_Mo_readLengths_110 : decode b_Mo_readLengths 110 = .ok (.bipush 16, 2) := by decide +kernel
theorem d_Mo_readLengths_112 : decode b_Mo_readLengths 112 = .ok (.if_icmp .ne 8, 3) := by decide +kernel
theorem d_Mo_readLengths_115 : decode b_Mo_readLengths 115 = .ok (.iload 5, 2) := by decide +kernel
theorem d_Mo_readLengths_117 : decode b_Mo_readLengths 117 = .ok (.ifCond .lt 12, 3) := by decide +kernel
theorem d_Mo_readLengths_120 : decode b_Mo_readLengths 120 = .ok (.iload 4, 2) := by decide +kernel
theorem d_Mo_readLengths_122 : decode b_Mo_readLengths 122 = .ok (.iload 7, 2) := by decide +kernel
theorem d_Mo_readLengths_124 : decode b_Mo_readLengths 124 = .ok (.iadd, 1) := by decide +kernel
theorem d_Mo_readLengths_125 : decode b_Mo_readLengths 125 = .ok (.iload_n 3, 1) := by decide +kernel
theorem d_Mo_readLengths_126 : decode b_Mo_readLengths 126 = .ok (.if_icmp .le 9, 3) := by decide +kernel
theorem d_Mo_readLengths_129 : decode b_Mo_readLengths 129 = .ok (.aload_n 0, 1) := by decide +kernel
theorem d_Mo_readLengths_130 : decode b_Mo_readLengths 130 = .ok (.bipush 6, 2) := by decide +kernel
theorem d_Mo_readLengths_132 : decode b_Mo_readLengths 132 = .ok (.invokevirtual 99, 3) := by decide +kernel
theorem d_Mo_readLengths_135 : decode b_Mo_readLengths 135 = .ok (.iload 6, 2) := by decide +kernel
theorem d_Mo_readLengths_137 : decode b_Mo_readLengths 137 = .ok (.bipush 16, 2) := by decide +kernel
theorem d_Mo_readLengths_139 : decode b_Mo_readLengths 139 = .ok (.if_icmp .ge 8, 3) := by decide +kernel
theorem d_Mo_readLengths_142 : decode b_Mo_readLengths 142 = .ok (.iload 6, 2) := by decide +kernel
theorem d_Mo_readLengths_144 : decode b_Mo_readLengths 144 = .ok (.goto 16, 3) := by decide +kernel
theorem d_Mo_readLengths_147 : decode b_Mo_readLengths 147 = .ok (.iload 6, 2) := by decide +kernel
theorem d_Mo_readLengths_149 : decode b_Mo_readLengths 149 = .ok (.bipush 16, 2) := by decide +kernel
theorem d_Mo_readLengths_151 : decode b_Mo_readLengths 151 = .ok (.if_icmp .ne 8, 3) := by decide +kernel
theorem d_Mo_readLengths_154 : decode b_Mo_readLengths 154 = .ok (.iload 5, 2) := by decide +kernel
theorem d_Mo_readLengths_156 : decode b_Mo_readLengths 156 = .ok (.goto 4, 3) := by decide +kernel
theorem d_Mo_readLengths_159 : decode b_Mo_readLengths 159 = .ok (.iconst 0, 1) := by decide +kernel
theorem d_Mo_readLengths_160 : decode b_Mo_readLengths 160 = .ok (.istore 8, 2) := by decide +kernel
theorem d_Mo_readLengths_162 : decode b_Mo_readLengths 162 = .ok (.iconst 0, 1) := by decide +kernel
theorem d_Mo_readLengths_163 : decode b_Mo_readLengths 163 = .ok (.istore 9, 2) := by decide +kernel
theorem d_Mo_readLengths_165 : decode b_Mo_readLengths 165 = .ok (.iload 9, 2) := by decide +kernel
theorem d_Mo_readLengths_167 : decode b_Mo_readLengths 167 = .ok (.iload 7, 2) := by decide +kernel
theorem d_Mo_readLengths_169 : decode b_Mo_readLengths 169 = .ok (.if_icmp .ge 45, 3) := by decide +kernel
theorem d_Mo_readLengths_172 : decode b_Mo_readLengths 172 = .ok (.aload_n 0, 1) := by decide +kernel
theorem d_Mo_readLengths_173 : decode b_Mo_readLengths 173 = .ok (.invokevirtual 89, 3) := by decide +kernel
theorem d_Mo_readLengths_176 : decode b_Mo_readLengths 176 = .ok (.ifCond .eq 38, 3) := by decide +kernel
theorem d_Mo_readLengths_179 : decode b_Mo_readLengths 179 = .ok (.aload_n 0, 1) := by decide +kernel
theorem d_Mo_readLengths_180 : decode b_Mo_readLengths 180 = .ok (.getfield 42, 3) := by decide +kernel
theorem d_Mo_readLengths_183 : decode b_Mo_readLengths 183 = .ok (.iload 4, 2) := by decide +kernel
theorem d_Mo_readLengths_185 : decode b_Mo_readLengths 185 = .ok (.iload_n 1, 1) := by decide +kernel
theorem d_Mo_readLengths_186 : decode b_Mo_readLengths 186 = .ok (.if_icmp .ge 8, 3) := by decide +kernel
theorem d_Mo_readLengths_189 : decode b_Mo_readLengths 189 = .ok (.iload 4, 2) := by decide +kernel
theorem d_Mo_readLengths_191 : decode b_Mo_readLengths 191 = .ok (.goto 11, 3) := by decide +kernel
theorem d_Mo_readLengths_194 : decode b_Mo_readLengths 194 = .ok (.sipush 288, 3) := by decide +kernel
theorem d_Mo_readLengths_197 : decode b_Mo_readLengths 197 = .ok (.iload 4, 2) := by decide +kernel
theorem d_Mo_readLengths_199 : decode b_Mo_readLengths 199 = .ok (.iadd, 1) := by decide +kernel
theorem d_Mo_readLengths_200 : decode b_Mo_readLengths 200 = .ok (.iload_n 1, 1) := by decide +kernel
theorem d_Mo_readLengths_201 : decode b_Mo_readLengths 201 = .ok (.isub, 1) := by decide +kernel
theorem d_Mo_readLengths_202 : decode b_Mo_readLengths 202 = .ok (.iload 8, 2) := by decide +kernel
theorem d_Mo_readLengths_204 : decode b_Mo_readLengths 204 = .ok (.iastore, 1) := by decide +kernel
theorem d_Mo_readLengths_205 : decode b_Mo_readLengths 205 = .ok (.iinc 4 1, 3) := by decide +kernel
theorem d_Mo_readLengths_208 : decode b_Mo_readLengths 208 = .ok (.iinc 9 1, 3) := by decide +kernel
theorem d_Mo_readLengths_211 : decode b_Mo_readLengths 211 = .ok (.goto (-46), 3) := by decide +kernel
theorem d_Mo_readLengths_214 : decode b_Mo_readLengths 214 = .ok (.iload 8, 2) := by decide +kernel
theorem d_Mo_readLengths_216 : decode b_Mo_readLengths 216 = .ok (.istore 5, 2) := by decide +kernel
theorem d_Mo_readLengths_218 : decode b_Mo_readLengths 218 = .ok (.goto (-208), 3) := by decide +kernel
theorem d_Mo_readLengths_221 : decode b_Mo_readLengths 221 = .ok (.return_, 1) := by decide +kernel
noncomputable def f_Mo_readLengths_B202 (K10 : mH → Nat → Int32 → Int32 → Int32 → Int32 → Option (Unit × mH)) (K165 : mH → Nat → Int32 → Int32 → Int32 → Int32 → Int32 → Int32 → Option (Unit × mH)) (n0 : Nat) (h0 : mH) (a0 : Nat) (x1 : Int32) (x3 : Int32) (x4 : Int32) (x7 : Int32) (x8 : Int32) (x9 : Int32) (p0 : Int32) (b1 : Nat) : Option (Unit × mH) :=
  mas h0 b1 .int p0 x8 fun h33 =>
  mnm (x4 + 1) fun v34 =>
  mnm (x9 + 1) fun v35 =>
  K165 h33 a0 x1 x3 v34 x7 x8 v35
noncomputable def f_Mo_readLengths_L165 (K10 : mH → Nat → Int32 → Int32 → Int32 → Int32 → Option (Unit × mH)) (n0 : Nat) : Nat → mH → Nat → Int32 → Int32 → Int32 → Int32 → Int32 → Int32 → Option (Unit × mH)
  | 0, _, _, _, _, _, _, _, _ => none
  | n + 1, h0, a0, x1, x3, x4, x7, x8, x9 =>
    if x7 ≤ x9 then
      K10 h0 a0 x1 x3 x4 x8
    else
      mis h0 a0 10 <|
      mcl (f_Mo_isGood n0 h0 a0) fun v28 h29 =>
      if v28 = 0 then
        K10 h29 a0 x1 x3 x4 x8
      else
        mgr h29 a0 10 20 fun r31 =>
        if x1 ≤ x4 then
          f_Mo_readLengths_B202 K10 (f_Mo_readLengths_L165 K10 n0 n) n0 h29 a0 x1 x3 x4 x7 x8 x9 ((288 + x4) - x1) r31
        else
          f_Mo_readLengths_B202 K10 (f_Mo_readLengths_L165 K10 n0 n) n0 h29 a0 x1 x3 x4 x7 x8 x9 x4 r31
noncomputable def f_Mo_readLengths_B160 (K10 : mH → Nat → Int32 → Int32 → Int32 → Int32 → Option (Unit × mH)) (n0 : Nat) (h0 : mH) (a0 : Nat) (x1 : Int32) (x3 : Int32) (x4 : Int32) (x7 : Int32) (p0 : Int32) : Option (Unit × mH) :=
  f_Mo_readLengths_L165 K10 n0 n0 h0 a0 x1 x3 x4 x7 p0 0
noncomputable def f_Mo_readLengths_B135 (K10 : mH → Nat → Int32 → Int32 → Int32 → Int32 → Option (Unit × mH)) (n0 : Nat) (h0 : mH) (a0 : Nat) (x1 : Int32) (x3 : Int32) (x4 : Int32) (x5 : Int32) (x6 : Int32) (x7 : Int32) : Option (Unit × mH) :=
  if 16 ≤ x6 then
    if x6 = 16 then
      f_Mo_readLengths_B160 K10 n0 h0 a0 x1 x3 x4 x7 x5
    else
      f_Mo_readLengths_B160 K10 n0 h0 a0 x1 x3 x4 x7 0
  else
    f_Mo_readLengths_B160 K10 n0 h0 a0 x1 x3 x4 x7 x6
noncomputable def f_Mo_readLengths_B129 (K10 : mH → Nat → Int32 → Int32 → Int32 → Int32 → Option (Unit × mH)) (n0 : Nat) (h0 : mH) (a0 : Nat) (x1 : Int32) (x3 : Int32) (x4 : Int32) (x5 : Int32) (x6 : Int32) (x7 : Int32) : Option (Unit × mH) :=
  mis h0 a0 10 <|
  mcl (f_Mo_fail n0 h0 a0 6) fun _ h40 =>
  f_Mo_readLengths_B135 K10 n0 h40 a0 x1 x3 x4 x5 x6 x7
noncomputable def f_Mo_readLengths_B120 (K10 : mH → Nat → Int32 → Int32 → Int32 → Int32 → Option (Unit × mH)) (n0 : Nat) (h0 : mH) (a0 : Nat) (x1 : Int32) (x3 : Int32) (x4 : Int32) (x5 : Int32) (x6 : Int32) (x7 : Int32) : Option (Unit × mH) :=
  if (x4 + x7) ≤ x3 then
    f_Mo_readLengths_B135 K10 n0 h0 a0 x1 x3 x4 x5 x6 x7
  else
    f_Mo_readLengths_B129 K10 n0 h0 a0 x1 x3 x4 x5 x6 x7
noncomputable def f_Mo_readLengths_B99 (K10 : mH → Nat → Int32 → Int32 → Int32 → Int32 → Option (Unit × mH)) (n0 : Nat) (h0 : mH) (a0 : Nat) (x1 : Int32) (x3 : Int32) (x4 : Int32) (x5 : Int32) (x6 : Int32) (p0 : Int32) : Option (Unit × mH) :=
  mis h0 a0 10 <|
  mcl (f_Mo_isGood n0 h0 a0) fun v21 h22 =>
  if v21 = 0 then
    f_Mo_readLengths_B135 K10 n0 h22 a0 x1 x3 x4 x5 x6 p0
  else
    if x6 = 16 then
      if x5 < 0 then
        f_Mo_readLengths_B129 K10 n0 h22 a0 x1 x3 x4 x5 x6 p0
      else
        f_Mo_readLengths_B120 K10 n0 h22 a0 x1 x3 x4 x5 x6 p0
    else
      f_Mo_readLengths_B120 K10 n0 h22 a0 x1 x3 x4 x5 x6 p0
noncomputable def f_Mo_readLengths_L10  (n0 : Nat) : Nat → mH → Nat → Int32 → Int32 → Int32 → Int32 → Option (Unit × mH)
  | 0, _, _, _, _, _, _ => none
  | n + 1, h0, a0, x1, x3, x4, x5 =>
    if x3 ≤ x4 then
      some ((), h0)
    else
      mis h0 a0 10 <|
      mcl (f_Mo_isGood n0 h0 a0) fun v4 h5 =>
      if v4 = 0 then
        some ((), h5)
      else
        mis h5 a0 10 <|
        mcl (f_Mo_symbol n0 h5 a0 320 19) fun v8 h9 =>
        mis h9 a0 10 <|
        mcl (f_Mo_isGood n0 h9 a0) fun v11 h12 =>
        if v11 = 0 then
          f_Mo_readLengths_B99 (f_Mo_readLengths_L10 n0 n) n0 h12 a0 x1 x3 x4 x5 v8 0
        else
          if 16 ≤ v8 then
            if v8 = 16 then
              mis h12 a0 10 <|
              mcl (f_Mo_number n0 h12 a0 2) fun v47 h48 =>
              f_Mo_readLengths_B99 (f_Mo_readLengths_L10 n0 n) n0 h48 a0 x1 x3 x4 x5 v8 (3 + v47)
            else
              if v8 = 17 then
                mis h12 a0 10 <|
                mcl (f_Mo_number n0 h12 a0 3) fun v44 h45 =>
                f_Mo_readLengths_B99 (f_Mo_readLengths_L10 n0 n) n0 h45 a0 x1 x3 x4 x5 v8 (3 + v44)
              else
                mis h12 a0 10 <|
                mcl (f_Mo_number n0 h12 a0 7) fun v18 h19 =>
                f_Mo_readLengths_B99 (f_Mo_readLengths_L10 n0 n) n0 h19 a0 x1 x3 x4 x5 v8 (11 + v18)
          else
            f_Mo_readLengths_B99 (f_Mo_readLengths_L10 n0 n) n0 h12 a0 x1 x3 x4 x5 v8 1
noncomputable def f_Mo_readLengths  (n0 : Nat) (h0 : mH) (a0 : Nat) (x1 : Int32) (x2 : Int32) : Option (Unit × mH) :=
  mnm (x1 + x2) fun v1 =>
  f_Mo_readLengths_L10 n0 n0 h0 a0 x1 v1 0 (-1)
set_option maxHeartbeats 4000000 in
set_option maxRecDepth 100000 in
theorem cb_Mo_readLengths_B202 {X : mX} {ad : Nat → Nat} {ln : Launch} (O : mO X ad R_Mo b_Mo_readLengths 10 (mR 4 88) ln) (K10 : mH → Nat → Int32 → Int32 → Int32 → Int32 → Option (Unit × mH)) (K165 : mH → Nat → Int32 → Int32 → Int32 → Int32 → Int32 → Int32 → Option (Unit × mH)) (r' : Unit) (h' : mH) (hE : mEnd X ad none none h') (hK10 : ∀ (h : mH) (a0 : Nat) (x1 : Int32) (x3 : Int32) (x4 : Int32) (x5 : Int32), K10 h a0 x1 x3 x4 x5 = some (r', h') → mAW X ad 0 0 10 [(0, .ref a0), (1, .int x1), (3, .int x3), (4, .int x4), (5, .int x5)] [] h) (hK165 : ∀ (h : mH) (a0 : Nat) (x1 : Int32) (x3 : Int32) (x4 : Int32) (x7 : Int32) (x8 : Int32) (x9 : Int32), K165 h a0 x1 x3 x4 x7 x8 x9 = some (r', h') → mAW X ad 0 0 165 [(0, .ref a0), (1, .int x1), (3, .int x3), (4, .int x4), (7, .int x7), (8, .int x8), (9, .int x9)] [] h) (n0 : Nat) (h0 : mH) (a0 : Nat) (x1 : Int32) (x3 : Int32) (x4 : Int32) (x7 : Int32) (x8 : Int32) (x9 : Int32) (p0 : Int32) (b1 : Nat) (hf : f_Mo_readLengths_B202 K10 K165 n0 h0 a0 x1 x3 x4 x7 x8 x9 p0 b1 = some (r', h')) : mAW X ad 0 0 202 [(0, .ref a0), (1, .int x1), (3, .int x3), (4, .int x4), (7, .int x7), (8, .int x8), (9, .int x9)] [.int p0, .ref b1] h0 := by
  unfold f_Mo_readLengths_B202 at hf
  refine ax_iload O d_Mo_readLengths_202 5 rfl ?_
  obtain ⟨nh33, fh33, h33, ch33, ih33, eh33, hf⟩ := mas_some hf
  refine ax_iast O ch33 ih33 eh33 d_Mo_readLengths_204 ?_
  obtain ⟨v34, ev34, hf⟩ := mnm_some hf
  refine ax_iinc (j := 3) (v := v34) (lv' := [(4, .int v34), (0, .ref a0), (1, .int x1), (3, .int x3), (7, .int x7), (8, .int x8), (9, .int x9)]) O d_Mo_readLengths_205 rfl (by rw [ev34]; rfl) (by decide) rfl ?_
  obtain ⟨v35, ev35, hf⟩ := mnm_some hf
  refine ax_iinc (j := 6) (v := v35) (lv' := [(9, .int v35), (4, .int v34), (0, .ref a0), (1, .int x1), (3, .int x3), (7, .int x7), (8, .int x8)]) O d_Mo_readLengths_208 rfl (by rw [ev35]; rfl) (by decide) rfl ?_
  refine ax_goto (tgt := 165) O d_Mo_readLengths_211 (by decide) ?_
  refine ax_sub [2, 3, 4, 1, 5, 6, 0] rfl ?_
  exact hK165 _ _ _ _ _ _ _ _ hf
set_option maxHeartbeats 4000000 in
set_option maxRecDepth 100000 in
theorem cb_Mo_readLengths_L165 {X : mX} {ad : Nat → Nat} {ln : Launch} (O : mO X ad R_Mo b_Mo_readLengths 10 (mR 4 88) ln) (K10 : mH → Nat → Int32 → Int32 → Int32 → Int32 → Option (Unit × mH)) (r' : Unit) (h' : mH) (hE : mEnd X ad none none h') (hK10 : ∀ (h : mH) (a0 : Nat) (x1 : Int32) (x3 : Int32) (x4 : Int32) (x5 : Int32), K10 h a0 x1 x3 x4 x5 = some (r', h') → mAW X ad 0 0 10 [(0, .ref a0), (1, .int x1), (3, .int x3), (4, .int x4), (5, .int x5)] [] h) (n0 : Nat) : ∀ (n : Nat) (h0 : mH) (a0 : Nat) (x1 : Int32) (x3 : Int32) (x4 : Int32) (x7 : Int32) (x8 : Int32) (x9 : Int32), f_Mo_readLengths_L165 K10 n0 n h0 a0 x1 x3 x4 x7 x8 x9 = some (r', h') → mAW X ad 0 0 165 [(0, .ref a0), (1, .int x1), (3, .int x3), (4, .int x4), (7, .int x7), (8, .int x8), (9, .int x9)] [] h0 := by
  intro n
  induction n with
  | zero =>
    intro h0 a0 x1 x3 x4 x7 x8 x9 hf
    rw [f_Mo_readLengths_L165.eq_1] at hf
    cases hf
  | succ n ih =>
    intro h0 a0 x1 x3 x4 x7 x8 x9 hf
    rw [f_Mo_readLengths_L165.eq_2] at hf
    refine ax_iload O d_Mo_readLengths_165 6 rfl ?_
    refine ax_iload O d_Mo_readLengths_167 4 rfl ?_
    refine ax_icmp_ge (tgt := 214) O d_Mo_readLengths_169 (by decide) (fun q26 => ?_) (fun q26 => ?_)
    · rw [if_pos q26] at hf
      refine ax_iload O d_Mo_readLengths_214 5 rfl ?_
      refine ax_istore (lv' := [(5, .int x8), (0, .ref a0), (1, .int x1), (3, .int x3), (4, .int x4), (7, .int x7), (8, .int x8), (9, .int x9)]) O d_Mo_readLengths_216 (by decide) rfl ?_
      refine ax_goto (tgt := 10) O d_Mo_readLengths_218 (by decide) ?_
      refine ax_sub [1, 2, 3, 4, 0] rfl ?_
      exact hK10 _ _ _ _ _ _ hf
    · rw [if_neg q26] at hf
      refine ax_aload_n O d_Mo_readLengths_172 rfl 0 rfl ?_
      obtain ⟨fh29, ch29, hf⟩ := mis_some hf
      obtain ⟨v28, h29, mh29, hf⟩ := mcl_some hf
      refine ax_callV (As := []) (rest := []) O cw_Mo_isGood (q := (R_Mo, T_Mo, 31)) rfl rfl in_Mo_isGood se_Mo_isGood lk_Mo_89 ch29 (c_Mo_isGood mh29) rfl ⟨rfl, rfl⟩ (by decide) (by decide) (Nat.le_of_ble_eq_true rfl) d_Mo_readLengths_173 ?_
      refine ax_if_eq (tgt := 214) O d_Mo_readLengths_176 (by decide) (fun q30 => ?_) (fun q30 => ?_)
      · rw [if_pos q30] at hf
        refine ax_iload O d_Mo_readLengths_214 5 rfl ?_
        refine ax_istore (lv' := [(5, .int x8), (0, .ref a0), (1, .int x1), (3, .int x3), (4, .int x4), (7, .int x7), (8, .int x8), (9, .int x9)]) O d_Mo_readLengths_216 (by decide) rfl ?_
        refine ax_goto (tgt := 10) O d_Mo_readLengths_218 (by decide) ?_
        refine ax_sub [1, 2, 3, 4, 0] rfl ?_
        exact hK10 _ _ _ _ _ _ hf
      · rw [if_neg q30] at hf
        refine ax_aload_n O d_Mo_readLengths_179 rfl 0 rfl ?_
        obtain ⟨fr31, r31, cr31, kr31, hf⟩ := mgr_some hf
        refine ax_get O fg_Mo_42 cr31 kr31 d_Mo_readLengths_180 ?_
        refine ax_iload O d_Mo_readLengths_183 3 rfl ?_
        refine ax_iload_n O d_Mo_readLengths_185 rfl 1 rfl ?_
        refine ax_icmp_ge (tgt := 194) O d_Mo_readLengths_186 (by decide) (fun q32 => ?_) (fun q32 => ?_)
        · rw [if_pos q32] at hf
          refine ax_sipush (v := 288) O d_Mo_readLengths_194 (by decide) ?_
          refine ax_iload O d_Mo_readLengths_197 3 rfl ?_
          refine ax_iadd O d_Mo_readLengths_199 ?_
          refine ax_iload_n O d_Mo_readLengths_200 rfl 1 rfl ?_
          refine ax_isub O d_Mo_readLengths_201 ?_
          exact cb_Mo_readLengths_B202 O K10 (f_Mo_readLengths_L165 K10 n0 n) _ _ hE hK10 ih n0 _ _ _ _ _ _ _ _ _ _ hf
        · rw [if_neg q32] at hf
          refine ax_iload O d_Mo_readLengths_189 3 rfl ?_
          refine ax_goto (tgt := 202) O d_Mo_readLengths_191 (by decide) ?_
          exact cb_Mo_readLengths_B202 O K10 (f_Mo_readLengths_L165 K10 n0 n) _ _ hE hK10 ih n0 _ _ _ _ _ _ _ _ _ _ hf
set_option maxHeartbeats 4000000 in
set_option maxRecDepth 100000 in
theorem cb_Mo_readLengths_B160 {X : mX} {ad : Nat → Nat} {ln : Launch} (O : mO X ad R_Mo b_Mo_readLengths 10 (mR 4 88) ln) (K10 : mH → Nat → Int32 → Int32 → Int32 → Int32 → Option (Unit × mH)) (r' : Unit) (h' : mH) (hE : mEnd X ad none none h') (hK10 : ∀ (h : mH) (a0 : Nat) (x1 : Int32) (x3 : Int32) (x4 : Int32) (x5 : Int32), K10 h a0 x1 x3 x4 x5 = some (r', h') → mAW X ad 0 0 10 [(0, .ref a0), (1, .int x1), (3, .int x3), (4, .int x4), (5, .int x5)] [] h) (n0 : Nat) (h0 : mH) (a0 : Nat) (x1 : Int32) (x3 : Int32) (x4 : Int32) (x7 : Int32) (p0 : Int32) (hf : f_Mo_readLengths_B160 K10 n0 h0 a0 x1 x3 x4 x7 p0 = some (r', h')) : mAW X ad 0 0 160 [(0, .ref a0), (1, .int x1), (3, .int x3), (4, .int x4), (7, .int x7)] [.int p0] h0 := by
  unfold f_Mo_readLengths_B160 at hf
  refine ax_istore (lv' := [(8, .int p0), (0, .ref a0), (1, .int x1), (3, .int x3), (4, .int x4), (7, .int x7)]) O d_Mo_readLengths_160 (by decide) rfl ?_
  refine ax_iconst (v := 0) O d_Mo_readLengths_162 (by decide) ?_
  refine ax_istore (lv' := [(9, .int 0), (8, .int p0), (0, .ref a0), (1, .int x1), (3, .int x3), (4, .int x4), (7, .int x7)]) O d_Mo_readLengths_163 (by decide) rfl ?_
  refine ax_sub [2, 3, 4, 5, 6, 1, 0] rfl ?_
  exact cb_Mo_readLengths_L165 O K10 _ _ hE hK10 n0 n0 _ _ _ _ _ _ _ _ hf
set_option maxHeartbeats 4000000 in
set_option maxRecDepth 100000 in
theorem cb_Mo_readLengths_B135 {X : mX} {ad : Nat → Nat} {ln : Launch} (O : mO X ad R_Mo b_Mo_readLengths 10 (mR 4 88) ln) (K10 : mH → Nat → Int32 → Int32 → Int32 → Int32 → Option (Unit × mH)) (r' : Unit) (h' : mH) (hE : mEnd X ad none none h') (hK10 : ∀ (h : mH) (a0 : Nat) (x1 : Int32) (x3 : Int32) (x4 : Int32) (x5 : Int32), K10 h a0 x1 x3 x4 x5 = some (r', h') → mAW X ad 0 0 10 [(0, .ref a0), (1, .int x1), (3, .int x3), (4, .int x4), (5, .int x5)] [] h) (n0 : Nat) (h0 : mH) (a0 : Nat) (x1 : Int32) (x3 : Int32) (x4 : Int32) (x5 : Int32) (x6 : Int32) (x7 : Int32) (hf : f_Mo_readLengths_B135 K10 n0 h0 a0 x1 x3 x4 x5 x6 x7 = some (r', h')) : mAW X ad 0 0 135 [(0, .ref a0), (1, .int x1), (3, .int x3), (4, .int x4), (5, .int x5), (6, .int x6), (7, .int x7)] [] h0 := by
  unfold f_Mo_readLengths_B135 at hf
  refine ax_iload O d_Mo_readLengths_135 5 rfl ?_
  refine ax_bipush (v := 16) O d_Mo_readLengths_137 (by decide) ?_
  refine ax_icmp_ge (tgt := 147) O d_Mo_readLengths_139 (by decide) (fun q24 => ?_) (fun q24 => ?_)
  · rw [if_pos q24] at hf
    refine ax_iload O d_Mo_readLengths_147 5 rfl ?_
    refine ax_bipush (v := 16) O d_Mo_readLengths_149 (by decide) ?_
    refine ax_icmp_ne (tgt := 159) O d_Mo_readLengths_151 (by decide) (fun q25 => ?_) (fun q25 => ?_)
    · rw [if_neg q25] at hf
      refine ax_iconst (v := 0) O d_Mo_readLengths_159 (by decide) ?_
      refine ax_sub [0, 1, 2, 3, 6] rfl ?_
      exact cb_Mo_readLengths_B160 O K10 _ _ hE hK10 n0 _ _ _ _ _ _ _ hf
    · rw [if_pos q25] at hf
      refine ax_iload O d_Mo_readLengths_154 4 rfl ?_
      refine ax_goto (tgt := 160) O d_Mo_readLengths_156 (by decide) ?_
      refine ax_sub [0, 1, 2, 3, 6] rfl ?_
      exact cb_Mo_readLengths_B160 O K10 _ _ hE hK10 n0 _ _ _ _ _ _ _ hf
  · rw [if_neg q24] at hf
    refine ax_iload O d_Mo_readLengths_142 5 rfl ?_
    refine ax_goto (tgt := 160) O d_Mo_readLengths_144 (by decide) ?_
    refine ax_sub [0, 1, 2, 3, 6] rfl ?_
    exact cb_Mo_readLengths_B160 O K10 _ _ hE hK10 n0 _ _ _ _ _ _ _ hf
set_option maxHeartbeats 4000000 in
set_option maxRecDepth 100000 in
theorem cb_Mo_readLengths_B129 {X : mX} {ad : Nat → Nat} {ln : Launch} (O : mO X ad R_Mo b_Mo_readLengths 10 (mR 4 88) ln) (K10 : mH → Nat → Int32 → Int32 → Int32 → Int32 → Option (Unit × mH)) (r' : Unit) (h' : mH) (hE : mEnd X ad none none h') (hK10 : ∀ (h : mH) (a0 : Nat) (x1 : Int32) (x3 : Int32) (x4 : Int32) (x5 : Int32), K10 h a0 x1 x3 x4 x5 = some (r', h') → mAW X ad 0 0 10 [(0, .ref a0), (1, .int x1), (3, .int x3), (4, .int x4), (5, .int x5)] [] h) (n0 : Nat) (h0 : mH) (a0 : Nat) (x1 : Int32) (x3 : Int32) (x4 : Int32) (x5 : Int32) (x6 : Int32) (x7 : Int32) (hf : f_Mo_readLengths_B129 K10 n0 h0 a0 x1 x3 x4 x5 x6 x7 = some (r', h')) : mAW X ad 0 0 129 [(0, .ref a0), (1, .int x1), (3, .int x3), (4, .int x4), (5, .int x5), (6, .int x6), (7, .int x7)] [] h0 := by
  unfold f_Mo_readLengths_B129 at hf
  refine ax_aload_n O d_Mo_readLengths_129 rfl 0 rfl ?_
  refine ax_bipush (v := 6) O d_Mo_readLengths_130 (by decide) ?_
  obtain ⟨fh40, ch40, hf⟩ := mis_some hf
  obtain ⟨u41, h40, mh40, hf⟩ := mcl_some hf
  refine ax_callV (As := [.int 6]) (rest := []) O cw_Mo_fail (q := (R_Mo, T_Mo, 31)) rfl rfl in_Mo_fail se_Mo_fail lk_Mo_99 ch40 (c_Mo_fail mh40) rfl ⟨rfl, rfl⟩ (by decide) (by decide) (Nat.le_of_ble_eq_true rfl) d_Mo_readLengths_132 ?_
  exact cb_Mo_readLengths_B135 O K10 _ _ hE hK10 n0 _ _ _ _ _ _ _ _ hf
set_option maxHeartbeats 4000000 in
set_option maxRecDepth 100000 in
theorem cb_Mo_readLengths_B120 {X : mX} {ad : Nat → Nat} {ln : Launch} (O : mO X ad R_Mo b_Mo_readLengths 10 (mR 4 88) ln) (K10 : mH → Nat → Int32 → Int32 → Int32 → Int32 → Option (Unit × mH)) (r' : Unit) (h' : mH) (hE : mEnd X ad none none h') (hK10 : ∀ (h : mH) (a0 : Nat) (x1 : Int32) (x3 : Int32) (x4 : Int32) (x5 : Int32), K10 h a0 x1 x3 x4 x5 = some (r', h') → mAW X ad 0 0 10 [(0, .ref a0), (1, .int x1), (3, .int x3), (4, .int x4), (5, .int x5)] [] h) (n0 : Nat) (h0 : mH) (a0 : Nat) (x1 : Int32) (x3 : Int32) (x4 : Int32) (x5 : Int32) (x6 : Int32) (x7 : Int32) (hf : f_Mo_readLengths_B120 K10 n0 h0 a0 x1 x3 x4 x5 x6 x7 = some (r', h')) : mAW X ad 0 0 120 [(0, .ref a0), (1, .int x1), (3, .int x3), (4, .int x4), (5, .int x5), (6, .int x6), (7, .int x7)] [] h0 := by
  unfold f_Mo_readLengths_B120 at hf
  refine ax_iload O d_Mo_readLengths_120 3 rfl ?_
  refine ax_iload O d_Mo_readLengths_122 6 rfl ?_
  refine ax_iadd O d_Mo_readLengths_124 ?_
  refine ax_iload_n O d_Mo_readLengths_125 rfl 2 rfl ?_
  refine ax_icmp_le (tgt := 135) O d_Mo_readLengths_126 (by decide) (fun q37 => ?_) (fun q37 => ?_)
  · rw [if_pos q37] at hf
    exact cb_Mo_readLengths_B135 O K10 _ _ hE hK10 n0 _ _ _ _ _ _ _ _ hf
  · rw [if_neg q37] at hf
    exact cb_Mo_readLengths_B129 O K10 _ _ hE hK10 n0 _ _ _ _ _ _ _ _ hf
set_option maxHeartbeats 4000000 in
set_option maxRecDepth 100000 in
theorem cb_Mo_readLengths_B99 {X : mX} {ad : Nat → Nat} {ln : Launch} (O : mO X ad R_Mo b_Mo_readLengths 10 (mR 4 88) ln) (K10 : mH → Nat → Int32 → Int32 → Int32 → Int32 → Option (Unit × mH)) (r' : Unit) (h' : mH) (hE : mEnd X ad none none h') (hK10 : ∀ (h : mH) (a0 : Nat) (x1 : Int32) (x3 : Int32) (x4 : Int32) (x5 : Int32), K10 h a0 x1 x3 x4 x5 = some (r', h') → mAW X ad 0 0 10 [(0, .ref a0), (1, .int x1), (3, .int x3), (4, .int x4), (5, .int x5)] [] h) (n0 : Nat) (h0 : mH) (a0 : Nat) (x1 : Int32) (x3 : Int32) (x4 : Int32) (x5 : Int32) (x6 : Int32) (p0 : Int32) (hf : f_Mo_readLengths_B99 K10 n0 h0 a0 x1 x3 x4 x5 x6 p0 = some (r', h')) : mAW X ad 0 0 99 [(0, .ref a0), (1, .int x1), (3, .int x3), (4, .int x4), (5, .int x5), (6, .int x6)] [.int p0] h0 := by
  unfold f_Mo_readLengths_B99 at hf
  refine ax_istore (lv' := [(7, .int p0), (0, .ref a0), (1, .int x1), (3, .int x3), (4, .int x4), (5, .int x5), (6, .int x6)]) O d_Mo_readLengths_99 (by decide) rfl ?_
  refine ax_aload_n O d_Mo_readLengths_101 rfl 1 rfl ?_
  obtain ⟨fh22, ch22, hf⟩ := mis_some hf
  obtain ⟨v21, h22, mh22, hf⟩ := mcl_some hf
  refine ax_callV (As := []) (rest := []) O cw_Mo_isGood (q := (R_Mo, T_Mo, 31)) rfl rfl in_Mo_isGood se_Mo_isGood lk_Mo_89 ch22 (c_Mo_isGood mh22) rfl ⟨rfl, rfl⟩ (by decide) (by decide) (Nat.le_of_ble_eq_true rfl) d_Mo_readLengths_102 ?_
  refine ax_if_eq (tgt := 135) O d_Mo_readLengths_105 (by decide) (fun q23 => ?_) (fun q23 => ?_)
  · rw [if_pos q23] at hf
    refine ax_sub [1, 2, 3, 4, 5, 6, 0] rfl ?_
    exact cb_Mo_readLengths_B135 O K10 _ _ hE hK10 n0 _ _ _ _ _ _ _ _ hf
  · rw [if_neg q23] at hf
    refine ax_iload O d_Mo_readLengths_108 6 rfl ?_
    refine ax_bipush (v := 16) O d_Mo_readLengths_110 (by decide) ?_
    refine ax_icmp_ne (tgt := 120) O d_Mo_readLengths_112 (by decide) (fun q36 => ?_) (fun q36 => ?_)
    · rw [if_neg q36] at hf
      refine ax_sub [1, 2, 3, 4, 5, 6, 0] rfl ?_
      exact cb_Mo_readLengths_B120 O K10 _ _ hE hK10 n0 _ _ _ _ _ _ _ _ hf
    · rw [if_pos q36] at hf
      refine ax_iload O d_Mo_readLengths_115 5 rfl ?_
      refine ax_if_lt (tgt := 129) O d_Mo_readLengths_117 (by decide) (fun q42 => ?_) (fun q42 => ?_)
      · rw [if_pos q42] at hf
        refine ax_sub [1, 2, 3, 4, 5, 6, 0] rfl ?_
        exact cb_Mo_readLengths_B129 O K10 _ _ hE hK10 n0 _ _ _ _ _ _ _ _ hf
      · rw [if_neg q42] at hf
        refine ax_sub [1, 2, 3, 4, 5, 6, 0] rfl ?_
        exact cb_Mo_readLengths_B120 O K10 _ _ hE hK10 n0 _ _ _ _ _ _ _ _ hf
set_option maxHeartbeats 4000000 in
set_option maxRecDepth 100000 in
theorem cb_Mo_readLengths_L10 {X : mX} {ad : Nat → Nat} {ln : Launch} (O : mO X ad R_Mo b_Mo_readLengths 10 (mR 4 88) ln) (r' : Unit) (h' : mH) (hE : mEnd X ad none none h') (n0 : Nat) : ∀ (n : Nat) (h0 : mH) (a0 : Nat) (x1 : Int32) (x3 : Int32) (x4 : Int32) (x5 : Int32), f_Mo_readLengths_L10 n0 n h0 a0 x1 x3 x4 x5 = some (r', h') → mAW X ad 0 0 10 [(0, .ref a0), (1, .int x1), (3, .int x3), (4, .int x4), (5, .int x5)] [] h0 := by
  intro n
  induction n with
  | zero =>
    intro h0 a0 x1 x3 x4 x5 hf
    rw [f_Mo_readLengths_L10.eq_1] at hf
    cases hf
  | succ n ih =>
    intro h0 a0 x1 x3 x4 x5 hf
    rw [f_Mo_readLengths_L10.eq_2] at hf
    refine ax_iload O d_Mo_readLengths_10 3 rfl ?_
    refine ax_iload_n O d_Mo_readLengths_12 rfl 2 rfl ?_
    refine ax_icmp_ge (tgt := 221) O d_Mo_readLengths_13 (by decide) (fun q2 => ?_) (fun q2 => ?_)
    · rw [if_pos q2] at hf
      exact ax_vretE O hE hf d_Mo_readLengths_221
    · rw [if_neg q2] at hf
      refine ax_aload_n O d_Mo_readLengths_16 rfl 0 rfl ?_
      obtain ⟨fh5, ch5, hf⟩ := mis_some hf
      obtain ⟨v4, h5, mh5, hf⟩ := mcl_some hf
      refine ax_callV (As := []) (rest := []) O cw_Mo_isGood (q := (R_Mo, T_Mo, 31)) rfl rfl in_Mo_isGood se_Mo_isGood lk_Mo_89 ch5 (c_Mo_isGood mh5) rfl ⟨rfl, rfl⟩ (by decide) (by decide) (Nat.le_of_ble_eq_true rfl) d_Mo_readLengths_17 ?_
      refine ax_if_eq (tgt := 221) O d_Mo_readLengths_20 (by decide) (fun q6 => ?_) (fun q6 => ?_)
      · rw [if_pos q6] at hf
        exact ax_vretE O hE hf d_Mo_readLengths_221
      · rw [if_neg q6] at hf
        refine ax_aload_n O d_Mo_readLengths_23 rfl 0 rfl ?_
        refine ax_sipush (v := 320) O d_Mo_readLengths_24 (by decide) ?_
        refine ax_bipush (v := 19) O d_Mo_readLengths_27 (by decide) ?_
        obtain ⟨fh9, ch9, hf⟩ := mis_some hf
        obtain ⟨v8, h9, mh9, hf⟩ := mcl_some hf
        refine ax_callV (As := [.int 320, .int 19]) (rest := []) O cw_Mo_symbol (q := (R_Mo, T_Mo, 31)) rfl rfl in_Mo_symbol se_Mo_symbol lk_Mo_141 ch9 (c_Mo_symbol mh9) rfl ⟨rfl, rfl⟩ (by decide) (by decide) (Nat.le_of_ble_eq_true rfl) d_Mo_readLengths_29 ?_
        refine ax_istore (lv' := [(6, .int v8), (0, .ref a0), (1, .int x1), (3, .int x3), (4, .int x4), (5, .int x5)]) O d_Mo_readLengths_32 (by decide) rfl ?_
        refine ax_aload_n O d_Mo_readLengths_34 rfl 1 rfl ?_
        obtain ⟨fh12, ch12, hf⟩ := mis_some hf
        obtain ⟨v11, h12, mh12, hf⟩ := mcl_some hf
        refine ax_callV (As := []) (rest := []) O cw_Mo_isGood (q := (R_Mo, T_Mo, 31)) rfl rfl in_Mo_isGood se_Mo_isGood lk_Mo_89 ch12 (c_Mo_isGood mh12) rfl ⟨rfl, rfl⟩ (by decide) (by decide) (Nat.le_of_ble_eq_true rfl) d_Mo_readLengths_35 ?_
        refine ax_if_ne (tgt := 45) O d_Mo_readLengths_38 (by decide) (fun q13 => ?_) (fun q13 => ?_)
        · rw [if_neg q13] at hf
          refine ax_iload O d_Mo_readLengths_45 0 rfl ?_
          refine ax_bipush (v := 16) O d_Mo_readLengths_47 (by decide) ?_
          refine ax_icmp_ge (tgt := 56) O d_Mo_readLengths_49 (by decide) (fun q14 => ?_) (fun q14 => ?_)
          · rw [if_pos q14] at hf
            refine ax_iload O d_Mo_readLengths_56 0 rfl ?_
            refine ax_bipush (v := 16) O d_Mo_readLengths_58 (by decide) ?_
            refine ax_icmp_ne (tgt := 73) O d_Mo_readLengths_60 (by decide) (fun q15 => ?_) (fun q15 => ?_)
            · rw [if_neg q15] at hf
              refine ax_iload O d_Mo_readLengths_73 0 rfl ?_
              refine ax_bipush (v := 17) O d_Mo_readLengths_75 (by decide) ?_
              refine ax_icmp_ne (tgt := 90) O d_Mo_readLengths_77 (by decide) (fun q16 => ?_) (fun q16 => ?_)
              · rw [if_neg q16] at hf
                refine ax_bipush (v := 11) O d_Mo_readLengths_90 (by decide) ?_
                refine ax_aload_n O d_Mo_readLengths_92 rfl 1 rfl ?_
                refine ax_bipush (v := 7) O d_Mo_readLengths_93 (by decide) ?_
                obtain ⟨fh19, ch19, hf⟩ := mis_some hf
                obtain ⟨v18, h19, mh19, hf⟩ := mcl_some hf
                refine ax_callV (As := [.int 7]) (rest := [.int 11]) O cw_Mo_number (q := (R_Mo, T_Mo, 31)) rfl rfl in_Mo_number se_Mo_number lk_Mo_127 ch19 (c_Mo_number mh19) rfl ⟨rfl, rfl⟩ (by decide) (by decide) (Nat.le_of_ble_eq_true rfl) d_Mo_readLengths_95 ?_
                refine ax_iadd O d_Mo_readLengths_98 ?_
                refine ax_sub [1, 2, 3, 4, 5, 0] rfl ?_
                exact cb_Mo_readLengths_B99 O (f_Mo_readLengths_L10 n0 n) _ _ hE ih n0 _ _ _ _ _ _ _ _ hf
              · rw [if_pos q16] at hf
                refine ax_iconst (v := 3) O d_Mo_readLengths_80 (by decide) ?_
                refine ax_aload_n O d_Mo_readLengths_81 rfl 1 rfl ?_
                refine ax_iconst (v := 3) O d_Mo_readLengths_82 (by decide) ?_
                obtain ⟨fh45, ch45, hf⟩ := mis_some hf
                obtain ⟨v44, h45, mh45, hf⟩ := mcl_some hf
                refine ax_callV (As := [.int 3]) (rest := [.int 3]) O cw_Mo_number (q := (R_Mo, T_Mo, 31)) rfl rfl in_Mo_number se_Mo_number lk_Mo_127 ch45 (c_Mo_number mh45) rfl ⟨rfl, rfl⟩ (by decide) (by decide) (Nat.le_of_ble_eq_true rfl) d_Mo_readLengths_83 ?_
                refine ax_iadd O d_Mo_readLengths_86 ?_
                refine ax_goto (tgt := 99) O d_Mo_readLengths_87 (by decide) ?_
                refine ax_sub [1, 2, 3, 4, 5, 0] rfl ?_
                exact cb_Mo_readLengths_B99 O (f_Mo_readLengths_L10 n0 n) _ _ hE ih n0 _ _ _ _ _ _ _ _ hf
            · rw [if_pos q15] at hf
              refine ax_iconst (v := 3) O d_Mo_readLengths_63 (by decide) ?_
              refine ax_aload_n O d_Mo_readLengths_64 rfl 1 rfl ?_
              refine ax_iconst (v := 2) O d_Mo_readLengths_65 (by decide) ?_
              obtain ⟨fh48, ch48, hf⟩ := mis_some hf
              obtain ⟨v47, h48, mh48, hf⟩ := mcl_some hf
              refine ax_callV (As := [.int 2]) (rest := [.int 3]) O cw_Mo_number (q := (R_Mo, T_Mo, 31)) rfl rfl in_Mo_number se_Mo_number lk_Mo_127 ch48 (c_Mo_number mh48) rfl ⟨rfl, rfl⟩ (by decide) (by decide) (Nat.le_of_ble_eq_true rfl) d_Mo_readLengths_66 ?_
              refine ax_iadd O d_Mo_readLengths_69 ?_
              refine ax_goto (tgt := 99) O d_Mo_readLengths_70 (by decide) ?_
              refine ax_sub [1, 2, 3, 4, 5, 0] rfl ?_
              exact cb_Mo_readLengths_B99 O (f_Mo_readLengths_L10 n0 n) _ _ hE ih n0 _ _ _ _ _ _ _ _ hf
          · rw [if_neg q14] at hf
            refine ax_iconst (v := 1) O d_Mo_readLengths_52 (by decide) ?_
            refine ax_goto (tgt := 99) O d_Mo_readLengths_53 (by decide) ?_
            refine ax_sub [1, 2, 3, 4, 5, 0] rfl ?_
            exact cb_Mo_readLengths_B99 O (f_Mo_readLengths_L10 n0 n) _ _ hE ih n0 _ _ _ _ _ _ _ _ hf
        · rw [if_pos q13] at hf
          refine ax_iconst (v := 0) O d_Mo_readLengths_41 (by decide) ?_
          refine ax_goto (tgt := 99) O d_Mo_readLengths_42 (by decide) ?_
          refine ax_sub [1, 2, 3, 4, 5, 0] rfl ?_
          exact cb_Mo_readLengths_B99 O (f_Mo_readLengths_L10 n0 n) _ _ hE ih n0 _ _ _ _ _ _ _ _ hf
set_option maxHeartbeats 4000000 in
set_option maxRecDepth 100000 in
theorem cb_Mo_readLengths {X : mX} {ad : Nat → Nat} {ln : Launch} (O : mO X ad R_Mo b_Mo_readLengths 10 (mR 4 88) ln) (r' : Unit) (h' : mH) (hE : mEnd X ad none none h') (n0 : Nat) (h0 : mH) (a0 : Nat) (x1 : Int32) (x2 : Int32) (hf : f_Mo_readLengths n0 h0 a0 x1 x2 = some (r', h')) : mAW X ad 0 0 0 [(0, .ref a0), (1, .int x1), (2, .int x2)] [] h0 := by
  unfold f_Mo_readLengths at hf
  refine ax_iload_n O d_Mo_readLengths_0 rfl 1 rfl ?_
  refine ax_iload_n O d_Mo_readLengths_1 rfl 2 rfl ?_
  refine ax_iadd O d_Mo_readLengths_2 ?_
  obtain ⟨v1, ev1, hf⟩ := mnm_some hf
  refine ax_nmi ev1 ?_
  refine ax_istore_n (lv' := [(3, .int v1), (0, .ref a0), (1, .int x1), (2, .int x2)]) O d_Mo_readLengths_3 rfl (by decide) rfl ?_
  refine ax_iconst (v := 0) O d_Mo_readLengths_4 (by decide) ?_
  refine ax_istore (lv' := [(4, .int 0), (3, .int v1), (0, .ref a0), (1, .int x1), (2, .int x2)]) O d_Mo_readLengths_5 (by decide) rfl ?_
  refine ax_iconst (v := (-1)) O d_Mo_readLengths_7 (by decide) ?_
  refine ax_istore (lv' := [(5, .int (-1)), (4, .int 0), (3, .int v1), (0, .ref a0), (1, .int x1), (2, .int x2)]) O d_Mo_readLengths_8 (by decide) rfl ?_
  refine ax_sub [3, 4, 2, 1, 0] rfl ?_
  exact cb_Mo_readLengths_L10 O _ _ hE n0 n0 _ _ _ _ _ _ hf
theorem c_Mo_readLengths {ln : Launch} {n0 : Nat} {h0 h' : mH} {a0 : Nat} {x1 : Int32} {x2 : Int32} {r' : Unit} (hf : f_Mo_readLengths n0 h0 a0 x1 x2 = some (r', h')) : mMet ln y_Mo_readLengths b_Mo_readLengths 10 none (mR 4 88) [.ref a0, .int x1, .int x2] h0 none h' := mMet_of (by decide +kernel) (Nat.le_of_ble_eq_true rfl) (fun X ad O hE => cb_Mo_readLengths O r' h' hE n0 h0 a0 x1 x2 hf)
