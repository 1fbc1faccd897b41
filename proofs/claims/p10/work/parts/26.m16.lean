/-! ===== StreamFilters$Flate.unpackCodes(LStreamFilters$Pass;LStreamFilters$Codes;LStreamFilters$Codes;)Z ===== -/
theorem d_Fl_unpackCodes_0 : decode b_Fl_unpackCodes 0 = .ok (.iconst 0, 1) := by decide +kernel
theorem d_Fl_unpackCodes_1 : decode b_Fl_unpackCodes 1 = .ok (.istore_n 3, 1) := by decide +kernel
theorem d_Fl_unpackCodes_2 : decode b_Fl_unpackCodes 2 = .ok (.iload_n 3, 1) := by decide +kernel
theorem d_Fl_unpackCodes_3 : decode b_Fl_unpackCodes 3 = .ok (.ldc 47, 2) := by decide +kernel
theorem d_Fl_unpackCodes_5 : decode b_Fl_unpackCodes 5 = .ok (.if_icmp .ge 67, 3) := by decide +kernel
theorem d_Fl_unpackCodes_8 : decode b_Fl_unpackCodes 8 = .ok (.aload_n 1, 1) := by decide +kernel
theorem d_Fl_unpackCodes_9 : decode b_Fl_unpackCodes 9 = .ok (.aload_n 0, 1) := by decide +kernel
theorem d_Fl_unpackCodes_10 : decode b_Fl_unpackCodes 10 = .ok (.invokevirtual 98, 3) := by decide +kernel
theorem d_Fl_unpackCodes_13 : decode b_Fl_unpackCodes 13 = .ok (.istore 4, 2) := by decide +kernel
theorem d_Fl_unpackCodes_15 : decode b_Fl_unpackCodes 15 = .ok (.iload 4, 2) := by decide +kernel
theorem d_Fl_unpackCodes_17 : decode b_Fl_unpackCodes 17 = .ok (.iconst (-1), 1) := by decide +kernel
theorem d_Fl_unpackCodes_18 : decode b_Fl_unpackCodes 18 = .ok (.if_icmp .ne 5, 3) := by decide +kernel
theorem d_Fl_unpackCodes_21 : decode b_Fl_unpackCodes 21 = .ok (.iconst 0, 1) := by decide +kernel
theorem d_Fl_unpackCodes_22 : decode b_Fl_unpackCodes 22 = .ok (.ireturn, 1) := by decide +kernel
theorem d_Fl_unpackCodes_23 : decode b_Fl_unpackCodes 23 = .ok (.iload 4, 2) := by decide +kernel
theorem d_Fl_unpackCodes_25 : decode b_Fl_unpackCodes 25 = .ok (.sipush 256, 3) := by decide +kernel
theorem d_Fl_unpackCodes_28 : decode b_Fl_unpackCodes 28 = .ok (.if_icmp .ne 5, 3) := by decide +kernel
theorem d_Fl_unpackCodes_31 : decode b_Fl_unpackCodes 31 = .ok (.iconst 1, 1) := by decide +kernel
theorem d_Fl_unpackCodes_32 : decode b_Fl_unpackCodes 32 = .ok (.ireturn, 1) := by decide +kernel
theorem d_Fl_unpackCodes_33 : decode b_Fl_unpackCodes 33 = .ok (.iload 4, 2) := by decide +kernel
theorem d_Fl_unpackCodes_35 : decode b_Fl_unpackCodes 35 = .ok (.sipush 256, 3) := by decide +kernel
theorem d_Fl_unpackCodes_38 : decode b_Fl_unpackCodes 38 = .ok (.if_icmp .ge 12, 3) := by decide +kernel
theorem d_Fl_unpackCodes_41 : decode b_Fl_unpackCodes 41 = .ok (.aload_n 0, 1) := by decide +kernel
theorem d_Fl_unpackCodes_42 : decode b_Fl_unpackCodes 42 = .ok (.iload 4, 2) := by decide +kernel
theorem d_Fl_unpackCodes_44 : decode b_Fl_unpackCodes 44 = .ok (.invokevirtual 105, 3) := by decide +kernel
theorem d_Fl_unpackCodes_47 : decode b_Fl_unpackCodes 47 = .ok (.goto 10, 3) := by decide +kernel
theorem d_Fl_unpackCodes_50 : decode b_Fl_unpackCodes 50 = .ok (.aload_n 0, 1) := by decide +kernel
theorem d_Fl_unpackCodes_51 : decode b_Fl_unpackCodes 51 = .ok (.iload 4, 2) := by decide +kernel
theorem d_Fl_unpackCodes_53 : decode b_Fl_unpackCodes 53 = .ok (.aload_n 2, 1) := by decide +kernel
theorem d_Fl_unpackCodes_54 : decode b_Fl_unpackCodes 54 = .ok (.invokestatic 108, 3) := by decide +kernel
theorem d_Fl_unpackCodes_57 : decode b_Fl_unpackCodes 57 = .ok (.istore 5, 2) := by decide +kernel
theorem d_Fl_unpackCodes_59 : decode b_Fl_unpackCodes 59 = .ok (.iload 5, 2) := by decide +kernel
theorem d_Fl_unpackCodes_61 : decode b_Fl_unpackCodes 61 = .ok (.ifCond .ne 5, 3) := by decide +kernel
theorem d_Fl_unpackCodes_64 : decode b_Fl_unpackCodes 64 = .ok (.iconst 0, 1) := by decide +kernel
theorem d_Fl_unpackCodes_65 : decode b_Fl_unpackCodes 65 = .ok (.ireturn, 1) := by decide +kernel
theorem d_Fl_unpackCodes_66 : decode b_Fl_unpackCodes 66 = .ok (.iinc 3 1, 3) := by decide +kernel
theorem d_Fl_unpackCodes_69 : decode b_Fl_unpackCodes 69 = .ok (.goto (-67), 3) := by decide +kernel
theorem d_Fl_unpackCodes_72 : decode b_Fl_unpackCodes 72 = .ok (.iconst 0, 1) := by decide +kernel
theorem d_Fl_unpackCodes_73 : decode b_Fl_unpackCodes 73 = .ok (.ireturn, 1) := by decide +kernel
noncomputable def f_Fl_unpackCodes_B57 (K2 : mH → Nat → Nat → Nat → Int32 → Option (Int32 × mH)) (n0 : Nat) (h0 : mH) (a0 : Nat) (a1 : Nat) (a2 : Nat) (x3 : Int32) (p0 : Int32) : Option (Int32 × mH) :=
  if p0 = 0 then
    some (0, h0)
  else
    mnm (x3 + 1) fun v12 =>
    K2 h0 a0 a1 a2 v12
noncomputable def f_Fl_unpackCodes_L2  (n0 : Nat) : Nat → mH → Nat → Nat → Nat → Int32 → Option (Int32 × mH)
  | 0, _, _, _, _, _ => none
  | n + 1, h0, a0, a1, a2, x3 =>
    if 1000000 ≤ x3 then
      some (0, h0)
    else
      mis h0 a1 2 <|
      mcl (f_Co_read n0 h0 a1 a0) fun v3 h4 =>
      if v3 = (-1) then
        some (0, h4)
      else
        if v3 = 256 then
          some (1, h4)
        else
          if 256 ≤ v3 then
            mcl (f_Fl_copy n0 h4 a0 v3 a2) fun v9 h10 =>
            f_Fl_unpackCodes_B57 (f_Fl_unpackCodes_L2 n0 n) n0 h10 a0 a1 a2 x3 v9
          else
            mis h4 a0 8 <|
            mcl (f_Pa_give n0 h4 a0 v3) fun v14 h15 =>
            f_Fl_unpackCodes_B57 (f_Fl_unpackCodes_L2 n0 n) n0 h15 a0 a1 a2 x3 v14
noncomputable def f_Fl_unpackCodes  (n0 : Nat) (h0 : mH) (a0 : Nat) (a1 : Nat) (a2 : Nat) : Option (Int32 × mH) :=
  f_Fl_unpackCodes_L2 n0 n0 h0 a0 a1 a2 0
set_option maxHeartbeats 4000000 in
set_option maxRecDepth 100000 in
theorem cb_Fl_unpackCodes_B57 {X : mX} {ad : Nat → Nat} {ln : Launch} (O : mO X ad R_Fl b_Fl_unpackCodes 6 (mR 5 117) ln) (K2 : mH → Nat → Nat → Nat → Int32 → Option (Int32 × mH)) (r' : Int32) (h' : mH) (hE : mEnd X ad (some .boolean) (some (.int r')) h') (hK2 : ∀ (h : mH) (a0 : Nat) (a1 : Nat) (a2 : Nat) (x3 : Int32), K2 h a0 a1 a2 x3 = some (r', h') → mAW X ad 0 0 2 [(0, .ref a0), (1, .ref a1), (2, .ref a2), (3, .int x3)] [] h) (n0 : Nat) (h0 : mH) (a0 : Nat) (a1 : Nat) (a2 : Nat) (x3 : Int32) (p0 : Int32) (hf : f_Fl_unpackCodes_B57 K2 n0 h0 a0 a1 a2 x3 p0 = some (r', h')) : mAW X ad 0 0 57 [(0, .ref a0), (1, .ref a1), (2, .ref a2), (3, .int x3)] [.int p0] h0 := by
  unfold f_Fl_unpackCodes_B57 at hf
  refine ax_istore (lv' := [(5, .int p0), (0, .ref a0), (1, .ref a1), (2, .ref a2), (3, .int x3)]) O d_Fl_unpackCodes_57 (by decide) rfl ?_
  refine ax_iload O d_Fl_unpackCodes_59 0 rfl ?_
  refine ax_if_ne (tgt := 66) O d_Fl_unpackCodes_61 (by decide) (fun q11 => ?_) (fun q11 => ?_)
  · rw [if_neg q11] at hf
    obtain ⟨v12, ev12, hf⟩ := mnm_some hf
    refine ax_iinc (j := 4) (v := v12) (lv' := [(3, .int v12), (5, .int p0), (0, .ref a0), (1, .ref a1), (2, .ref a2)]) O d_Fl_unpackCodes_66 rfl (by rw [ev12]; rfl) (by decide) rfl ?_
    refine ax_goto (tgt := 2) O d_Fl_unpackCodes_69 (by decide) ?_
    refine ax_sub [2, 3, 4, 0] rfl ?_
    exact hK2 _ _ _ _ _ hf
  · rw [if_pos q11] at hf
    refine ax_iconst (v := 0) O d_Fl_unpackCodes_64 (by decide) ?_
    exact ax_retE O hE hf rfl d_Fl_unpackCodes_65
set_option maxHeartbeats 4000000 in
set_option maxRecDepth 100000 in
theorem cb_Fl_unpackCodes_L2 {X : mX} {ad : Nat → Nat} {ln : Launch} (O : mO X ad R_Fl b_Fl_unpackCodes 6 (mR 5 117) ln) (r' : Int32) (h' : mH) (hE : mEnd X ad (some .boolean) (some (.int r')) h') (n0 : Nat) : ∀ (n : Nat) (h0 : mH) (a0 : Nat) (a1 : Nat) (a2 : Nat) (x3 : Int32), f_Fl_unpackCodes_L2 n0 n h0 a0 a1 a2 x3 = some (r', h') → mAW X ad 0 0 2 [(0, .ref a0), (1, .ref a1), (2, .ref a2), (3, .int x3)] [] h0 := by
  intro n
  induction n with
  | zero =>
    intro h0 a0 a1 a2 x3 hf
    rw [f_Fl_unpackCodes_L2.eq_1] at hf
    cases hf
  | succ n ih =>
    intro h0 a0 a1 a2 x3 hf
    rw [f_Fl_unpackCodes_L2.eq_2] at hf
    refine ax_iload_n O d_Fl_unpackCodes_2 rfl 3 rfl ?_
    refine ax_ldc (v := 1000000) O d_Fl_unpackCodes_3 wd_24 ?_
    refine ax_icmp_ge (tgt := 72) O d_Fl_unpackCodes_5 (by decide) (fun q1 => ?_) (fun q1 => ?_)
    · rw [if_pos q1] at hf
      refine ax_iconst (v := 0) O d_Fl_unpackCodes_72 (by decide) ?_
      exact ax_retE O hE hf rfl d_Fl_unpackCodes_73
    · rw [if_neg q1] at hf
      refine ax_aload_n O d_Fl_unpackCodes_8 rfl 1 rfl ?_
      refine ax_aload_n O d_Fl_unpackCodes_9 rfl 0 rfl ?_
      obtain ⟨fh4, ch4, hf⟩ := mis_some hf
      obtain ⟨v3, h4, mh4, hf⟩ := mcl_some hf
      refine ax_callV (As := [.ref a0]) (rest := []) O cw_Co_read (q := (R_Co, T_Co, 5)) rfl rfl in_Co_read se_Co_read lk_Fl_98 ch4 (c_Co_read mh4) rfl ⟨rfl, rfl⟩ (by decide) (by decide) (Nat.le_of_ble_eq_true rfl) d_Fl_unpackCodes_10 ?_
      refine ax_istore (lv' := [(4, .int v3), (0, .ref a0), (1, .ref a1), (2, .ref a2), (3, .int x3)]) O d_Fl_unpackCodes_13 (by decide) rfl ?_
      refine ax_iload O d_Fl_unpackCodes_15 0 rfl ?_
      refine ax_iconst (v := (-1)) O d_Fl_unpackCodes_17 (by decide) ?_
      refine ax_icmp_ne (tgt := 23) O d_Fl_unpackCodes_18 (by decide) (fun q5 => ?_) (fun q5 => ?_)
      · rw [if_neg q5] at hf
        refine ax_iload O d_Fl_unpackCodes_23 0 rfl ?_
        refine ax_sipush (v := 256) O d_Fl_unpackCodes_25 (by decide) ?_
        refine ax_icmp_ne (tgt := 33) O d_Fl_unpackCodes_28 (by decide) (fun q6 => ?_) (fun q6 => ?_)
        · rw [if_neg q6] at hf
          refine ax_iload O d_Fl_unpackCodes_33 0 rfl ?_
          refine ax_sipush (v := 256) O d_Fl_unpackCodes_35 (by decide) ?_
          refine ax_icmp_ge (tgt := 50) O d_Fl_unpackCodes_38 (by decide) (fun q7 => ?_) (fun q7 => ?_)
          · rw [if_pos q7] at hf
            refine ax_aload_n O d_Fl_unpackCodes_50 rfl 1 rfl ?_
            refine ax_iload O d_Fl_unpackCodes_51 0 rfl ?_
            refine ax_aload_n O d_Fl_unpackCodes_53 rfl 3 rfl ?_
            obtain ⟨v9, h10, mh10, hf⟩ := mcl_some hf
            refine ax_callS (As := [.ref a0, .int v3, .ref a2]) (rest := []) O cw_Fl_copy st_Fl_copy lk_Fl_108 (c_Fl_copy mh10) rfl ⟨rfl, rfl⟩ (by decide) (by decide) (Nat.le_of_ble_eq_true rfl) d_Fl_unpackCodes_54 ?_
            refine ax_sub [1, 2, 3, 4] rfl ?_
            exact cb_Fl_unpackCodes_B57 O (f_Fl_unpackCodes_L2 n0 n) _ _ hE ih n0 _ _ _ _ _ _ hf
          · rw [if_neg q7] at hf
            refine ax_aload_n O d_Fl_unpackCodes_41 rfl 1 rfl ?_
            refine ax_iload O d_Fl_unpackCodes_42 0 rfl ?_
            obtain ⟨fh15, ch15, hf⟩ := mis_some hf
            obtain ⟨v14, h15, mh15, hf⟩ := mcl_some hf
            refine ax_callV (As := [.int v3]) (rest := []) O cw_Pa_give (q := (R_Pa, T_Pa, 7)) rfl rfl in_Pa_give se_Pa_give lk_Fl_105 ch15 (c_Pa_give mh15) rfl ⟨rfl, rfl⟩ (by decide) (by decide) (Nat.le_of_ble_eq_true rfl) d_Fl_unpackCodes_44 ?_
            refine ax_goto (tgt := 57) O d_Fl_unpackCodes_47 (by decide) ?_
            refine ax_sub [1, 2, 3, 4] rfl ?_
            exact cb_Fl_unpackCodes_B57 O (f_Fl_unpackCodes_L2 n0 n) _ _ hE ih n0 _ _ _ _ _ _ hf
        · rw [if_pos q6] at hf
          refine ax_iconst (v := 1) O d_Fl_unpackCodes_31 (by decide) ?_
          exact ax_retE O hE hf rfl d_Fl_unpackCodes_32
      · rw [if_pos q5] at hf
        refine ax_iconst (v := 0) O d_Fl_unpackCodes_21 (by decide) ?_
        exact ax_retE O hE hf rfl d_Fl_unpackCodes_22
set_option maxHeartbeats 4000000 in
set_option maxRecDepth 100000 in
theorem cb_Fl_unpackCodes {X : mX} {ad : Nat → Nat} {ln : Launch} (O : mO X ad R_Fl b_Fl_unpackCodes 6 (mR 5 117) ln) (r' : Int32) (h' : mH) (hE : mEnd X ad (some .boolean) (some (.int r')) h') (n0 : Nat) (h0 : mH) (a0 : Nat) (a1 : Nat) (a2 : Nat) (hf : f_Fl_unpackCodes n0 h0 a0 a1 a2 = some (r', h')) : mAW X ad 0 0 0 [(0, .ref a0), (1, .ref a1), (2, .ref a2)] [] h0 := by
  unfold f_Fl_unpackCodes at hf
  refine ax_iconst (v := 0) O d_Fl_unpackCodes_0 (by decide) ?_
  refine ax_istore_n (lv' := [(3, .int 0), (0, .ref a0), (1, .ref a1), (2, .ref a2)]) O d_Fl_unpackCodes_1 rfl (by decide) rfl ?_
  refine ax_sub [1, 2, 3, 0] rfl ?_
  exact cb_Fl_unpackCodes_L2 O _ _ hE n0 n0 _ _ _ _ _ hf
theorem c_Fl_unpackCodes {ln : Launch} {n0 : Nat} {h0 h' : mH} {a0 : Nat} {a1 : Nat} {a2 : Nat} {r' : Int32} (hf : f_Fl_unpackCodes n0 h0 a0 a1 a2 = some (r', h')) : mMet ln y_Fl_unpackCodes b_Fl_unpackCodes 6 (some .boolean) (mR 5 117) [.ref a0, .ref a1, .ref a2] h0 (some (.int r')) h' := mMet_of (by decide +kernel) (Nat.le_of_ble_eq_true rfl) (fun X ad O hE => cb_Fl_unpackCodes O r' h' hE n0 h0 a0 a1 a2 hf)
/-! ===== StreamFilters$Flate.readLengthCodes(LStreamFilters$Pass;I)Z ===== -/
theorem d_Fl_readLengthCodes_0 : decode b_Fl_readLengthCodes 0 = .ok (.iconst 0, 1) := by decide +kernel
theorem d_Fl_readLengthCodes_1 : decode b_Fl_readLengthCodes 1 = .ok (.istore_n 3, 1) := by decide +kernel
theorem d_Fl_readLengthCodes_2 : decode b_Fl_readLengthCodes 2 = .ok (.iload_n 3, 1) := by decide +kernel
theorem d_Fl_readLengthCodes_3 : decode b_Fl_readLengthCodes 3 = .ok (.getstatic 29, 3) := by decide +kernel
theorem d_Fl_readLengthCodes_6 : decode b_Fl_readLengthCodes 6 = .ok (.arraylength, 1) := by decide +kernel
theorem d_Fl_readLengthCodes_7 : decode b_Fl_readLengthCodes 7 = .ok (.if_icmp .ge 45, 3) := by decide +kernel
theorem d_Fl_readLengthCodes_10 : decode b_Fl_readLengthCodes 10 = .ok (.iload_n 3, 1) := by decide +kernel
theorem d_Fl_readLengthCodes_11 : decode b_Fl_readLengthCodes 11 = .ok (.iload_n 2, 1) := by decide +kernel
theorem d_Fl_readLengthCodes_12 : decode b_Fl_readLengthCodes 12 = .ok (.if_icmp .ge 11, 3) := by decide +kernel
theorem d_Fl_readLengthCodes_15 : decode b_Fl_readLengthCodes 15 = .ok (.aload_n 1, 1) := by decide +kernel
theorem d_Fl_readLengthCodes_16 : decode b_Fl_readLengthCodes 16 = .ok (.iconst 3, 1) := by decide +kernel
theorem d_Fl_readLengthCodes_17 : decode b_Fl_readLengthCodes 17 = .ok (.invokevirtual 48, 3) := by decide +kernel
theorem d_Fl_readLengthCodes_20 : decode b_Fl_readLengthCodes 20 = .ok (.goto 4, 3) := by decide +kernel
theorem d_Fl_readLengthCodes_23 : decode b_Fl_readLengthCodes 23 = .ok (.iconst 0, 1) := by decide +kernel
theorem d_Fl_readLengthCodes_24 : decode b_Fl_readLengthCodes 24 = .ok (.istore 4, 2) := by decide +kernel
theorem d_Fl_readLengthCodes_26 : decode b_Fl_readLengthCodes 26 = .ok (.iload 4, 2) := by decide +kernel
theorem d_Fl_readLengthCodes_28 : decode b_Fl_readLengthCodes 28 = .ok (.iconst (-1), 1) := by decide +kernel
theorem d_Fl_readLengthCodes_29 : decode b_Fl_readLengthCodes 29 = .ok (.if_icmp .ne 5, 3) := by decide +kernel
theorem d_Fl_readLengthCodes_32 : decode b_Fl_readLengthCodes 32 = .ok (.iconst 0, 1) := by decide +kernel
theorem d_Fl_readLengthCodes_33 : decode b_Fl_readLengthCodes 33 = .ok (.ireturn, 1) := by decide +kernel
theorem d_Fl_readLengthCodes_34 : decode b_Fl_readLengthCodes 34 = .ok (.aload_n 0, 1) := by decide +kernel
theorem d_Fl_readLengthCodes_35 : decode b_Fl_readLengthCodes 35 = .ok (.getfield 36, 3) := by decide +kernel
theorem d_Fl_readLengthCodes_38 : decode b_Fl_readLengthCodes 38 = .ok (.getstatic 29, 3) := by decide +kernel
theorem d_Fl_readLengthCodes_41 : decode b_Fl_readLengthCodes 41 = .ok (.iload_n 3, 1) := by decide +kernel
theorem d_Fl_readLengthCodes_42 : decode b_Fl_readLengthCodes 42 = .ok (.iaload, 1) := by decide +kernel
theorem d_Fl_readLengthCodes_43 : decode b_Fl_readLengthCodes 43 = .ok (.iload 4, 2) := by decide +kernel
theorem d_Fl_readLengthCodes_45 : decode b_Fl_readLengthCodes 45 = .ok (.iastore, 1) := by decide +kernel
theorem d_Fl_readLengthCodes_46 : decode b_Fl_readLengthCodes 46 = .ok (.iinc 3 1, 3) := by decide +kernel
theorem d_Fl_readLengthCodes_49 : decode b_Fl_readLengthCodes 49 = .ok (.goto (-47), 3) := by decide +kernel
theorem d_Fl_readLengthCodes_52 : decode b_Fl_readLengthCodes 52 = .ok (.aload_n 0, 1) := by decide +kernel
theorem d_Fl_readLengthCodes_53 : decode b_Fl_readLengthCodes 53 = .ok (.getfield 33, 3) := by decide +kernel
theorem d_Fl_readLengthCodes_56 : decode b_Fl_readLengthCodes 56 = .ok (.aload_n 0, 1) := by decide +kernel
theorem d_Fl_readLengthCodes_57 : decode b_Fl_readLengthCodes 57 = .ok (.getfield 36, 3) := by decide +kernel
theorem d_Fl_readLengthCodes_60 : decode b_Fl_readLengthCodes 60 = .ok (.iconst 0, 1) := by decide +kernel
theorem d_Fl_readLengthCodes_61 : decode b_Fl_readLengthCodes 61 = .ok (.getstatic 29, 3) := by decide +kernel
theorem d_Fl_readLengthCodes_64 : decode b_Fl_readLengthCodes 64 = .ok (.arraylength, 1) := by decide +kernel
theorem d_Fl_readLengthCodes_65 : decode b_Fl_readLengthCodes 65 = .ok (.invokevirtual 39, 3) := by decide +kernel
theorem d_Fl_readLengthCodes_68 : decode b_Fl_readLengthCodes 68 = .ok (.aload_n 0, 1) := by decide +kernel
theorem d_Fl_readLengthCodes_69 : decode b_Fl_readLengthCodes 69 = .ok (.getfield 33, 3) := by decide +kernel
theorem d_Fl_readLengthCodes_72 : decode b_Fl_readLengthCodes 72 = .ok (.invokevirtual 91, 3) := by decide +kernel
theorem d_Fl_readLengthCodes_75 : decode b_Fl_readLengthCodes 75 = .ok (.ifCond .ne 12, 3) := by decide +kernel
theorem d_Fl_readLengthCodes_78 : decode b_Fl_readLengthCodes 78 = .ok (.aload_n 1, 1) := by decide +kernel
theorem d_Fl_readLengthCodes_79 : decode b_Fl_readLengthCodes 79 = .ok (.bipush 6, 2) := by decide +kernel
theorem d_Fl_readLengthCodes_81 : decode b_Fl_readLengthCodes 81 = .ok (.invokevirtual 64, 3) := by decide +kernel
theorem d_Fl_readLengthCodes_84 : decode b_Fl_readLengthCodes 84 = .ok (.ifCond .eq 7, 3) := by decide +kernel
theorem d_Fl_readLengthCodes_87 : decode b_Fl_readLengthCodes 87 = .ok (.iconst 1, 1) := by decide +kernel
theorem d_Fl_readLengthCodes_88 : decode b_Fl_readLengthCodes 88 = .ok (.goto 4, 3) := by decide +kernel
theorem d_Fl_readLengthCodes_91 : decode b_Fl_readLengthCodes 91 = .ok (.iconst 0, 1) := by decide +kernel
theorem d_Fl_readLengthCodes_92 : decode b_Fl_readLengthCodes 92 = .ok (.ireturn, 1) := by decide +kernel
noncomputable def f_Fl_readLengthCodes_B24 (K2 : mH → Nat → Nat → Int32 → Int32 → Option (Int32 × mH)) (n0 : Nat) (h0 : mH) (a0 : Nat) (a1 : Nat) (x2 : Int32) (x3 : Int32) (p0 : Int32) : Option (Int32 × mH) :=
  if p0 = (-1) then
    some (0, h0)
  else
    mgr h0 a0 3 5 fun r21 =>
    msl mS0 19 x3 fun v22 =>
    mas h0 r21 .int v22 p0 fun h23 =>
    mnm (x3 + 1) fun v24 =>
    K2 h23 a0 a1 x2 v24
noncomputable def f_Fl_readLengthCodes_L2  (n0 : Nat) : Nat → mH → Nat → Nat → Int32 → Int32 → Option (Int32 × mH)
  | 0, _, _, _, _, _ => none
  | n + 1, h0, a0, a1, x2, x3 =>
    if (nI 19) ≤ x3 then
      mgr h0 a0 3 4 fun r3 =>
      mgr h0 a0 3 5 fun r4 =>
      mis h0 r3 2 <|
      mcl (f_Co_build n0 h0 r3 r4 0 (nI 19)) fun _ h8 =>
      mgr h8 a0 3 4 fun r10 =>
      mis h8 r10 2 <|
      mcl (f_Co_isGood n0 h8 r10) fun v12 h13 =>
      if v12 = 0 then
        mis h13 a1 8 <|
        mcl (f_Pa_fail n0 h13 a1 6) fun v16 h17 =>
        if v16 = 0 then
          some (0, h17)
        else
          some (1, h17)
      else
        some (1, h13)
    else
      if x2 ≤ x3 then
        f_Fl_readLengthCodes_B24 (f_Fl_readLengthCodes_L2 n0 n) n0 h0 a0 a1 x2 x3 0
      else
        mis h0 a1 8 <|
        mcl (f_Pa_lowNumber n0 h0 a1 3) fun v26 h27 =>
        f_Fl_readLengthCodes_B24 (f_Fl_readLengthCodes_L2 n0 n) n0 h27 a0 a1 x2 x3 v26
noncomputable def f_Fl_readLengthCodes  (n0 : Nat) (h0 : mH) (a0 : Nat) (a1 : Nat) (x2 : Int32) : Option (Int32 × mH) :=
  f_Fl_readLengthCodes_L2 n0 n0 h0 a0 a1 x2 0
set_option maxHeartbeats 4000000 in
set_option maxRecDepth 100000 in
theorem cb_Fl_readLengthCodes_B24 {X : mX} {ad : Nat → Nat} {ln : Launch} (O : mO X ad R_Fl b_Fl_readLengthCodes 5 (mR 3 71) ln) (K2 : mH → Nat → Nat → Int32 → Int32 → Option (Int32 × mH)) (r' : Int32) (h' : mH) (hE : mEnd X ad (some .boolean) (some (.int r')) h') (hK2 : ∀ (h : mH) (a0 : Nat) (a1 : Nat) (x2 : Int32) (x3 : Int32), K2 h a0 a1 x2 x3 = some (r', h') → mAW X ad 0 0 2 [(0, .ref a0), (1, .ref a1), (2, .int x2), (3, .int x3)] [] h) (n0 : Nat) (h0 : mH) (a0 : Nat) (a1 : Nat) (x2 : Int32) (x3 : Int32) (p0 : Int32) (hf : f_Fl_readLengthCodes_B24 K2 n0 h0 a0 a1 x2 x3 p0 = some (r', h')) : mAW X ad 0 0 24 [(0, .ref a0), (1, .ref a1), (2, .int x2), (3, .int x3)] [.int p0] h0 := by
  unfold f_Fl_readLengthCodes_B24 at hf
  refine ax_istore (lv' := [(4, .int p0), (0, .ref a0), (1, .ref a1), (2, .int x2), (3, .int x3)]) O d_Fl_readLengthCodes_24 (by decide) rfl ?_
  refine ax_iload O d_Fl_readLengthCodes_26 0 rfl ?_
  refine ax_iconst (v := (-1)) O d_Fl_readLengthCodes_28 (by decide) ?_
  refine ax_icmp_ne (tgt := 34) O d_Fl_readLengthCodes_29 (by decide) (fun q20 => ?_) (fun q20 => ?_)
  · rw [if_neg q20] at hf
    refine ax_aload_n O d_Fl_readLengthCodes_34 rfl 1 rfl ?_
    obtain ⟨fr21, r21, cr21, kr21, hf⟩ := mgr_some hf
    refine ax_get O fg_Fl_36 cr21 kr21 d_Fl_readLengthCodes_35 ?_
    refine ax_gets O 0 rfl wd_25 d_Fl_readLengthCodes_38 ?_
    refine ax_iload_n O d_Fl_readLengthCodes_41 rfl 4 rfl ?_
    obtain ⟨v22, iv22, kv22, hf⟩ := msl_some hf
    refine ax_sti O 0 rfl rfl iv22 kv22 d_Fl_readLengthCodes_42 ?_
    refine ax_iload O d_Fl_readLengthCodes_43 0 rfl ?_
    obtain ⟨nh23, fh23, h23, ch23, ih23, eh23, hf⟩ := mas_some hf
    refine ax_iast O ch23 ih23 eh23 d_Fl_readLengthCodes_45 ?_
    obtain ⟨v24, ev24, hf⟩ := mnm_some hf
    refine ax_iinc (j := 4) (v := v24) (lv' := [(3, .int v24), (4, .int p0), (0, .ref a0), (1, .ref a1), (2, .int x2)]) O d_Fl_readLengthCodes_46 rfl (by rw [ev24]; rfl) (by decide) rfl ?_
    refine ax_goto (tgt := 2) O d_Fl_readLengthCodes_49 (by decide) ?_
    refine ax_sub [2, 3, 4, 0] rfl ?_
    exact hK2 _ _ _ _ _ hf
  · rw [if_pos q20] at hf
    refine ax_iconst (v := 0) O d_Fl_readLengthCodes_32 (by decide) ?_
    exact ax_retE O hE hf rfl d_Fl_readLengthCodes_33
set_option maxHeartbeats 4000000 in
set_option maxRecDepth 100000 in
theorem cb_Fl_readLengthCodes_L2 {X : mX} {ad : Nat → Nat} {ln : Launch} (O : mO X ad R_Fl b_Fl_readLengthCodes 5 (mR 3 71) ln) (r' : Int32) (h' : mH) (hE : mEnd X ad (some .boolean) (some (.int r')) h') (n0 : Nat) : ∀ (n : Nat) (h0 : mH) (a0 : Nat) (a1 : Nat) (x2 : Int32) (x3 : Int32), f_Fl_readLengthCodes_L2 n0 n h0 a0 a1 x2 x3 = some (r', h') → mAW X ad 0 0 2 [(0, .ref a0), (1, .ref a1), (2, .int x2), (3, .int x3)] [] h0 := by
  intro n
  induction n with
  | zero =>
    intro h0 a0 a1 x2 x3 hf
    rw [f_Fl_readLengthCodes_L2.eq_1] at hf
    cases hf
  | succ n ih =>
    intro h0 a0 a1 x2 x3 hf
    rw [f_Fl_readLengthCodes_L2.eq_2] at hf
    refine ax_iload_n O d_Fl_readLengthCodes_2 rfl 3 rfl ?_
    refine ax_gets O 0 rfl wd_25 d_Fl_readLengthCodes_3 ?_
    refine ax_stl O 0 rfl d_Fl_readLengthCodes_6 ?_
    refine ax_icmp_ge (tgt := 52) O d_Fl_readLengthCodes_7 (by decide) (fun q2 => ?_) (fun q2 => ?_)
    · rw [if_pos q2] at hf
      refine ax_aload_n O d_Fl_readLengthCodes_52 rfl 0 rfl ?_
      obtain ⟨fr3, r3, cr3, kr3, hf⟩ := mgr_some hf
      refine ax_get O fg_Fl_33 cr3 kr3 d_Fl_readLengthCodes_53 ?_
      refine ax_aload_n O d_Fl_readLengthCodes_56 rfl 0 rfl ?_
      obtain ⟨fr4, r4, cr4, kr4, hf⟩ := mgr_some hf
      refine ax_get O fg_Fl_36 cr4 kr4 d_Fl_readLengthCodes_57 ?_
      refine ax_iconst (v := 0) O d_Fl_readLengthCodes_60 (by decide) ?_
      refine ax_gets O 0 rfl wd_25 d_Fl_readLengthCodes_61 ?_
      refine ax_stl O 0 rfl d_Fl_readLengthCodes_64 ?_
      obtain ⟨fh8, ch8, hf⟩ := mis_some hf
      obtain ⟨u9, h8, mh8, hf⟩ := mcl_some hf
      refine ax_callV (As := [.ref r4, .int 0, .int (nI 19)]) (rest := []) O cw_Co_build (q := (R_Co, T_Co, 5)) rfl rfl in_Co_build se_Co_build lk_Fl_39 ch8 (c_Co_build mh8) rfl ⟨rfl, rfl⟩ (by decide) (by decide) (Nat.le_of_ble_eq_true rfl) d_Fl_readLengthCodes_65 ?_
      refine ax_aload_n O d_Fl_readLengthCodes_68 rfl 0 rfl ?_
      obtain ⟨fr10, r10, cr10, kr10, hf⟩ := mgr_some hf
      refine ax_get O fg_Fl_33 cr10 kr10 d_Fl_readLengthCodes_69 ?_
      obtain ⟨fh13, ch13, hf⟩ := mis_some hf
      obtain ⟨v12, h13, mh13, hf⟩ := mcl_some hf
      refine ax_callV (As := []) (rest := []) O cw_Co_isGood (q := (R_Co, T_Co, 5)) rfl rfl in_Co_isGood se_Co_isGood lk_Fl_91 ch13 (c_Co_isGood mh13) rfl ⟨rfl, rfl⟩ (by decide) (by decide) (Nat.le_of_ble_eq_true rfl) d_Fl_readLengthCodes_72 ?_
      refine ax_if_ne (tgt := 87) O d_Fl_readLengthCodes_75 (by decide) (fun q14 => ?_) (fun q14 => ?_)
      · rw [if_neg q14] at hf
        refine ax_iconst (v := 1) O d_Fl_readLengthCodes_87 (by decide) ?_
        refine ax_goto (tgt := 92) O d_Fl_readLengthCodes_88 (by decide) ?_
        exact ax_retE O hE hf rfl d_Fl_readLengthCodes_92
      · rw [if_pos q14] at hf
        refine ax_aload_n O d_Fl_readLengthCodes_78 rfl 1 rfl ?_
        refine ax_bipush (v := 6) O d_Fl_readLengthCodes_79 (by decide) ?_
        obtain ⟨fh17, ch17, hf⟩ := mis_some hf
        obtain ⟨v16, h17, mh17, hf⟩ := mcl_some hf
        refine ax_callV (As := [.int 6]) (rest := []) O cw_Pa_fail (q := (R_Pa, T_Pa, 7)) rfl rfl in_Pa_fail se_Pa_fail lk_Fl_64 ch17 (c_Pa_fail mh17) rfl ⟨rfl, rfl⟩ (by decide) (by decide) (Nat.le_of_ble_eq_true rfl) d_Fl_readLengthCodes_81 ?_
        refine ax_if_eq (tgt := 91) O d_Fl_readLengthCodes_84 (by decide) (fun q18 => ?_) (fun q18 => ?_)
        · rw [if_pos q18] at hf
          refine ax_iconst (v := 0) O d_Fl_readLengthCodes_91 (by decide) ?_
          exact ax_retE O hE hf rfl d_Fl_readLengthCodes_92
        · rw [if_neg q18] at hf
          refine ax_iconst (v := 1) O d_Fl_readLengthCodes_87 (by decide) ?_
          refine ax_goto (tgt := 92) O d_Fl_readLengthCodes_88 (by decide) ?_
          exact ax_retE O hE hf rfl d_Fl_readLengthCodes_92
    · rw [if_neg q2] at hf
      refine ax_iload_n O d_Fl_readLengthCodes_10 rfl 3 rfl ?_
      refine ax_iload_n O d_Fl_readLengthCodes_11 rfl 2 rfl ?_
      refine ax_icmp_ge (tgt := 23) O d_Fl_readLengthCodes_12 (by decide) (fun q19 => ?_) (fun q19 => ?_)
      · rw [if_pos q19] at hf
        refine ax_iconst (v := 0) O d_Fl_readLengthCodes_23 (by decide) ?_
        exact cb_Fl_readLengthCodes_B24 O (f_Fl_readLengthCodes_L2 n0 n) _ _ hE ih n0 _ _ _ _ _ _ hf
      · rw [if_neg q19] at hf
        refine ax_aload_n O d_Fl_readLengthCodes_15 rfl 1 rfl ?_
        refine ax_iconst (v := 3) O d_Fl_readLengthCodes_16 (by decide) ?_
        obtain ⟨fh27, ch27, hf⟩ := mis_some hf
        obtain ⟨v26, h27, mh27, hf⟩ := mcl_some hf
        refine ax_callV (As := [.int 3]) (rest := []) O cw_Pa_lowNumber (q := (R_Pa, T_Pa, 7)) rfl rfl in_Pa_lowNumber se_Pa_lowNumber lk_Fl_48 ch27 (c_Pa_lowNumber mh27) rfl ⟨rfl, rfl⟩ (by decide) (by decide) (Nat.le_of_ble_eq_true rfl) d_Fl_readLengthCodes_17 ?_
        refine ax_goto (tgt := 24) O d_Fl_readLengthCodes_20 (by decide) ?_
        exact cb_Fl_readLengthCodes_B24 O (f_Fl_readLengthCodes_L2 n0 n) _ _ hE ih n0 _ _ _ _ _ _ hf
set_option maxHeartbeats 4000000 in
set_option maxRecDepth 100000 in
theorem cb_Fl_readLengthCodes {X : mX} {ad : Nat → Nat} {ln : Launch} (O : mO X ad R_Fl b_Fl_readLengthCodes 5 (mR 3 71) ln) (r' : Int32) (h' : mH) (hE : mEnd X ad (some .boolean) (some (.int r')) h') (n0 : Nat) (h0 : mH) (a0 : Nat) (a1 : Nat) (x2 : Int32) (hf : f_Fl_readLengthCodes n0 h0 a0 a1 x2 = some (r', h')) : mAW X ad 0 0 0 [(0, .ref a0), (1, .ref a1), (2, .int x2)] [] h0 := by
  unfold f_Fl_readLengthCodes at hf
  refine ax_iconst (v := 0) O d_Fl_readLengthCodes_0 (by decide) ?_
  refine ax_istore_n (lv' := [(3, .int 0), (0, .ref a0), (1, .ref a1), (2, .int x2)]) O d_Fl_readLengthCodes_1 rfl (by decide) rfl ?_
  refine ax_sub [1, 2, 3, 0] rfl ?_
  exact cb_Fl_readLengthCodes_L2 O _ _ hE n0 n0 _ _ _ _ _ hf
theorem c_Fl_readLengthCodes {ln : Launch} {n0 : Nat} {h0 h' : mH} {a0 : Nat} {a1 : Nat} {x2 : Int32} {r' : Int32} (hf : f_Fl_readLengthCodes n0 h0 a0 a1 x2 = some (r', h')) : mMet ln y_Fl_readLengthCodes b_Fl_readLengthCodes 5 (some .boolean) (mR 3 71) [.ref a0, .ref a1, .int x2] h0 (some (.int r')) h' := mMet_of (by decide +kernel) (Nat.le_of_ble_eq_true rfl) (fun X ad O hE => cb_Fl_readLengthCodes O r' h' hE n0 h0 a0 a1 x2 hf)
/-! ===== StreamFilters$Flate.readTimes(LStreamFilters$Pass;I)I ===== -/
theorem d_Fl_readTimes_0 : decode b_Fl_readTimes 0 = .ok (.iload_n 1, 1) := by decide +kernel
theorem d_Fl_readTimes_1 : decode b_Fl_readTimes 1 = .ok (.bipush 16, 2) := by decide +kernel
theorem d_Fl_readTimes_3 : decode b_Fl_readTimes 3 = .ok (.if_icmp .ge 5, 3) := by decide +kernel
theorem d_Fl_readTimes_6 : decode b_Fl_readTimes 6 = .ok (.iconst 1, 1) := by decide +kernel
theorem d_Fl_readTimes_7 : decode b_Fl_readTimes 7 = .ok (.ireturn, 1) := by decide +kernel
theorem d_Fl_readTimes_8 : decode b_Fl_readTimes 8 = .ok (.aload_n 0, 1) := by decide +kernel
theorem d_Fl_readTimes_9 : decode b_Fl_readTimes 9 = .ok (.iload_n 1, 1) := by decide +kernel
theorem d_Fl_readTimes_10 : decode b_Fl_readTimes 10 = .ok (.bipush 16, 2) := by decide +kernel
theorem d_Fl_readTimes_12 : decode b_Fl_readTimes 12 = .ok (.if_icmp .ne 7, 3) := by decide +kernel
theorem d_Fl_readTimes_15 : decode b_Fl_readTimes 15 = .ok (.iconst 2, 1) := by decide +kernel
theorem d_Fl_readTimes_16 : decode b_Fl_readTimes 16 = .ok (.goto 15, 3) := by decide +kernel
theorem d_Fl_readTimes_19 : decode b_Fl_readTimes 19 = .ok (.iload_n 1, 1) := by decide +kernel
theorem d_Fl_readTimes_20 : decode b_Fl_readTimes 20 = .ok (.bipush 17, 2) := by decide +kernel
theorem d_Fl_readTimes_22 : decode b_Fl_readTimes 22 = .ok (.if_icmp .ne 7, 3) := by decide +kernel
theorem d_Fl_readTimes_25 : decode b_Fl_readTimes 25 = .ok (.iconst 3, 1) := by decide +kernel
theorem d_Fl_readTimes_26 : decode b_Fl_readTimes 26 = .ok (.goto 5, 3) := by decide +kernel
theorem d_Fl_readTimes_29 : decode b_Fl_readTimes 29 = .ok (.bipush 7, 2) := by decide +kernel
theorem d_Fl_readTimes_31 : decode b_Fl_readTimes 31 = .ok (.invokevirtual 48, 3) := by decide +kernel
theorem d_Fl_readTimes_34 : decode b_Fl_readTimes 34 = .ok (.istore_n 2, 1) := by decide +kernel
theorem d_Fl_readTimes_35 : decode b_Fl_readTimes 35 = .ok (.iload_n 2, 1) := by decide +kernel
theorem d_Fl_readTimes_36 : decode b_Fl_readTimes 36 = .ok (.iconst (-1), 1) := by decide +kernel
theorem d_Fl_readTimes_37 : decode b_Fl_readTimes 37 = .ok (.if_icmp .ne 5, 3) := by decide +kernel
theorem d_Fl_readTimes_40 : decode b_Fl_readTimes 40 = .ok (.iconst (-1), 1) := by decide +kernel
theorem d_Fl_readTimes_41 : decode b_Fl_readTimes 41 = .ok (.ireturn, 1) := by decide +kernel
theorem d_Fl_readTimes_42 : decode b_Fl_readTimes 42 = .ok (.iload_n 2, 1) := by decide +kernel
theorem d_Fl_readTimes_43 : decode b_Fl_readTimes 43 = .ok (.iload_n 1, 1) := by decide +kernel
theorem d_Fl_readTimes_44 : decode b_Fl_readTimes 44 = .ok (.bipush 18, 2) := by decide +kernel
theorem d_Fl_readTimes_46 : decode b_Fl_readTimes 46 = .ok (.if_icmp .ne 8, 3) := by decide +kernel
theorem d_Fl_readTimes_49 : decode b_Fl_readTimes 49 = .ok (.bipush 11, 2) := by decide +kernel
theorem d_Fl_readTimes_51 : decode b_Fl_readTimes 51 = .ok (.goto 4, 3) := by decide +kernel
theorem d_Fl_readTimes_54 : decode b_Fl_readTimes 54 = .ok (.iconst 3, 1) := by decide +kernel
theorem d_Fl_readTimes_55 : decode b_Fl_readTimes 55 = .ok (.iadd, 1) := by decide +kernel
theorem d_Fl_readTimes_56 : decode b_Fl_readTimes 56 = .ok (.ireturn, 1) := by decide +kernel
noncomputable def f_Fl_readTimes_B31  (n0 : Nat) (h0 : mH) (x1 : Int32) (p0 : Int32) (b1 : Nat) : Option (Int32 × mH) :=
  mis h0 b1 8 <|
  mcl (f_Pa_lowNumber n0 h0 b1 p0) fun v5 h6 =>
  if v5 = (-1) then
    some ((-1), h6)
  else
    if x1 = 18 then
      some (v5 + 11, h6)
    else
      some (v5 + 3, h6)
noncomputable def f_Fl_readTimes  (n0 : Nat) (h0 : mH) (a0 : Nat) (x1 : Int32) : Option (Int32 × mH) :=
  if 16 ≤ x1 then
    if x1 = 16 then
      f_Fl_readTimes_B31 n0 h0 x1 2 a0
    else
      if x1 = 17 then
        f_Fl_readTimes_B31 n0 h0 x1 3 a0
      else
        f_Fl_readTimes_B31 n0 h0 x1 7 a0
  else
    some (1, h0)
set_option maxHeartbeats 4000000 in
set_option maxRecDepth 100000 in
theorem cb_Fl_readTimes_B31 {X : mX} {ad : Nat → Nat} {ln : Launch} (O : mO X ad R_Fl b_Fl_readTimes 3 (mR 3 65) ln) (r' : Int32) (h' : mH) (hE : mEnd X ad (some .int) (some (.int r')) h') (n0 : Nat) (h0 : mH) (x1 : Int32) (p0 : Int32) (b1 : Nat) (hf : f_Fl_readTimes_B31 n0 h0 x1 p0 b1 = some (r', h')) : mAW X ad 0 0 31 [(1, .int x1)] [.int p0, .ref b1] h0 := by
  unfold f_Fl_readTimes_B31 at hf
  obtain ⟨fh6, ch6, hf⟩ := mis_some hf
  obtain ⟨v5, h6, mh6, hf⟩ := mcl_some hf
  refine ax_callV (As := [.int p0]) (rest := []) O cw_Pa_lowNumber (q := (R_Pa, T_Pa, 7)) rfl rfl in_Pa_lowNumber se_Pa_lowNumber lk_Fl_48 ch6 (c_Pa_lowNumber mh6) rfl ⟨rfl, rfl⟩ (by decide) (by decide) (Nat.le_of_ble_eq_true rfl) d_Fl_readTimes_31 ?_
  refine ax_istore_n (lv' := [(2, .int v5), (1, .int x1)]) O d_Fl_readTimes_34 rfl (by decide) rfl ?_
  refine ax_iload_n O d_Fl_readTimes_35 rfl 0 rfl ?_
  refine ax_iconst (v := (-1)) O d_Fl_readTimes_36 (by decide) ?_
  refine ax_icmp_ne (tgt := 42) O d_Fl_readTimes_37 (by decide) (fun q7 => ?_) (fun q7 => ?_)
  · rw [if_neg q7] at hf
    refine ax_iload_n O d_Fl_readTimes_42 rfl 0 rfl ?_
    refine ax_iload_n O d_Fl_readTimes_43 rfl 1 rfl ?_
    refine ax_bipush (v := 18) O d_Fl_readTimes_44 (by decide) ?_
    refine ax_icmp_ne (tgt := 54) O d_Fl_readTimes_46 (by decide) (fun q8 => ?_) (fun q8 => ?_)
    · rw [if_neg q8] at hf
      refine ax_iconst (v := 3) O d_Fl_readTimes_54 (by decide) ?_
      refine ax_iadd O d_Fl_readTimes_55 ?_
      exact ax_retE O hE hf rfl d_Fl_readTimes_56
    · rw [if_pos q8] at hf
      refine ax_bipush (v := 11) O d_Fl_readTimes_49 (by decide) ?_
      refine ax_goto (tgt := 55) O d_Fl_readTimes_51 (by decide) ?_
      refine ax_iadd O d_Fl_readTimes_55 ?_
      exact ax_retE O hE hf rfl d_Fl_readTimes_56
  · rw [if_pos q7] at hf
    refine ax_iconst (v := (-1)) O d_Fl_readTimes_40 (by decide) ?_
    exact ax_retE O hE hf rfl d_Fl_readTimes_41
set_option maxHeartbeats 4000000 in
set_option maxRecDepth 100000 in
theorem cb_Fl_readTimes {X : mX} {ad : Nat → Nat} {ln : Launch} (O : mO X ad R_Fl b_Fl_readTimes 3 (mR 3 65) ln) (r' : Int32) (h' : mH) (hE : mEnd X ad (some .int) (some (.int r')) h') (n0 : Nat) (h0 : mH) (a0 : Nat) (x1 : Int32) (hf : f_Fl_readTimes n0 h0 a0 x1 = some (r', h')) : mAW X ad 0 0 0 [(0, .ref a0), (1, .int x1)] [] h0 := by
  unfold f_Fl_readTimes at hf
  refine ax_iload_n O d_Fl_readTimes_0 rfl 1 rfl ?_
  refine ax_bipush (v := 16) O d_Fl_readTimes_1 (by decide) ?_
  refine ax_icmp_ge (tgt := 8) O d_Fl_readTimes_3 (by decide) (fun q1 => ?_) (fun q1 => ?_)
  · rw [if_pos q1] at hf
    refine ax_aload_n O d_Fl_readTimes_8 rfl 0 rfl ?_
    refine ax_iload_n O d_Fl_readTimes_9 rfl 1 rfl ?_
    refine ax_bipush (v := 16) O d_Fl_readTimes_10 (by decide) ?_
    refine ax_icmp_ne (tgt := 19) O d_Fl_readTimes_12 (by decide) (fun q2 => ?_) (fun q2 => ?_)
    · rw [if_neg q2] at hf
      refine ax_iload_n O d_Fl_readTimes_19 rfl 1 rfl ?_
      refine ax_bipush (v := 17) O d_Fl_readTimes_20 (by decide) ?_
      refine ax_icmp_ne (tgt := 29) O d_Fl_readTimes_22 (by decide) (fun q3 => ?_) (fun q3 => ?_)
      · rw [if_neg q3] at hf
        refine ax_bipush (v := 7) O d_Fl_readTimes_29 (by decide) ?_
        refine ax_sub [1] rfl ?_
        exact cb_Fl_readTimes_B31 O _ _ hE n0 _ _ _ _ hf
      · rw [if_pos q3] at hf
        refine ax_iconst (v := 3) O d_Fl_readTimes_25 (by decide) ?_
        refine ax_goto (tgt := 31) O d_Fl_readTimes_26 (by decide) ?_
        refine ax_sub [1] rfl ?_
        exact cb_Fl_readTimes_B31 O _ _ hE n0 _ _ _ _ hf
    · rw [if_pos q2] at hf
      refine ax_iconst (v := 2) O d_Fl_readTimes_15 (by decide) ?_
      refine ax_goto (tgt := 31) O d_Fl_readTimes_16 (by decide) ?_
      refine ax_sub [1] rfl ?_
      exact cb_Fl_readTimes_B31 O _ _ hE n0 _ _ _ _ hf
  · rw [if_neg q1] at hf
    refine ax_iconst (v := 1) O d_Fl_readTimes_6 (by decide) ?_
    exact ax_retE O hE hf rfl d_Fl_readTimes_7
theorem c_Fl_readTimes {ln : Launch} {n0 : Nat} {h0 h' : mH} {a0 : Nat} {x1 : Int32} {r' : Int32} (hf : f_Fl_readTimes n0 h0 a0 x1 = some (r', h')) : mMet ln y_Fl_readTimes b_Fl_readTimes 3 (some .int) (mR 3 65) [.ref a0, .int x1] h0 (some (.int r')) h' := mMet_of (by decide +kernel) (Nat.le_of_ble_eq_true rfl) (fun X ad O hE => cb_Fl_readTimes O r' h' hE n0 h0 a0 x1 hf)
/-! ===== StreamFilters$Flate.readLengths(LStreamFilters$Pass;I)Z ===== -/
theorem d_Fl_readLengths_0 : decode b_Fl_readLengths 0 = .ok (.iconst 0, 1) := by decide +kernel
theorem d_Fl_readLengths_1 : decode b_Fl_readLengths 1 = .ok (.istore_n 3, 1) := by decide +kernel
theorem d_Fl_readLengths_2 : decode b_Fl_readLengths 2 = .ok (.iconst 0, 1) := by decide +kernel
theorem d_Fl_readLengths_3 : decode b_Fl_readLengths 3 = .ok (.istore 4, 2) := by decide +kernel
theorem d_Fl_readLengths_5 : decode b_Fl_readLengths 5 = .ok (.iload 4, 2) := by decide +kernel
theorem d_Fl_readLengths_7 : decode b_Fl_readLengths 7 = .ok (.iload_n 2, 1) := by decide +kernel
theorem d_Fl_readLengths_8 : decode b_Fl_readLengths 8 = .ok (.if_icmp .ge 165, 3) := by decide +kernel
theorem d_Fl_readLengths_11 : decode b_Fl_readLengths 11 = .ok (.iload_n 3, 1) := by decide +kernel
theorem d_Fl_readLengths_12 : decode b_Fl_readLengths 12 = .ok (.iload_n 2, 1) := by decide +kernel
theorem d_Fl_readLengths_13 : decode b_Fl_readLengths 13 = .ok (.if_icmp .ge 160, 3) := by decide +kernel
theorem d_Fl_readLengths_16 : decode b_Fl_readLengths 16 = .ok (.aload_n 0, 1) := by decide +kernel
theorem d_Fl_readLengths_17 : decode b_Fl_readLengths 17 = .ok (.getfield 33, 3) := by decide +kernel
theorem d_Fl_readLengths_20 : decode b_Fl_readLengths 20 = .ok (.aload_n 1, 1) := by decide +kernel
theorem d_Fl_readLengths_21 : decode b_Fl_readLengths 21 = .ok (.invokevirtual 98, 3) := by decide +kernel
theorem d_Fl_readLengths_24 : decode b_Fl_readLengths 24 = .ok (.istore 5, 2) := by decide +kernel
theorem d_Fl_readLengths_26 : decode b_Fl_readLengths 26 = .ok (.iload 5, 2) := by decide +kernel
theorem d_Fl_readLengths_28 : decode b_Fl_readLengths 28 = .ok (.iconst (-1), 1) := by decide +kernel
theorem d_Fl_readLengths_29 : decode b_Fl_readLengths 29 = .ok (.if_icmp .ne 7, 3) := by decide +kernel
theorem d_Fl_readLengths_32 : decode b_Fl_readLengths 32 = .ok (.iconst (-1), 1) := by decide +kernel
theorem d_Fl_readLengths_33 : decode b_Fl_readLengths 33 = .ok (.goto 9, 3) := by decide +kernel
theorem d_Fl_readLengths_36 : decode b_Fl_readLengths 36 = .ok (.aload_n 1, 1) := by decide +kernel
theorem d_Fl_readLengths_37 : decode b_Fl_readLengths 37 = .ok (.iload 5, 2) := by decide +kernel
theorem d_Fl_readLengths_39 : decode b_Fl_readLengths 39 = .ok (.invokestatic 101, 3) := by decide +kernel
theorem d_Fl_readLengths_42 : decode b_Fl_readLengths 42 = .ok (.istore 6, 2) := by decide +kernel
theorem d_Fl_readLengths_44 : decode b_Fl_readLengths 44 = .ok (.iload 6, 2) := by decide +kernel
theorem d_Fl_readLengths_46 : decode b_Fl_readLengths 46 = .ok (.iconst (-1), 1) := by decide +kernel
theorem d_Fl_readLengths_47 : decode b_Fl_readLengths 47 = .ok (.if_icmp .ne 5, 3) := by decide +kernel
theorem d_Fl_readLengths_50 : decode b_Fl_readLengths 50 = .ok (.iconst 0, 1) := by decide +kernel
theorem d_Fl_readLengths_51 : decode b_Fl_readLengths 51 = .ok (.ireturn, 1) := by decide +kernel
theorem d_Fl_readLengths_52 : decode b_Fl_readLengths 52 = .ok (.iload 5, 2) := by decide +kernel
theorem d_Fl_readLengths_54 : decode b_Fl_readLengths 54 = .ok (.bipush 16, 2) := by decide +kernel
theorem d_Fl_readLengths_56 : decode b_Fl_readLengths 56 = .ok (.if_icmp .ne 11, 3) := by decide +kernel
theorem d_Fl_readLengths_59 : decode b_Fl_readLengths 59 = .ok (.iload_n 3, 1) := by decide +kernel
theorem d_Fl_readLengths_60 : decode b_Fl_readLengths 60 = .ok (.ifCond .ne 7, 3) := by decide +kernel
theorem d_Fl_readLengths_63 : decode b_Fl_readLengths 63 = .ok (.iconst 1, 1) := by decide +kernel
theorem d_Fl_readLengths_64 : decode b_Fl_readLengths 64 = .ok (.goto 4, 3) := by decide +kernel
theorem d_Fl_readLengths_67 : decode b_Fl_readLengths 67 = .ok (.iconst 0, 1) := by decide +kernel
theorem d_Fl_readLengths_68 : decode b_Fl_readLengths 68 = .ok (.istore 7, 2) := by decide +kernel
theorem d_Fl_readLengths_70 : decode b_Fl_readLengths 70 = .ok (.iload 7, 2) := by decide +kernel
theorem d_Fl_readLengths_72 : decode b_Fl_readLengths 72 = .ok (.ifCond .ne 23, 3) := by decide +kernel
theorem d_Fl_readLengths_75 : decode b_Fl_readLengths 75 = .ok (.iload_n 3, 1) := by decide +kernel
theorem d_Fl_readLengths_76 : decode b_Fl_readLengths 76 = .ok (.iload 6, 2) := by decide +kernel
theorem d_Fl_readLengths_78 : decode b_Fl_readLengths 78 = .ok (.iadd, 1) := by decide +kernel
theorem d_Fl_readLengths_79 : decode b_Fl_readLengths 79 = .ok (.iload_n 2, 1) := by decide +kernel
theorem d_Fl_readLengths_80 : decode b_Fl_readLengths 80 = .ok (.if_icmp .gt 15, 3) := by decide +kernel
theorem d_Fl_readLengths_83 : decode b_Fl_readLengths 83 = .ok (.iload_n 3, 1) := by decide +kernel
theorem d_Fl_readLengths_84 : decode b_Fl_readLengths 84 = .ok (.iload 6, 2) := by decide +kernel
theorem d_Fl_readLengths_86 : decode b_Fl_readLengths 86 = .ok (.iadd, 1) := by decide +kernel
theorem d_Fl_readLengths_87 : decode b_Fl_readLengths 87 = .ok (.aload_n 0, 1) := by decide +kernel
theorem d_Fl_readLengths_88 : decode b_Fl_readLengths 88 = .ok (.getfield 36, 3) := by decide +kernel
theorem d_Fl_readLengths_91 : decode b_Fl_readLengths 91 = .ok (.arraylength, 1) := by decide +kernel
theorem d_Fl_readLengths_92 : decode b_Fl_readLengths 92 = .ok (.if_icmp .le 10, 3) := by decide +kernel
theorem d_Fl_readLengths_95 : decode b_Fl_readLengths 95 = .ok (.aload_n 1, 1) := by decide +kernel
theorem d_Fl_readLengths_96 : decode b_Fl_readLengths 96 = .ok (.bipush 6, 2) := by decide +kernel
theorem d_Fl_readLengths_98 : decode b_Fl_readLengths 98 = .ok (.invokevirtual 64, 3) := by decide +kernel
theorem d_Fl_readLengths_101 : decode b_Fl_readLengths 101 = .ok (.ireturn, 1) := by decide +kernel
theorem d_Fl_readLengths_102 : decode b_Fl_readLengths 102 = .ok (.iload 5, 2) := by decide +kernel
theorem d_Fl_readLengths_104 : decode b_Fl_readLengths 104 = .ok (.bipush 16, 2) := by decide +kernel
theorem d_Fl_readLengths_106 : decode b_Fl_readLengths 106 = .ok (.if_icmp .ge 8, 3) := by decide +kernel
theorem d_Fl_readLengths_109 : decode b_Fl_readLengths 109 = .ok (.iload 5, 2) := by decide +kernel
theorem d_Fl_readLengths_111 : decode b_Fl_readLengths 111 = .ok (.goto 22, 3) := by decide +kernel
theorem d_Fl_readLengths_114 : decode b_Fl_readLengths 114 = .ok (.iload 5, 2) := by decide +kernel
theorem d_Fl_readLengths_116 : decode b_Fl_readLengths 116 = .ok (.bipush 16, 2) := by decide +kernel
theorem d_Fl_readLengths_118 : decode b_Fl_readLengths 118 = .ok (.if_icmp .ne 14, 3) := by decide +kernel
theorem d_Fl_readLengths_121 : decode b_Fl_readLengths 121 = .ok (.aload_n 0, 1) := by decide +kernel
theorem d_Fl_readLengths_122 : decode b_Fl_readLengths 122 = .ok (.getfield 36, 3) := by decide +kernel
theorem d_Fl_readLengths_125 : decode b_Fl_readLengths 125 = .ok (.iload_n 3, 1) := by decide +kernel
theorem d_Fl_readLengths_126 : decode b_Fl_readLengths 126 = .ok (.iconst 1, 1) := by decide +kernel
theorem d_Fl_readLengths_127 : decode b_Fl_readLengths 127 = .ok (.isub, 1) := by decide +kernel
theorem d_Fl_readLengths_128 : decode b_Fl_readLengths 128 = .ok (.iaload, 1) := by decide +kernel
theorem d_Fl_readLengths_129 : decode b_Fl_readLengths 129 = .ok (.goto 4, 3) := by decide +kernel
theorem d_Fl_readLengths_132 : decode b_Fl_readLengths 132 = .ok (.iconst 0, 1) := by decide +kernel
theorem d_Fl_readLengths_133 : decode b_Fl_readLengths 133 = .ok (.istore 8, 2) := by decide +kernel
theorem d_Fl_readLengths_135 : decode b_Fl_readLengths 135 = .ok (.iconst 0, 1) := by decide +kernel
theorem d_Fl_readLengths_136 : decode b_Fl_readLengths 136 = .ok (.istore 9, 2) := by decide +kernel
theorem d_Fl_readLengths_138 : decode b_Fl_readLengths 138 = .ok (.iload 9, 2) := by decide +kernel
theorem d_Fl_readLengths_140 : decode b_Fl_readLengths 140 = .ok (.iload 6, 2) := by decide +kernel
theorem d_Fl_readLengths_142 : decode b_Fl_readLengths 142 = .ok (.if_icmp .ge 20, 3) := by decide +kernel
theorem d_Fl_readLengths_145 : decode b_Fl_readLengths 145 = .ok (.aload_n 0, 1) := by decide +kernel
theorem d_Fl_readLengths_146 : decode b_Fl_readLengths 146 = .ok (.getfield 36, 3) := by decide +kernel
theorem d_Fl_readLengths_149 : decode b_Fl_readLengths 149 = .ok (.iload_n 3, 1) := by decide +kernel
theorem d_Fl_readLengths_150 : decode b_Fl_readLengths 150 = .ok (.iload 9, 2) := by decide +kernel
theorem d_Fl_readLengths_152 : decode b_Fl_readLengths 152 = .ok (.iadd, 1) := by decide +kernel
theorem d_Fl_readLengths_153 : decode b_Fl_readLengths 153 = .ok (.iload 8, 2) := by decide +kernel
theorem d_Fl_readLengths_155 : decode b_Fl_readLengths 155 = .ok (.iastore, 1) := by decide +kernel
theorem d_Fl_readLengths_156 : decode b_Fl_readLengths 156 = .ok (.iinc 9 1, 3) := by decide +kernel
theorem d_Fl_readLengths_159 : decode b_Fl_readLengths 159 = .ok (.goto (-21), 3) := by decide +kernel
theorem d_Fl_readLengths_162 : decode b_Fl_readLengths 162 = .ok (.iload_n 3, 1) := by decide +kernel
theorem d_Fl_readLengths_163 : decode b_Fl_readLengths 163 = .ok (.iload 6, 2) := by decide +kernel
theorem d_Fl_readLengths_165 : decode b_Fl_readLengths 165 = .ok (.iadd, 1) := by decide +kernel
theorem d_Fl_readLengths_166 : decode b_Fl_readLengths 166 = .ok (.istore_n 3, 1) := by decide +kernel
theorem d_Fl_readLengths_167 : decode b_Fl_readLengths 167 = .ok (.iinc 4 1, 3) := by decide +kernel
theorem d_Fl_readLengths_170 : decode b_Fl_readLengths 170 = .ok (.goto (-165), 3) := by decide +kernel
theorem d_Fl_readLengths_173 : decode b_Fl_readLengths 173 = .ok (.iconst 1, 1) := by decide +kernel
theorem d_Fl_readLengths_174 : decode b_Fl_readLengths 174 = .ok (.ireturn, 1) := by decide +kernel
noncomputable def f_Fl_readLengths_B95  (n0 : Nat) (h0 : mH) (a1 : Nat) : Option (Int32 × mH) :=
  mis h0 a1 8 <|
  mcl (f_Pa_fail n0 h0 a1 6) fun v15 h16 =>
  mge (narrow .boolean (.int v15) = .int v15) <|
  some (v15, h16)
noncomputable def f_Fl_readLengths_L138 (K5 : mH → Nat → Nat → Int32 → Int32 → Int32 → Option (Int32 × mH)) (n0 : Nat) : Nat → mH → Nat → Nat → Int32 → Int32 → Int32 → Int32 → Int32 → Int32 → Option (Int32 × mH)
  | 0, _, _, _, _, _, _, _, _, _ => none
  | n + 1, h0, a0, a1, x2, x3, x4, x6, x8, x9 =>
    if x6 ≤ x9 then
      mnm (x3 + x6) fun v25 =>
      mnm (x4 + 1) fun v26 =>
      K5 h0 a0 a1 x2 v25 v26
    else
      mgr h0 a0 3 5 fun r27 =>
      mas h0 r27 .int (x3 + x9) x8 fun h28 =>
      mnm (x9 + 1) fun v29 =>
      (f_Fl_readLengths_L138 K5 n0 n) h28 a0 a1 x2 x3 x4 x6 x8 v29
noncomputable def f_Fl_readLengths_B133 (K5 : mH → Nat → Nat → Int32 → Int32 → Int32 → Option (Int32 × mH)) (n0 : Nat) (h0 : mH) (a0 : Nat) (a1 : Nat) (x2 : Int32) (x3 : Int32) (x4 : Int32) (x6 : Int32) (p0 : Int32) : Option (Int32 × mH) :=
  f_Fl_readLengths_L138 K5 n0 n0 h0 a0 a1 x2 x3 x4 x6 p0 0
noncomputable def f_Fl_readLengths_B68 (K5 : mH → Nat → Nat → Int32 → Int32 → Int32 → Option (Int32 × mH)) (n0 : Nat) (h0 : mH) (a0 : Nat) (a1 : Nat) (x2 : Int32) (x3 : Int32) (x4 : Int32) (x5 : Int32) (x6 : Int32) (p0 : Int32) : Option (Int32 × mH) :=
  if p0 = 0 then
    if x2 < (x3 + x6) then
      f_Fl_readLengths_B95 n0 h0 a1
    else
      mgr h0 a0 3 5 fun r19 =>
      mln h0 r19 .int fun v20 =>
      if (x3 + x6) ≤ v20 then
        if 16 ≤ x5 then
          if x5 = 16 then
            mgr h0 a0 3 5 fun r30 =>
            mai h0 r30 .int (x3 - 1) fun v31 =>
            f_Fl_readLengths_B133 K5 n0 h0 a0 a1 x2 x3 x4 x6 v31
          else
            f_Fl_readLengths_B133 K5 n0 h0 a0 a1 x2 x3 x4 x6 0
        else
          f_Fl_readLengths_B133 K5 n0 h0 a0 a1 x2 x3 x4 x6 x5
      else
        f_Fl_readLengths_B95 n0 h0 a1
  else
    f_Fl_readLengths_B95 n0 h0 a1
noncomputable def f_Fl_readLengths_B67 (K5 : mH → Nat → Nat → Int32 → Int32 → Int32 → Option (Int32 × mH)) (n0 : Nat) (h0 : mH) (a0 : Nat) (a1 : Nat) (x2 : Int32) (x3 : Int32) (x4 : Int32) (x5 : Int32) (x6 : Int32) : Option (Int32 × mH) :=
  f_Fl_readLengths_B68 K5 n0 h0 a0 a1 x2 x3 x4 x5 x6 0
noncomputable def f_Fl_readLengths_B42 (K5 : mH → Nat → Nat → Int32 → Int32 → Int32 → Option (Int32 × mH)) (n0 : Nat) (h0 : mH) (a0 : Nat) (a1 : Nat) (x2 : Int32) (x3 : Int32) (x4 : Int32) (x5 : Int32) (p0 : Int32) : Option (Int32 × mH) :=
  if p0 = (-1) then
    some (0, h0)
  else
    if x5 = 16 then
      if x3 = 0 then
        f_Fl_readLengths_B68 K5 n0 h0 a0 a1 x2 x3 x4 x5 p0 1
      else
        f_Fl_readLengths_B67 K5 n0 h0 a0 a1 x2 x3 x4 x5 p0
    else
      f_Fl_readLengths_B67 K5 n0 h0 a0 a1 x2 x3 x4 x5 p0
noncomputable def f_Fl_readLengths_L5  (n0 : Nat) : Nat → mH → Nat → Nat → Int32 → Int32 → Int32 → Option (Int32 × mH)
  | 0, _, _, _, _, _, _ => none
  | n + 1, h0, a0, a1, x2, x3, x4 =>
    if x2 ≤ x4 then
      some (1, h0)
    else
      if x2 ≤ x3 then
        some (1, h0)
      else
        mgr h0 a0 3 4 fun r3 =>
        mis h0 r3 2 <|
        mcl (f_Co_read n0 h0 r3 a1) fun v5 h6 =>
        if v5 = (-1) then
          f_Fl_readLengths_B42 (f_Fl_readLengths_L5 n0 n) n0 h6 a0 a1 x2 x3 x4 v5 (-1)
        else
          mcl (f_Fl_readTimes n0 h6 a1 v5) fun v9 h10 =>
          f_Fl_readLengths_B42 (f_Fl_readLengths_L5 n0 n) n0 h10 a0 a1 x2 x3 x4 v5 v9
noncomputable def f_Fl_readLengths  (n0 : Nat) (h0 : mH) (a0 : Nat) (a1 : Nat) (x2 : Int32) : Option (Int32 × mH) :=
  f_Fl_readLengths_L5 n0 n0 h0 a0 a1 x2 0 0
set_option maxHeartbeats 4000000 in
set_option maxRecDepth 100000 in
theorem cb_Fl_readLengths_B95 {X : mX} {ad : Nat → Nat} {ln : Launch} (O : mO X ad R_Fl b_Fl_readLengths 10 (mR 4 87) ln) (r' : Int32) (h' : mH) (hE : mEnd X ad (some .boolean) (some (.int r')) h') (n0 : Nat) (h0 : mH) (a1 : Nat) (hf : f_Fl_readLengths_B95 n0 h0 a1 = some (r', h')) : mAW X ad 0 0 95 [(1, .ref a1)] [] h0 := by
  unfold f_Fl_readLengths_B95 at hf
  refine ax_aload_n O d_Fl_readLengths_95 rfl 0 rfl ?_
  refine ax_bipush (v := 6) O d_Fl_readLengths_96 (by decide) ?_
  obtain ⟨fh16, ch16, hf⟩ := mis_some hf
  obtain ⟨v15, h16, mh16, hf⟩ := mcl_some hf
  refine ax_callV (As := [.int 6]) (rest := []) O cw_Pa_fail (q := (R_Pa, T_Pa, 7)) rfl rfl in_Pa_fail se_Pa_fail lk_Fl_64 ch16 (c_Pa_fail mh16) rfl ⟨rfl, rfl⟩ (by decide) (by decide) (Nat.le_of_ble_eq_true rfl) d_Fl_readLengths_98 ?_
  obtain ⟨q17, hf⟩ := mge_some hf
  exact ax_retE O hE hf q17 d_Fl_readLengths_101
set_option maxHeartbeats 4000000 in
set_option maxRecDepth 100000 in
theorem cb_Fl_readLengths_L138 {X : mX} {ad : Nat → Nat} {ln : Launch} (O : mO X ad R_Fl b_Fl_readLengths 10 (mR 4 87) ln) (K5 : mH → Nat → Nat → Int32 → Int32 → Int32 → Option (Int32 × mH)) (r' : Int32) (h' : mH) (hE : mEnd X ad (some .boolean) (some (.int r')) h') (hK5 : ∀ (h : mH) (a0 : Nat) (a1 : Nat) (x2 : Int32) (x3 : Int32) (x4 : Int32), K5 h a0 a1 x2 x3 x4 = some (r', h') → mAW X ad 0 0 5 [(0, .ref a0), (1, .ref a1), (2, .int x2), (3, .int x3), (4, .int x4)] [] h) (n0 : Nat) : ∀ (n : Nat) (h0 : mH) (a0 : Nat) (a1 : Nat) (x2 : Int32) (x3 : Int32) (x4 : Int32) (x6 : Int32) (x8 : Int32) (x9 : Int32), f_Fl_readLengths_L138 K5 n0 n h0 a0 a1 x2 x3 x4 x6 x8 x9 = some (r', h') → mAW X ad 0 0 138 [(0, .ref a0), (1, .ref a1), (2, .int x2), (3, .int x3), (4, .int x4), (6, .int x6), (8, .int x8), (9, .int x9)] [] h0 := by
  intro n
  induction n with
  | zero =>
    intro h0 a0 a1 x2 x3 x4 x6 x8 x9 hf
    rw [f_Fl_readLengths_L138.eq_1] at hf
    cases hf
  | succ n ih =>
    intro h0 a0 a1 x2 x3 x4 x6 x8 x9 hf
    rw [f_Fl_readLengths_L138.eq_2] at hf
    refine ax_iload O d_Fl_readLengths_138 7 rfl ?_
    refine ax_iload O d_Fl_readLengths_140 5 rfl ?_
    refine ax_icmp_ge (tgt := 162) O d_Fl_readLengths_142 (by decide) (fun q24 => ?_) (fun q24 => ?_)
    · rw [if_pos q24] at hf
      refine ax_iload_n O d_Fl_readLengths_162 rfl 3 rfl ?_
      refine ax_iload O d_Fl_readLengths_163 5 rfl ?_
      refine ax_iadd O d_Fl_readLengths_165 ?_
      obtain ⟨v25, ev25, hf⟩ := mnm_some hf
      refine ax_nmi ev25 ?_
      refine ax_istore_n (lv' := [(3, .int v25), (0, .ref a0), (1, .ref a1), (2, .int x2), (4, .int x4), (6, .int x6), (8, .int x8), (9, .int x9)]) O d_Fl_readLengths_166 rfl (by decide) rfl ?_
      obtain ⟨v26, ev26, hf⟩ := mnm_some hf
      refine ax_iinc (j := 4) (v := v26) (lv' := [(4, .int v26), (3, .int v25), (0, .ref a0), (1, .ref a1), (2, .int x2), (6, .int x6), (8, .int x8), (9, .int x9)]) O d_Fl_readLengths_167 rfl (by rw [ev26]; rfl) (by decide) rfl ?_
      refine ax_goto (tgt := 5) O d_Fl_readLengths_170 (by decide) ?_
      refine ax_sub [2, 3, 4, 1, 0] rfl ?_
      exact hK5 _ _ _ _ _ _ hf
    · rw [if_neg q24] at hf
      refine ax_aload_n O d_Fl_readLengths_145 rfl 0 rfl ?_
      obtain ⟨fr27, r27, cr27, kr27, hf⟩ := mgr_some hf
      refine ax_get O fg_Fl_36 cr27 kr27 d_Fl_readLengths_146 ?_
      refine ax_iload_n O d_Fl_readLengths_149 rfl 3 rfl ?_
      refine ax_iload O d_Fl_readLengths_150 7 rfl ?_
      refine ax_iadd O d_Fl_readLengths_152 ?_
      refine ax_iload O d_Fl_readLengths_153 6 rfl ?_
      obtain ⟨nh28, fh28, h28, ch28, ih28, eh28, hf⟩ := mas_some hf
      refine ax_iast O ch28 ih28 eh28 d_Fl_readLengths_155 ?_
      obtain ⟨v29, ev29, hf⟩ := mnm_some hf
      refine ax_iinc (j := 7) (v := v29) (lv' := [(9, .int v29), (0, .ref a0), (1, .ref a1), (2, .int x2), (3, .int x3), (4, .int x4), (6, .int x6), (8, .int x8)]) O d_Fl_readLengths_156 rfl (by rw [ev29]; rfl) (by decide) rfl ?_
      refine ax_goto (tgt := 138) O d_Fl_readLengths_159 (by decide) ?_
      refine ax_sub [1, 2, 3, 4, 5, 6, 7, 0] rfl ?_
      exact ih _ _ _ _ _ _ _ _ _ hf
set_option maxHeartbeats 4000000 in
set_option maxRecDepth 100000 in
theorem cb_Fl_readLengths_B133 {X : mX} {ad : Nat → Nat} {ln : Launch} (O : mO X ad R_Fl b_Fl_readLengths 10 (mR 4 87) ln) (K5 : mH → Nat → Nat → Int32 → Int32 → Int32 → Option (Int32 × mH)) (r' : Int32) (h' : mH) (hE : mEnd X ad (some .boolean) (some (.int r')) h') (hK5 : ∀ (h : mH) (a0 : Nat) (a1 : Nat) (x2 : Int32) (x3 : Int32) (x4 : Int32), K5 h a0 a1 x2 x3 x4 = some (r', h') → mAW X ad 0 0 5 [(0, .ref a0), (1, .ref a1), (2, .int x2), (3, .int x3), (4, .int x4)] [] h) (n0 : Nat) (h0 : mH) (a0 : Nat) (a1 : Nat) (x2 : Int32) (x3 : Int32) (x4 : Int32) (x6 : Int32) (p0 : Int32) (hf : f_Fl_readLengths_B133 K5 n0 h0 a0 a1 x2 x3 x4 x6 p0 = some (r', h')) : mAW X ad 0 0 133 [(0, .ref a0), (1, .ref a1), (2, .int x2), (3, .int x3), (4, .int x4), (6, .int x6)] [.int p0] h0 := by
  unfold f_Fl_readLengths_B133 at hf
  refine ax_istore (lv' := [(8, .int p0), (0, .ref a0), (1, .ref a1), (2, .int x2), (3, .int x3), (4, .int x4), (6, .int x6)]) O d_Fl_readLengths_133 (by decide) rfl ?_
  refine ax_iconst (v := 0) O d_Fl_readLengths_135 (by decide) ?_
  refine ax_istore (lv' := [(9, .int 0), (8, .int p0), (0, .ref a0), (1, .ref a1), (2, .int x2), (3, .int x3), (4, .int x4), (6, .int x6)]) O d_Fl_readLengths_136 (by decide) rfl ?_
  refine ax_sub [2, 3, 4, 5, 6, 7, 1, 0] rfl ?_
  exact cb_Fl_readLengths_L138 O K5 _ _ hE hK5 n0 n0 _ _ _ _ _ _ _ _ _ hf
set_option maxHeartbeats 4000000 in
set_option maxRecDepth 100000 in
theorem cb_Fl_readLengths_B68 {X : mX} {ad : Nat → Nat} {ln : Launch} (O : mO X ad R_Fl b_Fl_readLengths 10 (mR 4 87) ln) (K5 : mH → Nat → Nat → Int32 → Int32 → Int32 → Option (Int32 × mH)) (r' : Int32) (h' : mH) (hE : mEnd X ad (some .boolean) (some (.int r')) h') (hK5 : ∀ (h : mH) (a0 : Nat) (a1 : Nat) (x2 : Int32) (x3 : Int32) (x4 : Int32), K5 h a0 a1 x2 x3 x4 = some (r', h') → mAW X ad 0 0 5 [(0, .ref a0), (1, .ref a1), (2, .int x2), (3, .int x3), (4, .int x4)] [] h) (n0 : Nat) (h0 : mH) (a0 : Nat) (a1 : Nat) (x2 : Int32) (x3 : Int32) (x4 : Int32) (x5 : Int32) (x6 : Int32) (p0 : Int32) (hf : f_Fl_readLengths_B68 K5 n0 h0 a0 a1 x2 x3 x4 x5 x6 p0 = some (r', h')) : mAW X ad 0 0 68 [(0, .ref a0), (1, .ref a1), (2, .int x2), (3, .int x3), (4, .int x4), (5, .int x5), (6, .int x6)] [.int p0] h0 := by
  unfold f_Fl_readLengths_B68 at hf
  refine ax_istore (lv' := [(7, .int p0), (0, .ref a0), (1, .ref a1), (2, .int x2), (3, .int x3), (4, .int x4), (5, .int x5), (6, .int x6)]) O d_Fl_readLengths_68 (by decide) rfl ?_
  refine ax_iload O d_Fl_readLengths_70 0 rfl ?_
  refine ax_if_ne (tgt := 95) O d_Fl_readLengths_72 (by decide) (fun q13 => ?_) (fun q13 => ?_)
  · rw [if_neg q13] at hf
    refine ax_sub [2] rfl ?_
    exact cb_Fl_readLengths_B95 O _ _ hE n0 _ _ hf
  · rw [if_pos q13] at hf
    refine ax_iload_n O d_Fl_readLengths_75 rfl 4 rfl ?_
    refine ax_iload O d_Fl_readLengths_76 7 rfl ?_
    refine ax_iadd O d_Fl_readLengths_78 ?_
    refine ax_iload_n O d_Fl_readLengths_79 rfl 3 rfl ?_
    refine ax_icmp_gt (tgt := 95) O d_Fl_readLengths_80 (by decide) (fun q18 => ?_) (fun q18 => ?_)
    · rw [if_pos q18] at hf
      refine ax_sub [2] rfl ?_
      exact cb_Fl_readLengths_B95 O _ _ hE n0 _ _ hf
    · rw [if_neg q18] at hf
      refine ax_iload_n O d_Fl_readLengths_83 rfl 4 rfl ?_
      refine ax_iload O d_Fl_readLengths_84 7 rfl ?_
      refine ax_iadd O d_Fl_readLengths_86 ?_
      refine ax_aload_n O d_Fl_readLengths_87 rfl 1 rfl ?_
      obtain ⟨fr19, r19, cr19, kr19, hf⟩ := mgr_some hf
      refine ax_get O fg_Fl_36 cr19 kr19 d_Fl_readLengths_88 ?_
      obtain ⟨xv20, v20, cv20, kv20, hf⟩ := mln_some hf
      refine ax_alen O (by decide) cv20 kv20 d_Fl_readLengths_91 ?_
      refine ax_icmp_le (tgt := 102) O d_Fl_readLengths_92 (by decide) (fun q21 => ?_) (fun q21 => ?_)
      · rw [if_pos q21] at hf
        refine ax_iload O d_Fl_readLengths_102 6 rfl ?_
        refine ax_bipush (v := 16) O d_Fl_readLengths_104 (by decide) ?_
        refine ax_icmp_ge (tgt := 114) O d_Fl_readLengths_106 (by decide) (fun q22 => ?_) (fun q22 => ?_)
        · rw [if_pos q22] at hf
          refine ax_iload O d_Fl_readLengths_114 6 rfl ?_
          refine ax_bipush (v := 16) O d_Fl_readLengths_116 (by decide) ?_
          refine ax_icmp_ne (tgt := 132) O d_Fl_readLengths_118 (by decide) (fun q23 => ?_) (fun q23 => ?_)
          · rw [if_neg q23] at hf
            refine ax_iconst (v := 0) O d_Fl_readLengths_132 (by decide) ?_
            refine ax_sub [1, 2, 3, 4, 5, 7] rfl ?_
            exact cb_Fl_readLengths_B133 O K5 _ _ hE hK5 n0 _ _ _ _ _ _ _ _ hf
          · rw [if_pos q23] at hf
            refine ax_aload_n O d_Fl_readLengths_121 rfl 1 rfl ?_
            obtain ⟨fr30, r30, cr30, kr30, hf⟩ := mgr_some hf
            refine ax_get O fg_Fl_36 cr30 kr30 d_Fl_readLengths_122 ?_
            refine ax_iload_n O d_Fl_readLengths_125 rfl 4 rfl ?_
            refine ax_iconst (v := 1) O d_Fl_readLengths_126 (by decide) ?_
            refine ax_isub O d_Fl_readLengths_127 ?_
            obtain ⟨nv31, fv31, v31, cv31, iv31, kv31, hf⟩ := mai_some hf
            refine ax_iald O cv31 iv31 kv31 d_Fl_readLengths_128 ?_
            refine ax_goto (tgt := 133) O d_Fl_readLengths_129 (by decide) ?_
            refine ax_sub [1, 2, 3, 4, 5, 7] rfl ?_
            exact cb_Fl_readLengths_B133 O K5 _ _ hE hK5 n0 _ _ _ _ _ _ _ _ hf
        · rw [if_neg q22] at hf
          refine ax_iload O d_Fl_readLengths_109 6 rfl ?_
          refine ax_goto (tgt := 133) O d_Fl_readLengths_111 (by decide) ?_
          refine ax_sub [1, 2, 3, 4, 5, 7] rfl ?_
          exact cb_Fl_readLengths_B133 O K5 _ _ hE hK5 n0 _ _ _ _ _ _ _ _ hf
      · rw [if_neg q21] at hf
        refine ax_sub [2] rfl ?_
        exact cb_Fl_readLengths_B95 O _ _ hE n0 _ _ hf
set_option maxHeartbeats 4000000 in
set_option maxRecDepth 100000 in
theorem cb_Fl_readLengths_B67 {X : mX} {ad : Nat → Nat} {ln : Launch} (O : mO X ad R_Fl b_Fl_readLengths 10 (mR 4 87) ln) (K5 : mH → Nat → Nat → Int32 → Int32 → Int32 → Option (Int32 × mH)) (r' : Int32) (h' : mH) (hE : mEnd X ad (some .boolean) (some (.int r')) h') (hK5 : ∀ (h : mH) (a0 : Nat) (a1 : Nat) (x2 : Int32) (x3 : Int32) (x4 : Int32), K5 h a0 a1 x2 x3 x4 = some (r', h') → mAW X ad 0 0 5 [(0, .ref a0), (1, .ref a1), (2, .int x2), (3, .int x3), (4, .int x4)] [] h) (n0 : Nat) (h0 : mH) (a0 : Nat) (a1 : Nat) (x2 : Int32) (x3 : Int32) (x4 : Int32) (x5 : Int32) (x6 : Int32) (hf : f_Fl_readLengths_B67 K5 n0 h0 a0 a1 x2 x3 x4 x5 x6 = some (r', h')) : mAW X ad 0 0 67 [(0, .ref a0), (1, .ref a1), (2, .int x2), (3, .int x3), (4, .int x4), (5, .int x5), (6, .int x6)] [] h0 := by
  unfold f_Fl_readLengths_B67 at hf
  refine ax_iconst (v := 0) O d_Fl_readLengths_67 (by decide) ?_
  exact cb_Fl_readLengths_B68 O K5 _ _ hE hK5 n0 _ _ _ _ _ _ _ _ _ hf
set_option maxHeartbeats 4000000 in
set_option maxRecDepth 100000 in
theorem cb_Fl_readLengths_B42 {X : mX} {ad : Nat → Nat} {ln : Launch} (O : mO X ad R_Fl b_Fl_readLengths 10 (mR 4 87) ln) (K5 : mH → Nat → Nat → Int32 → Int32 → Int32 → Option (Int32 × mH)) (r' : Int32) (h' : mH) (hE : mEnd X ad (some .boolean) (some (.int r')) h') (hK5 : ∀ (h : mH) (a0 : Nat) (a1 : Nat) (x2 : Int32) (x3 : Int32) (x4 : Int32), K5 h a0 a1 x2 x3 x4 = some (r', h') → mAW X ad 0 0 5 [(0, .ref a0), (1, .ref a1), (2, .int x2), (3, .int x3), (4, .int x4)] [] h) (n0 : Nat) (h0 : mH) (a0 : Nat) (a1 : Nat) (x2 : Int32) (x3 : Int32) (x4 : Int32) (x5 : Int32) (p0 : Int32) (hf : f_Fl_readLengths_B42 K5 n0 h0 a0 a1 x2 x3 x4 x5 p0 = some (r', h')) : mAW X ad 0 0 42 [(0, .ref a0), (1, .ref a1), (2, .int x2), (3, .int x3), (4, .int x4), (5, .int x5)] [.int p0] h0 := by
  unfold f_Fl_readLengths_B42 at hf
  refine ax_istore (lv' := [(6, .int p0), (0, .ref a0), (1, .ref a1), (2, .int x2), (3, .int x3), (4, .int x4), (5, .int x5)]) O d_Fl_readLengths_42 (by decide) rfl ?_
  refine ax_iload O d_Fl_readLengths_44 0 rfl ?_
  refine ax_iconst (v := (-1)) O d_Fl_readLengths_46 (by decide) ?_
  refine ax_icmp_ne (tgt := 52) O d_Fl_readLengths_47 (by decide) (fun q11 => ?_) (fun q11 => ?_)
  · rw [if_neg q11] at hf
    refine ax_iload O d_Fl_readLengths_52 6 rfl ?_
    refine ax_bipush (v := 16) O d_Fl_readLengths_54 (by decide) ?_
    refine ax_icmp_ne (tgt := 67) O d_Fl_readLengths_56 (by decide) (fun q12 => ?_) (fun q12 => ?_)
    · rw [if_neg q12] at hf
      refine ax_sub [1, 2, 3, 4, 5, 6, 0] rfl ?_
      exact cb_Fl_readLengths_B67 O K5 _ _ hE hK5 n0 _ _ _ _ _ _ _ _ hf
    · rw [if_pos q12] at hf
      refine ax_iload_n O d_Fl_readLengths_59 rfl 4 rfl ?_
      refine ax_if_ne (tgt := 67) O d_Fl_readLengths_60 (by decide) (fun q32 => ?_) (fun q32 => ?_)
      · rw [if_neg q32] at hf
        refine ax_sub [1, 2, 3, 4, 5, 6, 0] rfl ?_
        exact cb_Fl_readLengths_B67 O K5 _ _ hE hK5 n0 _ _ _ _ _ _ _ _ hf
      · rw [if_pos q32] at hf
        refine ax_iconst (v := 1) O d_Fl_readLengths_63 (by decide) ?_
        refine ax_goto (tgt := 68) O d_Fl_readLengths_64 (by decide) ?_
        refine ax_sub [1, 2, 3, 4, 5, 6, 0] rfl ?_
        exact cb_Fl_readLengths_B68 O K5 _ _ hE hK5 n0 _ _ _ _ _ _ _ _ _ hf
  · rw [if_pos q11] at hf
    refine ax_iconst (v := 0) O d_Fl_readLengths_50 (by decide) ?_
    exact ax_retE O hE hf rfl d_Fl_readLengths_51
set_option maxHeartbeats 4000000 in
set_option maxRecDepth 100000 in
theorem cb_Fl_readLengths_L5 {X : mX} {ad : Nat → Nat} {ln : Launch} (O : mO X ad R_Fl b_Fl_readLengths 10 (mR 4 87) ln) (r' : Int32) (h' : mH) (hE : mEnd X ad (some .boolean) (some (.int r')) h') (n0 : Nat) : ∀ (n : Nat) (h0 : mH) (a0 : Nat) (a1 : Nat) (x2 : Int32) (x3 : Int32) (x4 : Int32), f_Fl_readLengths_L5 n0 n h0 a0 a1 x2 x3 x4 = some (r', h') → mAW X ad 0 0 5 [(0, .ref a0), (1, .ref a1), (2, .int x2), (3, .int x3), (4, .int x4)] [] h0 := by
  intro n
  induction n with
  | zero =>
    intro h0 a0 a1 x2 x3 x4 hf
    rw [f_Fl_readLengths_L5.eq_1] at hf
    cases hf
  | succ n ih =>
    intro h0 a0 a1 x2 x3 x4 hf
    rw [f_Fl_readLengths_L5.eq_2] at hf
    refine ax_iload O d_Fl_readLengths_5 4 rfl ?_
    refine ax_iload_n O d_Fl_readLengths_7 rfl 2 rfl ?_
    refine ax_icmp_ge (tgt := 173) O d_Fl_readLengths_8 (by decide) (fun q1 => ?_) (fun q1 => ?_)
    · rw [if_pos q1] at hf
      refine ax_iconst (v := 1) O d_Fl_readLengths_173 (by decide) ?_
      exact ax_retE O hE hf rfl d_Fl_readLengths_174
    · rw [if_neg q1] at hf
      refine ax_iload_n O d_Fl_readLengths_11 rfl 3 rfl ?_
      refine ax_iload_n O d_Fl_readLengths_12 rfl 2 rfl ?_
      refine ax_icmp_ge (tgt := 173) O d_Fl_readLengths_13 (by decide) (fun q2 => ?_) (fun q2 => ?_)
      · rw [if_pos q2] at hf
        refine ax_iconst (v := 1) O d_Fl_readLengths_173 (by decide) ?_
        exact ax_retE O hE hf rfl d_Fl_readLengths_174
      · rw [if_neg q2] at hf
        refine ax_aload_n O d_Fl_readLengths_16 rfl 0 rfl ?_
        obtain ⟨fr3, r3, cr3, kr3, hf⟩ := mgr_some hf
        refine ax_get O fg_Fl_33 cr3 kr3 d_Fl_readLengths_17 ?_
        refine ax_aload_n O d_Fl_readLengths_20 rfl 1 rfl ?_
        obtain ⟨fh6, ch6, hf⟩ := mis_some hf
        obtain ⟨v5, h6, mh6, hf⟩ := mcl_some hf
        refine ax_callV (As := [.ref a1]) (rest := []) O cw_Co_read (q := (R_Co, T_Co, 5)) rfl rfl in_Co_read se_Co_read lk_Fl_98 ch6 (c_Co_read mh6) rfl ⟨rfl, rfl⟩ (by decide) (by decide) (Nat.le_of_ble_eq_true rfl) d_Fl_readLengths_21 ?_
        refine ax_istore (lv' := [(5, .int v5), (0, .ref a0), (1, .ref a1), (2, .int x2), (3, .int x3), (4, .int x4)]) O d_Fl_readLengths_24 (by decide) rfl ?_
        refine ax_iload O d_Fl_readLengths_26 0 rfl ?_
        refine ax_iconst (v := (-1)) O d_Fl_readLengths_28 (by decide) ?_
        refine ax_icmp_ne (tgt := 36) O d_Fl_readLengths_29 (by decide) (fun q7 => ?_) (fun q7 => ?_)
        · rw [if_neg q7] at hf
          refine ax_aload_n O d_Fl_readLengths_36 rfl 2 rfl ?_
          refine ax_iload O d_Fl_readLengths_37 0 rfl ?_
          obtain ⟨v9, h10, mh10, hf⟩ := mcl_some hf
          refine ax_callS (As := [.ref a1, .int v5]) (rest := []) O cw_Fl_readTimes st_Fl_readTimes lk_Fl_101 (c_Fl_readTimes mh10) rfl ⟨rfl, rfl⟩ (by decide) (by decide) (Nat.le_of_ble_eq_true rfl) d_Fl_readLengths_39 ?_
          refine ax_sub [1, 2, 3, 4, 5, 0] rfl ?_
          exact cb_Fl_readLengths_B42 O (f_Fl_readLengths_L5 n0 n) _ _ hE ih n0 _ _ _ _ _ _ _ _ hf
        · rw [if_pos q7] at hf
          refine ax_iconst (v := (-1)) O d_Fl_readLengths_32 (by decide) ?_
          refine ax_goto (tgt := 42) O d_Fl_readLengths_33 (by decide) ?_
          refine ax_sub [1, 2, 3, 4, 5, 0] rfl ?_
          exact cb_Fl_readLengths_B42 O (f_Fl_readLengths_L5 n0 n) _ _ hE ih n0 _ _ _ _ _ _ _ _ hf
set_option maxHeartbeats 4000000 in
set_option maxRecDepth 100000 in
theorem cb_Fl_readLengths {X : mX} {ad : Nat → Nat} {ln : Launch} (O : mO X ad R_Fl b_Fl_readLengths 10 (mR 4 87) ln) (r' : Int32) (h' : mH) (hE : mEnd X ad (some .boolean) (some (.int r')) h') (n0 : Nat) (h0 : mH) (a0 : Nat) (a1 : Nat) (x2 : Int32) (hf : f_Fl_readLengths n0 h0 a0 a1 x2 = some (r', h')) : mAW X ad 0 0 0 [(0, .ref a0), (1, .ref a1), (2, .int x2)] [] h0 := by
  unfold f_Fl_readLengths at hf
  refine ax_iconst (v := 0) O d_Fl_readLengths_0 (by decide) ?_
  refine ax_istore_n (lv' := [(3, .int 0), (0, .ref a0), (1, .ref a1), (2, .int x2)]) O d_Fl_readLengths_1 rfl (by decide) rfl ?_
  refine ax_iconst (v := 0) O d_Fl_readLengths_2 (by decide) ?_
  refine ax_istore (lv' := [(4, .int 0), (3, .int 0), (0, .ref a0), (1, .ref a1), (2, .int x2)]) O d_Fl_readLengths_3 (by decide) rfl ?_
  refine ax_sub [2, 3, 4, 1, 0] rfl ?_
  exact cb_Fl_readLengths_L5 O _ _ hE n0 n0 _ _ _ _ _ _ hf
theorem c_Fl_readLengths {ln : Launch} {n0 : Nat} {h0 h' : mH} {a0 : Nat} {a1 : Nat} {x2 : Int32} {r' : Int32} (hf : f_Fl_readLengths n0 h0 a0 a1 x2 = some (r', h')) : mMet ln y_Fl_readLengths b_Fl_readLengths 10 (some .boolean) (mR 4 87) [.ref a0, .ref a1, .int x2] h0 (some (.int r')) h' := mMet_of (by decide +kernel) (Nat.le_of_ble_eq_true rfl) (fun X ad O hE => cb_Fl_readLengths O r' h' hE n0 h0 a0 a1 x2 hf)
