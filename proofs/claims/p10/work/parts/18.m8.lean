/-! ===== StreamFiltersModel.coded()V ===== -/
theorem d_Mo_coded_0 : decode b_Mo_coded 0 = .ok (.iconst 1, 1) := by decide +kernel
theorem d_Mo_coded_1 : decode b_Mo_coded 1 = .ok (.istore_n 1, 1) := by decide +kernel
theorem d_Mo_coded_2 : decode b_Mo_coded 2 = .ok (.iload_n 1, 1) := by decide +kernel
theorem d_Mo_coded_3 : decode b_Mo_coded 3 = .ok (.ifCond .eq 66, 3) := by decide +kernel
theorem d_Mo_coded_6 : decode b_Mo_coded 6 = .ok (.aload_n 0, 1) := by decide +kernel
theorem d_Mo_coded_7 : decode b_Mo_coded 7 = .ok (.invokevirtual 89, 3) := by decide +kernel
theorem d_Mo_coded_10 : decode b_Mo_coded 10 = .ok (.ifCond .eq 59, 3) := by decide +kernel
theorem d_Mo_coded_13 : decode b_Mo_coded 13 = .ok (.aload_n 0, 1) := by decide +kernel
theorem d_Mo_coded_14 : decode b_Mo_coded 14 = .ok (.iconst 0, 1) := by decide +kernel
theorem d_Mo_coded_15 : decode b_Mo_coded 15 = .ok (.sipush 288, 3) := by decide +kernel
theorem d_Mo_coded_18 : decode b_Mo_coded 18 = .ok (.invokevirtual 141, 3) := by decide +kernel
theorem d_Mo_coded_21 : decode b_Mo_coded 21 = .ok (.istore_n 2, 1) := by decide +kernel
theorem d_Mo_coded_22 : decode b_Mo_coded 22 = .ok (.iload_n 2, 1) := by decide +kernel
theorem d_Mo_coded_23 : decode b_Mo_coded 23 = .ok (.ifCond .lt 18, 3) := by decide +kernel
theorem d_Mo_coded_26 : decode b_Mo_coded 26 = .ok (.iload_n 2, 1) := by decide +kernel
theorem d_Mo_coded_27 : decode b_Mo_coded 27 = .ok (.sipush 256, 3) := by decide +kernel
theorem d_Mo_coded_30 : decode b_Mo_coded 30 = .ok (.if_icmp .ge 11, 3) := by decide +kernel
theorem d_Mo_coded_33 : decode b_Mo_coded 33 = .ok (.aload_n 0, 1) := by decide +kernel
theorem d_Mo_coded_34 : decode b_Mo_coded 34 = .ok (.iload_n 2, 1) := by decide +kernel
theorem d_Mo_coded_35 : decode b_Mo_coded 35 = .ok (.invokevirtual 157, 3) := by decide +kernel
theorem d_Mo_coded_38 : decode b_Mo_coded 38 = .ok (.goto 15, 3) := by decide +kernel
theorem d_Mo_coded_41 : decode b_Mo_coded 41 = .ok (.iload_n 2, 1) := by decide +kernel
theorem d_Mo_coded_42 : decode b_Mo_coded 42 = .ok (.sipush 256, 3) := by decide +kernel
theorem d_Mo_coded_45 : decode b_Mo_coded 45 = .ok (.if_icmp .le 8, 3) := by decide +kernel
theorem d_Mo_coded_48 : decode b_Mo_coded 48 = .ok (.aload_n 0, 1) := by decide +kernel
theorem d_Mo_coded_49 : decode b_Mo_coded 49 = .ok (.iload_n 2, 1) := by decide +kernel
theorem d_Mo_coded_50 : decode b_Mo_coded 50 = .ok (.invokevirtual 160, 3) := by decide +kernel
theorem d_Mo_coded_53 : decode b_Mo_coded 53 = .ok (.iload_n 2, 1) := by decide +kernel
theorem d_Mo_coded_54 : decode b_Mo_coded 54 = .ok (.sipush 256, 3) := by decide +kernel
theorem d_Mo_coded_57 : decode b_Mo_coded 57 = .ok (.if_icmp .eq 7, 3) := by decide +kernel
theorem d_Mo_coded_60 : decode b_Mo_coded 60 = .ok (.iconst 1, 1) := by decide +kernel
theorem d_Mo_coded_61 : decode b_Mo_coded 61 = .ok (.goto 4, 3) := by decide +kernel
theorem d_Mo_coded_64 : decode b_Mo_coded 64 = .ok (.iconst 0, 1) := by decide +kernel
theorem d_Mo_coded_65 : decode b_Mo_coded 65 = .ok (.istore_n 1, 1) := by decide +kernel
theorem d_Mo_coded_66 : decode b_Mo_coded 66 = .ok (.goto (-64), 3) := by decide +kernel
theorem d_Mo_coded_69 : decode b_Mo_coded 69 = .ok (.return_, 1) := by decide +kernel
noncomputable def f_Mo_coded_B53 (K2 : mH → Nat → Int32 → Option (Unit × mH)) (n0 : Nat) (h0 : mH) (a0 : Nat) (x2 : Int32) : Option (Unit × mH) :=
  if x2 = 256 then
    K2 h0 a0 0
  else
    K2 h0 a0 1
noncomputable def f_Mo_coded_B41 (K2 : mH → Nat → Int32 → Option (Unit × mH)) (n0 : Nat) (h0 : mH) (a0 : Nat) (x2 : Int32) : Option (Unit × mH) :=
  if x2 ≤ 256 then
    f_Mo_coded_B53 K2 n0 h0 a0 x2
  else
    mis h0 a0 10 <|
    mcl (f_Mo_match n0 h0 a0 x2) fun _ h14 =>
    f_Mo_coded_B53 K2 n0 h14 a0 x2
noncomputable def f_Mo_coded_L2  (n0 : Nat) : Nat → mH → Nat → Int32 → Option (Unit × mH)
  | 0, _, _, _ => none
  | n + 1, h0, a0, x1 =>
    if x1 = 0 then
      some ((), h0)
    else
      mis h0 a0 10 <|
      mcl (f_Mo_isGood n0 h0 a0) fun v3 h4 =>
      if v3 = 0 then
        some ((), h4)
      else
        mis h4 a0 10 <|
        mcl (f_Mo_symbol n0 h4 a0 0 288) fun v7 h8 =>
        if v7 < 0 then
          f_Mo_coded_B41 (f_Mo_coded_L2 n0 n) n0 h8 a0 v7
        else
          if 256 ≤ v7 then
            f_Mo_coded_B41 (f_Mo_coded_L2 n0 n) n0 h8 a0 v7
          else
            mis h8 a0 10 <|
            mcl (f_Mo_give n0 h8 a0 v7) fun _ h19 =>
            f_Mo_coded_B53 (f_Mo_coded_L2 n0 n) n0 h19 a0 v7
noncomputable def f_Mo_coded  (n0 : Nat) (h0 : mH) (a0 : Nat) : Option (Unit × mH) :=
  f_Mo_coded_L2 n0 n0 h0 a0 1
set_option maxHeartbeats 4000000 in
set_option maxRecDepth 100000 in
theorem cb_Mo_coded_B53 {X : mX} {ad : Nat → Nat} {ln : Launch} (O : mO X ad R_Mo b_Mo_coded 3 (mR 5 113) ln) (K2 : mH → Nat → Int32 → Option (Unit × mH)) (r' : Unit) (h' : mH) (hE : mEnd X ad none none h') (hK2 : ∀ (h : mH) (a0 : Nat) (x1 : Int32), K2 h a0 x1 = some (r', h') → mAW X ad 0 0 2 [(0, .ref a0), (1, .int x1)] [] h) (n0 : Nat) (h0 : mH) (a0 : Nat) (x2 : Int32) (hf : f_Mo_coded_B53 K2 n0 h0 a0 x2 = some (r', h')) : mAW X ad 0 0 53 [(0, .ref a0), (2, .int x2)] [] h0 := by
  unfold f_Mo_coded_B53 at hf
  refine ax_iload_n O d_Mo_coded_53 rfl 1 rfl ?_
  refine ax_sipush (v := 256) O d_Mo_coded_54 (by decide) ?_
  refine ax_icmp_eq (tgt := 64) O d_Mo_coded_57 (by decide) (fun q11 => ?_) (fun q11 => ?_)
  · rw [if_pos q11] at hf
    refine ax_iconst (v := 0) O d_Mo_coded_64 (by decide) ?_
    refine ax_istore_n (lv' := [(1, .int 0), (0, .ref a0), (2, .int x2)]) O d_Mo_coded_65 rfl (by decide) rfl ?_
    refine ax_goto (tgt := 2) O d_Mo_coded_66 (by decide) ?_
    refine ax_sub [1, 0] rfl ?_
    exact hK2 _ _ _ hf
  · rw [if_neg q11] at hf
    refine ax_iconst (v := 1) O d_Mo_coded_60 (by decide) ?_
    refine ax_goto (tgt := 65) O d_Mo_coded_61 (by decide) ?_
    refine ax_istore_n (lv' := [(1, .int 1), (0, .ref a0), (2, .int x2)]) O d_Mo_coded_65 rfl (by decide) rfl ?_
    refine ax_goto (tgt := 2) O d_Mo_coded_66 (by decide) ?_
    refine ax_sub [1, 0] rfl ?_
    exact hK2 _ _ _ hf
set_option maxHeartbeats 4000000 in
set_option maxRecDepth 100000 in
theorem cb_Mo_coded_B41 {X : mX} {ad : Nat → Nat} {ln : Launch} (O : mO X ad R_Mo b_Mo_coded 3 (mR 5 113) ln) (K2 : mH → Nat → Int32 → Option (Unit × mH)) (r' : Unit) (h' : mH) (hE : mEnd X ad none none h') (hK2 : ∀ (h : mH) (a0 : Nat) (x1 : Int32), K2 h a0 x1 = some (r', h') → mAW X ad 0 0 2 [(0, .ref a0), (1, .int x1)] [] h) (n0 : Nat) (h0 : mH) (a0 : Nat) (x2 : Int32) (hf : f_Mo_coded_B41 K2 n0 h0 a0 x2 = some (r', h')) : mAW X ad 0 0 41 [(0, .ref a0), (2, .int x2)] [] h0 := by
  unfold f_Mo_coded_B41 at hf
  refine ax_iload_n O d_Mo_coded_41 rfl 1 rfl ?_
  refine ax_sipush (v := 256) O d_Mo_coded_42 (by decide) ?_
  refine ax_icmp_le (tgt := 53) O d_Mo_coded_45 (by decide) (fun q10 => ?_) (fun q10 => ?_)
  · rw [if_pos q10] at hf
    exact cb_Mo_coded_B53 O K2 _ _ hE hK2 n0 _ _ _ hf
  · rw [if_neg q10] at hf
    refine ax_aload_n O d_Mo_coded_48 rfl 0 rfl ?_
    refine ax_iload_n O d_Mo_coded_49 rfl 1 rfl ?_
    obtain ⟨fh14, ch14, hf⟩ := mis_some hf
    obtain ⟨u15, h14, mh14, hf⟩ := mcl_some hf
    refine ax_callV (As := [.int x2]) (rest := []) O cw_Mo_match (q := (R_Mo, T_Mo, 31)) rfl rfl in_Mo_match se_Mo_match lk_Mo_160 ch14 (c_Mo_match mh14) rfl ⟨rfl, rfl⟩ (by decide) (by decide) (Nat.le_of_ble_eq_true rfl) d_Mo_coded_50 ?_
    exact cb_Mo_coded_B53 O K2 _ _ hE hK2 n0 _ _ _ hf
set_option maxHeartbeats 4000000 in
set_option maxRecDepth 100000 in
theorem cb_Mo_coded_L2 {X : mX} {ad : Nat → Nat} {ln : Launch} (O : mO X ad R_Mo b_Mo_coded 3 (mR 5 113) ln) (r' : Unit) (h' : mH) (hE : mEnd X ad none none h') (n0 : Nat) : ∀ (n : Nat) (h0 : mH) (a0 : Nat) (x1 : Int32), f_Mo_coded_L2 n0 n h0 a0 x1 = some (r', h') → mAW X ad 0 0 2 [(0, .ref a0), (1, .int x1)] [] h0 := by
  intro n
  induction n with
  | zero =>
    intro h0 a0 x1 hf
    rw [f_Mo_coded_L2.eq_1] at hf
    cases hf
  | succ n ih =>
    intro h0 a0 x1 hf
    rw [f_Mo_coded_L2.eq_2] at hf
    refine ax_iload_n O d_Mo_coded_2 rfl 1 rfl ?_
    refine ax_if_eq (tgt := 69) O d_Mo_coded_3 (by decide) (fun q1 => ?_) (fun q1 => ?_)
    · rw [if_pos q1] at hf
      exact ax_vretE O hE hf d_Mo_coded_69
    · rw [if_neg q1] at hf
      refine ax_aload_n O d_Mo_coded_6 rfl 0 rfl ?_
      obtain ⟨fh4, ch4, hf⟩ := mis_some hf
      obtain ⟨v3, h4, mh4, hf⟩ := mcl_some hf
      refine ax_callV (As := []) (rest := []) O cw_Mo_isGood (q := (R_Mo, T_Mo, 31)) rfl rfl in_Mo_isGood se_Mo_isGood lk_Mo_89 ch4 (c_Mo_isGood mh4) rfl ⟨rfl, rfl⟩ (by decide) (by decide) (Nat.le_of_ble_eq_true rfl) d_Mo_coded_7 ?_
      refine ax_if_eq (tgt := 69) O d_Mo_coded_10 (by decide) (fun q5 => ?_) (fun q5 => ?_)
      · rw [if_pos q5] at hf
        exact ax_vretE O hE hf d_Mo_coded_69
      · rw [if_neg q5] at hf
        refine ax_aload_n O d_Mo_coded_13 rfl 0 rfl ?_
        refine ax_iconst (v := 0) O d_Mo_coded_14 (by decide) ?_
        refine ax_sipush (v := 288) O d_Mo_coded_15 (by decide) ?_
        obtain ⟨fh8, ch8, hf⟩ := mis_some hf
        obtain ⟨v7, h8, mh8, hf⟩ := mcl_some hf
        refine ax_callV (As := [.int 0, .int 288]) (rest := []) O cw_Mo_symbol (q := (R_Mo, T_Mo, 31)) rfl rfl in_Mo_symbol se_Mo_symbol lk_Mo_141 ch8 (c_Mo_symbol mh8) rfl ⟨rfl, rfl⟩ (by decide) (by decide) (Nat.le_of_ble_eq_true rfl) d_Mo_coded_18 ?_
        refine ax_istore_n (lv' := [(2, .int v7), (0, .ref a0), (1, .int x1)]) O d_Mo_coded_21 rfl (by decide) rfl ?_
        refine ax_iload_n O d_Mo_coded_22 rfl 0 rfl ?_
        refine ax_if_lt (tgt := 41) O d_Mo_coded_23 (by decide) (fun q9 => ?_) (fun q9 => ?_)
        · rw [if_pos q9] at hf
          refine ax_sub [1, 0] rfl ?_
          exact cb_Mo_coded_B41 O (f_Mo_coded_L2 n0 n) _ _ hE ih n0 _ _ _ hf
        · rw [if_neg q9] at hf
          refine ax_iload_n O d_Mo_coded_26 rfl 0 rfl ?_
          refine ax_sipush (v := 256) O d_Mo_coded_27 (by decide) ?_
          refine ax_icmp_ge (tgt := 41) O d_Mo_coded_30 (by decide) (fun q16 => ?_) (fun q16 => ?_)
          · rw [if_pos q16] at hf
            refine ax_sub [1, 0] rfl ?_
            exact cb_Mo_coded_B41 O (f_Mo_coded_L2 n0 n) _ _ hE ih n0 _ _ _ hf
          · rw [if_neg q16] at hf
            refine ax_aload_n O d_Mo_coded_33 rfl 1 rfl ?_
            refine ax_iload_n O d_Mo_coded_34 rfl 0 rfl ?_
            obtain ⟨fh19, ch19, hf⟩ := mis_some hf
            obtain ⟨u20, h19, mh19, hf⟩ := mcl_some hf
            refine ax_callV (As := [.int v7]) (rest := []) O cw_Mo_give (q := (R_Mo, T_Mo, 31)) rfl rfl in_Mo_give se_Mo_give lk_Mo_157 ch19 (c_Mo_give mh19) rfl ⟨rfl, rfl⟩ (by decide) (by decide) (Nat.le_of_ble_eq_true rfl) d_Mo_coded_35 ?_
            refine ax_goto (tgt := 53) O d_Mo_coded_38 (by decide) ?_
            refine ax_sub [1, 0] rfl ?_
            exact cb_Mo_coded_B53 O (f_Mo_coded_L2 n0 n) _ _ hE ih n0 _ _ _ hf
set_option maxHeartbeats 4000000 in
set_option maxRecDepth 100000 in
theorem cb_Mo_coded {X : mX} {ad : Nat → Nat} {ln : Launch} (O : mO X ad R_Mo b_Mo_coded 3 (mR 5 113) ln) (r' : Unit) (h' : mH) (hE : mEnd X ad none none h') (n0 : Nat) (h0 : mH) (a0 : Nat) (hf : f_Mo_coded n0 h0 a0 = some (r', h')) : mAW X ad 0 0 0 [(0, .ref a0)] [] h0 := by
  unfold f_Mo_coded at hf
  refine ax_iconst (v := 1) O d_Mo_coded_0 (by decide) ?_
  refine ax_istore_n (lv' := [(1, .int 1), (0, .ref a0)]) O d_Mo_coded_1 rfl (by decide) rfl ?_
  refine ax_sub [1, 0] rfl ?_
  exact cb_Mo_coded_L2 O _ _ hE n0 n0 _ _ _ hf
theorem c_Mo_coded {ln : Launch} {n0 : Nat} {h0 h' : mH} {a0 : Nat} {r' : Unit} (hf : f_Mo_coded n0 h0 a0 = some (r', h')) : mMet ln y_Mo_coded b_Mo_coded 3 none (mR 5 113) [.ref a0] h0 none h' := mMet_of (by decide +kernel) (Nat.le_of_ble_eq_true rfl) (fun X ad O hE => cb_Mo_coded O r' h' hE n0 h0 a0 hf)
/-! ===== StreamFiltersModel.stored()V ===== -/
theorem d_Mo_stored_0 : decode b_Mo_stored 0 = .ok (.aload_n 0, 1) := by decide +kernel
theorem d_Mo_stored_1 : decode b_Mo_stored 1 = .ok (.iconst 0, 1) := by decide +kernel
theorem d_Mo_stored_2 : decode b_Mo_stored 2 = .ok (.putfield 109, 3) := by decide +kernel
theorem d_Mo_stored_5 : decode b_Mo_stored 5 = .ok (.aload_n 0, 1) := by decide +kernel
theorem d_Mo_stored_6 : decode b_Mo_stored 6 = .ok (.invokevirtual 112, 3) := by decide +kernel
theorem d_Mo_stored_9 : decode b_Mo_stored 9 = .ok (.istore_n 1, 1) := by decide +kernel
theorem d_Mo_stored_10 : decode b_Mo_stored 10 = .ok (.iload_n 1, 1) := by decide +kernel
theorem d_Mo_stored_11 : decode b_Mo_stored 11 = .ok (.sipush 256, 3) := by decide +kernel
theorem d_Mo_stored_14 : decode b_Mo_stored 14 = .ok (.aload_n 0, 1) := by decide +kernel
theorem d_Mo_stored_15 : decode b_Mo_stored 15 = .ok (.invokevirtual 112, 3) := by decide +kernel
theorem d_Mo_stored_18 : decode b_Mo_stored 18 = .ok (.imul, 1) := by decide +kernel
theorem d_Mo_stored_19 : decode b_Mo_stored 19 = .ok (.iadd, 1) := by decide +kernel
theorem d_Mo_stored_20 : decode b_Mo_stored 20 = .ok (.istore_n 1, 1) := by decide +kernel
theorem d_Mo_stored_21 : decode b_Mo_stored 21 = .ok (.aload_n 0, 1) := by decide +kernel
theorem d_Mo_stored_22 : decode b_Mo_stored 22 = .ok (.invokevirtual 112, 3) := by decide +kernel
theorem d_Mo_stored_25 : decode b_Mo_stored 25 = .ok (.istore_n 2, 1) := by decide +kernel
theorem d_Mo_stored_26 : decode b_Mo_stored 26 = .ok (.iload_n 2, 1) := by decide +kernel
theorem d_Mo_stored_27 : decode b_Mo_stored 27 = .ok (.sipush 256, 3) := by decide +kernel
theorem d_Mo_stored_30 : decode b_Mo_stored 30 = .ok (.aload_n 0, 1) := by decide +kernel
theorem d_Mo_stored_31 : decode b_Mo_stored 31 = .ok (.invokevirtual 112, 3) := by decide +kernel
theorem d_Mo_stored_34 : decode b_Mo_stored 34 = .ok (.imul, 1) := by decide +kernel
theorem d_Mo_stored_35 : decode b_Mo_stored 35 = .ok (.iadd, 1) := by decide +kernel
theorem d_Mo_stored_36 : decode b_Mo_stored 36 = .ok (.istore_n 2, 1) := by decide +kernel
theorem d_Mo_stored_37 : decode b_Mo_stored 37 = .ok (.aload_n 0, 1) := by decide +kernel
theorem d_Mo_stored_38 : decode b_Mo_stored 38 = .ok (.invokevirtual 89, 3) := by decide +kernel
theorem d_Mo_stored_41 : decode b_Mo_stored 41 = .ok (.ifCond .eq 16, 3) := by decide +kernel
theorem d_Mo_stored_44 : decode b_Mo_stored 44 = .ok (.iload_n 2, 1) := by decide +kernel
theorem d_Mo_stored_45 : decode b_Mo_stored 45 = .ok (.ldc 163, 2) := by decide +kernel
theorem d_Mo_stored_47 : decode b_Mo_stored 47 = .ok (.iload_n 1, 1) := by decide +kernel
theorem d_Mo_stored_48 : decode b_Mo_stored 48 = .ok (.isub, 1) := by decide +kernel
theorem d_Mo_stored_49 : decode b_Mo_stored 49 = .ok (.if_icmp .eq 8, 3) := by decide +kernel
theorem d_Mo_stored_52 : decode b_Mo_stored 52 = .ok (.aload_n 0, 1) := by decide +kernel
theorem d_Mo_stored_53 : decode b_Mo_stored 53 = .ok (.iconst 5, 1) := by decide +kernel
theorem d_Mo_stored_54 : decode b_Mo_stored 54 = .ok (.invokevirtual 99, 3) := by decide +kernel
theorem d_Mo_stored_57 : decode b_Mo_stored 57 = .ok (.iconst 0, 1) := by decide +kernel
theorem d_Mo_stored_58 : decode b_Mo_stored 58 = .ok (.istore_n 3, 1) := by decide +kernel
theorem d_Mo_stored_59 : decode b_Mo_stored 59 = .ok (.iload_n 3, 1) := by decide +kernel
theorem d_Mo_stored_60 : decode b_Mo_stored 60 = .ok (.iload_n 1, 1) := by decide +kernel
theorem d_Mo_stored_61 : decode b_Mo_stored 61 = .ok (.if_icmp .ge 28, 3) := by decide +kernel
theorem d_Mo_stored_64 : decode b_Mo_stored 64 = .ok (.aload_n 0, 1) := by decide +kernel
theorem d_Mo_stored_65 : decode b_Mo_stored 65 = .ok (.invokevirtual 89, 3) := by decide +kernel
theorem d_Mo_stored_68 : decode b_Mo_stored 68 = .ok (.ifCond .eq 21, 3) := by decide +kernel
theorem d_Mo_stored_71 : decode b_Mo_stored 71 = .ok (.aload_n 0, 1) := by decide +kernel
theorem d_Mo_stored_72 : decode b_Mo_stored 72 = .ok (.invokevirtual 112, 3) := by decide +kernel
theorem d_Mo_stored_75 : decode b_Mo_stored 75 = .ok (.istore 4, 2) := by decide +kernel
theorem d_Mo_stored_77 : decode b_Mo_stored 77 = .ok (.aload_n 0, 1) := by decide +kernel
theorem d_Mo_stored_78 : decode b_Mo_stored 78 = .ok (.iload 4, 2) := by decide +kernel
theorem d_Mo_stored_80 : decode b_Mo_stored 80 = .ok (.invokevirtual 157, 3) := by decide +kernel
theorem d_Mo_stored_83 : decode b_Mo_stored 83 = .ok (.iinc 3 1, 3) := by decide +kernel
theorem d_Mo_stored_86 : decode b_Mo_stored 86 = .ok (.goto (-27), 3) := by decide +kernel
theorem d_Mo_stored_89 : decode b_Mo_stored 89 = .ok (.return_, 1) := by decide +kernel
noncomputable def f_Mo_stored_L59  (n0 : Nat) : Nat → mH → Nat → Int32 → Int32 → Option (Unit × mH)
  | 0, _, _, _, _ => none
  | n + 1, h0, a0, x1, x3 =>
    if x1 ≤ x3 then
      some ((), h0)
    else
      mis h0 a0 10 <|
      mcl (f_Mo_isGood n0 h0 a0) fun v22 h23 =>
      if v22 = 0 then
        some ((), h23)
      else
        mis h23 a0 10 <|
        mcl (f_Mo_next n0 h23 a0) fun v26 h27 =>
        mis h27 a0 10 <|
        mcl (f_Mo_give n0 h27 a0 v26) fun _ h30 =>
        mnm (x3 + 1) fun v32 =>
        (f_Mo_stored_L59 n0 n) h30 a0 x1 v32
noncomputable def f_Mo_stored_B57  (n0 : Nat) (h0 : mH) (a0 : Nat) (x1 : Int32) : Option (Unit × mH) :=
  f_Mo_stored_L59 n0 n0 h0 a0 x1 0
noncomputable def f_Mo_stored  (n0 : Nat) (h0 : mH) (a0 : Nat) : Option (Unit × mH) :=
  mpt h0 a0 10 19 (.int 0) fun h1 =>
  mis h1 a0 10 <|
  mcl (f_Mo_next n0 h1 a0) fun v3 h4 =>
  mis h4 a0 10 <|
  mcl (f_Mo_next n0 h4 a0) fun v6 h7 =>
  mnm (v3 + (256 * v6)) fun v8 =>
  mis h7 a0 10 <|
  mcl (f_Mo_next n0 h7 a0) fun v10 h11 =>
  mis h11 a0 10 <|
  mcl (f_Mo_next n0 h11 a0) fun v13 h14 =>
  mnm (v10 + (256 * v13)) fun v15 =>
  mis h14 a0 10 <|
  mcl (f_Mo_isGood n0 h14 a0) fun v17 h18 =>
  if v17 = 0 then
    f_Mo_stored_B57 n0 h18 a0 v8
  else
    if v15 = (65535 - v8) then
      f_Mo_stored_B57 n0 h18 a0 v8
    else
      mis h18 a0 10 <|
      mcl (f_Mo_fail n0 h18 a0 5) fun _ h36 =>
      f_Mo_stored_B57 n0 h36 a0 v8
set_option maxHeartbeats 4000000 in
set_option maxRecDepth 100000 in
theorem cb_Mo_stored_L59 {X : mX} {ad : Nat → Nat} {ln : Launch} (O : mO X ad R_Mo b_Mo_stored 5 (mR 2 42) ln) (r' : Unit) (h' : mH) (hE : mEnd X ad none none h') (n0 : Nat) : ∀ (n : Nat) (h0 : mH) (a0 : Nat) (x1 : Int32) (x3 : Int32), f_Mo_stored_L59 n0 n h0 a0 x1 x3 = some (r', h') → mAW X ad 0 0 59 [(0, .ref a0), (1, .int x1), (3, .int x3)] [] h0 := by
  intro n
  induction n with
  | zero =>
    intro h0 a0 x1 x3 hf
    rw [f_Mo_stored_L59.eq_1] at hf
    cases hf
  | succ n ih =>
    intro h0 a0 x1 x3 hf
    rw [f_Mo_stored_L59.eq_2] at hf
    refine ax_iload_n O d_Mo_stored_59 rfl 2 rfl ?_
    refine ax_iload_n O d_Mo_stored_60 rfl 1 rfl ?_
    refine ax_icmp_ge (tgt := 89) O d_Mo_stored_61 (by decide) (fun q20 => ?_) (fun q20 => ?_)
    · rw [if_pos q20] at hf
      exact ax_vretE O hE hf d_Mo_stored_89
    · rw [if_neg q20] at hf
      refine ax_aload_n O d_Mo_stored_64 rfl 0 rfl ?_
      obtain ⟨fh23, ch23, hf⟩ := mis_some hf
      obtain ⟨v22, h23, mh23, hf⟩ := mcl_some hf
      refine ax_callV (As := []) (rest := []) O cw_Mo_isGood (q := (R_Mo, T_Mo, 31)) rfl rfl in_Mo_isGood se_Mo_isGood lk_Mo_89 ch23 (c_Mo_isGood mh23) rfl ⟨rfl, rfl⟩ (by decide) (by decide) (Nat.le_of_ble_eq_true rfl) d_Mo_stored_65 ?_
      refine ax_if_eq (tgt := 89) O d_Mo_stored_68 (by decide) (fun q24 => ?_) (fun q24 => ?_)
      · rw [if_pos q24] at hf
        exact ax_vretE O hE hf d_Mo_stored_89
      · rw [if_neg q24] at hf
        refine ax_aload_n O d_Mo_stored_71 rfl 0 rfl ?_
        obtain ⟨fh27, ch27, hf⟩ := mis_some hf
        obtain ⟨v26, h27, mh27, hf⟩ := mcl_some hf
        refine ax_callV (As := []) (rest := []) O cw_Mo_next (q := (R_Mo, T_Mo, 31)) rfl rfl in_Mo_next se_Mo_next lk_Mo_112 ch27 (c_Mo_next mh27) rfl ⟨rfl, rfl⟩ (by decide) (by decide) (Nat.le_of_ble_eq_true rfl) d_Mo_stored_72 ?_
        refine ax_istore (lv' := [(4, .int v26), (0, .ref a0), (1, .int x1), (3, .int x3)]) O d_Mo_stored_75 (by decide) rfl ?_
        refine ax_aload_n O d_Mo_stored_77 rfl 1 rfl ?_
        refine ax_iload O d_Mo_stored_78 0 rfl ?_
        obtain ⟨fh30, ch30, hf⟩ := mis_some hf
        obtain ⟨u31, h30, mh30, hf⟩ := mcl_some hf
        refine ax_callV (As := [.int v26]) (rest := []) O cw_Mo_give (q := (R_Mo, T_Mo, 31)) rfl rfl in_Mo_give se_Mo_give lk_Mo_157 ch30 (c_Mo_give mh30) rfl ⟨rfl, rfl⟩ (by decide) (by decide) (Nat.le_of_ble_eq_true rfl) d_Mo_stored_80 ?_
        obtain ⟨v32, ev32, hf⟩ := mnm_some hf
        refine ax_iinc (j := 3) (v := v32) (lv' := [(3, .int v32), (4, .int v26), (0, .ref a0), (1, .int x1)]) O d_Mo_stored_83 rfl (by rw [ev32]; rfl) (by decide) rfl ?_
        refine ax_goto (tgt := 59) O d_Mo_stored_86 (by decide) ?_
        refine ax_sub [2, 3, 0] rfl ?_
        exact ih _ _ _ _ hf
set_option maxHeartbeats 4000000 in
set_option maxRecDepth 100000 in
theorem cb_Mo_stored_B57 {X : mX} {ad : Nat → Nat} {ln : Launch} (O : mO X ad R_Mo b_Mo_stored 5 (mR 2 42) ln) (r' : Unit) (h' : mH) (hE : mEnd X ad none none h') (n0 : Nat) (h0 : mH) (a0 : Nat) (x1 : Int32) (hf : f_Mo_stored_B57 n0 h0 a0 x1 = some (r', h')) : mAW X ad 0 0 57 [(0, .ref a0), (1, .int x1)] [] h0 := by
  unfold f_Mo_stored_B57 at hf
  refine ax_iconst (v := 0) O d_Mo_stored_57 (by decide) ?_
  refine ax_istore_n (lv' := [(3, .int 0), (0, .ref a0), (1, .int x1)]) O d_Mo_stored_58 rfl (by decide) rfl ?_
  refine ax_sub [1, 2, 0] rfl ?_
  exact cb_Mo_stored_L59 O _ _ hE n0 n0 _ _ _ _ hf
set_option maxHeartbeats 4000000 in
set_option maxRecDepth 100000 in
theorem cb_Mo_stored {X : mX} {ad : Nat → Nat} {ln : Launch} (O : mO X ad R_Mo b_Mo_stored 5 (mR 2 42) ln) (r' : Unit) (h' : mH) (hE : mEnd X ad none none h') (n0 : Nat) (h0 : mH) (a0 : Nat) (hf : f_Mo_stored n0 h0 a0 = some (r', h')) : mAW X ad 0 0 0 [(0, .ref a0)] [] h0 := by
  unfold f_Mo_stored at hf
  refine ax_aload_n O d_Mo_stored_0 rfl 0 rfl ?_
  refine ax_iconst (v := 0) O d_Mo_stored_1 (by decide) ?_
  obtain ⟨fh1, h1, ch1, kh1, eh1, hf⟩ := mpt_some hf
  refine ax_put (v := .int 0) O fp_Mo_109 ch1 kh1 eh1 rfl rfl d_Mo_stored_2 ?_
  refine ax_aload_n O d_Mo_stored_5 rfl 0 rfl ?_
  obtain ⟨fh4, ch4, hf⟩ := mis_some hf
  obtain ⟨v3, h4, mh4, hf⟩ := mcl_some hf
  refine ax_callV (As := []) (rest := []) O cw_Mo_next (q := (R_Mo, T_Mo, 31)) rfl rfl in_Mo_next se_Mo_next lk_Mo_112 ch4 (c_Mo_next mh4) rfl ⟨rfl, rfl⟩ (by decide) (by decide) (Nat.le_of_ble_eq_true rfl) d_Mo_stored_6 ?_
  refine ax_istore_n (lv' := [(1, .int v3), (0, .ref a0)]) O d_Mo_stored_9 rfl (by decide) rfl ?_
  refine ax_iload_n O d_Mo_stored_10 rfl 0 rfl ?_
  refine ax_sipush (v := 256) O d_Mo_stored_11 (by decide) ?_
  refine ax_aload_n O d_Mo_stored_14 rfl 1 rfl ?_
  obtain ⟨fh7, ch7, hf⟩ := mis_some hf
  obtain ⟨v6, h7, mh7, hf⟩ := mcl_some hf
  refine ax_callV (As := []) (rest := [.int 256, .int v3]) O cw_Mo_next (q := (R_Mo, T_Mo, 31)) rfl rfl in_Mo_next se_Mo_next lk_Mo_112 ch7 (c_Mo_next mh7) rfl ⟨rfl, rfl⟩ (by decide) (by decide) (Nat.le_of_ble_eq_true rfl) d_Mo_stored_15 ?_
  refine ax_imul O d_Mo_stored_18 ?_
  refine ax_iadd O d_Mo_stored_19 ?_
  obtain ⟨v8, ev8, hf⟩ := mnm_some hf
  refine ax_nmi ev8 ?_
  refine ax_istore_n (lv' := [(1, .int v8), (0, .ref a0)]) O d_Mo_stored_20 rfl (by decide) rfl ?_
  refine ax_aload_n O d_Mo_stored_21 rfl 1 rfl ?_
  obtain ⟨fh11, ch11, hf⟩ := mis_some hf
  obtain ⟨v10, h11, mh11, hf⟩ := mcl_some hf
  refine ax_callV (As := []) (rest := []) O cw_Mo_next (q := (R_Mo, T_Mo, 31)) rfl rfl in_Mo_next se_Mo_next lk_Mo_112 ch11 (c_Mo_next mh11) rfl ⟨rfl, rfl⟩ (by decide) (by decide) (Nat.le_of_ble_eq_true rfl) d_Mo_stored_22 ?_
  refine ax_istore_n (lv' := [(2, .int v10), (1, .int v8), (0, .ref a0)]) O d_Mo_stored_25 rfl (by decide) rfl ?_
  refine ax_iload_n O d_Mo_stored_26 rfl 0 rfl ?_
  refine ax_sipush (v := 256) O d_Mo_stored_27 (by decide) ?_
  refine ax_aload_n O d_Mo_stored_30 rfl 2 rfl ?_
  obtain ⟨fh14, ch14, hf⟩ := mis_some hf
  obtain ⟨v13, h14, mh14, hf⟩ := mcl_some hf
  refine ax_callV (As := []) (rest := [.int 256, .int v10]) O cw_Mo_next (q := (R_Mo, T_Mo, 31)) rfl rfl in_Mo_next se_Mo_next lk_Mo_112 ch14 (c_Mo_next mh14) rfl ⟨rfl, rfl⟩ (by decide) (by decide) (Nat.le_of_ble_eq_true rfl) d_Mo_stored_31 ?_
  refine ax_imul O d_Mo_stored_34 ?_
  refine ax_iadd O d_Mo_stored_35 ?_
  obtain ⟨v15, ev15, hf⟩ := mnm_some hf
  refine ax_nmi ev15 ?_
  refine ax_istore_n (lv' := [(2, .int v15), (1, .int v8), (0, .ref a0)]) O d_Mo_stored_36 rfl (by decide) rfl ?_
  refine ax_aload_n O d_Mo_stored_37 rfl 2 rfl ?_
  obtain ⟨fh18, ch18, hf⟩ := mis_some hf
  obtain ⟨v17, h18, mh18, hf⟩ := mcl_some hf
  refine ax_callV (As := []) (rest := []) O cw_Mo_isGood (q := (R_Mo, T_Mo, 31)) rfl rfl in_Mo_isGood se_Mo_isGood lk_Mo_89 ch18 (c_Mo_isGood mh18) rfl ⟨rfl, rfl⟩ (by decide) (by decide) (Nat.le_of_ble_eq_true rfl) d_Mo_stored_38 ?_
  refine ax_if_eq (tgt := 57) O d_Mo_stored_41 (by decide) (fun q19 => ?_) (fun q19 => ?_)
  · rw [if_pos q19] at hf
    refine ax_sub [2, 1] rfl ?_
    exact cb_Mo_stored_B57 O _ _ hE n0 _ _ _ hf
  · rw [if_neg q19] at hf
    refine ax_iload_n O d_Mo_stored_44 rfl 0 rfl ?_
    refine ax_ldc (v := 65535) O d_Mo_stored_45 wd_9 ?_
    refine ax_iload_n O d_Mo_stored_47 rfl 1 rfl ?_
    refine ax_isub O d_Mo_stored_48 ?_
    refine ax_icmp_eq (tgt := 57) O d_Mo_stored_49 (by decide) (fun q33 => ?_) (fun q33 => ?_)
    · rw [if_pos q33] at hf
      refine ax_sub [2, 1] rfl ?_
      exact cb_Mo_stored_B57 O _ _ hE n0 _ _ _ hf
    · rw [if_neg q33] at hf
      refine ax_aload_n O d_Mo_stored_52 rfl 2 rfl ?_
      refine ax_iconst (v := 5) O d_Mo_stored_53 (by decide) ?_
      obtain ⟨fh36, ch36, hf⟩ := mis_some hf
      obtain ⟨u37, h36, mh36, hf⟩ := mcl_some hf
      refine ax_callV (As := [.int 5]) (rest := []) O cw_Mo_fail (q := (R_Mo, T_Mo, 31)) rfl rfl in_Mo_fail se_Mo_fail lk_Mo_99 ch36 (c_Mo_fail mh36) rfl ⟨rfl, rfl⟩ (by decide) (by decide) (Nat.le_of_ble_eq_true rfl) d_Mo_stored_54 ?_
      refine ax_sub [2, 1] rfl ?_
      exact cb_Mo_stored_B57 O _ _ hE n0 _ _ _ hf
theorem c_Mo_stored {ln : Launch} {n0 : Nat} {h0 h' : mH} {a0 : Nat} {r' : Unit} (hf : f_Mo_stored n0 h0 a0 = some (r', h')) : mMet ln y_Mo_stored b_Mo_stored 5 none (mR 2 42) [.ref a0] h0 none h' := mMet_of (by decide +kernel) (Nat.le_of_ble_eq_true rfl) (fun X ad O hE => cb_Mo_stored O r' h' hE n0 h0 a0 hf)
/-! ===== StreamFiltersModel.block(I)V ===== -/
theorem d_Mo_block_0 : decode b_Mo_block 0 = .ok (.iload_n 1, 1) := by decide +kernel
theorem d_Mo_block_1 : decode b_Mo_block 1 = .ok (.tableswitch 56 0 2 #[27, 34, 45], 27) := by decide +kernel
theorem d_Mo_block_28 : decode b_Mo_block 28 = .ok (.aload_n 0, 1) := by decide +kernel
theorem d_Mo_block_29 : decode b_Mo_block 29 = .ok (.invokevirtual 173, 3) := by decide +kernel
theorem d_Mo_block_32 : decode b_Mo_block 32 = .ok (.goto 30, 3) := by decide +kernel
theorem d_Mo_block_35 : decode b_Mo_block 35 = .ok (.aload_n 0, 1) := by decide +kernel
theorem d_Mo_block_36 : decode b_Mo_block 36 = .ok (.invokevirtual 176, 3) := by decide +kernel
theorem d_Mo_block_39 : decode b_Mo_block 39 = .ok (.aload_n 0, 1) := by decide +kernel
theorem d_Mo_block_40 : decode b_Mo_block 40 = .ok (.invokevirtual 179, 3) := by decide +kernel
theorem d_Mo_block_43 : decode b_Mo_block 43 = .ok (.goto 19, 3) := by decide +kernel
theorem d_Mo_block_46 : decode b_Mo_block 46 = .ok (.aload_n 0, 1) := by decide +kernel
theorem d_Mo_block_47 : decode b_Mo_block 47 = .ok (.invokevirtual 182, 3) := by decide +kernel
theorem d_Mo_block_50 : decode b_Mo_block 50 = .ok (.aload_n 0, 1) := by decide +kernel
theorem d_Mo_block_51 : decode b_Mo_block 51 = .ok (.invokevirtual 179, 3) := by decide +kernel
theorem d_Mo_block_54 : decode b_Mo_block 54 = .ok (.goto 8, 3) := by decide +kernel
theorem d_Mo_block_57 : decode b_Mo_block 57 = .ok (.aload_n 0, 1) := by decide +kernel
theorem d_Mo_block_58 : decode b_Mo_block 58 = .ok (.iconst 4, 1) := by decide +kernel
theorem d_Mo_block_59 : decode b_Mo_block 59 = .ok (.invokevirtual 99, 3) := by decide +kernel
theorem d_Mo_block_62 : decode b_Mo_block 62 = .ok (.return_, 1) := by decide +kernel
noncomputable def f_Mo_block  (n0 : Nat) (h0 : mH) (a0 : Nat) (x1 : Int32) : Option (Unit × mH) :=
  if x1 = 0 then
    mis h0 a0 10 <|
    mcl (f_Mo_stored n0 h0 a0) fun _ h4 =>
    some ((), h4)
  else
    if x1 = 1 then
      mis h0 a0 10 <|
      mcl (f_Mo_fixCodes n0 h0 a0) fun _ h9 =>
      mis h9 a0 10 <|
      mcl (f_Mo_coded n0 h9 a0) fun _ h13 =>
      some ((), h13)
    else
      if x1 = 2 then
        mis h0 a0 10 <|
        mcl (f_Mo_readCodes n0 h0 a0) fun _ h18 =>
        mis h18 a0 10 <|
        mcl (f_Mo_coded n0 h18 a0) fun _ h22 =>
        some ((), h22)
      else
        mis h0 a0 10 <|
        mcl (f_Mo_fail n0 h0 a0 4) fun _ h26 =>
        some ((), h26)
set_option maxHeartbeats 4000000 in
set_option maxRecDepth 100000 in
theorem cb_Mo_block {X : mX} {ad : Nat → Nat} {ln : Launch} (O : mO X ad R_Mo b_Mo_block 2 (mR 6 141) ln) (r' : Unit) (h' : mH) (hE : mEnd X ad none none h') (n0 : Nat) (h0 : mH) (a0 : Nat) (x1 : Int32) (hf : f_Mo_block n0 h0 a0 x1 = some (r', h')) : mAW X ad 0 0 0 [(0, .ref a0), (1, .int x1)] [] h0 := by
  unfold f_Mo_block at hf
  refine ax_iload_n O d_Mo_block_0 rfl 1 rfl ?_
  by_cases q1 : x1 = 0
  · rw [if_pos q1] at hf
    refine ax_tableIn (tgt := 28) O d_Mo_block_1 (by rw [q1]; decide) (by rw [q1]; decide) (by rw [q1]; rfl) (by decide) ?_
    refine ax_aload_n O d_Mo_block_28 rfl 0 rfl ?_
    obtain ⟨fh4, ch4, hf⟩ := mis_some hf
    obtain ⟨u5, h4, mh4, hf⟩ := mcl_some hf
    refine ax_callV (As := []) (rest := []) O cw_Mo_stored (q := (R_Mo, T_Mo, 31)) rfl rfl in_Mo_stored se_Mo_stored lk_Mo_173 ch4 (c_Mo_stored mh4) rfl ⟨rfl, rfl⟩ (by decide) (by decide) (Nat.le_of_ble_eq_true rfl) d_Mo_block_29 ?_
    refine ax_goto (tgt := 62) O d_Mo_block_32 (by decide) ?_
    exact ax_vretE O hE hf d_Mo_block_62
  · rw [if_neg q1] at hf
    by_cases q6 : x1 = 1
    · rw [if_pos q6] at hf
      refine ax_tableIn (tgt := 35) O d_Mo_block_1 (by rw [q6]; decide) (by rw [q6]; decide) (by rw [q6]; rfl) (by decide) ?_
      refine ax_aload_n O d_Mo_block_35 rfl 0 rfl ?_
      obtain ⟨fh9, ch9, hf⟩ := mis_some hf
      obtain ⟨u10, h9, mh9, hf⟩ := mcl_some hf
      refine ax_callV (As := []) (rest := []) O cw_Mo_fixCodes (q := (R_Mo, T_Mo, 31)) rfl rfl in_Mo_fixCodes se_Mo_fixCodes lk_Mo_176 ch9 (c_Mo_fixCodes mh9) rfl ⟨rfl, rfl⟩ (by decide) (by decide) (Nat.le_of_ble_eq_true rfl) d_Mo_block_36 ?_
      refine ax_aload_n O d_Mo_block_39 rfl 0 rfl ?_
      obtain ⟨fh13, ch13, hf⟩ := mis_some hf
      obtain ⟨u14, h13, mh13, hf⟩ := mcl_some hf
      refine ax_callV (As := []) (rest := []) O cw_Mo_coded (q := (R_Mo, T_Mo, 31)) rfl rfl in_Mo_coded se_Mo_coded lk_Mo_179 ch13 (c_Mo_coded mh13) rfl ⟨rfl, rfl⟩ (by decide) (by decide) (Nat.le_of_ble_eq_true rfl) d_Mo_block_40 ?_
      refine ax_goto (tgt := 62) O d_Mo_block_43 (by decide) ?_
      exact ax_vretE O hE hf d_Mo_block_62
    · rw [if_neg q6] at hf
      by_cases q15 : x1 = 2
      · rw [if_pos q15] at hf
        refine ax_tableIn (tgt := 46) O d_Mo_block_1 (by rw [q15]; decide) (by rw [q15]; decide) (by rw [q15]; rfl) (by decide) ?_
        refine ax_aload_n O d_Mo_block_46 rfl 0 rfl ?_
        obtain ⟨fh18, ch18, hf⟩ := mis_some hf
        obtain ⟨u19, h18, mh18, hf⟩ := mcl_some hf
        refine ax_callV (As := []) (rest := []) O cw_Mo_readCodes (q := (R_Mo, T_Mo, 31)) rfl rfl in_Mo_readCodes se_Mo_readCodes lk_Mo_182 ch18 (c_Mo_readCodes mh18) rfl ⟨rfl, rfl⟩ (by decide) (by decide) (Nat.le_of_ble_eq_true rfl) d_Mo_block_47 ?_
        refine ax_aload_n O d_Mo_block_50 rfl 0 rfl ?_
        obtain ⟨fh22, ch22, hf⟩ := mis_some hf
        obtain ⟨u23, h22, mh22, hf⟩ := mcl_some hf
        refine ax_callV (As := []) (rest := []) O cw_Mo_coded (q := (R_Mo, T_Mo, 31)) rfl rfl in_Mo_coded se_Mo_coded lk_Mo_179 ch22 (c_Mo_coded mh22) rfl ⟨rfl, rfl⟩ (by decide) (by decide) (Nat.le_of_ble_eq_true rfl) d_Mo_block_51 ?_
        refine ax_goto (tgt := 62) O d_Mo_block_54 (by decide) ?_
        exact ax_vretE O hE hf d_Mo_block_62
      · rw [if_neg q15] at hf
        refine ax_tableOut (tgt := 57) O d_Mo_block_1 (mTi (fun z h1 h2 => by rcases (show z = 0 ∨ z = 1 ∨ z = 2 by omega) with rfl | rfl | rfl; exact lv_neT q1 (by decide); exact lv_neT q6 (by decide); exact lv_neT q15 (by decide))) (by decide) ?_
        refine ax_aload_n O d_Mo_block_57 rfl 0 rfl ?_
        refine ax_iconst (v := 4) O d_Mo_block_58 (by decide) ?_
        obtain ⟨fh26, ch26, hf⟩ := mis_some hf
        obtain ⟨u27, h26, mh26, hf⟩ := mcl_some hf
        refine ax_callV (As := [.int 4]) (rest := []) O cw_Mo_fail (q := (R_Mo, T_Mo, 31)) rfl rfl in_Mo_fail se_Mo_fail lk_Mo_99 ch26 (c_Mo_fail mh26) rfl ⟨rfl, rfl⟩ (by decide) (by decide) (Nat.le_of_ble_eq_true rfl) d_Mo_block_59 ?_
        exact ax_vretE O hE hf d_Mo_block_62
theorem c_Mo_block {ln : Launch} {n0 : Nat} {h0 h' : mH} {a0 : Nat} {x1 : Int32} {r' : Unit} (hf : f_Mo_block n0 h0 a0 x1 = some (r', h')) : mMet ln y_Mo_block b_Mo_block 2 none (mR 6 141) [.ref a0, .int x1] h0 none h' := mMet_of (by decide +kernel) (Nat.le_of_ble_eq_true rfl) (fun X ad O hE => cb_Mo_block O r' h' hE n0 h0 a0 x1 hf)
/-! ===== StreamFiltersModel.check()J ===== -/
theorem d_Mo_check_0 : decode b_Mo_check 0 = .ok (.lconst 1, 1) := by decide +kernel
theorem d_Mo_check_1 : decode b_Mo_check 1 = .ok (.lstore_n 1, 1) := by decide +kernel
theorem d_Mo_check_2 : decode b_Mo_check 2 = .ok (.lconst 0, 1) := by decide +kernel
theorem d_Mo_check_3 : decode b_Mo_check 3 = .ok (.lstore_n 3, 1) := by decide +kernel
theorem d_Mo_check_4 : decode b_Mo_check 4 = .ok (.iconst 0, 1) := by decide +kernel
theorem d_Mo_check_5 : decode b_Mo_check 5 = .ok (.istore 5, 2) := by decide +kernel
theorem d_Mo_check_7 : decode b_Mo_check 7 = .ok (.iload 5, 2) := by decide +kernel
theorem d_Mo_check_9 : decode b_Mo_check 9 = .ok (.aload_n 0, 1) := by decide +kernel
theorem d_Mo_check_10 : decode b_Mo_check 10 = .ok (.getfield 106, 3) := by decide +kernel
theorem d_Mo_check_13 : decode b_Mo_check 13 = .ok (.if_icmp .ge 32, 3) := by decide +kernel
theorem d_Mo_check_16 : decode b_Mo_check 16 = .ok (.lload_n 1, 1) := by decide +kernel
theorem d_Mo_check_17 : decode b_Mo_check 17 = .ok (.aload_n 0, 1) := by decide +kernel
theorem d_Mo_check_18 : decode b_Mo_check 18 = .ok (.getfield 39, 3) := by decide +kernel
theorem d_Mo_check_21 : decode b_Mo_check 21 = .ok (.iload 5, 2) := by decide +kernel
theorem d_Mo_check_23 : decode b_Mo_check 23 = .ok (.iaload, 1) := by decide +kernel
theorem d_Mo_check_24 : decode b_Mo_check 24 = .ok (.i2l, 1) := by decide +kernel
theorem d_Mo_check_25 : decode b_Mo_check 25 = .ok (.ladd, 1) := by decide +kernel
theorem d_Mo_check_26 : decode b_Mo_check 26 = .ok (.ldc2_w 185, 3) := by decide +kernel
theorem d_Mo_check_29 : decode b_Mo_check 29 = .ok (.lrem, 1) := by decide +kernel
theorem d_Mo_check_30 : decode b_Mo_check 30 = .ok (.lstore_n 1, 1) := by decide +kernel
theorem d_Mo_check_31 : decode b_Mo_check 31 = .ok (.lload_n 3, 1) := by decide +kernel
theorem d_Mo_check_32 : decode b_Mo_check 32 = .ok (.lload_n 1, 1) := by decide +kernel
theorem d_Mo_check_33 : decode b_Mo_check 33 = .ok (.ladd, 1) := by decide +kernel
theorem d_Mo_check_34 : decode b_Mo_check 34 = .ok (.ldc2_w 185, 3) := by decide +kernel
theorem d_Mo_check_37 : decode b_Mo_check 37 = .ok (.lrem, 1) := by decide +kernel
theorem d_Mo_check_38 : decode b_Mo_check 38 = .ok (.lstore_n 3, 1) := by decide +kernel
theorem d_Mo_check_39 : decode b_Mo_check 39 = .ok (.iinc 5 1, 3) := by decide +kernel
theorem d_Mo_check_42 : decode b_Mo_check 42 = .ok (.goto (-35), 3) := by decide +kernel
theorem d_Mo_check_45 : decode b_Mo_check 45 = .ok (.lload_n 3, 1) := by decide +kernel
theorem d_Mo_check_46 : decode b_Mo_check 46 = .ok (.ldc2_w 187, 3) := by decide +kernel
theorem d_Mo_check_49 : decode b_Mo_check 49 = .ok (.lmul, 1) := by decide +kernel
theorem d_Mo_check_50 : decode b_Mo_check 50 = .ok (.lload_n 1, 1) := by decide +kernel
theorem d_Mo_check_51 : decode b_Mo_check 51 = .ok (.ladd, 1) := by decide +kernel
theorem d_Mo_check_52 : decode b_Mo_check 52 = .ok (.lreturn, 1) := by decide +kernel
noncomputable def f_Mo_check_L7  (n0 : Nat) : Nat → mH → Nat → Int64 → Int64 → Int32 → Option (Int64 × mH)
  | 0, _, _, _, _, _ => none
  | n + 1, h0, a0, y1, y3, x5 =>
    mgi h0 a0 10 13 fun v1 =>
    if v1 ≤ x5 then
      some ((y3 * 65536) + y1, h0)
    else
      mgr h0 a0 10 14 fun r3 =>
      mai h0 r3 .int x5 fun v4 =>
      mnm ((y1 + (v4.toInt64)) - (y1 + (v4.toInt64)) / 65521 * 65521) fun v5 =>
      mnm ((y3 + v5) - (y3 + v5) / 65521 * 65521) fun v6 =>
      mnm (x5 + 1) fun v7 =>
      (f_Mo_check_L7 n0 n) h0 a0 v5 v6 v7
noncomputable def f_Mo_check  (n0 : Nat) (h0 : mH) (a0 : Nat) : Option (Int64 × mH) :=
  f_Mo_check_L7 n0 n0 h0 a0 1 0 0
set_option maxHeartbeats 4000000 in
set_option maxRecDepth 100000 in
theorem cb_Mo_check_L7 {X : mX} {ad : Nat → Nat} {ln : Launch} (O : mO X ad R_Mo b_Mo_check 6 (mR 0 0) ln) (r' : Int64) (h' : mH) (hE : mEnd X ad (some .long) (some (.long r')) h') (n0 : Nat) : ∀ (n : Nat) (h0 : mH) (a0 : Nat) (y1 : Int64) (y3 : Int64) (x5 : Int32), f_Mo_check_L7 n0 n h0 a0 y1 y3 x5 = some (r', h') → mAW X ad 0 0 7 [(0, .ref a0), (1, .long y1), (3, .long y3), (5, .int x5)] [] h0 := by
  intro n
  induction n with
  | zero =>
    intro h0 a0 y1 y3 x5 hf
    rw [f_Mo_check_L7.eq_1] at hf
    cases hf
  | succ n ih =>
    intro h0 a0 y1 y3 x5 hf
    rw [f_Mo_check_L7.eq_2] at hf
    refine ax_iload O d_Mo_check_7 3 rfl ?_
    refine ax_aload_n O d_Mo_check_9 rfl 0 rfl ?_
    obtain ⟨fv1, v1, cv1, kv1, hf⟩ := mgi_some hf
    refine ax_get O fg_Mo_106 cv1 kv1 d_Mo_check_10 ?_
    refine ax_icmp_ge (tgt := 45) O d_Mo_check_13 (by decide) (fun q2 => ?_) (fun q2 => ?_)
    · rw [if_pos q2] at hf
      refine ax_lload_n O d_Mo_check_45 rfl 2 rfl ?_
      refine ax_ldc2 (v := 65536) O d_Mo_check_46 wd_10 ?_
      refine ax_lmul O d_Mo_check_49 ?_
      refine ax_lload_n O d_Mo_check_50 rfl 1 rfl ?_
      refine ax_ladd O d_Mo_check_51 ?_
      exact ax_lretE O hE hf d_Mo_check_52
    · rw [if_neg q2] at hf
      refine ax_lload_n O d_Mo_check_16 rfl 1 rfl ?_
      refine ax_aload_n O d_Mo_check_17 rfl 0 rfl ?_
      obtain ⟨fr3, r3, cr3, kr3, hf⟩ := mgr_some hf
      refine ax_get O fg_Mo_39 cr3 kr3 d_Mo_check_18 ?_
      refine ax_iload O d_Mo_check_21 3 rfl ?_
      obtain ⟨nv4, fv4, v4, cv4, iv4, kv4, hf⟩ := mai_some hf
      refine ax_iald O cv4 iv4 kv4 d_Mo_check_23 ?_
      refine ax_i2l O d_Mo_check_24 ?_
      refine ax_ladd O d_Mo_check_25 ?_
      refine ax_ldc2 (v := 65521) O d_Mo_check_26 wd_11 ?_
      refine ax_lrem O d_Mo_check_29 (by decide) ?_
      obtain ⟨v5, ev5, hf⟩ := mnm_some hf
      refine ax_nml ev5 ?_
      refine ax_lstore_n (lv' := [(1, .long v5), (0, .ref a0), (3, .long y3), (5, .int x5)]) O d_Mo_check_30 rfl (by decide) rfl ?_
      refine ax_lload_n O d_Mo_check_31 rfl 2 rfl ?_
      refine ax_lload_n O d_Mo_check_32 rfl 0 rfl ?_
      refine ax_ladd O d_Mo_check_33 ?_
      refine ax_ldc2 (v := 65521) O d_Mo_check_34 wd_11 ?_
      refine ax_lrem O d_Mo_check_37 (by decide) ?_
      obtain ⟨v6, ev6, hf⟩ := mnm_some hf
      refine ax_nml ev6 ?_
      refine ax_lstore_n (lv' := [(3, .long v6), (1, .long v5), (0, .ref a0), (5, .int x5)]) O d_Mo_check_38 rfl (by decide) rfl ?_
      obtain ⟨v7, ev7, hf⟩ := mnm_some hf
      refine ax_iinc (j := 3) (v := v7) (lv' := [(5, .int v7), (3, .long v6), (1, .long v5), (0, .ref a0)]) O d_Mo_check_39 rfl (by rw [ev7]; rfl) (by decide) rfl ?_
      refine ax_goto (tgt := 7) O d_Mo_check_42 (by decide) ?_
      refine ax_sub [3, 2, 1, 0] rfl ?_
      exact ih _ _ _ _ _ hf
set_option maxHeartbeats 4000000 in
set_option maxRecDepth 100000 in
theorem cb_Mo_check {X : mX} {ad : Nat → Nat} {ln : Launch} (O : mO X ad R_Mo b_Mo_check 6 (mR 0 0) ln) (r' : Int64) (h' : mH) (hE : mEnd X ad (some .long) (some (.long r')) h') (n0 : Nat) (h0 : mH) (a0 : Nat) (hf : f_Mo_check n0 h0 a0 = some (r', h')) : mAW X ad 0 0 0 [(0, .ref a0)] [] h0 := by
  unfold f_Mo_check at hf
  refine ax_lconst (v := 1) O d_Mo_check_0 (by decide) ?_
  refine ax_lstore_n (lv' := [(1, .long 1), (0, .ref a0)]) O d_Mo_check_1 rfl (by decide) rfl ?_
  refine ax_lconst (v := 0) O d_Mo_check_2 (by decide) ?_
  refine ax_lstore_n (lv' := [(3, .long 0), (1, .long 1), (0, .ref a0)]) O d_Mo_check_3 rfl (by decide) rfl ?_
  refine ax_iconst (v := 0) O d_Mo_check_4 (by decide) ?_
  refine ax_istore (lv' := [(5, .int 0), (3, .long 0), (1, .long 1), (0, .ref a0)]) O d_Mo_check_5 (by decide) rfl ?_
  refine ax_sub [3, 2, 1, 0] rfl ?_
  exact cb_Mo_check_L7 O _ _ hE n0 n0 _ _ _ _ _ hf
theorem c_Mo_check {ln : Launch} {n0 : Nat} {h0 h' : mH} {a0 : Nat} {r' : Int64} (hf : f_Mo_check n0 h0 a0 = some (r', h')) : mMet ln y_Mo_check b_Mo_check 6 (some .long) (mR 0 0) [.ref a0] h0 (some (.long r')) h' := mMet_of (by decide +kernel) (Nat.le_of_ble_eq_true rfl) (fun X ad O hE => cb_Mo_check O r' h' hE n0 h0 a0 hf)
/-! ===== StreamFiltersModel.flate()V ===== -/
theorem d_Mo_flate_0 : decode b_Mo_flate 0 = .ok (.aload_n 0, 1) := by decide +kernel
theorem d_Mo_flate_1 : decode b_Mo_flate 1 = .ok (.invokevirtual 112, 3) := by decide +kernel
theorem d_Mo_flate_4 : decode b_Mo_flate 4 = .ok (.istore_n 1, 1) := by decide +kernel
theorem d_Mo_flate_5 : decode b_Mo_flate 5 = .ok (.aload_n 0, 1) := by decide +kernel
theorem d_Mo_flate_6 : decode b_Mo_flate 6 = .ok (.invokevirtual 112, 3) := by decide +kernel
theorem d_Mo_flate_9 : decode b_Mo_flate 9 = .ok (.istore_n 2, 1) := by decide +kernel
theorem d_Mo_flate_10 : decode b_Mo_flate 10 = .ok (.iload_n 1, 1) := by decide +kernel
theorem d_Mo_flate_11 : decode b_Mo_flate 11 = .ok (.bipush 15, 2) := by decide +kernel
theorem d_Mo_flate_13 : decode b_Mo_flate 13 = .ok (.iand, 1) := by decide +kernel
theorem d_Mo_flate_14 : decode b_Mo_flate 14 = .ok (.bipush 8, 2) := by decide +kernel
theorem d_Mo_flate_16 : decode b_Mo_flate 16 = .ok (.if_icmp .ne 36, 3) := by decide +kernel
theorem d_Mo_flate_19 : decode b_Mo_flate 19 = .ok (.iload_n 1, 1) := by decide +kernel
theorem d_Mo_flate_20 : decode b_Mo_flate 20 = .ok (.bipush 16, 2) := by decide +kernel
theorem d_Mo_flate_22 : decode b_Mo_flate 22 = .ok (.idiv, 1) := by decide +kernel
theorem d_Mo_flate_23 : decode b_Mo_flate 23 = .ok (.bipush 7, 2) := by decide +kernel
theorem d_Mo_flate_25 : decode b_Mo_flate 25 = .ok (.if_icmp .gt 27, 3) := by decide +kernel
theorem d_Mo_flate_28 : decode b_Mo_flate 28 = .ok (.sipush 256, 3) := by decide +kernel
theorem d_Mo_flate_31 : decode b_Mo_flate 31 = .ok (.iload_n 1, 1) := by decide +kernel
theorem d_Mo_flate_32 : decode b_Mo_flate 32 = .ok (.imul, 1) := by decide +kernel
theorem d_Mo_flate_33 : decode b_Mo_flate 33 = .ok (.iload_n 2, 1) := by decide +kernel
theorem d_Mo_flate_34 : decode b_Mo_flate 34 = .ok (.iadd, 1) := by decide +kernel
theorem d_Mo_flate_35 : decode b_Mo_flate 35 = .ok (.bipush 31, 2) := by decide +kernel
theorem d_Mo_flate_37 : decode b_Mo_flate 37 = .ok (.irem, 1) := by decide +kernel
theorem d_Mo_flate_38 : decode b_Mo_flate 38 = .ok (.ifCond .ne 14, 3) := by decide +kernel
theorem d_Mo_flate_41 : decode b_Mo_flate 41 = .ok (.iload_n 2, 1) := by decide +kernel
theorem d_Mo_flate_42 : decode b_Mo_flate 42 = .ok (.bipush 32, 2) := by decide +kernel
theorem d_Mo_flate_44 : decode b_Mo_flate 44 = .ok (.iand, 1) := by decide +kernel
theorem d_Mo_flate_45 : decode b_Mo_flate 45 = .ok (.ifCond .ne 7, 3) := by decide +kernel
theorem d_Mo_flate_48 : decode b_Mo_flate 48 = .ok (.iconst 1, 1) := by decide +kernel
theorem d_Mo_flate_49 : decode b_Mo_flate 49 = .ok (.goto 4, 3) := by decide +kernel
theorem d_Mo_flate_52 : decode b_Mo_flate 52 = .ok (.iconst 0, 1) := by decide +kernel
theorem d_Mo_flate_53 : decode b_Mo_flate 53 = .ok (.istore_n 3, 1) := by decide +kernel
theorem d_Mo_flate_54 : decode b_Mo_flate 54 = .ok (.aload_n 0, 1) := by decide +kernel
theorem d_Mo_flate_55 : decode b_Mo_flate 55 = .ok (.invokevirtual 89, 3) := by decide +kernel
theorem d_Mo_flate_58 : decode b_Mo_flate 58 = .ok (.ifCond .eq 12, 3) := by decide +kernel
theorem d_Mo_flate_61 : decode b_Mo_flate 61 = .ok (.iload_n 3, 1) := by decide +kernel
theorem d_Mo_flate_62 : decode b_Mo_flate 62 = .ok (.ifCond .ne 8, 3) := by decide +kernel
theorem d_Mo_flate_65 : decode b_Mo_flate 65 = .ok (.aload_n 0, 1) := by decide +kernel
theorem d_Mo_flate_66 : decode b_Mo_flate 66 = .ok (.iconst 3, 1) := by decide +kernel
theorem d_Mo_flate_67 : decode b_Mo_flate 67 = .ok (.invokevirtual 99, 3) := by decide +kernel
theorem d_Mo_flate_70 : decode b_Mo_flate 70 = .ok (.iconst 1, 1) := by decide +kernel
theorem d_Mo_flate_71 : decode b_Mo_flate 71 = .ok (.istore 4, 2) := by decide +kernel
theorem d_Mo_flate_73 : decode b_Mo_flate 73 = .ok (.iload 4, 2) := by decide +kernel
theorem d_Mo_flate_75 : decode b_Mo_flate 75 = .ok (.ifCond .eq 47, 3) := by decide +kernel
theorem d_Mo_flate_78 : decode b_Mo_flate 78 = .ok (.aload_n 0, 1) := by decide +kernel
theorem d_Mo_flate_79 : decode b_Mo_flate 79 = .ok (.invokevirtual 89, 3) := by decide +kernel
theorem d_Mo_flate_82 : decode b_Mo_flate 82 = .ok (.ifCond .eq 40, 3) := by decide +kernel
theorem d_Mo_flate_85 : decode b_Mo_flate 85 = .ok (.aload_n 0, 1) := by decide +kernel
theorem d_Mo_flate_86 : decode b_Mo_flate 86 = .ok (.invokevirtual 119, 3) := by decide +kernel
theorem d_Mo_flate_89 : decode b_Mo_flate 89 = .ok (.ifCond .ne 7, 3) := by decide +kernel
theorem d_Mo_flate_92 : decode b_Mo_flate 92 = .ok (.iconst 1, 1) := by decide +kernel
theorem d_Mo_flate_93 : decode b_Mo_flate 93 = .ok (.goto 4, 3) := by decide +kernel
theorem d_Mo_flate_96 : decode b_Mo_flate 96 = .ok (.iconst 0, 1) := by decide +kernel
theorem d_Mo_flate_97 : decode b_Mo_flate 97 = .ok (.istore 4, 2) := by decide +kernel
theorem d_Mo_flate_99 : decode b_Mo_flate 99 = .ok (.aload_n 0, 1) := by decide +kernel
theorem d_Mo_flate_100 : decode b_Mo_flate 100 = .ok (.iconst 2, 1) := by decide +kernel
theorem d_Mo_flate_101 : decode b_Mo_flate 101 = .ok (.invokevirtual 127, 3) := by decide +kernel
theorem d_Mo_flate_104 : decode b_Mo_flate 104 = .ok (.istore 5, 2) := by decide +kernel
theorem d_Mo_flate_106 : decode b_Mo_flate 106 = .ok (.aload_n 0, 1) := by decide +kernel
theorem d_Mo_flate_107 : decode b_Mo_flate 107 = .ok (.invokevirtual 89, 3) := by decide +kernel
theorem d_Mo_flate_110 : decode b_Mo_flate 110 = .ok (.ifCond .eq 9, 3) := by decide +kernel
theorem d_Mo_flate_113 : decode b_Mo_flate 113 = .ok (.aload_n 0, 1) := by decide +kernel
theorem d_Mo_flate_114 : decode b_Mo_flate 114 = .ok (.iload 5, 2) := by decide +kernel
theorem d_Mo_flate_116 : decode b_Mo_flate 116 = .ok (.invokevirtual 164, 3) := by decide +kernel
theorem d_Mo_flate_119 : decode b_Mo_flate 119 = .ok (.goto (-46), 3) := by decide +kernel
theorem d_Mo_flate_122 : decode b_Mo_flate 122 = .ok (.lconst 0, 1) := by decide +kernel
theorem d_Mo_flate_123 : decode b_Mo_flate 123 = .ok (.lstore 5, 2) := by decide +kernel
theorem d_Mo_flate_125 : decode b_Mo_flate 125 = .ok (.iconst 0, 1) := by decide +kernel
theorem d_Mo_flate_126 : decode b_Mo_flate 126 = .ok (.istore 7, 2) := by decide +kernel
theorem d_Mo_flate_128 : decode b_Mo_flate 128 = .ok (.iload 7, 2) := by decide +kernel
theorem d_Mo_flate_130 : decode b_Mo_flate 130 = .ok (.iconst 4, 1) := by decide +kernel
theorem d_Mo_flate_131 : decode b_Mo_flate 131 = .ok (.if_icmp .ge 23, 3) := by decide +kernel
theorem d_Mo_flate_134 : decode b_Mo_flate 134 = .ok (.lload 5, 2) := by decide +kernel
theorem d_Mo_flate_136 : decode b_Mo_flate 136 = .ok (.ldc2_w 167, 3) := by decide +kernel
theorem d_Mo_flate_139 : decode b_Mo_flate 139 = .ok (.lmul, 1) := by decide +kernel
theorem d_Mo_flate_140 : decode b_Mo_flate 140 = .ok (.aload_n 0, 1) := by decide +kernel
theorem d_Mo_flate_141 : decode b_Mo_flate 141 = .ok (.invokevirtual 112, 3) := by decide +kernel
theorem d_Mo_flate_144 : decode b_Mo_flate 144 = .ok (.i2l, 1) := by decide +kernel
theorem d_Mo_flate_145 : decode b_Mo_flate 145 = .ok (.ladd, 1) := by decide +kernel
theorem d_Mo_flate_146 : decode b_Mo_flate 146 = .ok (.lstore 5, 2) := by decide +kernel
theorem d_Mo_flate_148 : decode b_Mo_flate 148 = .ok (.iinc 7 1, 3) := by decide +kernel
theorem d_Mo_flate_151 : decode b_Mo_flate 151 = .ok (.goto (-23), 3) := by decide +kernel
theorem d_Mo_flate_154 : decode b_Mo_flate 154 = .ok (.aload_n 0, 1) := by decide +kernel
theorem d_Mo_flate_155 : decode b_Mo_flate 155 = .ok (.invokevirtual 89, 3) := by decide +kernel
theorem d_Mo_flate_158 : decode b_Mo_flate 158 = .ok (.ifCond .eq 19, 3) := by decide +kernel
theorem d_Mo_flate_161 : decode b_Mo_flate 161 = .ok (.lload 5, 2) := by decide +kernel
theorem d_Mo_flate_163 : decode b_Mo_flate 163 = .ok (.aload_n 0, 1) := by decide +kernel
theorem d_Mo_flate_164 : decode b_Mo_flate 164 = .ok (.invokevirtual 169, 3) := by decide +kernel
theorem d_Mo_flate_167 : decode b_Mo_flate 167 = .ok (.lcmp, 1) := by decide +kernel
theorem d_Mo_flate_168 : decode b_Mo_flate 168 = .ok (.ifCond .eq 9, 3) := by decide +kernel
theorem d_Mo_flate_171 : decode b_Mo_flate 171 = .ok (.aload_n 0, 1) := by decide +kernel
theorem d_Mo_flate_172 : decode b_Mo_flate 172 = .ok (.bipush 9, 2) := by decide +kernel
theorem d_Mo_flate_174 : decode b_Mo_flate 174 = .ok (.invokevirtual 99, 3) := by decide +kernel
theorem d_Mo_flate_177 : decode b_Mo_flate 177 = .ok (.return_, 1) := by decide +kernel
noncomputable def f_Mo_flate_L128  (n0 : Nat) : Nat → mH → Nat → Int64 → Int32 → Option (Unit × mH)
  | 0, _, _, _, _ => none
  | n + 1, h0, a0, y5, x7 =>
    if 4 ≤ x7 then
      mis h0 a0 10 <|
      mcl (f_Mo_isGood n0 h0 a0) fun v15 h16 =>
      if v15 = 0 then
        some ((), h16)
      else
        mis h16 a0 10 <|
        mcl (f_Mo_check n0 h16 a0) fun w18 h20 =>
        if (lg_cmp y5 w18) = 0 then
          some ((), h20)
        else
          mis h20 a0 10 <|
          mcl (f_Mo_fail n0 h20 a0 9) fun _ h24 =>
          some ((), h24)
    else
      mis h0 a0 10 <|
      mcl (f_Mo_next n0 h0 a0) fun v27 h28 =>
      mnm ((y5 * 256) + (v27.toInt64)) fun v29 =>
      mnm (x7 + 1) fun v30 =>
      (f_Mo_flate_L128 n0 n) h28 a0 v29 v30
noncomputable def f_Mo_flate_B122  (n0 : Nat) (h0 : mH) (a0 : Nat) : Option (Unit × mH) :=
  f_Mo_flate_L128 n0 n0 h0 a0 0 0
noncomputable def f_Mo_flate_B97 (K73 : mH → Nat → Int32 → Option (Unit × mH)) (n0 : Nat) (h0 : mH) (a0 : Nat) (p0 : Int32) : Option (Unit × mH) :=
  mis h0 a0 10 <|
  mcl (f_Mo_number n0 h0 a0 2) fun v40 h41 =>
  mis h41 a0 10 <|
  mcl (f_Mo_isGood n0 h41 a0) fun v43 h44 =>
  if v43 = 0 then
    K73 h44 a0 p0
  else
    mis h44 a0 10 <|
    mcl (f_Mo_block n0 h44 a0 v40) fun _ h48 =>
    K73 h48 a0 p0
noncomputable def f_Mo_flate_L73  (n0 : Nat) : Nat → mH → Nat → Int32 → Option (Unit × mH)
  | 0, _, _, _ => none
  | n + 1, h0, a0, x4 =>
    if x4 = 0 then
      f_Mo_flate_B122 n0 h0 a0
    else
      mis h0 a0 10 <|
      mcl (f_Mo_isGood n0 h0 a0) fun v32 h33 =>
      if v32 = 0 then
        f_Mo_flate_B122 n0 h33 a0
      else
        mis h33 a0 10 <|
        mcl (f_Mo_bit n0 h33 a0) fun v36 h37 =>
        if v36 = 0 then
          f_Mo_flate_B97 (f_Mo_flate_L73 n0 n) n0 h37 a0 1
        else
          f_Mo_flate_B97 (f_Mo_flate_L73 n0 n) n0 h37 a0 0
noncomputable def f_Mo_flate_B70  (n0 : Nat) (h0 : mH) (a0 : Nat) : Option (Unit × mH) :=
  f_Mo_flate_L73 n0 n0 h0 a0 1
noncomputable def f_Mo_flate_B53  (n0 : Nat) (h0 : mH) (a0 : Nat) (p0 : Int32) : Option (Unit × mH) :=
  mis h0 a0 10 <|
  mcl (f_Mo_isGood n0 h0 a0) fun v9 h10 =>
  if v9 = 0 then
    f_Mo_flate_B70 n0 h10 a0
  else
    if p0 = 0 then
      mis h10 a0 10 <|
      mcl (f_Mo_fail n0 h10 a0 3) fun _ h53 =>
      f_Mo_flate_B70 n0 h53 a0
    else
      f_Mo_flate_B70 n0 h10 a0
noncomputable def f_Mo_flate_B52  (n0 : Nat) (h0 : mH) (a0 : Nat) : Option (Unit × mH) :=
  f_Mo_flate_B53 n0 h0 a0 0
noncomputable def f_Mo_flate  (n0 : Nat) (h0 : mH) (a0 : Nat) : Option (Unit × mH) :=
  mis h0 a0 10 <|
  mcl (f_Mo_next n0 h0 a0) fun v2 h3 =>
  mis h3 a0 10 <|
  mcl (f_Mo_next n0 h3 a0) fun v5 h6 =>
  if (v2 &&& 15) = 8 then
    if 7 < (v2 / 16) then
      f_Mo_flate_B52 n0 h6 a0
    else
      if (((256 * v2) + v5) - ((256 * v2) + v5) / 31 * 31) = 0 then
        if (v5 &&& 32) = 0 then
          f_Mo_flate_B53 n0 h6 a0 1
        else
          f_Mo_flate_B52 n0 h6 a0
      else
        f_Mo_flate_B52 n0 h6 a0
  else
    f_Mo_flate_B52 n0 h6 a0
set_option maxHeartbeats 4000000 in
set_option maxRecDepth 100000 in
theorem cb_Mo_flate_L128 {X : mX} {ad : Nat → Nat} {ln : Launch} (O : mO X ad R_Mo b_Mo_flate 8 (mR 7 162) ln) (r' : Unit) (h' : mH) (hE : mEnd X ad none none h') (n0 : Nat) : ∀ (n : Nat) (h0 : mH) (a0 : Nat) (y5 : Int64) (x7 : Int32), f_Mo_flate_L128 n0 n h0 a0 y5 x7 = some (r', h') → mAW X ad 0 0 128 [(0, .ref a0), (5, .long y5), (7, .int x7)] [] h0 := by
  intro n
  induction n with
  | zero =>
    intro h0 a0 y5 x7 hf
    rw [f_Mo_flate_L128.eq_1] at hf
    cases hf
  | succ n ih =>
    intro h0 a0 y5 x7 hf
    rw [f_Mo_flate_L128.eq_2] at hf
    refine ax_iload O d_Mo_flate_128 2 rfl ?_
    refine ax_iconst (v := 4) O d_Mo_flate_130 (by decide) ?_
    refine ax_icmp_ge (tgt := 154) O d_Mo_flate_131 (by decide) (fun q13 => ?_) (fun q13 => ?_)
    · rw [if_pos q13] at hf
      refine ax_aload_n O d_Mo_flate_154 rfl 0 rfl ?_
      obtain ⟨fh16, ch16, hf⟩ := mis_some hf
      obtain ⟨v15, h16, mh16, hf⟩ := mcl_some hf
      refine ax_callV (As := []) (rest := []) O cw_Mo_isGood (q := (R_Mo, T_Mo, 31)) rfl rfl in_Mo_isGood se_Mo_isGood lk_Mo_89 ch16 (c_Mo_isGood mh16) rfl ⟨rfl, rfl⟩ (by decide) (by decide) (Nat.le_of_ble_eq_true rfl) d_Mo_flate_155 ?_
      refine ax_if_eq (tgt := 177) O d_Mo_flate_158 (by decide) (fun q17 => ?_) (fun q17 => ?_)
      · rw [if_pos q17] at hf
        exact ax_vretE O hE hf d_Mo_flate_177
      · rw [if_neg q17] at hf
        refine ax_lload O d_Mo_flate_161 1 rfl ?_
        refine ax_aload_n O d_Mo_flate_163 rfl 0 rfl ?_
        obtain ⟨fh20, ch20, hf⟩ := mis_some hf
        obtain ⟨w18, h20, mh20, hf⟩ := mcl_some hf
        refine ax_callV (As := []) (rest := [.long y5]) O cw_Mo_check (q := (R_Mo, T_Mo, 31)) rfl rfl in_Mo_check se_Mo_check lk_Mo_169 ch20 (c_Mo_check mh20) rfl ⟨rfl, rfl⟩ (by decide) (by decide) (Nat.le_of_ble_eq_true rfl) d_Mo_flate_164 ?_
        refine ax_lcmp O d_Mo_flate_167 ?_
        refine ax_if_eq (tgt := 177) O d_Mo_flate_168 (by decide) (fun q21 => ?_) (fun q21 => ?_)
        · rw [if_pos q21] at hf
          exact ax_vretE O hE hf d_Mo_flate_177
        · rw [if_neg q21] at hf
          refine ax_aload_n O d_Mo_flate_171 rfl 0 rfl ?_
          refine ax_bipush (v := 9) O d_Mo_flate_172 (by decide) ?_
          obtain ⟨fh24, ch24, hf⟩ := mis_some hf
          obtain ⟨u25, h24, mh24, hf⟩ := mcl_some hf
          refine ax_callV (As := [.int 9]) (rest := []) O cw_Mo_fail (q := (R_Mo, T_Mo, 31)) rfl rfl in_Mo_fail se_Mo_fail lk_Mo_99 ch24 (c_Mo_fail mh24) rfl ⟨rfl, rfl⟩ (by decide) (by decide) (Nat.le_of_ble_eq_true rfl) d_Mo_flate_174 ?_
          exact ax_vretE O hE hf d_Mo_flate_177
    · rw [if_neg q13] at hf
      refine ax_lload O d_Mo_flate_134 1 rfl ?_
      refine ax_ldc2 (v := 256) O d_Mo_flate_136 wd_12 ?_
      refine ax_lmul O d_Mo_flate_139 ?_
      refine ax_aload_n O d_Mo_flate_140 rfl 0 rfl ?_
      obtain ⟨fh28, ch28, hf⟩ := mis_some hf
      obtain ⟨v27, h28, mh28, hf⟩ := mcl_some hf
      refine ax_callV (As := []) (rest := [.long (y5 * 256)]) O cw_Mo_next (q := (R_Mo, T_Mo, 31)) rfl rfl in_Mo_next se_Mo_next lk_Mo_112 ch28 (c_Mo_next mh28) rfl ⟨rfl, rfl⟩ (by decide) (by decide) (Nat.le_of_ble_eq_true rfl) d_Mo_flate_141 ?_
      refine ax_i2l O d_Mo_flate_144 ?_
      refine ax_ladd O d_Mo_flate_145 ?_
      obtain ⟨v29, ev29, hf⟩ := mnm_some hf
      refine ax_nml ev29 ?_
      refine ax_lstore (lv' := [(5, .long v29), (0, .ref a0), (7, .int x7)]) O d_Mo_flate_146 (by decide) rfl ?_
      obtain ⟨v30, ev30, hf⟩ := mnm_some hf
      refine ax_iinc (j := 2) (v := v30) (lv' := [(7, .int v30), (5, .long v29), (0, .ref a0)]) O d_Mo_flate_148 rfl (by rw [ev30]; rfl) (by decide) rfl ?_
      refine ax_goto (tgt := 128) O d_Mo_flate_151 (by decide) ?_
      refine ax_sub [2, 1, 0] rfl ?_
      exact ih _ _ _ _ hf
set_option maxHeartbeats 4000000 in
set_option maxRecDepth 100000 in
theorem cb_Mo_flate_B122 {X : mX} {ad : Nat → Nat} {ln : Launch} (O : mO X ad R_Mo b_Mo_flate 8 (mR 7 162) ln) (r' : Unit) (h' : mH) (hE : mEnd X ad none none h') (n0 : Nat) (h0 : mH) (a0 : Nat) (hf : f_Mo_flate_B122 n0 h0 a0 = some (r', h')) : mAW X ad 0 0 122 [(0, .ref a0)] [] h0 := by
  unfold f_Mo_flate_B122 at hf
  refine ax_lconst (v := 0) O d_Mo_flate_122 (by decide) ?_
  refine ax_lstore (lv' := [(5, .long 0), (0, .ref a0)]) O d_Mo_flate_123 (by decide) rfl ?_
  refine ax_iconst (v := 0) O d_Mo_flate_125 (by decide) ?_
  refine ax_istore (lv' := [(7, .int 0), (5, .long 0), (0, .ref a0)]) O d_Mo_flate_126 (by decide) rfl ?_
  refine ax_sub [2, 1, 0] rfl ?_
  exact cb_Mo_flate_L128 O _ _ hE n0 n0 _ _ _ _ hf
set_option maxHeartbeats 4000000 in
set_option maxRecDepth 100000 in
theorem cb_Mo_flate_B97 {X : mX} {ad : Nat → Nat} {ln : Launch} (O : mO X ad R_Mo b_Mo_flate 8 (mR 7 162) ln) (K73 : mH → Nat → Int32 → Option (Unit × mH)) (r' : Unit) (h' : mH) (hE : mEnd X ad none none h') (hK73 : ∀ (h : mH) (a0 : Nat) (x4 : Int32), K73 h a0 x4 = some (r', h') → mAW X ad 0 0 73 [(0, .ref a0), (4, .int x4)] [] h) (n0 : Nat) (h0 : mH) (a0 : Nat) (p0 : Int32) (hf : f_Mo_flate_B97 K73 n0 h0 a0 p0 = some (r', h')) : mAW X ad 0 0 97 [(0, .ref a0)] [.int p0] h0 := by
  unfold f_Mo_flate_B97 at hf
  refine ax_istore (lv' := [(4, .int p0), (0, .ref a0)]) O d_Mo_flate_97 (by decide) rfl ?_
  refine ax_aload_n O d_Mo_flate_99 rfl 1 rfl ?_
  refine ax_iconst (v := 2) O d_Mo_flate_100 (by decide) ?_
  obtain ⟨fh41, ch41, hf⟩ := mis_some hf
  obtain ⟨v40, h41, mh41, hf⟩ := mcl_some hf
  refine ax_callV (As := [.int 2]) (rest := []) O cw_Mo_number (q := (R_Mo, T_Mo, 31)) rfl rfl in_Mo_number se_Mo_number lk_Mo_127 ch41 (c_Mo_number mh41) rfl ⟨rfl, rfl⟩ (by decide) (by decide) (Nat.le_of_ble_eq_true rfl) d_Mo_flate_101 ?_
  refine ax_istore (lv' := [(5, .int v40), (4, .int p0), (0, .ref a0)]) O d_Mo_flate_104 (by decide) rfl ?_
  refine ax_aload_n O d_Mo_flate_106 rfl 2 rfl ?_
  obtain ⟨fh44, ch44, hf⟩ := mis_some hf
  obtain ⟨v43, h44, mh44, hf⟩ := mcl_some hf
  refine ax_callV (As := []) (rest := []) O cw_Mo_isGood (q := (R_Mo, T_Mo, 31)) rfl rfl in_Mo_isGood se_Mo_isGood lk_Mo_89 ch44 (c_Mo_isGood mh44) rfl ⟨rfl, rfl⟩ (by decide) (by decide) (Nat.le_of_ble_eq_true rfl) d_Mo_flate_107 ?_
  refine ax_if_eq (tgt := 119) O d_Mo_flate_110 (by decide) (fun q45 => ?_) (fun q45 => ?_)
  · rw [if_pos q45] at hf
    refine ax_goto (tgt := 73) O d_Mo_flate_119 (by decide) ?_
    refine ax_sub [2, 1] rfl ?_
    exact hK73 _ _ _ hf
  · rw [if_neg q45] at hf
    refine ax_aload_n O d_Mo_flate_113 rfl 2 rfl ?_
    refine ax_iload O d_Mo_flate_114 0 rfl ?_
    obtain ⟨fh48, ch48, hf⟩ := mis_some hf
    obtain ⟨u49, h48, mh48, hf⟩ := mcl_some hf
    refine ax_callV (As := [.int v40]) (rest := []) O cw_Mo_block (q := (R_Mo, T_Mo, 31)) rfl rfl in_Mo_block se_Mo_block lk_Mo_164 ch48 (c_Mo_block mh48) rfl ⟨rfl, rfl⟩ (by decide) (by decide) (Nat.le_of_ble_eq_true rfl) d_Mo_flate_116 ?_
    refine ax_goto (tgt := 73) O d_Mo_flate_119 (by decide) ?_
    refine ax_sub [2, 1] rfl ?_
    exact hK73 _ _ _ hf
set_option maxHeartbeats 4000000 in
set_option maxRecDepth 100000 in
theorem cb_Mo_flate_L73 {X : mX} {ad : Nat → Nat} {ln : Launch} (O : mO X ad R_Mo b_Mo_flate 8 (mR 7 162) ln) (r' : Unit) (h' : mH) (hE : mEnd X ad none none h') (n0 : Nat) : ∀ (n : Nat) (h0 : mH) (a0 : Nat) (x4 : Int32), f_Mo_flate_L73 n0 n h0 a0 x4 = some (r', h') → mAW X ad 0 0 73 [(0, .ref a0), (4, .int x4)] [] h0 := by
  intro n
  induction n with
  | zero =>
    intro h0 a0 x4 hf
    rw [f_Mo_flate_L73.eq_1] at hf
    cases hf
  | succ n ih =>
    intro h0 a0 x4 hf
    rw [f_Mo_flate_L73.eq_2] at hf
    refine ax_iload O d_Mo_flate_73 1 rfl ?_
    refine ax_if_eq (tgt := 122) O d_Mo_flate_75 (by decide) (fun q12 => ?_) (fun q12 => ?_)
    · rw [if_pos q12] at hf
      refine ax_sub [0] rfl ?_
      exact cb_Mo_flate_B122 O _ _ hE n0 _ _ hf
    · rw [if_neg q12] at hf
      refine ax_aload_n O d_Mo_flate_78 rfl 0 rfl ?_
      obtain ⟨fh33, ch33, hf⟩ := mis_some hf
      obtain ⟨v32, h33, mh33, hf⟩ := mcl_some hf
      refine ax_callV (As := []) (rest := []) O cw_Mo_isGood (q := (R_Mo, T_Mo, 31)) rfl rfl in_Mo_isGood se_Mo_isGood lk_Mo_89 ch33 (c_Mo_isGood mh33) rfl ⟨rfl, rfl⟩ (by decide) (by decide) (Nat.le_of_ble_eq_true rfl) d_Mo_flate_79 ?_
      refine ax_if_eq (tgt := 122) O d_Mo_flate_82 (by decide) (fun q34 => ?_) (fun q34 => ?_)
      · rw [if_pos q34] at hf
        refine ax_sub [0] rfl ?_
        exact cb_Mo_flate_B122 O _ _ hE n0 _ _ hf
      · rw [if_neg q34] at hf
        refine ax_aload_n O d_Mo_flate_85 rfl 0 rfl ?_
        obtain ⟨fh37, ch37, hf⟩ := mis_some hf
        obtain ⟨v36, h37, mh37, hf⟩ := mcl_some hf
        refine ax_callV (As := []) (rest := []) O cw_Mo_bit (q := (R_Mo, T_Mo, 31)) rfl rfl in_Mo_bit se_Mo_bit lk_Mo_119 ch37 (c_Mo_bit mh37) rfl ⟨rfl, rfl⟩ (by decide) (by decide) (Nat.le_of_ble_eq_true rfl) d_Mo_flate_86 ?_
        refine ax_if_ne (tgt := 96) O d_Mo_flate_89 (by decide) (fun q38 => ?_) (fun q38 => ?_)
        · rw [if_neg q38] at hf
          refine ax_iconst (v := 0) O d_Mo_flate_96 (by decide) ?_
          refine ax_sub [0] rfl ?_
          exact cb_Mo_flate_B97 O (f_Mo_flate_L73 n0 n) _ _ hE ih n0 _ _ _ hf
        · rw [if_pos q38] at hf
          refine ax_iconst (v := 1) O d_Mo_flate_92 (by decide) ?_
          refine ax_goto (tgt := 97) O d_Mo_flate_93 (by decide) ?_
          refine ax_sub [0] rfl ?_
          exact cb_Mo_flate_B97 O (f_Mo_flate_L73 n0 n) _ _ hE ih n0 _ _ _ hf
set_option maxHeartbeats 4000000 in
set_option maxRecDepth 100000 in
theorem cb_Mo_flate_B70 {X : mX} {ad : Nat → Nat} {ln : Launch} (O : mO X ad R_Mo b_Mo_flate 8 (mR 7 162) ln) (r' : Unit) (h' : mH) (hE : mEnd X ad none none h') (n0 : Nat) (h0 : mH) (a0 : Nat) (hf : f_Mo_flate_B70 n0 h0 a0 = some (r', h')) : mAW X ad 0 0 70 [(0, .ref a0)] [] h0 := by
  unfold f_Mo_flate_B70 at hf
  refine ax_iconst (v := 1) O d_Mo_flate_70 (by decide) ?_
  refine ax_istore (lv' := [(4, .int 1), (0, .ref a0)]) O d_Mo_flate_71 (by decide) rfl ?_
  refine ax_sub [1, 0] rfl ?_
  exact cb_Mo_flate_L73 O _ _ hE n0 n0 _ _ _ hf
set_option maxHeartbeats 4000000 in
set_option maxRecDepth 100000 in
theorem cb_Mo_flate_B53 {X : mX} {ad : Nat → Nat} {ln : Launch} (O : mO X ad R_Mo b_Mo_flate 8 (mR 7 162) ln) (r' : Unit) (h' : mH) (hE : mEnd X ad none none h') (n0 : Nat) (h0 : mH) (a0 : Nat) (p0 : Int32) (hf : f_Mo_flate_B53 n0 h0 a0 p0 = some (r', h')) : mAW X ad 0 0 53 [(0, .ref a0)] [.int p0] h0 := by
  unfold f_Mo_flate_B53 at hf
  refine ax_istore_n (lv' := [(3, .int p0), (0, .ref a0)]) O d_Mo_flate_53 rfl (by decide) rfl ?_
  refine ax_aload_n O d_Mo_flate_54 rfl 1 rfl ?_
  obtain ⟨fh10, ch10, hf⟩ := mis_some hf
  obtain ⟨v9, h10, mh10, hf⟩ := mcl_some hf
  refine ax_callV (As := []) (rest := []) O cw_Mo_isGood (q := (R_Mo, T_Mo, 31)) rfl rfl in_Mo_isGood se_Mo_isGood lk_Mo_89 ch10 (c_Mo_isGood mh10) rfl ⟨rfl, rfl⟩ (by decide) (by decide) (Nat.le_of_ble_eq_true rfl) d_Mo_flate_55 ?_
  refine ax_if_eq (tgt := 70) O d_Mo_flate_58 (by decide) (fun q11 => ?_) (fun q11 => ?_)
  · rw [if_pos q11] at hf
    refine ax_sub [1] rfl ?_
    exact cb_Mo_flate_B70 O _ _ hE n0 _ _ hf
  · rw [if_neg q11] at hf
    refine ax_iload_n O d_Mo_flate_61 rfl 0 rfl ?_
    refine ax_if_ne (tgt := 70) O d_Mo_flate_62 (by decide) (fun q50 => ?_) (fun q50 => ?_)
    · rw [if_neg q50] at hf
      refine ax_sub [1] rfl ?_
      exact cb_Mo_flate_B70 O _ _ hE n0 _ _ hf
    · rw [if_pos q50] at hf
      refine ax_aload_n O d_Mo_flate_65 rfl 1 rfl ?_
      refine ax_iconst (v := 3) O d_Mo_flate_66 (by decide) ?_
      obtain ⟨fh53, ch53, hf⟩ := mis_some hf
      obtain ⟨u54, h53, mh53, hf⟩ := mcl_some hf
      refine ax_callV (As := [.int 3]) (rest := []) O cw_Mo_fail (q := (R_Mo, T_Mo, 31)) rfl rfl in_Mo_fail se_Mo_fail lk_Mo_99 ch53 (c_Mo_fail mh53) rfl ⟨rfl, rfl⟩ (by decide) (by decide) (Nat.le_of_ble_eq_true rfl) d_Mo_flate_67 ?_
      refine ax_sub [1] rfl ?_
      exact cb_Mo_flate_B70 O _ _ hE n0 _ _ hf
set_option maxHeartbeats 4000000 in
set_option maxRecDepth 100000 in
theorem cb_Mo_flate_B52 {X : mX} {ad : Nat → Nat} {ln : Launch} (O : mO X ad R_Mo b_Mo_flate 8 (mR 7 162) ln) (r' : Unit) (h' : mH) (hE : mEnd X ad none none h') (n0 : Nat) (h0 : mH) (a0 : Nat) (hf : f_Mo_flate_B52 n0 h0 a0 = some (r', h')) : mAW X ad 0 0 52 [(0, .ref a0)] [] h0 := by
  unfold f_Mo_flate_B52 at hf
  refine ax_iconst (v := 0) O d_Mo_flate_52 (by decide) ?_
  exact cb_Mo_flate_B53 O _ _ hE n0 _ _ _ hf
set_option maxHeartbeats 4000000 in
set_option maxRecDepth 100000 in
theorem cb_Mo_flate {X : mX} {ad : Nat → Nat} {ln : Launch} (O : mO X ad R_Mo b_Mo_flate 8 (mR 7 162) ln) (r' : Unit) (h' : mH) (hE : mEnd X ad none none h') (n0 : Nat) (h0 : mH) (a0 : Nat) (hf : f_Mo_flate n0 h0 a0 = some (r', h')) : mAW X ad 0 0 0 [(0, .ref a0)] [] h0 := by
  unfold f_Mo_flate at hf
  refine ax_aload_n O d_Mo_flate_0 rfl 0 rfl ?_
  obtain ⟨fh3, ch3, hf⟩ := mis_some hf
  obtain ⟨v2, h3, mh3, hf⟩ := mcl_some hf
  refine ax_callV (As := []) (rest := []) O cw_Mo_next (q := (R_Mo, T_Mo, 31)) rfl rfl in_Mo_next se_Mo_next lk_Mo_112 ch3 (c_Mo_next mh3) rfl ⟨rfl, rfl⟩ (by decide) (by decide) (Nat.le_of_ble_eq_true rfl) d_Mo_flate_1 ?_
  refine ax_istore_n (lv' := [(1, .int v2), (0, .ref a0)]) O d_Mo_flate_4 rfl (by decide) rfl ?_
  refine ax_aload_n O d_Mo_flate_5 rfl 1 rfl ?_
  obtain ⟨fh6, ch6, hf⟩ := mis_some hf
  obtain ⟨v5, h6, mh6, hf⟩ := mcl_some hf
  refine ax_callV (As := []) (rest := []) O cw_Mo_next (q := (R_Mo, T_Mo, 31)) rfl rfl in_Mo_next se_Mo_next lk_Mo_112 ch6 (c_Mo_next mh6) rfl ⟨rfl, rfl⟩ (by decide) (by decide) (Nat.le_of_ble_eq_true rfl) d_Mo_flate_6 ?_
  refine ax_istore_n (lv' := [(2, .int v5), (1, .int v2), (0, .ref a0)]) O d_Mo_flate_9 rfl (by decide) rfl ?_
  refine ax_iload_n O d_Mo_flate_10 rfl 1 rfl ?_
  refine ax_bipush (v := 15) O d_Mo_flate_11 (by decide) ?_
  refine ax_iand O d_Mo_flate_13 ?_
  refine ax_bipush (v := 8) O d_Mo_flate_14 (by decide) ?_
  refine ax_icmp_ne (tgt := 52) O d_Mo_flate_16 (by decide) (fun q7 => ?_) (fun q7 => ?_)
  · rw [if_neg q7] at hf
    refine ax_sub [2] rfl ?_
    exact cb_Mo_flate_B52 O _ _ hE n0 _ _ hf
  · rw [if_pos q7] at hf
    refine ax_iload_n O d_Mo_flate_19 rfl 1 rfl ?_
    refine ax_bipush (v := 16) O d_Mo_flate_20 (by decide) ?_
    refine ax_idiv O d_Mo_flate_22 (by decide) ?_
    refine ax_bipush (v := 7) O d_Mo_flate_23 (by decide) ?_
    refine ax_icmp_gt (tgt := 52) O d_Mo_flate_25 (by decide) (fun q55 => ?_) (fun q55 => ?_)
    · rw [if_pos q55] at hf
      refine ax_sub [2] rfl ?_
      exact cb_Mo_flate_B52 O _ _ hE n0 _ _ hf
    · rw [if_neg q55] at hf
      refine ax_sipush (v := 256) O d_Mo_flate_28 (by decide) ?_
      refine ax_iload_n O d_Mo_flate_31 rfl 1 rfl ?_
      refine ax_imul O d_Mo_flate_32 ?_
      refine ax_iload_n O d_Mo_flate_33 rfl 0 rfl ?_
      refine ax_iadd O d_Mo_flate_34 ?_
      refine ax_bipush (v := 31) O d_Mo_flate_35 (by decide) ?_
      refine ax_irem O d_Mo_flate_37 (by decide) ?_
      refine ax_if_ne (tgt := 52) O d_Mo_flate_38 (by decide) (fun q56 => ?_) (fun q56 => ?_)
      · rw [if_neg q56] at hf
        refine ax_sub [2] rfl ?_
        exact cb_Mo_flate_B52 O _ _ hE n0 _ _ hf
      · rw [if_pos q56] at hf
        refine ax_iload_n O d_Mo_flate_41 rfl 0 rfl ?_
        refine ax_bipush (v := 32) O d_Mo_flate_42 (by decide) ?_
        refine ax_iand O d_Mo_flate_44 ?_
        refine ax_if_ne (tgt := 52) O d_Mo_flate_45 (by decide) (fun q57 => ?_) (fun q57 => ?_)
        · rw [if_neg q57] at hf
          refine ax_sub [2] rfl ?_
          exact cb_Mo_flate_B52 O _ _ hE n0 _ _ hf
        · rw [if_pos q57] at hf
          refine ax_iconst (v := 1) O d_Mo_flate_48 (by decide) ?_
          refine ax_goto (tgt := 53) O d_Mo_flate_49 (by decide) ?_
          refine ax_sub [2] rfl ?_
          exact cb_Mo_flate_B53 O _ _ hE n0 _ _ _ hf
theorem c_Mo_flate {ln : Launch} {n0 : Nat} {h0 h' : mH} {a0 : Nat} {r' : Unit} (hf : f_Mo_flate n0 h0 a0 = some (r', h')) : mMet ln y_Mo_flate b_Mo_flate 8 none (mR 7 162) [.ref a0] h0 none h' := mMet_of (by decide +kernel) (Nat.le_of_ble_eq_true rfl) (fun X ad O hE => cb_Mo_flate O r' h' hE n0 h0 a0 hf)
