/-! ===== StreamFiltersModel.runs()V ===== -/
theorem d_Mo_runs_0 : decode b_Mo_runs 0 = .ok (.iconst 1, 1) := by decide +kernel
theorem d_Mo_runs_1 : decode b_Mo_runs 1 = .ok (.istore_n 1, 1) := by decide +kernel
theorem d_Mo_runs_2 : decode b_Mo_runs 2 = .ok (.iload_n 1, 1) := by decide +kernel
theorem d_Mo_runs_3 : decode b_Mo_runs 3 = .ok (.ifCond .eq 124, 3) := by decide +kernel
theorem d_Mo_runs_6 : decode b_Mo_runs 6 = .ok (.aload_n 0, 1) := by decide +kernel
theorem d_Mo_runs_7 : decode b_Mo_runs 7 = .ok (.invokevirtual 89, 3) := by decide +kernel
theorem d_Mo_runs_10 : decode b_Mo_runs 10 = .ok (.ifCond .eq 117, 3) := by decide +kernel
theorem d_Mo_runs_13 : decode b_Mo_runs 13 = .ok (.aload_n 0, 1) := by decide +kernel
theorem d_Mo_runs_14 : decode b_Mo_runs 14 = .ok (.invokevirtual 112, 3) := by decide +kernel
theorem d_Mo_runs_17 : decode b_Mo_runs 17 = .ok (.istore_n 2, 1) := by decide +kernel
theorem d_Mo_runs_18 : decode b_Mo_runs 18 = .ok (.iload_n 2, 1) := by decide +kernel
theorem d_Mo_runs_19 : decode b_Mo_runs 19 = .ok (.sipush 128, 3) := by decide +kernel
theorem d_Mo_runs_22 : decode b_Mo_runs 22 = .ok (.if_icmp .eq 7, 3) := by decide +kernel
theorem d_Mo_runs_25 : decode b_Mo_runs 25 = .ok (.iconst 1, 1) := by decide +kernel
theorem d_Mo_runs_26 : decode b_Mo_runs 26 = .ok (.goto 4, 3) := by decide +kernel
theorem d_Mo_runs_29 : decode b_Mo_runs 29 = .ok (.iconst 0, 1) := by decide +kernel
theorem d_Mo_runs_30 : decode b_Mo_runs 30 = .ok (.istore_n 1, 1) := by decide +kernel
theorem d_Mo_runs_31 : decode b_Mo_runs 31 = .ok (.iload_n 2, 1) := by decide +kernel
theorem d_Mo_runs_32 : decode b_Mo_runs 32 = .ok (.sipush 128, 3) := by decide +kernel
theorem d_Mo_runs_35 : decode b_Mo_runs 35 = .ok (.if_icmp .ge 9, 3) := by decide +kernel
theorem d_Mo_runs_38 : decode b_Mo_runs 38 = .ok (.iload_n 2, 1) := by decide +kernel
theorem d_Mo_runs_39 : decode b_Mo_runs 39 = .ok (.iconst 1, 1) := by decide +kernel
theorem d_Mo_runs_40 : decode b_Mo_runs 40 = .ok (.iadd, 1) := by decide +kernel
theorem d_Mo_runs_41 : decode b_Mo_runs 41 = .ok (.goto 19, 3) := by decide +kernel
theorem d_Mo_runs_44 : decode b_Mo_runs 44 = .ok (.iload_n 2, 1) := by decide +kernel
theorem d_Mo_runs_45 : decode b_Mo_runs 45 = .ok (.sipush 128, 3) := by decide +kernel
theorem d_Mo_runs_48 : decode b_Mo_runs 48 = .ok (.if_icmp .le 11, 3) := by decide +kernel
theorem d_Mo_runs_51 : decode b_Mo_runs 51 = .ok (.sipush 257, 3) := by decide +kernel
theorem d_Mo_runs_54 : decode b_Mo_runs 54 = .ok (.iload_n 2, 1) := by decide +kernel
theorem d_Mo_runs_55 : decode b_Mo_runs 55 = .ok (.isub, 1) := by decide +kernel
theorem d_Mo_runs_56 : decode b_Mo_runs 56 = .ok (.goto 4, 3) := by decide +kernel
theorem d_Mo_runs_59 : decode b_Mo_runs 59 = .ok (.iconst 0, 1) := by decide +kernel
theorem d_Mo_runs_60 : decode b_Mo_runs 60 = .ok (.istore_n 3, 1) := by decide +kernel
theorem d_Mo_runs_61 : decode b_Mo_runs 61 = .ok (.iload_n 2, 1) := by decide +kernel
theorem d_Mo_runs_62 : decode b_Mo_runs 62 = .ok (.sipush 128, 3) := by decide +kernel
theorem d_Mo_runs_65 : decode b_Mo_runs 65 = .ok (.if_icmp .le 10, 3) := by decide +kernel
theorem d_Mo_runs_68 : decode b_Mo_runs 68 = .ok (.aload_n 0, 1) := by decide +kernel
theorem d_Mo_runs_69 : decode b_Mo_runs 69 = .ok (.invokevirtual 112, 3) := by decide +kernel
theorem d_Mo_runs_72 : decode b_Mo_runs 72 = .ok (.goto 4, 3) := by decide +kernel
theorem d_Mo_runs_75 : decode b_Mo_runs 75 = .ok (.iconst 0, 1) := by decide +kernel
theorem d_Mo_runs_76 : decode b_Mo_runs 76 = .ok (.istore 4, 2) := by decide +kernel
theorem d_Mo_runs_78 : decode b_Mo_runs 78 = .ok (.iconst 0, 1) := by decide +kernel
theorem d_Mo_runs_79 : decode b_Mo_runs 79 = .ok (.istore 5, 2) := by decide +kernel
theorem d_Mo_runs_81 : decode b_Mo_runs 81 = .ok (.iload 5, 2) := by decide +kernel
theorem d_Mo_runs_83 : decode b_Mo_runs 83 = .ok (.iload_n 3, 1) := by decide +kernel
theorem d_Mo_runs_84 : decode b_Mo_runs 84 = .ok (.if_icmp .ge 40, 3) := by decide +kernel
theorem d_Mo_runs_87 : decode b_Mo_runs 87 = .ok (.aload_n 0, 1) := by decide +kernel
theorem d_Mo_runs_88 : decode b_Mo_runs 88 = .ok (.invokevirtual 89, 3) := by decide +kernel
theorem d_Mo_runs_91 : decode b_Mo_runs 91 = .ok (.ifCond .eq 33, 3) := by decide +kernel
theorem d_Mo_runs_94 : decode b_Mo_runs 94 = .ok (.iload_n 2, 1) := by decide +kernel
theorem d_Mo_runs_95 : decode b_Mo_runs 95 = .ok (.sipush 128, 3) := by decide +kernel
theorem d_Mo_runs_98 : decode b_Mo_runs 98 = .ok (.if_icmp .ge 10, 3) := by decide +kernel
theorem d_Mo_runs_101 : decode b_Mo_runs 101 = .ok (.aload_n 0, 1) := by decide +kernel
theorem d_Mo_runs_102 : decode b_Mo_runs 102 = .ok (.invokevirtual 112, 3) := by decide +kernel
theorem d_Mo_runs_105 : decode b_Mo_runs 105 = .ok (.goto 5, 3) := by decide +kernel
theorem d_Mo_runs_108 : decode b_Mo_runs 108 = .ok (.iload 4, 2) := by decide +kernel
theorem d_Mo_runs_110 : decode b_Mo_runs 110 = .ok (.istore 6, 2) := by decide +kernel
theorem d_Mo_runs_112 : decode b_Mo_runs 112 = .ok (.aload_n 0, 1) := by decide +kernel
theorem d_Mo_runs_113 : decode b_Mo_runs 113 = .ok (.iload 6, 2) := by decide +kernel
theorem d_Mo_runs_115 : decode b_Mo_runs 115 = .ok (.invokevirtual 157, 3) := by decide +kernel
theorem d_Mo_runs_118 : decode b_Mo_runs 118 = .ok (.iinc 5 1, 3) := by decide +kernel
theorem d_Mo_runs_121 : decode b_Mo_runs 121 = .ok (.goto (-40), 3) := by decide +kernel
theorem d_Mo_runs_124 : decode b_Mo_runs 124 = .ok (.goto (-122), 3) := by decide +kernel
theorem d_Mo_runs_127 : decode b_Mo_runs 127 = .ok (.return_, 1) := by decide +kernel
noncomputable def f_Mo_runs_B110 (K2 : mH → Nat → Int32 → Option (Unit × mH)) (K81 : mH → Nat → Int32 → Int32 → Int32 → Int32 → Int32 → Option (Unit × mH)) (n0 : Nat) (h0 : mH) (a0 : Nat) (x1 : Int32) (x2 : Int32) (x3 : Int32) (x4 : Int32) (x5 : Int32) (p0 : Int32) : Option (Unit × mH) :=
  mis h0 a0 10 <|
  mcl (f_Mo_give n0 h0 a0 p0) fun _ h21 =>
  mnm (x5 + 1) fun v23 =>
  K81 h21 a0 x1 x2 x3 x4 v23
noncomputable def f_Mo_runs_L81 (K2 : mH → Nat → Int32 → Option (Unit × mH)) (n0 : Nat) : Nat → mH → Nat → Int32 → Int32 → Int32 → Int32 → Int32 → Option (Unit × mH)
  | 0, _, _, _, _, _, _, _ => none
  | n + 1, h0, a0, x1, x2, x3, x4, x5 =>
    if x3 ≤ x5 then
      K2 h0 a0 x1
    else
      mis h0 a0 10 <|
      mcl (f_Mo_isGood n0 h0 a0) fun v15 h16 =>
      if v15 = 0 then
        K2 h16 a0 x1
      else
        if 128 ≤ x2 then
          f_Mo_runs_B110 K2 (f_Mo_runs_L81 K2 n0 n) n0 h16 a0 x1 x2 x3 x4 x5 x4
        else
          mis h16 a0 10 <|
          mcl (f_Mo_next n0 h16 a0) fun v25 h26 =>
          f_Mo_runs_B110 K2 (f_Mo_runs_L81 K2 n0 n) n0 h26 a0 x1 x2 x3 x4 x5 v25
noncomputable def f_Mo_runs_B76 (K2 : mH → Nat → Int32 → Option (Unit × mH)) (n0 : Nat) (h0 : mH) (a0 : Nat) (x1 : Int32) (x2 : Int32) (x3 : Int32) (p0 : Int32) : Option (Unit × mH) :=
  f_Mo_runs_L81 K2 n0 n0 h0 a0 x1 x2 x3 p0 0
noncomputable def f_Mo_runs_B60 (K2 : mH → Nat → Int32 → Option (Unit × mH)) (n0 : Nat) (h0 : mH) (a0 : Nat) (x1 : Int32) (x2 : Int32) (p0 : Int32) : Option (Unit × mH) :=
  if x2 ≤ 128 then
    f_Mo_runs_B76 K2 n0 h0 a0 x1 x2 p0 0
  else
    mis h0 a0 10 <|
    mcl (f_Mo_next n0 h0 a0) fun v28 h29 =>
    f_Mo_runs_B76 K2 n0 h29 a0 x1 x2 p0 v28
noncomputable def f_Mo_runs_B30 (K2 : mH → Nat → Int32 → Option (Unit × mH)) (n0 : Nat) (h0 : mH) (a0 : Nat) (x2 : Int32) (p0 : Int32) : Option (Unit × mH) :=
  if 128 ≤ x2 then
    if x2 ≤ 128 then
      f_Mo_runs_B60 K2 n0 h0 a0 p0 x2 0
    else
      f_Mo_runs_B60 K2 n0 h0 a0 p0 x2 (257 - x2)
  else
    f_Mo_runs_B60 K2 n0 h0 a0 p0 x2 (x2 + 1)
noncomputable def f_Mo_runs_L2  (n0 : Nat) : Nat → mH → Nat → Int32 → Option (Unit × mH)
  | 0, _, _, _ => none
  | n + 1, h0, a0, x1 =>
    if x1 = 0 then
      some ((), h0)
    else
      mis h0 a0 10 <|
      mcl (f_Mo_isGood n0 h0 a0) fun v3 h4 =>
      if v3 = 0 then
        some ((), h4)
      else
        mis h4 a0 10 <|
        mcl (f_Mo_next n0 h4 a0) fun v7 h8 =>
        if v7 = 128 then
          f_Mo_runs_B30 (f_Mo_runs_L2 n0 n) n0 h8 a0 v7 0
        else
          f_Mo_runs_B30 (f_Mo_runs_L2 n0 n) n0 h8 a0 v7 1
noncomputable def f_Mo_runs  (n0 : Nat) (h0 : mH) (a0 : Nat) : Option (Unit × mH) :=
  f_Mo_runs_L2 n0 n0 h0 a0 1
set_option maxHeartbeats 4000000 in
set_option maxRecDepth 100000 in
theorem cb_Mo_runs_B110 {X : mX} {ad : Nat → Nat} {ln : Launch} (O : mO X ad R_Mo b_Mo_runs 7 (mR 2 42) ln) (K2 : mH → Nat → Int32 → Option (Unit × mH)) (K81 : mH → Nat → Int32 → Int32 → Int32 → Int32 → Int32 → Option (Unit × mH)) (r' : Unit) (h' : mH) (hE : mEnd X ad none none h') (hK2 : ∀ (h : mH) (a0 : Nat) (x1 : Int32), K2 h a0 x1 = some (r', h') → mAW X ad 0 0 2 [(0, .ref a0), (1, .int x1)] [] h) (hK81 : ∀ (h : mH) (a0 : Nat) (x1 : Int32) (x2 : Int32) (x3 : Int32) (x4 : Int32) (x5 : Int32), K81 h a0 x1 x2 x3 x4 x5 = some (r', h') → mAW X ad 0 0 81 [(0, .ref a0), (1, .int x1), (2, .int x2), (3, .int x3), (4, .int x4), (5, .int x5)] [] h) (n0 : Nat) (h0 : mH) (a0 : Nat) (x1 : Int32) (x2 : Int32) (x3 : Int32) (x4 : Int32) (x5 : Int32) (p0 : Int32) (hf : f_Mo_runs_B110 K2 K81 n0 h0 a0 x1 x2 x3 x4 x5 p0 = some (r', h')) : mAW X ad 0 0 110 [(0, .ref a0), (1, .int x1), (2, .int x2), (3, .int x3), (4, .int x4), (5, .int x5)] [.int p0] h0 := by
  unfold f_Mo_runs_B110 at hf
  refine ax_istore (lv' := [(6, .int p0), (0, .ref a0), (1, .int x1), (2, .int x2), (3, .int x3), (4, .int x4), (5, .int x5)]) O d_Mo_runs_110 (by decide) rfl ?_
  refine ax_aload_n O d_Mo_runs_112 rfl 1 rfl ?_
  refine ax_iload O d_Mo_runs_113 0 rfl ?_
  obtain ⟨fh21, ch21, hf⟩ := mis_some hf
  obtain ⟨u22, h21, mh21, hf⟩ := mcl_some hf
  refine ax_callV (As := [.int p0]) (rest := []) O cw_Mo_give (q := (R_Mo, T_Mo, 31)) rfl rfl in_Mo_give se_Mo_give lk_Mo_157 ch21 (c_Mo_give mh21) rfl ⟨rfl, rfl⟩ (by decide) (by decide) (Nat.le_of_ble_eq_true rfl) d_Mo_runs_115 ?_
  obtain ⟨v23, ev23, hf⟩ := mnm_some hf
  refine ax_iinc (j := 6) (v := v23) (lv' := [(5, .int v23), (6, .int p0), (0, .ref a0), (1, .int x1), (2, .int x2), (3, .int x3), (4, .int x4)]) O d_Mo_runs_118 rfl (by rw [ev23]; rfl) (by decide) rfl ?_
  refine ax_goto (tgt := 81) O d_Mo_runs_121 (by decide) ?_
  refine ax_sub [2, 3, 4, 5, 6, 0] rfl ?_
  exact hK81 _ _ _ _ _ _ _ hf
set_option maxHeartbeats 4000000 in
set_option maxRecDepth 100000 in
theorem cb_Mo_runs_L81 {X : mX} {ad : Nat → Nat} {ln : Launch} (O : mO X ad R_Mo b_Mo_runs 7 (mR 2 42) ln) (K2 : mH → Nat → Int32 → Option (Unit × mH)) (r' : Unit) (h' : mH) (hE : mEnd X ad none none h') (hK2 : ∀ (h : mH) (a0 : Nat) (x1 : Int32), K2 h a0 x1 = some (r', h') → mAW X ad 0 0 2 [(0, .ref a0), (1, .int x1)] [] h) (n0 : Nat) : ∀ (n : Nat) (h0 : mH) (a0 : Nat) (x1 : Int32) (x2 : Int32) (x3 : Int32) (x4 : Int32) (x5 : Int32), f_Mo_runs_L81 K2 n0 n h0 a0 x1 x2 x3 x4 x5 = some (r', h') → mAW X ad 0 0 81 [(0, .ref a0), (1, .int x1), (2, .int x2), (3, .int x3), (4, .int x4), (5, .int x5)] [] h0 := by
  intro n
  induction n with
  | zero =>
    intro h0 a0 x1 x2 x3 x4 x5 hf
    rw [f_Mo_runs_L81.eq_1] at hf
    cases hf
  | succ n ih =>
    intro h0 a0 x1 x2 x3 x4 x5 hf
    rw [f_Mo_runs_L81.eq_2] at hf
    refine ax_iload O d_Mo_runs_81 5 rfl ?_
    refine ax_iload_n O d_Mo_runs_83 rfl 3 rfl ?_
    refine ax_icmp_ge (tgt := 124) O d_Mo_runs_84 (by decide) (fun q13 => ?_) (fun q13 => ?_)
    · rw [if_pos q13] at hf
      refine ax_goto (tgt := 2) O d_Mo_runs_124 (by decide) ?_
      refine ax_sub [0, 1] rfl ?_
      exact hK2 _ _ _ hf
    · rw [if_neg q13] at hf
      refine ax_aload_n O d_Mo_runs_87 rfl 0 rfl ?_
      obtain ⟨fh16, ch16, hf⟩ := mis_some hf
      obtain ⟨v15, h16, mh16, hf⟩ := mcl_some hf
      refine ax_callV (As := []) (rest := []) O cw_Mo_isGood (q := (R_Mo, T_Mo, 31)) rfl rfl in_Mo_isGood se_Mo_isGood lk_Mo_89 ch16 (c_Mo_isGood mh16) rfl ⟨rfl, rfl⟩ (by decide) (by decide) (Nat.le_of_ble_eq_true rfl) d_Mo_runs_88 ?_
      refine ax_if_eq (tgt := 124) O d_Mo_runs_91 (by decide) (fun q17 => ?_) (fun q17 => ?_)
      · rw [if_pos q17] at hf
        refine ax_goto (tgt := 2) O d_Mo_runs_124 (by decide) ?_
        refine ax_sub [0, 1] rfl ?_
        exact hK2 _ _ _ hf
      · rw [if_neg q17] at hf
        refine ax_iload_n O d_Mo_runs_94 rfl 2 rfl ?_
        refine ax_sipush (v := 128) O d_Mo_runs_95 (by decide) ?_
        refine ax_icmp_ge (tgt := 108) O d_Mo_runs_98 (by decide) (fun q18 => ?_) (fun q18 => ?_)
        · rw [if_pos q18] at hf
          refine ax_iload O d_Mo_runs_108 4 rfl ?_
          exact cb_Mo_runs_B110 O K2 (f_Mo_runs_L81 K2 n0 n) _ _ hE hK2 ih n0 _ _ _ _ _ _ _ _ hf
        · rw [if_neg q18] at hf
          refine ax_aload_n O d_Mo_runs_101 rfl 0 rfl ?_
          obtain ⟨fh26, ch26, hf⟩ := mis_some hf
          obtain ⟨v25, h26, mh26, hf⟩ := mcl_some hf
          refine ax_callV (As := []) (rest := []) O cw_Mo_next (q := (R_Mo, T_Mo, 31)) rfl rfl in_Mo_next se_Mo_next lk_Mo_112 ch26 (c_Mo_next mh26) rfl ⟨rfl, rfl⟩ (by decide) (by decide) (Nat.le_of_ble_eq_true rfl) d_Mo_runs_102 ?_
          refine ax_goto (tgt := 110) O d_Mo_runs_105 (by decide) ?_
          exact cb_Mo_runs_B110 O K2 (f_Mo_runs_L81 K2 n0 n) _ _ hE hK2 ih n0 _ _ _ _ _ _ _ _ hf
set_option maxHeartbeats 4000000 in
set_option maxRecDepth 100000 in
theorem cb_Mo_runs_B76 {X : mX} {ad : Nat → Nat} {ln : Launch} (O : mO X ad R_Mo b_Mo_runs 7 (mR 2 42) ln) (K2 : mH → Nat → Int32 → Option (Unit × mH)) (r' : Unit) (h' : mH) (hE : mEnd X ad none none h') (hK2 : ∀ (h : mH) (a0 : Nat) (x1 : Int32), K2 h a0 x1 = some (r', h') → mAW X ad 0 0 2 [(0, .ref a0), (1, .int x1)] [] h) (n0 : Nat) (h0 : mH) (a0 : Nat) (x1 : Int32) (x2 : Int32) (x3 : Int32) (p0 : Int32) (hf : f_Mo_runs_B76 K2 n0 h0 a0 x1 x2 x3 p0 = some (r', h')) : mAW X ad 0 0 76 [(0, .ref a0), (1, .int x1), (2, .int x2), (3, .int x3)] [.int p0] h0 := by
  unfold f_Mo_runs_B76 at hf
  refine ax_istore (lv' := [(4, .int p0), (0, .ref a0), (1, .int x1), (2, .int x2), (3, .int x3)]) O d_Mo_runs_76 (by decide) rfl ?_
  refine ax_iconst (v := 0) O d_Mo_runs_78 (by decide) ?_
  refine ax_istore (lv' := [(5, .int 0), (4, .int p0), (0, .ref a0), (1, .int x1), (2, .int x2), (3, .int x3)]) O d_Mo_runs_79 (by decide) rfl ?_
  refine ax_sub [2, 3, 4, 5, 1, 0] rfl ?_
  exact cb_Mo_runs_L81 O K2 _ _ hE hK2 n0 n0 _ _ _ _ _ _ _ hf
set_option maxHeartbeats 4000000 in
set_option maxRecDepth 100000 in
theorem cb_Mo_runs_B60 {X : mX} {ad : Nat → Nat} {ln : Launch} (O : mO X ad R_Mo b_Mo_runs 7 (mR 2 42) ln) (K2 : mH → Nat → Int32 → Option (Unit × mH)) (r' : Unit) (h' : mH) (hE : mEnd X ad none none h') (hK2 : ∀ (h : mH) (a0 : Nat) (x1 : Int32), K2 h a0 x1 = some (r', h') → mAW X ad 0 0 2 [(0, .ref a0), (1, .int x1)] [] h) (n0 : Nat) (h0 : mH) (a0 : Nat) (x1 : Int32) (x2 : Int32) (p0 : Int32) (hf : f_Mo_runs_B60 K2 n0 h0 a0 x1 x2 p0 = some (r', h')) : mAW X ad 0 0 60 [(0, .ref a0), (1, .int x1), (2, .int x2)] [.int p0] h0 := by
  unfold f_Mo_runs_B60 at hf
  refine ax_istore_n (lv' := [(3, .int p0), (0, .ref a0), (1, .int x1), (2, .int x2)]) O d_Mo_runs_60 rfl (by decide) rfl ?_
  refine ax_iload_n O d_Mo_runs_61 rfl 3 rfl ?_
  refine ax_sipush (v := 128) O d_Mo_runs_62 (by decide) ?_
  refine ax_icmp_le (tgt := 75) O d_Mo_runs_65 (by decide) (fun q12 => ?_) (fun q12 => ?_)
  · rw [if_pos q12] at hf
    refine ax_iconst (v := 0) O d_Mo_runs_75 (by decide) ?_
    refine ax_sub [1, 2, 3, 0] rfl ?_
    exact cb_Mo_runs_B76 O K2 _ _ hE hK2 n0 _ _ _ _ _ _ hf
  · rw [if_neg q12] at hf
    refine ax_aload_n O d_Mo_runs_68 rfl 1 rfl ?_
    obtain ⟨fh29, ch29, hf⟩ := mis_some hf
    obtain ⟨v28, h29, mh29, hf⟩ := mcl_some hf
    refine ax_callV (As := []) (rest := []) O cw_Mo_next (q := (R_Mo, T_Mo, 31)) rfl rfl in_Mo_next se_Mo_next lk_Mo_112 ch29 (c_Mo_next mh29) rfl ⟨rfl, rfl⟩ (by decide) (by decide) (Nat.le_of_ble_eq_true rfl) d_Mo_runs_69 ?_
    refine ax_goto (tgt := 76) O d_Mo_runs_72 (by decide) ?_
    refine ax_sub [1, 2, 3, 0] rfl ?_
    exact cb_Mo_runs_B76 O K2 _ _ hE hK2 n0 _ _ _ _ _ _ hf
set_option maxHeartbeats 4000000 in
set_option maxRecDepth 100000 in
theorem cb_Mo_runs_B30 {X : mX} {ad : Nat → Nat} {ln : Launch} (O : mO X ad R_Mo b_Mo_runs 7 (mR 2 42) ln) (K2 : mH → Nat → Int32 → Option (Unit × mH)) (r' : Unit) (h' : mH) (hE : mEnd X ad none none h') (hK2 : ∀ (h : mH) (a0 : Nat) (x1 : Int32), K2 h a0 x1 = some (r', h') → mAW X ad 0 0 2 [(0, .ref a0), (1, .int x1)] [] h) (n0 : Nat) (h0 : mH) (a0 : Nat) (x2 : Int32) (p0 : Int32) (hf : f_Mo_runs_B30 K2 n0 h0 a0 x2 p0 = some (r', h')) : mAW X ad 0 0 30 [(0, .ref a0), (2, .int x2)] [.int p0] h0 := by
  unfold f_Mo_runs_B30 at hf
  refine ax_istore_n (lv' := [(1, .int p0), (0, .ref a0), (2, .int x2)]) O d_Mo_runs_30 rfl (by decide) rfl ?_
  refine ax_iload_n O d_Mo_runs_31 rfl 2 rfl ?_
  refine ax_sipush (v := 128) O d_Mo_runs_32 (by decide) ?_
  refine ax_icmp_ge (tgt := 44) O d_Mo_runs_35 (by decide) (fun q10 => ?_) (fun q10 => ?_)
  · rw [if_pos q10] at hf
    refine ax_iload_n O d_Mo_runs_44 rfl 2 rfl ?_
    refine ax_sipush (v := 128) O d_Mo_runs_45 (by decide) ?_
    refine ax_icmp_le (tgt := 59) O d_Mo_runs_48 (by decide) (fun q11 => ?_) (fun q11 => ?_)
    · rw [if_pos q11] at hf
      refine ax_iconst (v := 0) O d_Mo_runs_59 (by decide) ?_
      refine ax_sub [1, 0, 2] rfl ?_
      exact cb_Mo_runs_B60 O K2 _ _ hE hK2 n0 _ _ _ _ _ hf
    · rw [if_neg q11] at hf
      refine ax_sipush (v := 257) O d_Mo_runs_51 (by decide) ?_
      refine ax_iload_n O d_Mo_runs_54 rfl 2 rfl ?_
      refine ax_isub O d_Mo_runs_55 ?_
      refine ax_goto (tgt := 60) O d_Mo_runs_56 (by decide) ?_
      refine ax_sub [1, 0, 2] rfl ?_
      exact cb_Mo_runs_B60 O K2 _ _ hE hK2 n0 _ _ _ _ _ hf
  · rw [if_neg q10] at hf
    refine ax_iload_n O d_Mo_runs_38 rfl 2 rfl ?_
    refine ax_iconst (v := 1) O d_Mo_runs_39 (by decide) ?_
    refine ax_iadd O d_Mo_runs_40 ?_
    refine ax_goto (tgt := 60) O d_Mo_runs_41 (by decide) ?_
    refine ax_sub [1, 0, 2] rfl ?_
    exact cb_Mo_runs_B60 O K2 _ _ hE hK2 n0 _ _ _ _ _ hf
set_option maxHeartbeats 4000000 in
set_option maxRecDepth 100000 in
theorem cb_Mo_runs_L2 {X : mX} {ad : Nat → Nat} {ln : Launch} (O : mO X ad R_Mo b_Mo_runs 7 (mR 2 42) ln) (r' : Unit) (h' : mH) (hE : mEnd X ad none none h') (n0 : Nat) : ∀ (n : Nat) (h0 : mH) (a0 : Nat) (x1 : Int32), f_Mo_runs_L2 n0 n h0 a0 x1 = some (r', h') → mAW X ad 0 0 2 [(0, .ref a0), (1, .int x1)] [] h0 := by
  intro n
  induction n with
  | zero =>
    intro h0 a0 x1 hf
    rw [f_Mo_runs_L2.eq_1] at hf
    cases hf
  | succ n ih =>
    intro h0 a0 x1 hf
    rw [f_Mo_runs_L2.eq_2] at hf
    refine ax_iload_n O d_Mo_runs_2 rfl 1 rfl ?_
    refine ax_if_eq (tgt := 127) O d_Mo_runs_3 (by decide) (fun q1 => ?_) (fun q1 => ?_)
    · rw [if_pos q1] at hf
      exact ax_vretE O hE hf d_Mo_runs_127
    · rw [if_neg q1] at hf
      refine ax_aload_n O d_Mo_runs_6 rfl 0 rfl ?_
      obtain ⟨fh4, ch4, hf⟩ := mis_some hf
      obtain ⟨v3, h4, mh4, hf⟩ := mcl_some hf
      refine ax_callV (As := []) (rest := []) O cw_Mo_isGood (q := (R_Mo, T_Mo, 31)) rfl rfl in_Mo_isGood se_Mo_isGood lk_Mo_89 ch4 (c_Mo_isGood mh4) rfl ⟨rfl, rfl⟩ (by decide) (by decide) (Nat.le_of_ble_eq_true rfl) d_Mo_runs_7 ?_
      refine ax_if_eq (tgt := 127) O d_Mo_runs_10 (by decide) (fun q5 => ?_) (fun q5 => ?_)
      · rw [if_pos q5] at hf
        exact ax_vretE O hE hf d_Mo_runs_127
      · rw [if_neg q5] at hf
        refine ax_aload_n O d_Mo_runs_13 rfl 0 rfl ?_
        obtain ⟨fh8, ch8, hf⟩ := mis_some hf
        obtain ⟨v7, h8, mh8, hf⟩ := mcl_some hf
        refine ax_callV (As := []) (rest := []) O cw_Mo_next (q := (R_Mo, T_Mo, 31)) rfl rfl in_Mo_next se_Mo_next lk_Mo_112 ch8 (c_Mo_next mh8) rfl ⟨rfl, rfl⟩ (by decide) (by decide) (Nat.le_of_ble_eq_true rfl) d_Mo_runs_14 ?_
        refine ax_istore_n (lv' := [(2, .int v7), (0, .ref a0), (1, .int x1)]) O d_Mo_runs_17 rfl (by decide) rfl ?_
        refine ax_iload_n O d_Mo_runs_18 rfl 0 rfl ?_
        refine ax_sipush (v := 128) O d_Mo_runs_19 (by decide) ?_
        refine ax_icmp_eq (tgt := 29) O d_Mo_runs_22 (by decide) (fun q9 => ?_) (fun q9 => ?_)
        · rw [if_pos q9] at hf
          refine ax_iconst (v := 0) O d_Mo_runs_29 (by decide) ?_
          refine ax_sub [1, 0] rfl ?_
          exact cb_Mo_runs_B30 O (f_Mo_runs_L2 n0 n) _ _ hE ih n0 _ _ _ _ hf
        · rw [if_neg q9] at hf
          refine ax_iconst (v := 1) O d_Mo_runs_25 (by decide) ?_
          refine ax_goto (tgt := 30) O d_Mo_runs_26 (by decide) ?_
          refine ax_sub [1, 0] rfl ?_
          exact cb_Mo_runs_B30 O (f_Mo_runs_L2 n0 n) _ _ hE ih n0 _ _ _ _ hf
set_option maxHeartbeats 4000000 in
set_option maxRecDepth 100000 in
theorem cb_Mo_runs {X : mX} {ad : Nat → Nat} {ln : Launch} (O : mO X ad R_Mo b_Mo_runs 7 (mR 2 42) ln) (r' : Unit) (h' : mH) (hE : mEnd X ad none none h') (n0 : Nat) (h0 : mH) (a0 : Nat) (hf : f_Mo_runs n0 h0 a0 = some (r', h')) : mAW X ad 0 0 0 [(0, .ref a0)] [] h0 := by
  unfold f_Mo_runs at hf
  refine ax_iconst (v := 1) O d_Mo_runs_0 (by decide) ?_
  refine ax_istore_n (lv' := [(1, .int 1), (0, .ref a0)]) O d_Mo_runs_1 rfl (by decide) rfl ?_
  refine ax_sub [1, 0] rfl ?_
  exact cb_Mo_runs_L2 O _ _ hE n0 n0 _ _ _ hf
theorem c_Mo_runs {ln : Launch} {n0 : Nat} {h0 h' : mH} {a0 : Nat} {r' : Unit} (hf : f_Mo_runs n0 h0 a0 = some (r', h')) : mMet ln y_Mo_runs b_Mo_runs 7 none (mR 2 42) [.ref a0] h0 none h' := mMet_of (by decide +kernel) (Nat.le_of_ble_eq_true rfl) (fun X ad O hE => cb_Mo_runs O r' h' hE n0 h0 a0 hf)
/-! ===== StreamFiltersModel.bitAt(II)I ===== -/
theorem d_Mo_bitAt_0 : decode b_Mo_bitAt 0 = .ok (.aload_n 0, 1) := by decide +kernel
theorem d_Mo_bitAt_1 : decode b_Mo_bitAt 1 = .ok (.getfield 39, 3) := by decide +kernel
theorem d_Mo_bitAt_4 : decode b_Mo_bitAt 4 = .ok (.iload_n 1, 1) := by decide +kernel
theorem d_Mo_bitAt_5 : decode b_Mo_bitAt 5 = .ok (.iload_n 2, 1) := by decide +kernel
theorem d_Mo_bitAt_6 : decode b_Mo_bitAt 6 = .ok (.bipush 8, 2) := by decide +kernel
theorem d_Mo_bitAt_8 : decode b_Mo_bitAt 8 = .ok (.idiv, 1) := by decide +kernel
theorem d_Mo_bitAt_9 : decode b_Mo_bitAt 9 = .ok (.iadd, 1) := by decide +kernel
theorem d_Mo_bitAt_10 : decode b_Mo_bitAt 10 = .ok (.iaload, 1) := by decide +kernel
theorem d_Mo_bitAt_11 : decode b_Mo_bitAt 11 = .ok (.bipush 7, 2) := by decide +kernel
theorem d_Mo_bitAt_13 : decode b_Mo_bitAt 13 = .ok (.iload_n 2, 1) := by decide +kernel
theorem d_Mo_bitAt_14 : decode b_Mo_bitAt 14 = .ok (.bipush 8, 2) := by decide +kernel
theorem d_Mo_bitAt_16 : decode b_Mo_bitAt 16 = .ok (.irem, 1) := by decide +kernel
theorem d_Mo_bitAt_17 : decode b_Mo_bitAt 17 = .ok (.isub, 1) := by decide +kernel
theorem d_Mo_bitAt_18 : decode b_Mo_bitAt 18 = .ok (.ishr, 1) := by decide +kernel
theorem d_Mo_bitAt_19 : decode b_Mo_bitAt 19 = .ok (.iconst 1, 1) := by decide +kernel
theorem d_Mo_bitAt_20 : decode b_Mo_bitAt 20 = .ok (.iand, 1) := by decide +kernel
theorem d_Mo_bitAt_21 : decode b_Mo_bitAt 21 = .ok (.ireturn, 1) := by decide +kernel
noncomputable def f_Mo_bitAt  (n0 : Nat) (h0 : mH) (a0 : Nat) (x1 : Int32) (x2 : Int32) : Option (Int32 × mH) :=
  mgr h0 a0 10 14 fun r1 =>
  mai h0 r1 .int (x1 + (x2 / 8)) fun v2 =>
  some ((v2 >>> ((7 - (x2 - x2 / 8 * 8)) &&& 31)) &&& 1, h0)
set_option maxHeartbeats 4000000 in
set_option maxRecDepth 100000 in
theorem cb_Mo_bitAt {X : mX} {ad : Nat → Nat} {ln : Launch} (O : mO X ad R_Mo b_Mo_bitAt 3 (mR 0 0) ln) (r' : Int32) (h' : mH) (hE : mEnd X ad (some .int) (some (.int r')) h') (n0 : Nat) (h0 : mH) (a0 : Nat) (x1 : Int32) (x2 : Int32) (hf : f_Mo_bitAt n0 h0 a0 x1 x2 = some (r', h')) : mAW X ad 0 0 0 [(0, .ref a0), (1, .int x1), (2, .int x2)] [] h0 := by
  unfold f_Mo_bitAt at hf
  refine ax_aload_n O d_Mo_bitAt_0 rfl 0 rfl ?_
  obtain ⟨fr1, r1, cr1, kr1, hf⟩ := mgr_some hf
  refine ax_get O fg_Mo_39 cr1 kr1 d_Mo_bitAt_1 ?_
  refine ax_iload_n O d_Mo_bitAt_4 rfl 1 rfl ?_
  refine ax_iload_n O d_Mo_bitAt_5 rfl 2 rfl ?_
  refine ax_bipush (v := 8) O d_Mo_bitAt_6 (by decide) ?_
  refine ax_idiv O d_Mo_bitAt_8 (by decide) ?_
  refine ax_iadd O d_Mo_bitAt_9 ?_
  obtain ⟨nv2, fv2, v2, cv2, iv2, kv2, hf⟩ := mai_some hf
  refine ax_iald O cv2 iv2 kv2 d_Mo_bitAt_10 ?_
  refine ax_bipush (v := 7) O d_Mo_bitAt_11 (by decide) ?_
  refine ax_iload_n O d_Mo_bitAt_13 rfl 2 rfl ?_
  refine ax_bipush (v := 8) O d_Mo_bitAt_14 (by decide) ?_
  refine ax_irem O d_Mo_bitAt_16 (by decide) ?_
  refine ax_isub O d_Mo_bitAt_17 ?_
  refine ax_ishr O d_Mo_bitAt_18 ?_
  refine ax_iconst (v := 1) O d_Mo_bitAt_19 (by decide) ?_
  refine ax_iand O d_Mo_bitAt_20 ?_
  exact ax_retE O hE hf rfl d_Mo_bitAt_21
theorem c_Mo_bitAt {ln : Launch} {n0 : Nat} {h0 h' : mH} {a0 : Nat} {x1 : Int32} {x2 : Int32} {r' : Int32} (hf : f_Mo_bitAt n0 h0 a0 x1 x2 = some (r', h')) : mMet ln y_Mo_bitAt b_Mo_bitAt 3 (some .int) (mR 0 0) [.ref a0, .int x1, .int x2] h0 (some (.int r')) h' := mMet_of (by decide +kernel) (Nat.le_of_ble_eq_true rfl) (fun X ad O hE => cb_Mo_bitAt O r' h' hE n0 h0 a0 x1 x2 hf)
/-! ===== StreamFiltersModel.numberAt(III)I ===== -/
theorem d_Mo_numberAt_0 : decode b_Mo_numberAt 0 = .ok (.iconst 0, 1) := by decide +kernel
theorem d_Mo_numberAt_1 : decode b_Mo_numberAt 1 = .ok (.istore 4, 2) := by decide +kernel
theorem d_Mo_numberAt_3 : decode b_Mo_numberAt 3 = .ok (.iconst 0, 1) := by decide +kernel
theorem d_Mo_numberAt_4 : decode b_Mo_numberAt 4 = .ok (.istore 5, 2) := by decide +kernel
theorem d_Mo_numberAt_6 : decode b_Mo_numberAt 6 = .ok (.iload 5, 2) := by decide +kernel
theorem d_Mo_numberAt_8 : decode b_Mo_numberAt 8 = .ok (.iload_n 2, 1) := by decide +kernel
theorem d_Mo_numberAt_9 : decode b_Mo_numberAt 9 = .ok (.if_icmp .ge 27, 3) := by decide +kernel
theorem d_Mo_numberAt_12 : decode b_Mo_numberAt 12 = .ok (.iload 4, 2) := by decide +kernel
theorem d_Mo_numberAt_14 : decode b_Mo_numberAt 14 = .ok (.iconst 1, 1) := by decide +kernel
theorem d_Mo_numberAt_15 : decode b_Mo_numberAt 15 = .ok (.ishl, 1) := by decide +kernel
theorem d_Mo_numberAt_16 : decode b_Mo_numberAt 16 = .ok (.aload_n 0, 1) := by decide +kernel
theorem d_Mo_numberAt_17 : decode b_Mo_numberAt 17 = .ok (.iload_n 1, 1) := by decide +kernel
theorem d_Mo_numberAt_18 : decode b_Mo_numberAt 18 = .ok (.iload_n 2, 1) := by decide +kernel
theorem d_Mo_numberAt_19 : decode b_Mo_numberAt 19 = .ok (.iload_n 3, 1) := by decide +kernel
theorem d_Mo_numberAt_20 : decode b_Mo_numberAt 20 = .ok (.imul, 1) := by decide +kernel
theorem d_Mo_numberAt_21 : decode b_Mo_numberAt 21 = .ok (.iload 5, 2) := by decide +kernel
theorem d_Mo_numberAt_23 : decode b_Mo_numberAt 23 = .ok (.iadd, 1) := by decide +kernel
theorem d_Mo_numberAt_24 : decode b_Mo_numberAt 24 = .ok (.invokevirtual 221, 3) := by decide +kernel
theorem d_Mo_numberAt_27 : decode b_Mo_numberAt 27 = .ok (.ior, 1) := by decide +kernel
theorem d_Mo_numberAt_28 : decode b_Mo_numberAt 28 = .ok (.istore 4, 2) := by decide +kernel
theorem d_Mo_numberAt_30 : decode b_Mo_numberAt 30 = .ok (.iinc 5 1, 3) := by decide +kernel
theorem d_Mo_numberAt_33 : decode b_Mo_numberAt 33 = .ok (.goto (-27), 3) := by decide +kernel
theorem d_Mo_numberAt_36 : decode b_Mo_numberAt 36 = .ok (.iload 4, 2) := by decide +kernel
theorem d_Mo_numberAt_38 : decode b_Mo_numberAt 38 = .ok (.ireturn, 1) := by decide +kernel
noncomputable def f_Mo_numberAt_L6  (n0 : Nat) : Nat → mH → Nat → Int32 → Int32 → Int32 → Int32 → Int32 → Option (Int32 × mH)
  | 0, _, _, _, _, _, _, _ => none
  | n + 1, h0, a0, x1, x2, x3, x4, x5 =>
    if x2 ≤ x5 then
      some (x4, h0)
    else
      mis h0 a0 10 <|
      mcl (f_Mo_bitAt n0 h0 a0 x1 ((x2 * x3) + x5)) fun v3 h4 =>
      mnm ((x4 <<< (1 &&& 31)) ||| v3) fun v5 =>
      mnm (x5 + 1) fun v6 =>
      (f_Mo_numberAt_L6 n0 n) h4 a0 x1 x2 x3 v5 v6
noncomputable def f_Mo_numberAt  (n0 : Nat) (h0 : mH) (a0 : Nat) (x1 : Int32) (x2 : Int32) (x3 : Int32) : Option (Int32 × mH) :=
  f_Mo_numberAt_L6 n0 n0 h0 a0 x1 x2 x3 0 0
set_option maxHeartbeats 4000000 in
set_option maxRecDepth 100000 in
theorem cb_Mo_numberAt_L6 {X : mX} {ad : Nat → Nat} {ln : Launch} (O : mO X ad R_Mo b_Mo_numberAt 6 (mR 1 22) ln) (r' : Int32) (h' : mH) (hE : mEnd X ad (some .int) (some (.int r')) h') (n0 : Nat) : ∀ (n : Nat) (h0 : mH) (a0 : Nat) (x1 : Int32) (x2 : Int32) (x3 : Int32) (x4 : Int32) (x5 : Int32), f_Mo_numberAt_L6 n0 n h0 a0 x1 x2 x3 x4 x5 = some (r', h') → mAW X ad 0 0 6 [(0, .ref a0), (1, .int x1), (2, .int x2), (3, .int x3), (4, .int x4), (5, .int x5)] [] h0 := by
  intro n
  induction n with
  | zero =>
    intro h0 a0 x1 x2 x3 x4 x5 hf
    rw [f_Mo_numberAt_L6.eq_1] at hf
    cases hf
  | succ n ih =>
    intro h0 a0 x1 x2 x3 x4 x5 hf
    rw [f_Mo_numberAt_L6.eq_2] at hf
    refine ax_iload O d_Mo_numberAt_6 5 rfl ?_
    refine ax_iload_n O d_Mo_numberAt_8 rfl 2 rfl ?_
    refine ax_icmp_ge (tgt := 36) O d_Mo_numberAt_9 (by decide) (fun q1 => ?_) (fun q1 => ?_)
    · rw [if_pos q1] at hf
      refine ax_iload O d_Mo_numberAt_36 4 rfl ?_
      exact ax_retE O hE hf rfl d_Mo_numberAt_38
    · rw [if_neg q1] at hf
      refine ax_iload O d_Mo_numberAt_12 4 rfl ?_
      refine ax_iconst (v := 1) O d_Mo_numberAt_14 (by decide) ?_
      refine ax_ishl O d_Mo_numberAt_15 ?_
      refine ax_aload_n O d_Mo_numberAt_16 rfl 0 rfl ?_
      refine ax_iload_n O d_Mo_numberAt_17 rfl 1 rfl ?_
      refine ax_iload_n O d_Mo_numberAt_18 rfl 2 rfl ?_
      refine ax_iload_n O d_Mo_numberAt_19 rfl 3 rfl ?_
      refine ax_imul O d_Mo_numberAt_20 ?_
      refine ax_iload O d_Mo_numberAt_21 5 rfl ?_
      refine ax_iadd O d_Mo_numberAt_23 ?_
      obtain ⟨fh4, ch4, hf⟩ := mis_some hf
      obtain ⟨v3, h4, mh4, hf⟩ := mcl_some hf
      refine ax_callV (As := [.int x1, .int ((x2 * x3) + x5)]) (rest := [.int (x4 <<< (1 &&& 31))]) O cw_Mo_bitAt (q := (R_Mo, T_Mo, 31)) rfl rfl in_Mo_bitAt se_Mo_bitAt lk_Mo_221 ch4 (c_Mo_bitAt mh4) rfl ⟨rfl, rfl⟩ (by decide) (by decide) (Nat.le_of_ble_eq_true rfl) d_Mo_numberAt_24 ?_
      refine ax_ior O d_Mo_numberAt_27 ?_
      obtain ⟨v5, ev5, hf⟩ := mnm_some hf
      refine ax_nmi ev5 ?_
      refine ax_istore (lv' := [(4, .int v5), (0, .ref a0), (1, .int x1), (2, .int x2), (3, .int x3), (5, .int x5)]) O d_Mo_numberAt_28 (by decide) rfl ?_
      obtain ⟨v6, ev6, hf⟩ := mnm_some hf
      refine ax_iinc (j := 5) (v := v6) (lv' := [(5, .int v6), (4, .int v5), (0, .ref a0), (1, .int x1), (2, .int x2), (3, .int x3)]) O d_Mo_numberAt_30 rfl (by rw [ev6]; rfl) (by decide) rfl ?_
      refine ax_goto (tgt := 6) O d_Mo_numberAt_33 (by decide) ?_
      refine ax_sub [2, 3, 4, 5, 1, 0] rfl ?_
      exact ih _ _ _ _ _ _ _ hf
set_option maxHeartbeats 4000000 in
set_option maxRecDepth 100000 in
theorem cb_Mo_numberAt {X : mX} {ad : Nat → Nat} {ln : Launch} (O : mO X ad R_Mo b_Mo_numberAt 6 (mR 1 22) ln) (r' : Int32) (h' : mH) (hE : mEnd X ad (some .int) (some (.int r')) h') (n0 : Nat) (h0 : mH) (a0 : Nat) (x1 : Int32) (x2 : Int32) (x3 : Int32) (hf : f_Mo_numberAt n0 h0 a0 x1 x2 x3 = some (r', h')) : mAW X ad 0 0 0 [(0, .ref a0), (1, .int x1), (2, .int x2), (3, .int x3)] [] h0 := by
  unfold f_Mo_numberAt at hf
  refine ax_iconst (v := 0) O d_Mo_numberAt_0 (by decide) ?_
  refine ax_istore (lv' := [(4, .int 0), (0, .ref a0), (1, .int x1), (2, .int x2), (3, .int x3)]) O d_Mo_numberAt_1 (by decide) rfl ?_
  refine ax_iconst (v := 0) O d_Mo_numberAt_3 (by decide) ?_
  refine ax_istore (lv' := [(5, .int 0), (4, .int 0), (0, .ref a0), (1, .int x1), (2, .int x2), (3, .int x3)]) O d_Mo_numberAt_4 (by decide) rfl ?_
  refine ax_sub [2, 3, 4, 5, 1, 0] rfl ?_
  exact cb_Mo_numberAt_L6 O _ _ hE n0 n0 _ _ _ _ _ _ _ hf
theorem c_Mo_numberAt {ln : Launch} {n0 : Nat} {h0 h' : mH} {a0 : Nat} {x1 : Int32} {x2 : Int32} {x3 : Int32} {r' : Int32} (hf : f_Mo_numberAt n0 h0 a0 x1 x2 x3 = some (r', h')) : mMet ln y_Mo_numberAt b_Mo_numberAt 6 (some .int) (mR 1 22) [.ref a0, .int x1, .int x2, .int x3] h0 (some (.int r')) h' := mMet_of (by decide +kernel) (Nat.le_of_ble_eq_true rfl) (fun X ad O hE => cb_Mo_numberAt O r' h' hE n0 h0 a0 x1 x2 x3 hf)
/-! ===== StreamFiltersModel.setNumber(IIII)V ===== -/
theorem d_Mo_setNumber_0 : decode b_Mo_setNumber 0 = .ok (.iconst 0, 1) := by decide +kernel
theorem d_Mo_setNumber_1 : decode b_Mo_setNumber 1 = .ok (.istore 5, 2) := by decide +kernel
theorem d_Mo_setNumber_3 : decode b_Mo_setNumber 3 = .ok (.iload 5, 2) := by decide +kernel
theorem d_Mo_setNumber_5 : decode b_Mo_setNumber 5 = .ok (.iload_n 2, 1) := by decide +kernel
theorem d_Mo_setNumber_6 : decode b_Mo_setNumber 6 = .ok (.if_icmp .ge 78, 3) := by decide +kernel
theorem d_Mo_setNumber_9 : decode b_Mo_setNumber 9 = .ok (.iload_n 2, 1) := by decide +kernel
theorem d_Mo_setNumber_10 : decode b_Mo_setNumber 10 = .ok (.iload_n 3, 1) := by decide +kernel
theorem d_Mo_setNumber_11 : decode b_Mo_setNumber 11 = .ok (.imul, 1) := by decide +kernel
theorem d_Mo_setNumber_12 : decode b_Mo_setNumber 12 = .ok (.iload 5, 2) := by decide +kernel
theorem d_Mo_setNumber_14 : decode b_Mo_setNumber 14 = .ok (.iadd, 1) := by decide +kernel
theorem d_Mo_setNumber_15 : decode b_Mo_setNumber 15 = .ok (.istore 6, 2) := by decide +kernel
theorem d_Mo_setNumber_17 : decode b_Mo_setNumber 17 = .ok (.iload 4, 2) := by decide +kernel
theorem d_Mo_setNumber_19 : decode b_Mo_setNumber 19 = .ok (.iload_n 2, 1) := by decide +kernel
theorem d_Mo_setNumber_20 : decode b_Mo_setNumber 20 = .ok (.iconst 1, 1) := by decide +kernel
theorem d_Mo_setNumber_21 : decode b_Mo_setNumber 21 = .ok (.isub, 1) := by decide +kernel
theorem d_Mo_setNumber_22 : decode b_Mo_setNumber 22 = .ok (.iload 5, 2) := by decide +kernel
theorem d_Mo_setNumber_24 : decode b_Mo_setNumber 24 = .ok (.isub, 1) := by decide +kernel
theorem d_Mo_setNumber_25 : decode b_Mo_setNumber 25 = .ok (.ishr, 1) := by decide +kernel
theorem d_Mo_setNumber_26 : decode b_Mo_setNumber 26 = .ok (.iconst 1, 1) := by decide +kernel
theorem d_Mo_setNumber_27 : decode b_Mo_setNumber 27 = .ok (.iand, 1) := by decide +kernel
theorem d_Mo_setNumber_28 : decode b_Mo_setNumber 28 = .ok (.istore 7, 2) := by decide +kernel
theorem d_Mo_setNumber_30 : decode b_Mo_setNumber 30 = .ok (.iload_n 1, 1) := by decide +kernel
theorem d_Mo_setNumber_31 : decode b_Mo_setNumber 31 = .ok (.iload 6, 2) := by decide +kernel
theorem d_Mo_setNumber_33 : decode b_Mo_setNumber 33 = .ok (.bipush 8, 2) := by decide +kernel
theorem d_Mo_setNumber_35 : decode b_Mo_setNumber 35 = .ok (.idiv, 1) := by decide +kernel
theorem d_Mo_setNumber_36 : decode b_Mo_setNumber 36 = .ok (.iadd, 1) := by decide +kernel
theorem d_Mo_setNumber_37 : decode b_Mo_setNumber 37 = .ok (.istore 8, 2) := by decide +kernel
theorem d_Mo_setNumber_39 : decode b_Mo_setNumber 39 = .ok (.aload_n 0, 1) := by decide +kernel
theorem d_Mo_setNumber_40 : decode b_Mo_setNumber 40 = .ok (.getfield 39, 3) := by decide +kernel
theorem d_Mo_setNumber_43 : decode b_Mo_setNumber 43 = .ok (.iload 8, 2) := by decide +kernel
theorem d_Mo_setNumber_45 : decode b_Mo_setNumber 45 = .ok (.aload_n 0, 1) := by decide +kernel
theorem d_Mo_setNumber_46 : decode b_Mo_setNumber 46 = .ok (.getfield 39, 3) := by decide +kernel
theorem d_Mo_setNumber_49 : decode b_Mo_setNumber 49 = .ok (.iload 8, 2) := by decide +kernel
theorem d_Mo_setNumber_51 : decode b_Mo_setNumber 51 = .ok (.iaload, 1) := by decide +kernel
theorem d_Mo_setNumber_52 : decode b_Mo_setNumber 52 = .ok (.iconst 1, 1) := by decide +kernel
theorem d_Mo_setNumber_53 : decode b_Mo_setNumber 53 = .ok (.bipush 7, 2) := by decide +kernel
theorem d_Mo_setNumber_55 : decode b_Mo_setNumber 55 = .ok (.iload 6, 2) := by decide +kernel
theorem d_Mo_setNumber_57 : decode b_Mo_setNumber 57 = .ok (.bipush 8, 2) := by decide +kernel
theorem d_Mo_setNumber_59 : decode b_Mo_setNumber 59 = .ok (.irem, 1) := by decide +kernel
theorem d_Mo_setNumber_60 : decode b_Mo_setNumber 60 = .ok (.isub, 1) := by decide +kernel
theorem d_Mo_setNumber_61 : decode b_Mo_setNumber 61 = .ok (.ishl, 1) := by decide +kernel
theorem d_Mo_setNumber_62 : decode b_Mo_setNumber 62 = .ok (.iconst (-1), 1) := by decide +kernel
theorem d_Mo_setNumber_63 : decode b_Mo_setNumber 63 = .ok (.ixor, 1) := by decide +kernel
theorem d_Mo_setNumber_64 : decode b_Mo_setNumber 64 = .ok (.iand, 1) := by decide +kernel
theorem d_Mo_setNumber_65 : decode b_Mo_setNumber 65 = .ok (.iload 7, 2) := by decide +kernel
theorem d_Mo_setNumber_67 : decode b_Mo_setNumber 67 = .ok (.bipush 7, 2) := by decide +kernel
theorem d_Mo_setNumber_69 : decode b_Mo_setNumber 69 = .ok (.iload 6, 2) := by decide +kernel
theorem d_Mo_setNumber_71 : decode b_Mo_setNumber 71 = .ok (.bipush 8, 2) := by decide +kernel
theorem d_Mo_setNumber_73 : decode b_Mo_setNumber 73 = .ok (.irem, 1) := by decide +kernel
theorem d_Mo_setNumber_74 : decode b_Mo_setNumber 74 = .ok (.isub, 1) := by decide +kernel
theorem d_Mo_setNumber_75 : decode b_Mo_setNumber 75 = .ok (.ishl, 1) := by decide +kernel
theorem d_Mo_setNumber_76 : decode b_Mo_setNumber 76 = .ok (.ior, 1) := by decide +kernel
theorem d_Mo_setNumber_77 : decode b_Mo_setNumber 77 = .ok (.iastore, 1) := by decide +kernel
theorem d_Mo_setNumber_78 : decode b_Mo_setNumber 78 = .ok (.iinc 5 1, 3) := by decide +kernel
theorem d_Mo_setNumber_81 : decode b_Mo_setNumber 81 = .ok (.goto (-78), 3) := by decide +kernel
theorem d_Mo_setNumber_84 : decode b_Mo_setNumber 84 = .ok (.return_, 1) := by decide +kernel
noncomputable def f_Mo_setNumber_L3  (n0 : Nat) : Nat → mH → Nat → Int32 → Int32 → Int32 → Int32 → Int32 → Option (Unit × mH)
  | 0, _, _, _, _, _, _, _ => none
  | n + 1, h0, a0, x1, x2, x3, x4, x5 =>
    if x2 ≤ x5 then
      some ((), h0)
    else
      mnm ((x2 * x3) + x5) fun v2 =>
      mnm ((x4 >>> (((x2 - 1) - x5) &&& 31)) &&& 1) fun v3 =>
      mnm (x1 + (v2 / 8)) fun v4 =>
      mgr h0 a0 10 14 fun r5 =>
      mgr h0 a0 10 14 fun r6 =>
      mai h0 r6 .int v4 fun v7 =>
      mas h0 r5 .int v4 ((v7 &&& ((1 <<< ((7 - (v2 - v2 / 8 * 8)) &&& 31)) ^^^ (-1))) ||| (v3 <<< ((7 - (v2 - v2 / 8 * 8)) &&& 31))) fun h8 =>
      mnm (x5 + 1) fun v9 =>
      (f_Mo_setNumber_L3 n0 n) h8 a0 x1 x2 x3 x4 v9
noncomputable def f_Mo_setNumber  (n0 : Nat) (h0 : mH) (a0 : Nat) (x1 : Int32) (x2 : Int32) (x3 : Int32) (x4 : Int32) : Option (Unit × mH) :=
  f_Mo_setNumber_L3 n0 n0 h0 a0 x1 x2 x3 x4 0
set_option maxHeartbeats 4000000 in
set_option maxRecDepth 100000 in
theorem cb_Mo_setNumber_L3 {X : mX} {ad : Nat → Nat} {ln : Launch} (O : mO X ad R_Mo b_Mo_setNumber 9 (mR 0 0) ln) (r' : Unit) (h' : mH) (hE : mEnd X ad none none h') (n0 : Nat) : ∀ (n : Nat) (h0 : mH) (a0 : Nat) (x1 : Int32) (x2 : Int32) (x3 : Int32) (x4 : Int32) (x5 : Int32), f_Mo_setNumber_L3 n0 n h0 a0 x1 x2 x3 x4 x5 = some (r', h') → mAW X ad 0 0 3 [(0, .ref a0), (1, .int x1), (2, .int x2), (3, .int x3), (4, .int x4), (5, .int x5)] [] h0 := by
  intro n
  induction n with
  | zero =>
    intro h0 a0 x1 x2 x3 x4 x5 hf
    rw [f_Mo_setNumber_L3.eq_1] at hf
    cases hf
  | succ n ih =>
    intro h0 a0 x1 x2 x3 x4 x5 hf
    rw [f_Mo_setNumber_L3.eq_2] at hf
    refine ax_iload O d_Mo_setNumber_3 5 rfl ?_
    refine ax_iload_n O d_Mo_setNumber_5 rfl 2 rfl ?_
    refine ax_icmp_ge (tgt := 84) O d_Mo_setNumber_6 (by decide) (fun q1 => ?_) (fun q1 => ?_)
    · rw [if_pos q1] at hf
      exact ax_vretE O hE hf d_Mo_setNumber_84
    · rw [if_neg q1] at hf
      refine ax_iload_n O d_Mo_setNumber_9 rfl 2 rfl ?_
      refine ax_iload_n O d_Mo_setNumber_10 rfl 3 rfl ?_
      refine ax_imul O d_Mo_setNumber_11 ?_
      refine ax_iload O d_Mo_setNumber_12 5 rfl ?_
      refine ax_iadd O d_Mo_setNumber_14 ?_
      obtain ⟨v2, ev2, hf⟩ := mnm_some hf
      refine ax_nmi ev2 ?_
      refine ax_istore (lv' := [(6, .int v2), (0, .ref a0), (1, .int x1), (2, .int x2), (3, .int x3), (4, .int x4), (5, .int x5)]) O d_Mo_setNumber_15 (by decide) rfl ?_
      refine ax_iload O d_Mo_setNumber_17 5 rfl ?_
      refine ax_iload_n O d_Mo_setNumber_19 rfl 3 rfl ?_
      refine ax_iconst (v := 1) O d_Mo_setNumber_20 (by decide) ?_
      refine ax_isub O d_Mo_setNumber_21 ?_
      refine ax_iload O d_Mo_setNumber_22 6 rfl ?_
      refine ax_isub O d_Mo_setNumber_24 ?_
      refine ax_ishr O d_Mo_setNumber_25 ?_
      refine ax_iconst (v := 1) O d_Mo_setNumber_26 (by decide) ?_
      refine ax_iand O d_Mo_setNumber_27 ?_
      obtain ⟨v3, ev3, hf⟩ := mnm_some hf
      refine ax_nmi ev3 ?_
      refine ax_istore (lv' := [(7, .int v3), (6, .int v2), (0, .ref a0), (1, .int x1), (2, .int x2), (3, .int x3), (4, .int x4), (5, .int x5)]) O d_Mo_setNumber_28 (by decide) rfl ?_
      refine ax_iload_n O d_Mo_setNumber_30 rfl 3 rfl ?_
      refine ax_iload O d_Mo_setNumber_31 1 rfl ?_
      refine ax_bipush (v := 8) O d_Mo_setNumber_33 (by decide) ?_
      refine ax_idiv O d_Mo_setNumber_35 (by decide) ?_
      refine ax_iadd O d_Mo_setNumber_36 ?_
      obtain ⟨v4, ev4, hf⟩ := mnm_some hf
      refine ax_nmi ev4 ?_
      refine ax_istore (lv' := [(8, .int v4), (7, .int v3), (6, .int v2), (0, .ref a0), (1, .int x1), (2, .int x2), (3, .int x3), (4, .int x4), (5, .int x5)]) O d_Mo_setNumber_37 (by decide) rfl ?_
      refine ax_aload_n O d_Mo_setNumber_39 rfl 3 rfl ?_
      obtain ⟨fr5, r5, cr5, kr5, hf⟩ := mgr_some hf
      refine ax_get O fg_Mo_39 cr5 kr5 d_Mo_setNumber_40 ?_
      refine ax_iload O d_Mo_setNumber_43 0 rfl ?_
      refine ax_aload_n O d_Mo_setNumber_45 rfl 3 rfl ?_
      obtain ⟨fr6, r6, cr6, kr6, hf⟩ := mgr_some hf
      refine ax_get O fg_Mo_39 cr6 kr6 d_Mo_setNumber_46 ?_
      refine ax_iload O d_Mo_setNumber_49 0 rfl ?_
      obtain ⟨nv7, fv7, v7, cv7, iv7, kv7, hf⟩ := mai_some hf
      refine ax_iald O cv7 iv7 kv7 d_Mo_setNumber_51 ?_
      refine ax_iconst (v := 1) O d_Mo_setNumber_52 (by decide) ?_
      refine ax_bipush (v := 7) O d_Mo_setNumber_53 (by decide) ?_
      refine ax_iload O d_Mo_setNumber_55 2 rfl ?_
      refine ax_bipush (v := 8) O d_Mo_setNumber_57 (by decide) ?_
      refine ax_irem O d_Mo_setNumber_59 (by decide) ?_
      refine ax_isub O d_Mo_setNumber_60 ?_
      refine ax_ishl O d_Mo_setNumber_61 ?_
      refine ax_iconst (v := (-1)) O d_Mo_setNumber_62 (by decide) ?_
      refine ax_ixor O d_Mo_setNumber_63 ?_
      refine ax_iand O d_Mo_setNumber_64 ?_
      refine ax_iload O d_Mo_setNumber_65 1 rfl ?_
      refine ax_bipush (v := 7) O d_Mo_setNumber_67 (by decide) ?_
      refine ax_iload O d_Mo_setNumber_69 2 rfl ?_
      refine ax_bipush (v := 8) O d_Mo_setNumber_71 (by decide) ?_
      refine ax_irem O d_Mo_setNumber_73 (by decide) ?_
      refine ax_isub O d_Mo_setNumber_74 ?_
      refine ax_ishl O d_Mo_setNumber_75 ?_
      refine ax_ior O d_Mo_setNumber_76 ?_
      obtain ⟨nh8, fh8, h8, ch8, ih8, eh8, hf⟩ := mas_some hf
      refine ax_iast O ch8 ih8 eh8 d_Mo_setNumber_77 ?_
      obtain ⟨v9, ev9, hf⟩ := mnm_some hf
      refine ax_iinc (j := 8) (v := v9) (lv' := [(5, .int v9), (8, .int v4), (7, .int v3), (6, .int v2), (0, .ref a0), (1, .int x1), (2, .int x2), (3, .int x3), (4, .int x4)]) O d_Mo_setNumber_78 rfl (by rw [ev9]; rfl) (by decide) rfl ?_
      refine ax_goto (tgt := 3) O d_Mo_setNumber_81 (by decide) ?_
      refine ax_sub [4, 5, 6, 7, 8, 0] rfl ?_
      exact ih _ _ _ _ _ _ _ hf
set_option maxHeartbeats 4000000 in
set_option maxRecDepth 100000 in
theorem cb_Mo_setNumber {X : mX} {ad : Nat → Nat} {ln : Launch} (O : mO X ad R_Mo b_Mo_setNumber 9 (mR 0 0) ln) (r' : Unit) (h' : mH) (hE : mEnd X ad none none h') (n0 : Nat) (h0 : mH) (a0 : Nat) (x1 : Int32) (x2 : Int32) (x3 : Int32) (x4 : Int32) (hf : f_Mo_setNumber n0 h0 a0 x1 x2 x3 x4 = some (r', h')) : mAW X ad 0 0 0 [(0, .ref a0), (1, .int x1), (2, .int x2), (3, .int x3), (4, .int x4)] [] h0 := by
  unfold f_Mo_setNumber at hf
  refine ax_iconst (v := 0) O d_Mo_setNumber_0 (by decide) ?_
  refine ax_istore (lv' := [(5, .int 0), (0, .ref a0), (1, .int x1), (2, .int x2), (3, .int x3), (4, .int x4)]) O d_Mo_setNumber_1 (by decide) rfl ?_
  refine ax_sub [1, 2, 3, 4, 5, 0] rfl ?_
  exact cb_Mo_setNumber_L3 O _ _ hE n0 n0 _ _ _ _ _ _ _ hf
theorem c_Mo_setNumber {ln : Launch} {n0 : Nat} {h0 h' : mH} {a0 : Nat} {x1 : Int32} {x2 : Int32} {x3 : Int32} {x4 : Int32} {r' : Unit} (hf : f_Mo_setNumber n0 h0 a0 x1 x2 x3 x4 = some (r', h')) : mMet ln y_Mo_setNumber b_Mo_setNumber 9 none (mR 0 0) [.ref a0, .int x1, .int x2, .int x3, .int x4] h0 none h' := mMet_of (by decide +kernel) (Nat.le_of_ble_eq_true rfl) (fun X ad O hE => cb_Mo_setNumber O r' h' hE n0 h0 a0 x1 x2 x3 x4 hf)
/-! ===== StreamFiltersModel.rowBytes(I)I ===== -/
theorem d_Mo_rowBytes_0 : decode b_Mo_rowBytes 0 = .ok (.aload_n 0, 1) := by decide +kernel
theorem d_Mo_rowBytes_1 : decode b_Mo_rowBytes 1 = .ok (.getfield 28, 3) := by decide +kernel
theorem d_Mo_rowBytes_4 : decode b_Mo_rowBytes 4 = .ok (.iload_n 1, 1) := by decide +kernel
theorem d_Mo_rowBytes_5 : decode b_Mo_rowBytes 5 = .ok (.iaload, 1) := by decide +kernel
theorem d_Mo_rowBytes_6 : decode b_Mo_rowBytes 6 = .ok (.aload_n 0, 1) := by decide +kernel
theorem d_Mo_rowBytes_7 : decode b_Mo_rowBytes 7 = .ok (.getfield 22, 3) := by decide +kernel
theorem d_Mo_rowBytes_10 : decode b_Mo_rowBytes 10 = .ok (.iload_n 1, 1) := by decide +kernel
theorem d_Mo_rowBytes_11 : decode b_Mo_rowBytes 11 = .ok (.iaload, 1) := by decide +kernel
theorem d_Mo_rowBytes_12 : decode b_Mo_rowBytes 12 = .ok (.imul, 1) := by decide +kernel
theorem d_Mo_rowBytes_13 : decode b_Mo_rowBytes 13 = .ok (.aload_n 0, 1) := by decide +kernel
theorem d_Mo_rowBytes_14 : decode b_Mo_rowBytes 14 = .ok (.getfield 25, 3) := by decide +kernel
theorem d_Mo_rowBytes_17 : decode b_Mo_rowBytes 17 = .ok (.iload_n 1, 1) := by decide +kernel
theorem d_Mo_rowBytes_18 : decode b_Mo_rowBytes 18 = .ok (.iaload, 1) := by decide +kernel
theorem d_Mo_rowBytes_19 : decode b_Mo_rowBytes 19 = .ok (.imul, 1) := by decide +kernel
theorem d_Mo_rowBytes_20 : decode b_Mo_rowBytes 20 = .ok (.bipush 7, 2) := by decide +kernel
theorem d_Mo_rowBytes_22 : decode b_Mo_rowBytes 22 = .ok (.iadd, 1) := by decide +kernel
theorem d_Mo_rowBytes_23 : decode b_Mo_rowBytes 23 = .ok (.bipush 8, 2) := by decide +kernel
theorem d_Mo_rowBytes_25 : decode b_Mo_rowBytes 25 = .ok (.idiv, 1) := by decide +kernel
theorem d_Mo_rowBytes_26 : decode b_Mo_rowBytes 26 = .ok (.ireturn, 1) := by decide +kernel
noncomputable def f_Mo_rowBytes  (n0 : Nat) (h0 : mH) (a0 : Nat) (x1 : Int32) : Option (Int32 × mH) :=
  mgr h0 a0 10 9 fun r1 =>
  mai h0 r1 .int x1 fun v2 =>
  mgr h0 a0 10 7 fun r3 =>
  mai h0 r3 .int x1 fun v4 =>
  mgr h0 a0 10 8 fun r5 =>
  mai h0 r5 .int x1 fun v6 =>
  some ((((v2 * v4) * v6) + 7) / 8, h0)
set_option maxHeartbeats 4000000 in
set_option maxRecDepth 100000 in
theorem cb_Mo_rowBytes {X : mX} {ad : Nat → Nat} {ln : Launch} (O : mO X ad R_Mo b_Mo_rowBytes 2 (mR 0 0) ln) (r' : Int32) (h' : mH) (hE : mEnd X ad (some .int) (some (.int r')) h') (n0 : Nat) (h0 : mH) (a0 : Nat) (x1 : Int32) (hf : f_Mo_rowBytes n0 h0 a0 x1 = some (r', h')) : mAW X ad 0 0 0 [(0, .ref a0), (1, .int x1)] [] h0 := by
  unfold f_Mo_rowBytes at hf
  refine ax_aload_n O d_Mo_rowBytes_0 rfl 0 rfl ?_
  obtain ⟨fr1, r1, cr1, kr1, hf⟩ := mgr_some hf
  refine ax_get O fg_Mo_28 cr1 kr1 d_Mo_rowBytes_1 ?_
  refine ax_iload_n O d_Mo_rowBytes_4 rfl 1 rfl ?_
  obtain ⟨nv2, fv2, v2, cv2, iv2, kv2, hf⟩ := mai_some hf
  refine ax_iald O cv2 iv2 kv2 d_Mo_rowBytes_5 ?_
  refine ax_aload_n O d_Mo_rowBytes_6 rfl 0 rfl ?_
  obtain ⟨fr3, r3, cr3, kr3, hf⟩ := mgr_some hf
  refine ax_get O fg_Mo_22 cr3 kr3 d_Mo_rowBytes_7 ?_
  refine ax_iload_n O d_Mo_rowBytes_10 rfl 1 rfl ?_
  obtain ⟨nv4, fv4, v4, cv4, iv4, kv4, hf⟩ := mai_some hf
  refine ax_iald O cv4 iv4 kv4 d_Mo_rowBytes_11 ?_
  refine ax_imul O d_Mo_rowBytes_12 ?_
  refine ax_aload_n O d_Mo_rowBytes_13 rfl 0 rfl ?_
  obtain ⟨fr5, r5, cr5, kr5, hf⟩ := mgr_some hf
  refine ax_get O fg_Mo_25 cr5 kr5 d_Mo_rowBytes_14 ?_
  refine ax_iload_n O d_Mo_rowBytes_17 rfl 1 rfl ?_
  obtain ⟨nv6, fv6, v6, cv6, iv6, kv6, hf⟩ := mai_some hf
  refine ax_iald O cv6 iv6 kv6 d_Mo_rowBytes_18 ?_
  refine ax_imul O d_Mo_rowBytes_19 ?_
  refine ax_bipush (v := 7) O d_Mo_rowBytes_20 (by decide) ?_
  refine ax_iadd O d_Mo_rowBytes_22 ?_
  refine ax_bipush (v := 8) O d_Mo_rowBytes_23 (by decide) ?_
  refine ax_idiv O d_Mo_rowBytes_25 (by decide) ?_
  exact ax_retE O hE hf rfl d_Mo_rowBytes_26
theorem c_Mo_rowBytes {ln : Launch} {n0 : Nat} {h0 h' : mH} {a0 : Nat} {x1 : Int32} {r' : Int32} (hf : f_Mo_rowBytes n0 h0 a0 x1 = some (r', h')) : mMet ln y_Mo_rowBytes b_Mo_rowBytes 2 (some .int) (mR 0 0) [.ref a0, .int x1] h0 (some (.int r')) h' := mMet_of (by decide +kernel) (Nat.le_of_ble_eq_true rfl) (fun X ad O hE => cb_Mo_rowBytes O r' h' hE n0 h0 a0 x1 hf)
/-! ===== StreamFiltersModel.addRows(I)V ===== -/
theorem d_Mo_addRows_0 : decode b_Mo_addRows 0 = .ok (.aload_n 0, 1) := by decide +kernel
theorem d_Mo_addRows_1 : decode b_Mo_addRows 1 = .ok (.iload_n 1, 1) := by decide +kernel
theorem d_Mo_addRows_2 : decode b_Mo_addRows 2 = .ok (.invokevirtual 224, 3) := by decide +kernel
theorem d_Mo_addRows_5 : decode b_Mo_addRows 5 = .ok (.istore_n 2, 1) := by decide +kernel
theorem d_Mo_addRows_6 : decode b_Mo_addRows 6 = .ok (.iconst 0, 1) := by decide +kernel
theorem d_Mo_addRows_7 : decode b_Mo_addRows 7 = .ok (.istore_n 3, 1) := by decide +kernel
theorem d_Mo_addRows_8 : decode b_Mo_addRows 8 = .ok (.iload_n 3, 1) := by decide +kernel
theorem d_Mo_addRows_9 : decode b_Mo_addRows 9 = .ok (.aload_n 0, 1) := by decide +kernel
theorem d_Mo_addRows_10 : decode b_Mo_addRows 10 = .ok (.getfield 106, 3) := by decide +kernel
theorem d_Mo_addRows_13 : decode b_Mo_addRows 13 = .ok (.if_icmp .ge 160, 3) := by decide +kernel
theorem d_Mo_addRows_16 : decode b_Mo_addRows 16 = .ok (.aload_n 0, 1) := by decide +kernel
theorem d_Mo_addRows_17 : decode b_Mo_addRows 17 = .ok (.getfield 106, 3) := by decide +kernel
theorem d_Mo_addRows_20 : decode b_Mo_addRows 20 = .ok (.iload_n 3, 1) := by decide +kernel
theorem d_Mo_addRows_21 : decode b_Mo_addRows 21 = .ok (.isub, 1) := by decide +kernel
theorem d_Mo_addRows_22 : decode b_Mo_addRows 22 = .ok (.iload_n 2, 1) := by decide +kernel
theorem d_Mo_addRows_23 : decode b_Mo_addRows 23 = .ok (.if_icmp .ge 12, 3) := by decide +kernel
theorem d_Mo_addRows_26 : decode b_Mo_addRows 26 = .ok (.aload_n 0, 1) := by decide +kernel
theorem d_Mo_addRows_27 : decode b_Mo_addRows 27 = .ok (.getfield 106, 3) := by decide +kernel
theorem d_Mo_addRows_30 : decode b_Mo_addRows 30 = .ok (.iload_n 3, 1) := by decide +kernel
theorem d_Mo_addRows_31 : decode b_Mo_addRows 31 = .ok (.isub, 1) := by decide +kernel
theorem d_Mo_addRows_32 : decode b_Mo_addRows 32 = .ok (.goto 4, 3) := by decide +kernel
theorem d_Mo_addRows_35 : decode b_Mo_addRows 35 = .ok (.iload_n 2, 1) := by decide +kernel
theorem d_Mo_addRows_36 : decode b_Mo_addRows 36 = .ok (.istore 4, 2) := by decide +kernel
theorem d_Mo_addRows_38 : decode b_Mo_addRows 38 = .ok (.bipush 8, 2) := by decide +kernel
theorem d_Mo_addRows_40 : decode b_Mo_addRows 40 = .ok (.iload 4, 2) := by decide +kernel
theorem d_Mo_addRows_42 : decode b_Mo_addRows 42 = .ok (.imul, 1) := by decide +kernel
theorem d_Mo_addRows_43 : decode b_Mo_addRows 43 = .ok (.aload_n 0, 1) := by decide +kernel
theorem d_Mo_addRows_44 : decode b_Mo_addRows 44 = .ok (.getfield 25, 3) := by decide +kernel
theorem d_Mo_addRows_47 : decode b_Mo_addRows 47 = .ok (.iload_n 1, 1) := by decide +kernel
theorem d_Mo_addRows_48 : decode b_Mo_addRows 48 = .ok (.iaload, 1) := by decide +kernel
theorem d_Mo_addRows_49 : decode b_Mo_addRows 49 = .ok (.idiv, 1) := by decide +kernel
theorem d_Mo_addRows_50 : decode b_Mo_addRows 50 = .ok (.istore 5, 2) := by decide +kernel
theorem d_Mo_addRows_52 : decode b_Mo_addRows 52 = .ok (.aload_n 0, 1) := by decide +kernel
theorem d_Mo_addRows_53 : decode b_Mo_addRows 53 = .ok (.getfield 28, 3) := by decide +kernel
theorem d_Mo_addRows_56 : decode b_Mo_addRows 56 = .ok (.iload_n 1, 1) := by decide +kernel
theorem d_Mo_addRows_57 : decode b_Mo_addRows 57 = .ok (.iaload, 1) := by decide +kernel
theorem d_Mo_addRows_58 : decode b_Mo_addRows 58 = .ok (.aload_n 0, 1) := by decide +kernel
theorem d_Mo_addRows_59 : decode b_Mo_addRows 59 = .ok (.getfield 22, 3) := by decide +kernel
theorem d_Mo_addRows_62 : decode b_Mo_addRows 62 = .ok (.iload_n 1, 1) := by decide +kernel
theorem d_Mo_addRows_63 : decode b_Mo_addRows 63 = .ok (.iaload, 1) := by decide +kernel
theorem d_Mo_addRows_64 : decode b_Mo_addRows 64 = .ok (.imul, 1) := by decide +kernel
theorem d_Mo_addRows_65 : decode b_Mo_addRows 65 = .ok (.istore 6, 2) := by decide +kernel
theorem d_Mo_addRows_67 : decode b_Mo_addRows 67 = .ok (.iload 5, 2) := by decide +kernel
theorem d_Mo_addRows_69 : decode b_Mo_addRows 69 = .ok (.iload 6, 2) := by decide +kernel
theorem d_Mo_addRows_71 : decode b_Mo_addRows 71 = .ok (.if_icmp .ge 8, 3) := by decide +kernel
theorem d_Mo_addRows_74 : decode b_Mo_addRows 74 = .ok (.iload 5, 2) := by decide +kernel
theorem d_Mo_addRows_76 : decode b_Mo_addRows 76 = .ok (.goto 5, 3) := by decide +kernel
theorem d_Mo_addRows_79 : decode b_Mo_addRows 79 = .ok (.iload 6, 2) := by decide +kernel
theorem d_Mo_addRows_81 : decode b_Mo_addRows 81 = .ok (.istore 5, 2) := by decide +kernel
theorem d_Mo_addRows_83 : decode b_Mo_addRows 83 = .ok (.aload_n 0, 1) := by decide +kernel
theorem d_Mo_addRows_84 : decode b_Mo_addRows 84 = .ok (.getfield 22, 3) := by decide +kernel
theorem d_Mo_addRows_87 : decode b_Mo_addRows 87 = .ok (.iload_n 1, 1) := by decide +kernel
theorem d_Mo_addRows_88 : decode b_Mo_addRows 88 = .ok (.iaload, 1) := by decide +kernel
theorem d_Mo_addRows_89 : decode b_Mo_addRows 89 = .ok (.istore 7, 2) := by decide +kernel
theorem d_Mo_addRows_91 : decode b_Mo_addRows 91 = .ok (.iload 7, 2) := by decide +kernel
theorem d_Mo_addRows_93 : decode b_Mo_addRows 93 = .ok (.iload 5, 2) := by decide +kernel
theorem d_Mo_addRows_95 : decode b_Mo_addRows 95 = .ok (.if_icmp .ge 71, 3) := by decide +kernel
theorem d_Mo_addRows_98 : decode b_Mo_addRows 98 = .ok (.aload_n 0, 1) := by decide +kernel
theorem d_Mo_addRows_99 : decode b_Mo_addRows 99 = .ok (.iload_n 3, 1) := by decide +kernel
theorem d_Mo_addRows_100 : decode b_Mo_addRows 100 = .ok (.aload_n 0, 1) := by decide +kernel
theorem d_Mo_addRows_101 : decode b_Mo_addRows 101 = .ok (.getfield 25, 3) := by decide +kernel
theorem d_Mo_addRows_104 : decode b_Mo_addRows 104 = .ok (.iload_n 1, 1) := by decide +kernel
theorem d_Mo_addRows_105 : decode b_Mo_addRows 105 = .ok (.iaload, 1) := by decide +kernel
theorem d_Mo_addRows_106 : decode b_Mo_addRows 106 = .ok (.iload 7, 2) := by decide +kernel
theorem d_Mo_addRows_108 : decode b_Mo_addRows 108 = .ok (.invokevirtual 227, 3) := by decide +kernel
theorem d_Mo_addRows_111 : decode b_Mo_addRows 111 = .ok (.aload_n 0, 1) := by decide +kernel
theorem d_Mo_addRows_112 : decode b_Mo_addRows 112 = .ok (.iload_n 3, 1) := by decide +kernel
theorem d_Mo_addRows_113 : decode b_Mo_addRows 113 = .ok (.aload_n 0, 1) := by decide +kernel
theorem d_Mo_addRows_114 : decode b_Mo_addRows 114 = .ok (.getfield 25, 3) := by decide +kernel
theorem d_Mo_addRows_117 : decode b_Mo_addRows 117 = .ok (.iload_n 1, 1) := by decide +kernel
theorem d_Mo_addRows_118 : decode b_Mo_addRows 118 = .ok (.iaload, 1) := by decide +kernel
theorem d_Mo_addRows_119 : decode b_Mo_addRows 119 = .ok (.iload 7, 2) := by decide +kernel
theorem d_Mo_addRows_121 : decode b_Mo_addRows 121 = .ok (.aload_n 0, 1) := by decide +kernel
theorem d_Mo_addRows_122 : decode b_Mo_addRows 122 = .ok (.getfield 22, 3) := by decide +kernel
theorem d_Mo_addRows_125 : decode b_Mo_addRows 125 = .ok (.iload_n 1, 1) := by decide +kernel
theorem d_Mo_addRows_126 : decode b_Mo_addRows 126 = .ok (.iaload, 1) := by decide +kernel
theorem d_Mo_addRows_127 : decode b_Mo_addRows 127 = .ok (.isub, 1) := by decide +kernel
theorem d_Mo_addRows_128 : decode b_Mo_addRows 128 = .ok (.invokevirtual 227, 3) := by decide +kernel
theorem d_Mo_addRows_131 : decode b_Mo_addRows 131 = .ok (.iadd, 1) := by decide +kernel
theorem d_Mo_addRows_132 : decode b_Mo_addRows 132 = .ok (.istore 8, 2) := by decide +kernel
theorem d_Mo_addRows_134 : decode b_Mo_addRows 134 = .ok (.aload_n 0, 1) := by decide +kernel
theorem d_Mo_addRows_135 : decode b_Mo_addRows 135 = .ok (.iload_n 3, 1) := by decide +kernel
theorem d_Mo_addRows_136 : decode b_Mo_addRows 136 = .ok (.aload_n 0, 1) := by decide +kernel
theorem d_Mo_addRows_137 : decode b_Mo_addRows 137 = .ok (.getfield 25, 3) := by decide +kernel
theorem d_Mo_addRows_140 : decode b_Mo_addRows 140 = .ok (.iload_n 1, 1) := by decide +kernel
theorem d_Mo_addRows_141 : decode b_Mo_addRows 141 = .ok (.iaload, 1) := by decide +kernel
theorem d_Mo_addRows_142 : decode b_Mo_addRows 142 = .ok (.iload 7, 2) := by decide +kernel
theorem d_Mo_addRows_144 : decode b_Mo_addRows 144 = .ok (.iload 8, 2) := by decide +kernel
theorem d_Mo_addRows_146 : decode b_Mo_addRows 146 = .ok (.iconst 1, 1) := by decide +kernel
theorem d_Mo_addRows_147 : decode b_Mo_addRows 147 = .ok (.aload_n 0, 1) := by decide +kernel
theorem d_Mo_addRows_148 : decode b_Mo_addRows 148 = .ok (.getfield 25, 3) := by decide +kernel
theorem d_Mo_addRows_151 : decode b_Mo_addRows 151 = .ok (.iload_n 1, 1) := by decide +kernel
theorem d_Mo_addRows_152 : decode b_Mo_addRows 152 = .ok (.iaload, 1) := by decide +kernel
theorem d_Mo_addRows_153 : decode b_Mo_addRows 153 = .ok (.ishl, 1) := by decide +kernel
theorem d_Mo_addRows_154 : decode b_Mo_addRows 154 = .ok (.iconst 1, 1) := by decide +kernel
theorem d_Mo_addRows_155 : decode b_Mo_addRows 155 = .ok (.isub, 1) := by decide +kernel
theorem d_Mo_addRows_156 : decode b_Mo_addRows 156 = .ok (.iand, 1) := by decide +kernel
theorem d_Mo_addRows_157 : decode b_Mo_addRows 157 = .ok (.invokevirtual 231, 3) := by decide +kernel
theorem d_Mo_addRows_160 : decode b_Mo_addRows 160 = .ok (.iinc 7 1, 3) := by decide +kernel
theorem d_Mo_addRows_163 : decode b_Mo_addRows 163 = .ok (.goto (-72), 3) := by decide +kernel
theorem d_Mo_addRows_166 : decode b_Mo_addRows 166 = .ok (.iload_n 3, 1) := by decide +kernel
theorem d_Mo_addRows_167 : decode b_Mo_addRows 167 = .ok (.iload_n 2, 1) := by decide +kernel
theorem d_Mo_addRows_168 : decode b_Mo_addRows 168 = .ok (.iadd, 1) := by decide +kernel
theorem d_Mo_addRows_169 : decode b_Mo_addRows 169 = .ok (.istore_n 3, 1) := by decide +kernel
theorem d_Mo_addRows_170 : decode b_Mo_addRows 170 = .ok (.goto (-162), 3) := by decide +kernel
theorem d_Mo_addRows_173 : decode b_Mo_addRows 173 = .ok (.return_, 1) := by decide +kernel
noncomputable def f_Mo_addRows_L91 (K8 : mH → Nat → Int32 → Int32 → Int32 → Option (Unit × mH)) (n0 : Nat) : Nat → mH → Nat → Int32 → Int32 → Int32 → Int32 → Int32 → Option (Unit × mH)
  | 0, _, _, _, _, _, _, _ => none
  | n + 1, h0, a0, x1, x2, x3, x5, x7 =>
    if x5 ≤ x7 then
      mnm (x3 + x2) fun v21 =>
      K8 h0 a0 x1 x2 v21
    else
      mgr h0 a0 10 8 fun r22 =>
      mai h0 r22 .int x1 fun v23 =>
      mis h0 a0 10 <|
      mcl (f_Mo_numberAt n0 h0 a0 x3 v23 x7) fun v25 h26 =>
      mgr h26 a0 10 8 fun r27 =>
      mai h26 r27 .int x1 fun v28 =>
      mgr h26 a0 10 7 fun r29 =>
      mai h26 r29 .int x1 fun v30 =>
      mis h26 a0 10 <|
      mcl (f_Mo_numberAt n0 h26 a0 x3 v28 (x7 - v30)) fun v32 h33 =>
      mnm (v25 + v32) fun v34 =>
      mgr h33 a0 10 8 fun r35 =>
      mai h33 r35 .int x1 fun v36 =>
      mgr h33 a0 10 8 fun r37 =>
      mai h33 r37 .int x1 fun v38 =>
      mis h33 a0 10 <|
      mcl (f_Mo_setNumber n0 h33 a0 x3 v36 x7 (v34 &&& ((1 <<< (v38 &&& 31)) - 1))) fun _ h41 =>
      mnm (x7 + 1) fun v43 =>
      (f_Mo_addRows_L91 K8 n0 n) h41 a0 x1 x2 x3 x5 v43
noncomputable def f_Mo_addRows_B81 (K8 : mH → Nat → Int32 → Int32 → Int32 → Option (Unit × mH)) (n0 : Nat) (h0 : mH) (a0 : Nat) (x1 : Int32) (x2 : Int32) (x3 : Int32) (p0 : Int32) : Option (Unit × mH) :=
  mgr h0 a0 10 7 fun r18 =>
  mai h0 r18 .int x1 fun v19 =>
  f_Mo_addRows_L91 K8 n0 n0 h0 a0 x1 x2 x3 p0 v19
noncomputable def f_Mo_addRows_B36 (K8 : mH → Nat → Int32 → Int32 → Int32 → Option (Unit × mH)) (n0 : Nat) (h0 : mH) (a0 : Nat) (x1 : Int32) (x2 : Int32) (x3 : Int32) (p0 : Int32) : Option (Unit × mH) :=
  mgr h0 a0 10 8 fun r8 =>
  mai h0 r8 .int x1 fun v9 =>
  mge (¬ v9 = 0) <|
  mnm ((8 * p0) / v9) fun v11 =>
  mgr h0 a0 10 9 fun r12 =>
  mai h0 r12 .int x1 fun v13 =>
  mgr h0 a0 10 7 fun r14 =>
  mai h0 r14 .int x1 fun v15 =>
  mnm (v13 * v15) fun v16 =>
  if v16 ≤ v11 then
    f_Mo_addRows_B81 K8 n0 h0 a0 x1 x2 x3 v16
  else
    f_Mo_addRows_B81 K8 n0 h0 a0 x1 x2 x3 v11
noncomputable def f_Mo_addRows_L8  (n0 : Nat) : Nat → mH → Nat → Int32 → Int32 → Int32 → Option (Unit × mH)
  | 0, _, _, _, _, _ => none
  | n + 1, h0, a0, x1, x2, x3 =>
    mgi h0 a0 10 13 fun v4 =>
    if v4 ≤ x3 then
      some ((), h0)
    else
      mgi h0 a0 10 13 fun v6 =>
      if x2 ≤ (v6 - x3) then
        f_Mo_addRows_B36 (f_Mo_addRows_L8 n0 n) n0 h0 a0 x1 x2 x3 x2
      else
        mgi h0 a0 10 13 fun v44 =>
        f_Mo_addRows_B36 (f_Mo_addRows_L8 n0 n) n0 h0 a0 x1 x2 x3 (v44 - x3)
noncomputable def f_Mo_addRows  (n0 : Nat) (h0 : mH) (a0 : Nat) (x1 : Int32) : Option (Unit × mH) :=
  mis h0 a0 10 <|
  mcl (f_Mo_rowBytes n0 h0 a0 x1) fun v2 h3 =>
  f_Mo_addRows_L8 n0 n0 h3 a0 x1 v2 0
set_option maxHeartbeats 4000000 in
set_option maxRecDepth 100000 in
theorem cb_Mo_addRows_L91 {X : mX} {ad : Nat → Nat} {ln : Launch} (O : mO X ad R_Mo b_Mo_addRows 9 (mR 2 47) ln) (K8 : mH → Nat → Int32 → Int32 → Int32 → Option (Unit × mH)) (r' : Unit) (h' : mH) (hE : mEnd X ad none none h') (hK8 : ∀ (h : mH) (a0 : Nat) (x1 : Int32) (x2 : Int32) (x3 : Int32), K8 h a0 x1 x2 x3 = some (r', h') → mAW X ad 0 0 8 [(0, .ref a0), (1, .int x1), (2, .int x2), (3, .int x3)] [] h) (n0 : Nat) : ∀ (n : Nat) (h0 : mH) (a0 : Nat) (x1 : Int32) (x2 : Int32) (x3 : Int32) (x5 : Int32) (x7 : Int32), f_Mo_addRows_L91 K8 n0 n h0 a0 x1 x2 x3 x5 x7 = some (r', h') → mAW X ad 0 0 91 [(0, .ref a0), (1, .int x1), (2, .int x2), (3, .int x3), (5, .int x5), (7, .int x7)] [] h0 := by
  intro n
  induction n with
  | zero =>
    intro h0 a0 x1 x2 x3 x5 x7 hf
    rw [f_Mo_addRows_L91.eq_1] at hf
    cases hf
  | succ n ih =>
    intro h0 a0 x1 x2 x3 x5 x7 hf
    rw [f_Mo_addRows_L91.eq_2] at hf
    refine ax_iload O d_Mo_addRows_91 5 rfl ?_
    refine ax_iload O d_Mo_addRows_93 4 rfl ?_
    refine ax_icmp_ge (tgt := 166) O d_Mo_addRows_95 (by decide) (fun q20 => ?_) (fun q20 => ?_)
    · rw [if_pos q20] at hf
      refine ax_iload_n O d_Mo_addRows_166 rfl 3 rfl ?_
      refine ax_iload_n O d_Mo_addRows_167 rfl 2 rfl ?_
      refine ax_iadd O d_Mo_addRows_168 ?_
      obtain ⟨v21, ev21, hf⟩ := mnm_some hf
      refine ax_nmi ev21 ?_
      refine ax_istore_n (lv' := [(3, .int v21), (0, .ref a0), (1, .int x1), (2, .int x2), (5, .int x5), (7, .int x7)]) O d_Mo_addRows_169 rfl (by decide) rfl ?_
      refine ax_goto (tgt := 8) O d_Mo_addRows_170 (by decide) ?_
      refine ax_sub [1, 2, 3, 0] rfl ?_
      exact hK8 _ _ _ _ _ hf
    · rw [if_neg q20] at hf
      refine ax_aload_n O d_Mo_addRows_98 rfl 0 rfl ?_
      refine ax_iload_n O d_Mo_addRows_99 rfl 3 rfl ?_
      refine ax_aload_n O d_Mo_addRows_100 rfl 0 rfl ?_
      obtain ⟨fr22, r22, cr22, kr22, hf⟩ := mgr_some hf
      refine ax_get O fg_Mo_25 cr22 kr22 d_Mo_addRows_101 ?_
      refine ax_iload_n O d_Mo_addRows_104 rfl 1 rfl ?_
      obtain ⟨nv23, fv23, v23, cv23, iv23, kv23, hf⟩ := mai_some hf
      refine ax_iald O cv23 iv23 kv23 d_Mo_addRows_105 ?_
      refine ax_iload O d_Mo_addRows_106 5 rfl ?_
      obtain ⟨fh26, ch26, hf⟩ := mis_some hf
      obtain ⟨v25, h26, mh26, hf⟩ := mcl_some hf
      refine ax_callV (As := [.int x3, .int v23, .int x7]) (rest := []) O cw_Mo_numberAt (q := (R_Mo, T_Mo, 31)) rfl rfl in_Mo_numberAt se_Mo_numberAt lk_Mo_227 ch26 (c_Mo_numberAt mh26) rfl ⟨rfl, rfl⟩ (by decide) (by decide) (Nat.le_of_ble_eq_true rfl) d_Mo_addRows_108 ?_
      refine ax_aload_n O d_Mo_addRows_111 rfl 0 rfl ?_
      refine ax_iload_n O d_Mo_addRows_112 rfl 3 rfl ?_
      refine ax_aload_n O d_Mo_addRows_113 rfl 0 rfl ?_
      obtain ⟨fr27, r27, cr27, kr27, hf⟩ := mgr_some hf
      refine ax_get O fg_Mo_25 cr27 kr27 d_Mo_addRows_114 ?_
      refine ax_iload_n O d_Mo_addRows_117 rfl 1 rfl ?_
      obtain ⟨nv28, fv28, v28, cv28, iv28, kv28, hf⟩ := mai_some hf
      refine ax_iald O cv28 iv28 kv28 d_Mo_addRows_118 ?_
      refine ax_iload O d_Mo_addRows_119 5 rfl ?_
      refine ax_aload_n O d_Mo_addRows_121 rfl 0 rfl ?_
      obtain ⟨fr29, r29, cr29, kr29, hf⟩ := mgr_some hf
      refine ax_get O fg_Mo_22 cr29 kr29 d_Mo_addRows_122 ?_
      refine ax_iload_n O d_Mo_addRows_125 rfl 1 rfl ?_
      obtain ⟨nv30, fv30, v30, cv30, iv30, kv30, hf⟩ := mai_some hf
      refine ax_iald O cv30 iv30 kv30 d_Mo_addRows_126 ?_
      refine ax_isub O d_Mo_addRows_127 ?_
      obtain ⟨fh33, ch33, hf⟩ := mis_some hf
      obtain ⟨v32, h33, mh33, hf⟩ := mcl_some hf
      refine ax_callV (As := [.int x3, .int v28, .int (x7 - v30)]) (rest := [.int v25]) O cw_Mo_numberAt (q := (R_Mo, T_Mo, 31)) rfl rfl in_Mo_numberAt se_Mo_numberAt lk_Mo_227 ch33 (c_Mo_numberAt mh33) rfl ⟨rfl, rfl⟩ (by decide) (by decide) (Nat.le_of_ble_eq_true rfl) d_Mo_addRows_128 ?_
      refine ax_iadd O d_Mo_addRows_131 ?_
      obtain ⟨v34, ev34, hf⟩ := mnm_some hf
      refine ax_nmi ev34 ?_
      refine ax_istore (lv' := [(8, .int v34), (0, .ref a0), (1, .int x1), (2, .int x2), (3, .int x3), (5, .int x5), (7, .int x7)]) O d_Mo_addRows_132 (by decide) rfl ?_
      refine ax_aload_n O d_Mo_addRows_134 rfl 1 rfl ?_
      refine ax_iload_n O d_Mo_addRows_135 rfl 4 rfl ?_
      refine ax_aload_n O d_Mo_addRows_136 rfl 1 rfl ?_
      obtain ⟨fr35, r35, cr35, kr35, hf⟩ := mgr_some hf
      refine ax_get O fg_Mo_25 cr35 kr35 d_Mo_addRows_137 ?_
      refine ax_iload_n O d_Mo_addRows_140 rfl 2 rfl ?_
      obtain ⟨nv36, fv36, v36, cv36, iv36, kv36, hf⟩ := mai_some hf
      refine ax_iald O cv36 iv36 kv36 d_Mo_addRows_141 ?_
      refine ax_iload O d_Mo_addRows_142 6 rfl ?_
      refine ax_iload O d_Mo_addRows_144 0 rfl ?_
      refine ax_iconst (v := 1) O d_Mo_addRows_146 (by decide) ?_
      refine ax_aload_n O d_Mo_addRows_147 rfl 1 rfl ?_
      obtain ⟨fr37, r37, cr37, kr37, hf⟩ := mgr_some hf
      refine ax_get O fg_Mo_25 cr37 kr37 d_Mo_addRows_148 ?_
      refine ax_iload_n O d_Mo_addRows_151 rfl 2 rfl ?_
      obtain ⟨nv38, fv38, v38, cv38, iv38, kv38, hf⟩ := mai_some hf
      refine ax_iald O cv38 iv38 kv38 d_Mo_addRows_152 ?_
      refine ax_ishl O d_Mo_addRows_153 ?_
      refine ax_iconst (v := 1) O d_Mo_addRows_154 (by decide) ?_
      refine ax_isub O d_Mo_addRows_155 ?_
      refine ax_iand O d_Mo_addRows_156 ?_
      obtain ⟨fh41, ch41, hf⟩ := mis_some hf
      obtain ⟨u42, h41, mh41, hf⟩ := mcl_some hf
      refine ax_callV (As := [.int x3, .int v36, .int x7, .int (v34 &&& ((1 <<< (v38 &&& 31)) - 1))]) (rest := []) O cw_Mo_setNumber (q := (R_Mo, T_Mo, 31)) rfl rfl in_Mo_setNumber se_Mo_setNumber lk_Mo_231 ch41 (c_Mo_setNumber mh41) rfl ⟨rfl, rfl⟩ (by decide) (by decide) (Nat.le_of_ble_eq_true rfl) d_Mo_addRows_157 ?_
      obtain ⟨v43, ev43, hf⟩ := mnm_some hf
      refine ax_iinc (j := 6) (v := v43) (lv' := [(7, .int v43), (8, .int v34), (0, .ref a0), (1, .int x1), (2, .int x2), (3, .int x3), (5, .int x5)]) O d_Mo_addRows_160 rfl (by rw [ev43]; rfl) (by decide) rfl ?_
      refine ax_goto (tgt := 91) O d_Mo_addRows_163 (by decide) ?_
      refine ax_sub [2, 3, 4, 5, 6, 0] rfl ?_
      exact ih _ _ _ _ _ _ _ hf
set_option maxHeartbeats 4000000 in
set_option maxRecDepth 100000 in
theorem cb_Mo_addRows_B81 {X : mX} {ad : Nat → Nat} {ln : Launch} (O : mO X ad R_Mo b_Mo_addRows 9 (mR 2 47) ln) (K8 : mH → Nat → Int32 → Int32 → Int32 → Option (Unit × mH)) (r' : Unit) (h' : mH) (hE : mEnd X ad none none h') (hK8 : ∀ (h : mH) (a0 : Nat) (x1 : Int32) (x2 : Int32) (x3 : Int32), K8 h a0 x1 x2 x3 = some (r', h') → mAW X ad 0 0 8 [(0, .ref a0), (1, .int x1), (2, .int x2), (3, .int x3)] [] h) (n0 : Nat) (h0 : mH) (a0 : Nat) (x1 : Int32) (x2 : Int32) (x3 : Int32) (p0 : Int32) (hf : f_Mo_addRows_B81 K8 n0 h0 a0 x1 x2 x3 p0 = some (r', h')) : mAW X ad 0 0 81 [(0, .ref a0), (1, .int x1), (2, .int x2), (3, .int x3)] [.int p0] h0 := by
  unfold f_Mo_addRows_B81 at hf
  refine ax_istore (lv' := [(5, .int p0), (0, .ref a0), (1, .int x1), (2, .int x2), (3, .int x3)]) O d_Mo_addRows_81 (by decide) rfl ?_
  refine ax_aload_n O d_Mo_addRows_83 rfl 1 rfl ?_
  obtain ⟨fr18, r18, cr18, kr18, hf⟩ := mgr_some hf
  refine ax_get O fg_Mo_22 cr18 kr18 d_Mo_addRows_84 ?_
  refine ax_iload_n O d_Mo_addRows_87 rfl 2 rfl ?_
  obtain ⟨nv19, fv19, v19, cv19, iv19, kv19, hf⟩ := mai_some hf
  refine ax_iald O cv19 iv19 kv19 d_Mo_addRows_88 ?_
  refine ax_istore (lv' := [(7, .int v19), (5, .int p0), (0, .ref a0), (1, .int x1), (2, .int x2), (3, .int x3)]) O d_Mo_addRows_89 (by decide) rfl ?_
  refine ax_sub [2, 3, 4, 5, 1, 0] rfl ?_
  exact cb_Mo_addRows_L91 O K8 _ _ hE hK8 n0 n0 _ _ _ _ _ _ _ hf
set_option maxHeartbeats 4000000 in
set_option maxRecDepth 100000 in
theorem cb_Mo_addRows_B36 {X : mX} {ad : Nat → Nat} {ln : Launch} (O : mO X ad R_Mo b_Mo_addRows 9 (mR 2 47) ln) (K8 : mH → Nat → Int32 → Int32 → Int32 → Option (Unit × mH)) (r' : Unit) (h' : mH) (hE : mEnd X ad none none h') (hK8 : ∀ (h : mH) (a0 : Nat) (x1 : Int32) (x2 : Int32) (x3 : Int32), K8 h a0 x1 x2 x3 = some (r', h') → mAW X ad 0 0 8 [(0, .ref a0), (1, .int x1), (2, .int x2), (3, .int x3)] [] h) (n0 : Nat) (h0 : mH) (a0 : Nat) (x1 : Int32) (x2 : Int32) (x3 : Int32) (p0 : Int32) (hf : f_Mo_addRows_B36 K8 n0 h0 a0 x1 x2 x3 p0 = some (r', h')) : mAW X ad 0 0 36 [(0, .ref a0), (1, .int x1), (2, .int x2), (3, .int x3)] [.int p0] h0 := by
  unfold f_Mo_addRows_B36 at hf
  refine ax_istore (lv' := [(4, .int p0), (0, .ref a0), (1, .int x1), (2, .int x2), (3, .int x3)]) O d_Mo_addRows_36 (by decide) rfl ?_
  refine ax_bipush (v := 8) O d_Mo_addRows_38 (by decide) ?_
  refine ax_iload O d_Mo_addRows_40 0 rfl ?_
  refine ax_imul O d_Mo_addRows_42 ?_
  refine ax_aload_n O d_Mo_addRows_43 rfl 1 rfl ?_
  obtain ⟨fr8, r8, cr8, kr8, hf⟩ := mgr_some hf
  refine ax_get O fg_Mo_25 cr8 kr8 d_Mo_addRows_44 ?_
  refine ax_iload_n O d_Mo_addRows_47 rfl 2 rfl ?_
  obtain ⟨nv9, fv9, v9, cv9, iv9, kv9, hf⟩ := mai_some hf
  refine ax_iald O cv9 iv9 kv9 d_Mo_addRows_48 ?_
  obtain ⟨q10, hf⟩ := mge_some hf
  refine ax_idiv O d_Mo_addRows_49 q10 ?_
  obtain ⟨v11, ev11, hf⟩ := mnm_some hf
  refine ax_nmi ev11 ?_
  refine ax_istore (lv' := [(5, .int v11), (4, .int p0), (0, .ref a0), (1, .int x1), (2, .int x2), (3, .int x3)]) O d_Mo_addRows_50 (by decide) rfl ?_
  refine ax_aload_n O d_Mo_addRows_52 rfl 2 rfl ?_
  obtain ⟨fr12, r12, cr12, kr12, hf⟩ := mgr_some hf
  refine ax_get O fg_Mo_28 cr12 kr12 d_Mo_addRows_53 ?_
  refine ax_iload_n O d_Mo_addRows_56 rfl 3 rfl ?_
  obtain ⟨nv13, fv13, v13, cv13, iv13, kv13, hf⟩ := mai_some hf
  refine ax_iald O cv13 iv13 kv13 d_Mo_addRows_57 ?_
  refine ax_aload_n O d_Mo_addRows_58 rfl 2 rfl ?_
  obtain ⟨fr14, r14, cr14, kr14, hf⟩ := mgr_some hf
  refine ax_get O fg_Mo_22 cr14 kr14 d_Mo_addRows_59 ?_
  refine ax_iload_n O d_Mo_addRows_62 rfl 3 rfl ?_
  obtain ⟨nv15, fv15, v15, cv15, iv15, kv15, hf⟩ := mai_some hf
  refine ax_iald O cv15 iv15 kv15 d_Mo_addRows_63 ?_
  refine ax_imul O d_Mo_addRows_64 ?_
  obtain ⟨v16, ev16, hf⟩ := mnm_some hf
  refine ax_nmi ev16 ?_
  refine ax_istore (lv' := [(6, .int v16), (5, .int v11), (4, .int p0), (0, .ref a0), (1, .int x1), (2, .int x2), (3, .int x3)]) O d_Mo_addRows_65 (by decide) rfl ?_
  refine ax_iload O d_Mo_addRows_67 1 rfl ?_
  refine ax_iload O d_Mo_addRows_69 0 rfl ?_
  refine ax_icmp_ge (tgt := 79) O d_Mo_addRows_71 (by decide) (fun q17 => ?_) (fun q17 => ?_)
  · rw [if_pos q17] at hf
    refine ax_iload O d_Mo_addRows_79 0 rfl ?_
    refine ax_sub [3, 4, 5, 6] rfl ?_
    exact cb_Mo_addRows_B81 O K8 _ _ hE hK8 n0 _ _ _ _ _ _ hf
  · rw [if_neg q17] at hf
    refine ax_iload O d_Mo_addRows_74 1 rfl ?_
    refine ax_goto (tgt := 81) O d_Mo_addRows_76 (by decide) ?_
    refine ax_sub [3, 4, 5, 6] rfl ?_
    exact cb_Mo_addRows_B81 O K8 _ _ hE hK8 n0 _ _ _ _ _ _ hf
set_option maxHeartbeats 4000000 in
set_option maxRecDepth 100000 in
theorem cb_Mo_addRows_L8 {X : mX} {ad : Nat → Nat} {ln : Launch} (O : mO X ad R_Mo b_Mo_addRows 9 (mR 2 47) ln) (r' : Unit) (h' : mH) (hE : mEnd X ad none none h') (n0 : Nat) : ∀ (n : Nat) (h0 : mH) (a0 : Nat) (x1 : Int32) (x2 : Int32) (x3 : Int32), f_Mo_addRows_L8 n0 n h0 a0 x1 x2 x3 = some (r', h') → mAW X ad 0 0 8 [(0, .ref a0), (1, .int x1), (2, .int x2), (3, .int x3)] [] h0 := by
  intro n
  induction n with
  | zero =>
    intro h0 a0 x1 x2 x3 hf
    rw [f_Mo_addRows_L8.eq_1] at hf
    cases hf
  | succ n ih =>
    intro h0 a0 x1 x2 x3 hf
    rw [f_Mo_addRows_L8.eq_2] at hf
    refine ax_iload_n O d_Mo_addRows_8 rfl 3 rfl ?_
    refine ax_aload_n O d_Mo_addRows_9 rfl 0 rfl ?_
    obtain ⟨fv4, v4, cv4, kv4, hf⟩ := mgi_some hf
    refine ax_get O fg_Mo_106 cv4 kv4 d_Mo_addRows_10 ?_
    refine ax_icmp_ge (tgt := 173) O d_Mo_addRows_13 (by decide) (fun q5 => ?_) (fun q5 => ?_)
    · rw [if_pos q5] at hf
      exact ax_vretE O hE hf d_Mo_addRows_173
    · rw [if_neg q5] at hf
      refine ax_aload_n O d_Mo_addRows_16 rfl 0 rfl ?_
      obtain ⟨fv6, v6, cv6, kv6, hf⟩ := mgi_some hf
      refine ax_get O fg_Mo_106 cv6 kv6 d_Mo_addRows_17 ?_
      refine ax_iload_n O d_Mo_addRows_20 rfl 3 rfl ?_
      refine ax_isub O d_Mo_addRows_21 ?_
      refine ax_iload_n O d_Mo_addRows_22 rfl 2 rfl ?_
      refine ax_icmp_ge (tgt := 35) O d_Mo_addRows_23 (by decide) (fun q7 => ?_) (fun q7 => ?_)
      · rw [if_pos q7] at hf
        refine ax_iload_n O d_Mo_addRows_35 rfl 2 rfl ?_
        exact cb_Mo_addRows_B36 O (f_Mo_addRows_L8 n0 n) _ _ hE ih n0 _ _ _ _ _ _ hf
      · rw [if_neg q7] at hf
        refine ax_aload_n O d_Mo_addRows_26 rfl 0 rfl ?_
        obtain ⟨fv44, v44, cv44, kv44, hf⟩ := mgi_some hf
        refine ax_get O fg_Mo_106 cv44 kv44 d_Mo_addRows_27 ?_
        refine ax_iload_n O d_Mo_addRows_30 rfl 3 rfl ?_
        refine ax_isub O d_Mo_addRows_31 ?_
        refine ax_goto (tgt := 36) O d_Mo_addRows_32 (by decide) ?_
        exact cb_Mo_addRows_B36 O (f_Mo_addRows_L8 n0 n) _ _ hE ih n0 _ _ _ _ _ _ hf
set_option maxHeartbeats 4000000 in
set_option maxRecDepth 100000 in
theorem cb_Mo_addRows {X : mX} {ad : Nat → Nat} {ln : Launch} (O : mO X ad R_Mo b_Mo_addRows 9 (mR 2 47) ln) (r' : Unit) (h' : mH) (hE : mEnd X ad none none h') (n0 : Nat) (h0 : mH) (a0 : Nat) (x1 : Int32) (hf : f_Mo_addRows n0 h0 a0 x1 = some (r', h')) : mAW X ad 0 0 0 [(0, .ref a0), (1, .int x1)] [] h0 := by
  unfold f_Mo_addRows at hf
  refine ax_aload_n O d_Mo_addRows_0 rfl 0 rfl ?_
  refine ax_iload_n O d_Mo_addRows_1 rfl 1 rfl ?_
  obtain ⟨fh3, ch3, hf⟩ := mis_some hf
  obtain ⟨v2, h3, mh3, hf⟩ := mcl_some hf
  refine ax_callV (As := [.int x1]) (rest := []) O cw_Mo_rowBytes (q := (R_Mo, T_Mo, 31)) rfl rfl in_Mo_rowBytes se_Mo_rowBytes lk_Mo_224 ch3 (c_Mo_rowBytes mh3) rfl ⟨rfl, rfl⟩ (by decide) (by decide) (Nat.le_of_ble_eq_true rfl) d_Mo_addRows_2 ?_
  refine ax_istore_n (lv' := [(2, .int v2), (0, .ref a0), (1, .int x1)]) O d_Mo_addRows_5 rfl (by decide) rfl ?_
  refine ax_iconst (v := 0) O d_Mo_addRows_6 (by decide) ?_
  refine ax_istore_n (lv' := [(3, .int 0), (2, .int v2), (0, .ref a0), (1, .int x1)]) O d_Mo_addRows_7 rfl (by decide) rfl ?_
  refine ax_sub [2, 3, 1, 0] rfl ?_
  exact cb_Mo_addRows_L8 O _ _ hE n0 n0 _ _ _ _ _ hf
theorem c_Mo_addRows {ln : Launch} {n0 : Nat} {h0 h' : mH} {a0 : Nat} {x1 : Int32} {r' : Unit} (hf : f_Mo_addRows n0 h0 a0 x1 = some (r', h')) : mMet ln y_Mo_addRows b_Mo_addRows 9 none (mR 2 47) [.ref a0, .int x1] h0 none h' := mMet_of (by decide +kernel) (Nat.le_of_ble_eq_true rfl) (fun X ad O hE => cb_Mo_addRows O r' h' hE n0 h0 a0 x1 hf)
