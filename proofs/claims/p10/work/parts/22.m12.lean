/-! ===== StreamFiltersModel.far(II)I ===== -/
theorem d_Mo_far_0 : decode b_Mo_far 0 = .ok (.iload_n 0, 1) := by decide +kernel
theorem d_Mo_far_1 : decode b_Mo_far 1 = .ok (.iload_n 1, 1) := by decide +kernel
theorem d_Mo_far_2 : decode b_Mo_far 2 = .ok (.if_icmp .ge 9, 3) := by decide +kernel
theorem d_Mo_far_5 : decode b_Mo_far 5 = .ok (.iload_n 1, 1) := by decide +kernel
theorem d_Mo_far_6 : decode b_Mo_far 6 = .ok (.iload_n 0, 1) := by decide +kernel
theorem d_Mo_far_7 : decode b_Mo_far 7 = .ok (.isub, 1) := by decide +kernel
theorem d_Mo_far_8 : decode b_Mo_far 8 = .ok (.goto 6, 3) := by decide +kernel
theorem d_Mo_far_11 : decode b_Mo_far 11 = .ok (.iload_n 0, 1) := by decide +kernel
theorem d_Mo_far_12 : decode b_Mo_far 12 = .ok (.iload_n 1, 1) := by decide +kernel
theorem d_Mo_far_13 : decode b_Mo_far 13 = .ok (.isub, 1) := by decide +kernel
theorem d_Mo_far_14 : decode b_Mo_far 14 = .ok (.ireturn, 1) := by decide +kernel
noncomputable def f_Mo_far  (n0 : Nat) (h0 : mH) (x0 : Int32) (x1 : Int32) : Option (Int32 × mH) :=
  if x1 ≤ x0 then
    some (x0 - x1, h0)
  else
    some (x1 - x0, h0)
set_option maxHeartbeats 4000000 in
set_option maxRecDepth 100000 in
theorem cb_Mo_far {X : mX} {ad : Nat → Nat} {ln : Launch} (O : mO X ad R_Mo b_Mo_far 2 (mR 0 0) ln) (r' : Int32) (h' : mH) (hE : mEnd X ad (some .int) (some (.int r')) h') (n0 : Nat) (h0 : mH) (x0 : Int32) (x1 : Int32) (hf : f_Mo_far n0 h0 x0 x1 = some (r', h')) : mAW X ad 0 0 0 [(0, .int x0), (1, .int x1)] [] h0 := by
  unfold f_Mo_far at hf
  refine ax_iload_n O d_Mo_far_0 rfl 0 rfl ?_
  refine ax_iload_n O d_Mo_far_1 rfl 1 rfl ?_
  refine ax_icmp_ge (tgt := 11) O d_Mo_far_2 (by decide) (fun q1 => ?_) (fun q1 => ?_)
  · rw [if_pos q1] at hf
    refine ax_iload_n O d_Mo_far_11 rfl 0 rfl ?_
    refine ax_iload_n O d_Mo_far_12 rfl 1 rfl ?_
    refine ax_isub O d_Mo_far_13 ?_
    exact ax_retE O hE hf rfl d_Mo_far_14
  · rw [if_neg q1] at hf
    refine ax_iload_n O d_Mo_far_5 rfl 1 rfl ?_
    refine ax_iload_n O d_Mo_far_6 rfl 0 rfl ?_
    refine ax_isub O d_Mo_far_7 ?_
    refine ax_goto (tgt := 14) O d_Mo_far_8 (by decide) ?_
    exact ax_retE O hE hf rfl d_Mo_far_14
theorem c_Mo_far {ln : Launch} {n0 : Nat} {h0 h' : mH} {x0 : Int32} {x1 : Int32} {r' : Int32} (hf : f_Mo_far n0 h0 x0 x1 = some (r', h')) : mMet ln y_Mo_far b_Mo_far 2 (some .int) (mR 0 0) [.int x0, .int x1] h0 (some (.int r')) h' := mMet_of (by decide +kernel) (Nat.le_of_ble_eq_true rfl) (fun X ad O hE => cb_Mo_far O r' h' hE n0 h0 x0 x1 hf)
/-! ===== StreamFiltersModel.nearest(III)I ===== -/
theorem d_Mo_nearest_0 : decode b_Mo_nearest 0 = .ok (.iload_n 0, 1) := by decide +kernel
theorem d_Mo_nearest_1 : decode b_Mo_nearest 1 = .ok (.iload_n 1, 1) := by decide +kernel
theorem d_Mo_nearest_2 : decode b_Mo_nearest 2 = .ok (.iadd, 1) := by decide +kernel
theorem d_Mo_nearest_3 : decode b_Mo_nearest 3 = .ok (.iload_n 2, 1) := by decide +kernel
theorem d_Mo_nearest_4 : decode b_Mo_nearest 4 = .ok (.isub, 1) := by decide +kernel
theorem d_Mo_nearest_5 : decode b_Mo_nearest 5 = .ok (.istore_n 3, 1) := by decide +kernel
theorem d_Mo_nearest_6 : decode b_Mo_nearest 6 = .ok (.iload_n 3, 1) := by decide +kernel
theorem d_Mo_nearest_7 : decode b_Mo_nearest 7 = .ok (.iload_n 0, 1) := by decide +kernel
theorem d_Mo_nearest_8 : decode b_Mo_nearest 8 = .ok (.invokestatic 235, 3) := by decide +kernel
theorem d_Mo_nearest_11 : decode b_Mo_nearest 11 = .ok (.iload_n 3, 1) := by decide +kernel
theorem d_Mo_nearest_12 : decode b_Mo_nearest 12 = .ok (.iload_n 1, 1) := by decide +kernel
theorem d_Mo_nearest_13 : decode b_Mo_nearest 13 = .ok (.invokestatic 235, 3) := by decide +kernel
theorem d_Mo_nearest_16 : decode b_Mo_nearest 16 = .ok (.if_icmp .gt 18, 3) := by decide +kernel
theorem d_Mo_nearest_19 : decode b_Mo_nearest 19 = .ok (.iload_n 3, 1) := by decide +kernel
theorem d_Mo_nearest_20 : decode b_Mo_nearest 20 = .ok (.iload_n 0, 1) := by decide +kernel
theorem d_Mo_nearest_21 : decode b_Mo_nearest 21 = .ok (.invokestatic 235, 3) := by decide +kernel
theorem d_Mo_nearest_24 : decode b_Mo_nearest 24 = .ok (.iload_n 3, 1) := by decide +kernel
theorem d_Mo_nearest_25 : decode b_Mo_nearest 25 = .ok (.iload_n 2, 1) := by decide +kernel
theorem d_Mo_nearest_26 : decode b_Mo_nearest 26 = .ok (.invokestatic 235, 3) := by decide +kernel
theorem d_Mo_nearest_29 : decode b_Mo_nearest 29 = .ok (.if_icmp .gt 5, 3) := by decide +kernel
theorem d_Mo_nearest_32 : decode b_Mo_nearest 32 = .ok (.iload_n 0, 1) := by decide +kernel
theorem d_Mo_nearest_33 : decode b_Mo_nearest 33 = .ok (.ireturn, 1) := by decide +kernel
theorem d_Mo_nearest_34 : decode b_Mo_nearest 34 = .ok (.iload_n 3, 1) := by decide +kernel
theorem d_Mo_nearest_35 : decode b_Mo_nearest 35 = .ok (.iload_n 1, 1) := by decide +kernel
theorem d_Mo_nearest_36 : decode b_Mo_nearest 36 = .ok (.invokestatic 235, 3) := by decide +kernel
theorem d_Mo_nearest_39 : decode b_Mo_nearest 39 = .ok (.iload_n 3, 1) := by decide +kernel
theorem d_Mo_nearest_40 : decode b_Mo_nearest 40 = .ok (.iload_n 2, 1) := by decide +kernel
theorem d_Mo_nearest_41 : decode b_Mo_nearest 41 = .ok (.invokestatic 235, 3) := by decide +kernel
theorem d_Mo_nearest_44 : decode b_Mo_nearest 44 = .ok (.if_icmp .gt 7, 3) := by decide +kernel
theorem d_Mo_nearest_47 : decode b_Mo_nearest 47 = .ok (.iload_n 1, 1) := by decide +kernel
theorem d_Mo_nearest_48 : decode b_Mo_nearest 48 = .ok (.goto 4, 3) := by decide +kernel
theorem d_Mo_nearest_51 : decode b_Mo_nearest 51 = .ok (.iload_n 2, 1) := by decide +kernel
theorem d_Mo_nearest_52 : decode b_Mo_nearest 52 = .ok (.ireturn, 1) := by decide +kernel
noncomputable def f_Mo_nearest_B34  (n0 : Nat) (h0 : mH) (x1 : Int32) (x2 : Int32) (x3 : Int32) : Option (Int32 × mH) :=
  mcl (f_Mo_far n0 h0 x3 x1) fun v10 h11 =>
  mcl (f_Mo_far n0 h11 x3 x2) fun v13 h14 =>
  if v13 < v10 then
    some (x2, h14)
  else
    some (x1, h14)
noncomputable def f_Mo_nearest  (n0 : Nat) (h0 : mH) (x0 : Int32) (x1 : Int32) (x2 : Int32) : Option (Int32 × mH) :=
  mnm ((x0 + x1) - x2) fun v1 =>
  mcl (f_Mo_far n0 h0 v1 x0) fun v3 h4 =>
  mcl (f_Mo_far n0 h4 v1 x1) fun v6 h7 =>
  if v6 < v3 then
    f_Mo_nearest_B34 n0 h7 x1 x2 v1
  else
    mcl (f_Mo_far n0 h7 v1 x0) fun v17 h18 =>
    mcl (f_Mo_far n0 h18 v1 x2) fun v20 h21 =>
    if v20 < v17 then
      f_Mo_nearest_B34 n0 h21 x1 x2 v1
    else
      some (x0, h21)
set_option maxHeartbeats 4000000 in
set_option maxRecDepth 100000 in
theorem cb_Mo_nearest_B34 {X : mX} {ad : Nat → Nat} {ln : Launch} (O : mO X ad R_Mo b_Mo_nearest 4 (mR 1 21) ln) (r' : Int32) (h' : mH) (hE : mEnd X ad (some .int) (some (.int r')) h') (n0 : Nat) (h0 : mH) (x1 : Int32) (x2 : Int32) (x3 : Int32) (hf : f_Mo_nearest_B34 n0 h0 x1 x2 x3 = some (r', h')) : mAW X ad 0 0 34 [(1, .int x1), (2, .int x2), (3, .int x3)] [] h0 := by
  unfold f_Mo_nearest_B34 at hf
  refine ax_iload_n O d_Mo_nearest_34 rfl 2 rfl ?_
  refine ax_iload_n O d_Mo_nearest_35 rfl 0 rfl ?_
  obtain ⟨v10, h11, mh11, hf⟩ := mcl_some hf
  refine ax_callS (As := [.int x3, .int x1]) (rest := []) O cw_Mo_far st_Mo_far lk_Mo_235 (c_Mo_far mh11) rfl ⟨rfl, rfl⟩ (by decide) (by decide) (Nat.le_of_ble_eq_true rfl) d_Mo_nearest_36 ?_
  refine ax_iload_n O d_Mo_nearest_39 rfl 2 rfl ?_
  refine ax_iload_n O d_Mo_nearest_40 rfl 1 rfl ?_
  obtain ⟨v13, h14, mh14, hf⟩ := mcl_some hf
  refine ax_callS (As := [.int x3, .int x2]) (rest := [.int v10]) O cw_Mo_far st_Mo_far lk_Mo_235 (c_Mo_far mh14) rfl ⟨rfl, rfl⟩ (by decide) (by decide) (Nat.le_of_ble_eq_true rfl) d_Mo_nearest_41 ?_
  refine ax_icmp_gt (tgt := 51) O d_Mo_nearest_44 (by decide) (fun q15 => ?_) (fun q15 => ?_)
  · rw [if_pos q15] at hf
    refine ax_iload_n O d_Mo_nearest_51 rfl 1 rfl ?_
    exact ax_retE O hE hf rfl d_Mo_nearest_52
  · rw [if_neg q15] at hf
    refine ax_iload_n O d_Mo_nearest_47 rfl 0 rfl ?_
    refine ax_goto (tgt := 52) O d_Mo_nearest_48 (by decide) ?_
    exact ax_retE O hE hf rfl d_Mo_nearest_52
set_option maxHeartbeats 4000000 in
set_option maxRecDepth 100000 in
theorem cb_Mo_nearest {X : mX} {ad : Nat → Nat} {ln : Launch} (O : mO X ad R_Mo b_Mo_nearest 4 (mR 1 21) ln) (r' : Int32) (h' : mH) (hE : mEnd X ad (some .int) (some (.int r')) h') (n0 : Nat) (h0 : mH) (x0 : Int32) (x1 : Int32) (x2 : Int32) (hf : f_Mo_nearest n0 h0 x0 x1 x2 = some (r', h')) : mAW X ad 0 0 0 [(0, .int x0), (1, .int x1), (2, .int x2)] [] h0 := by
  unfold f_Mo_nearest at hf
  refine ax_iload_n O d_Mo_nearest_0 rfl 0 rfl ?_
  refine ax_iload_n O d_Mo_nearest_1 rfl 1 rfl ?_
  refine ax_iadd O d_Mo_nearest_2 ?_
  refine ax_iload_n O d_Mo_nearest_3 rfl 2 rfl ?_
  refine ax_isub O d_Mo_nearest_4 ?_
  obtain ⟨v1, ev1, hf⟩ := mnm_some hf
  refine ax_nmi ev1 ?_
  refine ax_istore_n (lv' := [(3, .int v1), (0, .int x0), (1, .int x1), (2, .int x2)]) O d_Mo_nearest_5 rfl (by decide) rfl ?_
  refine ax_iload_n O d_Mo_nearest_6 rfl 0 rfl ?_
  refine ax_iload_n O d_Mo_nearest_7 rfl 1 rfl ?_
  obtain ⟨v3, h4, mh4, hf⟩ := mcl_some hf
  refine ax_callS (As := [.int v1, .int x0]) (rest := []) O cw_Mo_far st_Mo_far lk_Mo_235 (c_Mo_far mh4) rfl ⟨rfl, rfl⟩ (by decide) (by decide) (Nat.le_of_ble_eq_true rfl) d_Mo_nearest_8 ?_
  refine ax_iload_n O d_Mo_nearest_11 rfl 0 rfl ?_
  refine ax_iload_n O d_Mo_nearest_12 rfl 2 rfl ?_
  obtain ⟨v6, h7, mh7, hf⟩ := mcl_some hf
  refine ax_callS (As := [.int v1, .int x1]) (rest := [.int v3]) O cw_Mo_far st_Mo_far lk_Mo_235 (c_Mo_far mh7) rfl ⟨rfl, rfl⟩ (by decide) (by decide) (Nat.le_of_ble_eq_true rfl) d_Mo_nearest_13 ?_
  refine ax_icmp_gt (tgt := 34) O d_Mo_nearest_16 (by decide) (fun q8 => ?_) (fun q8 => ?_)
  · rw [if_pos q8] at hf
    refine ax_sub [2, 3, 0] rfl ?_
    exact cb_Mo_nearest_B34 O _ _ hE n0 _ _ _ _ hf
  · rw [if_neg q8] at hf
    refine ax_iload_n O d_Mo_nearest_19 rfl 0 rfl ?_
    refine ax_iload_n O d_Mo_nearest_20 rfl 1 rfl ?_
    obtain ⟨v17, h18, mh18, hf⟩ := mcl_some hf
    refine ax_callS (As := [.int v1, .int x0]) (rest := []) O cw_Mo_far st_Mo_far lk_Mo_235 (c_Mo_far mh18) rfl ⟨rfl, rfl⟩ (by decide) (by decide) (Nat.le_of_ble_eq_true rfl) d_Mo_nearest_21 ?_
    refine ax_iload_n O d_Mo_nearest_24 rfl 0 rfl ?_
    refine ax_iload_n O d_Mo_nearest_25 rfl 3 rfl ?_
    obtain ⟨v20, h21, mh21, hf⟩ := mcl_some hf
    refine ax_callS (As := [.int v1, .int x2]) (rest := [.int v17]) O cw_Mo_far st_Mo_far lk_Mo_235 (c_Mo_far mh21) rfl ⟨rfl, rfl⟩ (by decide) (by decide) (Nat.le_of_ble_eq_true rfl) d_Mo_nearest_26 ?_
    refine ax_icmp_gt (tgt := 34) O d_Mo_nearest_29 (by decide) (fun q22 => ?_) (fun q22 => ?_)
    · rw [if_pos q22] at hf
      refine ax_sub [2, 3, 0] rfl ?_
      exact cb_Mo_nearest_B34 O _ _ hE n0 _ _ _ _ hf
    · rw [if_neg q22] at hf
      refine ax_iload_n O d_Mo_nearest_32 rfl 1 rfl ?_
      exact ax_retE O hE hf rfl d_Mo_nearest_33
theorem c_Mo_nearest {ln : Launch} {n0 : Nat} {h0 h' : mH} {x0 : Int32} {x1 : Int32} {x2 : Int32} {r' : Int32} (hf : f_Mo_nearest n0 h0 x0 x1 x2 = some (r', h')) : mMet ln y_Mo_nearest b_Mo_nearest 4 (some .int) (mR 1 21) [.int x0, .int x1, .int x2] h0 (some (.int r')) h' := mMet_of (by decide +kernel) (Nat.le_of_ble_eq_true rfl) (fun X ad O hE => cb_Mo_nearest O r' h' hE n0 h0 x0 x1 x2 hf)
/-! ===== StreamFiltersModel.added(IIII)I ===== -/
theorem d_Mo_added_0 : decode b_Mo_added 0 = .ok (.iload_n 0, 1) := by decide +kernel
theorem d_Mo_added_1 : decode b_Mo_added 1 = .ok (.tableswitch 48 1 4 #[31, 33, 35, 41], 31) := by decide +kernel
theorem d_Mo_added_32 : decode b_Mo_added 32 = .ok (.iload_n 1, 1) := by decide +kernel
theorem d_Mo_added_33 : decode b_Mo_added 33 = .ok (.ireturn, 1) := by decide +kernel
theorem d_Mo_added_34 : decode b_Mo_added 34 = .ok (.iload_n 2, 1) := by decide +kernel
theorem d_Mo_added_35 : decode b_Mo_added 35 = .ok (.ireturn, 1) := by decide +kernel
theorem d_Mo_added_36 : decode b_Mo_added 36 = .ok (.iload_n 1, 1) := by decide +kernel
theorem d_Mo_added_37 : decode b_Mo_added 37 = .ok (.iload_n 2, 1) := by decide +kernel
theorem d_Mo_added_38 : decode b_Mo_added 38 = .ok (.iadd, 1) := by decide +kernel
theorem d_Mo_added_39 : decode b_Mo_added 39 = .ok (.iconst 2, 1) := by decide +kernel
theorem d_Mo_added_40 : decode b_Mo_added 40 = .ok (.idiv, 1) := by decide +kernel
theorem d_Mo_added_41 : decode b_Mo_added 41 = .ok (.ireturn, 1) := by decide +kernel
theorem d_Mo_added_42 : decode b_Mo_added 42 = .ok (.iload_n 1, 1) := by decide +kernel
theorem d_Mo_added_43 : decode b_Mo_added 43 = .ok (.iload_n 2, 1) := by decide +kernel
theorem d_Mo_added_44 : decode b_Mo_added 44 = .ok (.iload_n 3, 1) := by decide +kernel
theorem d_Mo_added_45 : decode b_Mo_added 45 = .ok (.invokestatic 238, 3) := by decide +kernel
theorem d_Mo_added_48 : decode b_Mo_added 48 = .ok (.ireturn, 1) := by decide +kernel
theorem d_Mo_added_49 : decode b_Mo_added 49 = .ok (.iconst 0, 1) := by decide +kernel
theorem d_Mo_added_50 : decode b_Mo_added 50 = .ok (.ireturn, 1) := by decide +kernel
noncomputable def f_Mo_added  (n0 : Nat) (h0 : mH) (x0 : Int32) (x1 : Int32) (x2 : Int32) (x3 : Int32) : Option (Int32 × mH) :=
  if x0 = 1 then
    some (x1, h0)
  else
    if x0 = 2 then
      some (x2, h0)
    else
      if x0 = 3 then
        some ((x1 + x2) / 2, h0)
      else
        if x0 = 4 then
          mcl (f_Mo_nearest n0 h0 x1 x2 x3) fun v6 h7 =>
          some (v6, h7)
        else
          some (0, h0)
set_option maxHeartbeats 4000000 in
set_option maxRecDepth 100000 in
theorem cb_Mo_added {X : mX} {ad : Nat → Nat} {ln : Launch} (O : mO X ad R_Mo b_Mo_added 4 (mR 2 44) ln) (r' : Int32) (h' : mH) (hE : mEnd X ad (some .int) (some (.int r')) h') (n0 : Nat) (h0 : mH) (x0 : Int32) (x1 : Int32) (x2 : Int32) (x3 : Int32) (hf : f_Mo_added n0 h0 x0 x1 x2 x3 = some (r', h')) : mAW X ad 0 0 0 [(0, .int x0), (1, .int x1), (2, .int x2), (3, .int x3)] [] h0 := by
  unfold f_Mo_added at hf
  refine ax_iload_n O d_Mo_added_0 rfl 0 rfl ?_
  by_cases q1 : x0 = 1
  · rw [if_pos q1] at hf
    refine ax_tableIn (tgt := 32) O d_Mo_added_1 (by rw [q1]; decide) (by rw [q1]; decide) (by rw [q1]; rfl) (by decide) ?_
    refine ax_iload_n O d_Mo_added_32 rfl 1 rfl ?_
    exact ax_retE O hE hf rfl d_Mo_added_33
  · rw [if_neg q1] at hf
    by_cases q2 : x0 = 2
    · rw [if_pos q2] at hf
      refine ax_tableIn (tgt := 34) O d_Mo_added_1 (by rw [q2]; decide) (by rw [q2]; decide) (by rw [q2]; rfl) (by decide) ?_
      refine ax_iload_n O d_Mo_added_34 rfl 2 rfl ?_
      exact ax_retE O hE hf rfl d_Mo_added_35
    · rw [if_neg q2] at hf
      by_cases q3 : x0 = 3
      · rw [if_pos q3] at hf
        refine ax_tableIn (tgt := 36) O d_Mo_added_1 (by rw [q3]; decide) (by rw [q3]; decide) (by rw [q3]; rfl) (by decide) ?_
        refine ax_iload_n O d_Mo_added_36 rfl 1 rfl ?_
        refine ax_iload_n O d_Mo_added_37 rfl 2 rfl ?_
        refine ax_iadd O d_Mo_added_38 ?_
        refine ax_iconst (v := 2) O d_Mo_added_39 (by decide) ?_
        refine ax_idiv O d_Mo_added_40 (by decide) ?_
        exact ax_retE O hE hf rfl d_Mo_added_41
      · rw [if_neg q3] at hf
        by_cases q4 : x0 = 4
        · rw [if_pos q4] at hf
          refine ax_tableIn (tgt := 42) O d_Mo_added_1 (by rw [q4]; decide) (by rw [q4]; decide) (by rw [q4]; rfl) (by decide) ?_
          refine ax_iload_n O d_Mo_added_42 rfl 1 rfl ?_
          refine ax_iload_n O d_Mo_added_43 rfl 2 rfl ?_
          refine ax_iload_n O d_Mo_added_44 rfl 3 rfl ?_
          obtain ⟨v6, h7, mh7, hf⟩ := mcl_some hf
          refine ax_callS (As := [.int x1, .int x2, .int x3]) (rest := []) O cw_Mo_nearest st_Mo_nearest lk_Mo_238 (c_Mo_nearest mh7) rfl ⟨rfl, rfl⟩ (by decide) (by decide) (Nat.le_of_ble_eq_true rfl) d_Mo_added_45 ?_
          exact ax_retE O hE hf rfl d_Mo_added_48
        · rw [if_neg q4] at hf
          refine ax_tableOut (tgt := 49) O d_Mo_added_1 (mTi (fun z h1 h2 => by rcases (show z = 1 ∨ z = 2 ∨ z = 3 ∨ z = 4 by omega) with rfl | rfl | rfl | rfl; exact lv_neT q1 (by decide); exact lv_neT q2 (by decide); exact lv_neT q3 (by decide); exact lv_neT q4 (by decide))) (by decide) ?_
          refine ax_iconst (v := 0) O d_Mo_added_49 (by decide) ?_
          exact ax_retE O hE hf rfl d_Mo_added_50
theorem c_Mo_added {ln : Launch} {n0 : Nat} {h0 h' : mH} {x0 : Int32} {x1 : Int32} {x2 : Int32} {x3 : Int32} {r' : Int32} (hf : f_Mo_added n0 h0 x0 x1 x2 x3 = some (r', h')) : mMet ln y_Mo_added b_Mo_added 4 (some .int) (mR 2 44) [.int x0, .int x1, .int x2, .int x3] h0 (some (.int r')) h' := mMet_of (by decide +kernel) (Nat.le_of_ble_eq_true rfl) (fun X ad O hE => cb_Mo_added O r' h' hE n0 h0 x0 x1 x2 x3 hf)
/-! ===== StreamFiltersModel.undoRows(I)Z ===== -/
theorem d_Mo_undoRows_0 : decode b_Mo_undoRows 0 = .ok (.aload_n 0, 1) := by decide +kernel
theorem d_Mo_undoRows_1 : decode b_Mo_undoRows 1 = .ok (.iload_n 1, 1) := by decide +kernel
theorem d_Mo_undoRows_2 : decode b_Mo_undoRows 2 = .ok (.invokevirtual 224, 3) := by decide +kernel
theorem d_Mo_undoRows_5 : decode b_Mo_undoRows 5 = .ok (.istore_n 2, 1) := by decide +kernel
theorem d_Mo_undoRows_6 : decode b_Mo_undoRows 6 = .ok (.aload_n 0, 1) := by decide +kernel
theorem d_Mo_undoRows_7 : decode b_Mo_undoRows 7 = .ok (.getfield 22, 3) := by decide +kernel
theorem d_Mo_undoRows_10 : decode b_Mo_undoRows 10 = .ok (.iload_n 1, 1) := by decide +kernel
theorem d_Mo_undoRows_11 : decode b_Mo_undoRows 11 = .ok (.iaload, 1) := by decide +kernel
theorem d_Mo_undoRows_12 : decode b_Mo_undoRows 12 = .ok (.aload_n 0, 1) := by decide +kernel
theorem d_Mo_undoRows_13 : decode b_Mo_undoRows 13 = .ok (.getfield 25, 3) := by decide +kernel
theorem d_Mo_undoRows_16 : decode b_Mo_undoRows 16 = .ok (.iload_n 1, 1) := by decide +kernel
theorem d_Mo_undoRows_17 : decode b_Mo_undoRows 17 = .ok (.iaload, 1) := by decide +kernel
theorem d_Mo_undoRows_18 : decode b_Mo_undoRows 18 = .ok (.imul, 1) := by decide +kernel
theorem d_Mo_undoRows_19 : decode b_Mo_undoRows 19 = .ok (.bipush 7, 2) := by decide +kernel
theorem d_Mo_undoRows_21 : decode b_Mo_undoRows 21 = .ok (.iadd, 1) := by decide +kernel
theorem d_Mo_undoRows_22 : decode b_Mo_undoRows 22 = .ok (.bipush 8, 2) := by decide +kernel
theorem d_Mo_undoRows_24 : decode b_Mo_undoRows 24 = .ok (.idiv, 1) := by decide +kernel
theorem d_Mo_undoRows_25 : decode b_Mo_undoRows 25 = .ok (.istore_n 3, 1) := by decide +kernel
theorem d_Mo_undoRows_26 : decode b_Mo_undoRows 26 = .ok (.iconst 0, 1) := by decide +kernel
theorem d_Mo_undoRows_27 : decode b_Mo_undoRows 27 = .ok (.istore 4, 2) := by decide +kernel
theorem d_Mo_undoRows_29 : decode b_Mo_undoRows 29 = .ok (.iconst 1, 1) := by decide +kernel
theorem d_Mo_undoRows_30 : decode b_Mo_undoRows 30 = .ok (.istore 5, 2) := by decide +kernel
theorem d_Mo_undoRows_32 : decode b_Mo_undoRows 32 = .ok (.iconst 0, 1) := by decide +kernel
theorem d_Mo_undoRows_33 : decode b_Mo_undoRows 33 = .ok (.istore 6, 2) := by decide +kernel
theorem d_Mo_undoRows_35 : decode b_Mo_undoRows 35 = .ok (.iload 6, 2) := by decide +kernel
theorem d_Mo_undoRows_37 : decode b_Mo_undoRows 37 = .ok (.aload_n 0, 1) := by decide +kernel
theorem d_Mo_undoRows_38 : decode b_Mo_undoRows 38 = .ok (.getfield 106, 3) := by decide +kernel
theorem d_Mo_undoRows_41 : decode b_Mo_undoRows 41 = .ok (.if_icmp .ge 197, 3) := by decide +kernel
theorem d_Mo_undoRows_44 : decode b_Mo_undoRows 44 = .ok (.iload 5, 2) := by decide +kernel
theorem d_Mo_undoRows_46 : decode b_Mo_undoRows 46 = .ok (.ifCond .eq 192, 3) := by decide +kernel
theorem d_Mo_undoRows_49 : decode b_Mo_undoRows 49 = .ok (.aload_n 0, 1) := by decide +kernel
theorem d_Mo_undoRows_50 : decode b_Mo_undoRows 50 = .ok (.getfield 39, 3) := by decide +kernel
theorem d_Mo_undoRows_53 : decode b_Mo_undoRows 53 = .ok (.iload 6, 2) := by decide +kernel
theorem d_Mo_undoRows_55 : decode b_Mo_undoRows 55 = .ok (.iaload, 1) := by decide +kernel
theorem d_Mo_undoRows_56 : decode b_Mo_undoRows 56 = .ok (.istore 7, 2) := by decide +kernel
theorem d_Mo_undoRows_58 : decode b_Mo_undoRows 58 = .ok (.iload 7, 2) := by decide +kernel
theorem d_Mo_undoRows_60 : decode b_Mo_undoRows 60 = .ok (.iconst 4, 1) := by decide +kernel
theorem d_Mo_undoRows_61 : decode b_Mo_undoRows 61 = .ok (.if_icmp .gt 7, 3) := by decide +kernel
theorem d_Mo_undoRows_64 : decode b_Mo_undoRows 64 = .ok (.iconst 1, 1) := by decide +kernel
theorem d_Mo_undoRows_65 : decode b_Mo_undoRows 65 = .ok (.goto 4, 3) := by decide +kernel
theorem d_Mo_undoRows_68 : decode b_Mo_undoRows 68 = .ok (.iconst 0, 1) := by decide +kernel
theorem d_Mo_undoRows_69 : decode b_Mo_undoRows 69 = .ok (.istore 5, 2) := by decide +kernel
theorem d_Mo_undoRows_71 : decode b_Mo_undoRows 71 = .ok (.aload_n 0, 1) := by decide +kernel
theorem d_Mo_undoRows_72 : decode b_Mo_undoRows 72 = .ok (.getfield 106, 3) := by decide +kernel
theorem d_Mo_undoRows_75 : decode b_Mo_undoRows 75 = .ok (.iload 6, 2) := by decide +kernel
theorem d_Mo_undoRows_77 : decode b_Mo_undoRows 77 = .ok (.isub, 1) := by decide +kernel
theorem d_Mo_undoRows_78 : decode b_Mo_undoRows 78 = .ok (.iconst 1, 1) := by decide +kernel
theorem d_Mo_undoRows_79 : decode b_Mo_undoRows 79 = .ok (.isub, 1) := by decide +kernel
theorem d_Mo_undoRows_80 : decode b_Mo_undoRows 80 = .ok (.iload_n 2, 1) := by decide +kernel
theorem d_Mo_undoRows_81 : decode b_Mo_undoRows 81 = .ok (.if_icmp .ge 15, 3) := by decide +kernel
theorem d_Mo_undoRows_84 : decode b_Mo_undoRows 84 = .ok (.aload_n 0, 1) := by decide +kernel
theorem d_Mo_undoRows_85 : decode b_Mo_undoRows 85 = .ok (.getfield 106, 3) := by decide +kernel
theorem d_Mo_undoRows_88 : decode b_Mo_undoRows 88 = .ok (.iload 6, 2) := by decide +kernel
theorem d_Mo_undoRows_90 : decode b_Mo_undoRows 90 = .ok (.isub, 1) := by decide +kernel
theorem d_Mo_undoRows_91 : decode b_Mo_undoRows 91 = .ok (.iconst 1, 1) := by decide +kernel
theorem d_Mo_undoRows_92 : decode b_Mo_undoRows 92 = .ok (.isub, 1) := by decide +kernel
theorem d_Mo_undoRows_93 : decode b_Mo_undoRows 93 = .ok (.goto 4, 3) := by decide +kernel
theorem d_Mo_undoRows_96 : decode b_Mo_undoRows 96 = .ok (.iload_n 2, 1) := by decide +kernel
theorem d_Mo_undoRows_97 : decode b_Mo_undoRows 97 = .ok (.istore 8, 2) := by decide +kernel
theorem d_Mo_undoRows_99 : decode b_Mo_undoRows 99 = .ok (.iconst 0, 1) := by decide +kernel
theorem d_Mo_undoRows_100 : decode b_Mo_undoRows 100 = .ok (.istore 9, 2) := by decide +kernel
theorem d_Mo_undoRows_102 : decode b_Mo_undoRows 102 = .ok (.iload 9, 2) := by decide +kernel
theorem d_Mo_undoRows_104 : decode b_Mo_undoRows 104 = .ok (.iload 8, 2) := by decide +kernel
theorem d_Mo_undoRows_106 : decode b_Mo_undoRows 106 = .ok (.if_icmp .ge 121, 3) := by decide +kernel
theorem d_Mo_undoRows_109 : decode b_Mo_undoRows 109 = .ok (.iload 5, 2) := by decide +kernel
theorem d_Mo_undoRows_111 : decode b_Mo_undoRows 111 = .ok (.ifCond .eq 116, 3) := by decide +kernel
theorem d_Mo_undoRows_114 : decode b_Mo_undoRows 114 = .ok (.iload 9, 2) := by decide +kernel
theorem d_Mo_undoRows_116 : decode b_Mo_undoRows 116 = .ok (.iload_n 3, 1) := by decide +kernel
theorem d_Mo_undoRows_117 : decode b_Mo_undoRows 117 = .ok (.if_icmp .lt 15, 3) := by decide +kernel
theorem d_Mo_undoRows_120 : decode b_Mo_undoRows 120 = .ok (.aload_n 0, 1) := by decide +kernel
theorem d_Mo_undoRows_121 : decode b_Mo_undoRows 121 = .ok (.getfield 36, 3) := by decide +kernel
theorem d_Mo_undoRows_124 : decode b_Mo_undoRows 124 = .ok (.iload 4, 2) := by decide +kernel
theorem d_Mo_undoRows_126 : decode b_Mo_undoRows 126 = .ok (.iload_n 3, 1) := by decide +kernel
theorem d_Mo_undoRows_127 : decode b_Mo_undoRows 127 = .ok (.isub, 1) := by decide +kernel
theorem d_Mo_undoRows_128 : decode b_Mo_undoRows 128 = .ok (.iaload, 1) := by decide +kernel
theorem d_Mo_undoRows_129 : decode b_Mo_undoRows 129 = .ok (.goto 4, 3) := by decide +kernel
theorem d_Mo_undoRows_132 : decode b_Mo_undoRows 132 = .ok (.iconst 0, 1) := by decide +kernel
theorem d_Mo_undoRows_133 : decode b_Mo_undoRows 133 = .ok (.istore 10, 2) := by decide +kernel
theorem d_Mo_undoRows_135 : decode b_Mo_undoRows 135 = .ok (.iload 6, 2) := by decide +kernel
theorem d_Mo_undoRows_137 : decode b_Mo_undoRows 137 = .ok (.ifCond .le 15, 3) := by decide +kernel
theorem d_Mo_undoRows_140 : decode b_Mo_undoRows 140 = .ok (.aload_n 0, 1) := by decide +kernel
theorem d_Mo_undoRows_141 : decode b_Mo_undoRows 141 = .ok (.getfield 36, 3) := by decide +kernel
theorem d_Mo_undoRows_144 : decode b_Mo_undoRows 144 = .ok (.iload 4, 2) := by decide +kernel
theorem d_Mo_undoRows_146 : decode b_Mo_undoRows 146 = .ok (.iload_n 2, 1) := by decide +kernel
theorem d_Mo_undoRows_147 : decode b_Mo_undoRows 147 = .ok (.isub, 1) := by decide +kernel
theorem d_Mo_undoRows_148 : decode b_Mo_undoRows 148 = .ok (.iaload, 1) := by decide +kernel
theorem d_Mo_undoRows_149 : decode b_Mo_undoRows 149 = .ok (.goto 4, 3) := by decide +kernel
theorem d_Mo_undoRows_152 : decode b_Mo_undoRows 152 = .ok (.iconst 0, 1) := by decide +kernel
theorem d_Mo_undoRows_153 : decode b_Mo_undoRows 153 = .ok (.istore 11, 2) := by decide +kernel
theorem d_Mo_undoRows_155 : decode b_Mo_undoRows 155 = .ok (.iload 6, 2) := by decide +kernel
theorem d_Mo_undoRows_157 : decode b_Mo_undoRows 157 = .ok (.ifCond .le 23, 3) := by decide +kernel
theorem d_Mo_undoRows_160 : decode b_Mo_undoRows 160 = .ok (.iload 9, 2) := by decide +kernel
theorem d_Mo_undoRows_162 : decode b_Mo_undoRows 162 = .ok (.iload_n 3, 1) := by decide +kernel
theorem d_Mo_undoRows_163 : decode b_Mo_undoRows 163 = .ok (.if_icmp .lt 17, 3) := by decide +kernel
theorem d_Mo_undoRows_166 : decode b_Mo_undoRows 166 = .ok (.aload_n 0, 1) := by decide +kernel
theorem d_Mo_undoRows_167 : decode b_Mo_undoRows 167 = .ok (.getfield 36, 3) := by decide +kernel
theorem d_Mo_undoRows_170 : decode b_Mo_undoRows 170 = .ok (.iload 4, 2) := by decide +kernel
theorem d_Mo_undoRows_172 : decode b_Mo_undoRows 172 = .ok (.iload_n 2, 1) := by decide +kernel
theorem d_Mo_undoRows_173 : decode b_Mo_undoRows 173 = .ok (.isub, 1) := by decide +kernel
theorem d_Mo_undoRows_174 : decode b_Mo_undoRows 174 = .ok (.iload_n 3, 1) := by decide +kernel
theorem d_Mo_undoRows_175 : decode b_Mo_undoRows 175 = .ok (.isub, 1) := by decide +kernel
theorem d_Mo_undoRows_176 : decode b_Mo_undoRows 176 = .ok (.iaload, 1) := by decide +kernel
theorem d_Mo_undoRows_177 : decode b_Mo_undoRows 177 = .ok (.goto 4, 3) := by decide +kernel
theorem d_Mo_undoRows_180 : decode b_Mo_undoRows 180 = .ok (.iconst 0, 1) := by decide +kernel
theorem d_Mo_undoRows_181 : decode b_Mo_undoRows 181 = .ok (.istore 12, 2) := by decide +kernel
theorem d_Mo_undoRows_183 : decode b_Mo_undoRows 183 = .ok (.aload_n 0, 1) := by decide +kernel
theorem d_Mo_undoRows_184 : decode b_Mo_undoRows 184 = .ok (.getfield 36, 3) := by decide +kernel
theorem d_Mo_undoRows_187 : decode b_Mo_undoRows 187 = .ok (.iload 4, 2) := by decide +kernel
theorem d_Mo_undoRows_189 : decode b_Mo_undoRows 189 = .ok (.aload_n 0, 1) := by decide +kernel
theorem d_Mo_undoRows_190 : decode b_Mo_undoRows 190 = .ok (.getfield 39, 3) := by decide +kernel
theorem d_Mo_undoRows_193 : decode b_Mo_undoRows 193 = .ok (.iload 6, 2) := by decide +kernel
theorem d_Mo_undoRows_195 : decode b_Mo_undoRows 195 = .ok (.iconst 1, 1) := by decide +kernel
theorem d_Mo_undoRows_196 : decode b_Mo_undoRows 196 = .ok (.iadd, 1) := by decide +kernel
theorem d_Mo_undoRows_197 : decode b_Mo_undoRows 197 = .ok (.iload 9, 2) := by decide +kernel
theorem d_Mo_undoRows_199 : decode b_Mo_undoRows 199 = .ok (.iadd, 1) := by decide +kernel
theorem d_Mo_undoRows_200 : decode b_Mo_undoRows 200 = .ok (.iaload, 1) := by decide +kernel
theorem d_Mo_undoRows_201 : decode b_Mo_undoRows 201 = .ok (.iload 7, 2) := by decide +kernel
theorem d_Mo_undoRows_203 : decode b_Mo_undoRows 203 = .ok (.iload 10, 2) := by decide +kernel
theorem d_Mo_undoRows_205 : decode b_Mo_undoRows 205 = .ok (.iload 11, 2) := by decide +kernel
theorem d_Mo_undoRows_207 : decode b_Mo_undoRows 207 = .ok (.iload 12, 2) := by decide +kernel
theorem d_Mo_undoRows_209 : decode b_Mo_undoRows 209 = .ok (.invokestatic 241, 3) := by decide +kernel
theorem d_Mo_undoRows_212 : decode b_Mo_undoRows 212 = .ok (.iadd, 1) := by decide +kernel
theorem d_Mo_undoRows_213 : decode b_Mo_undoRows 213 = .ok (.sipush 255, 3) := by decide +kernel
theorem d_Mo_undoRows_216 : decode b_Mo_undoRows 216 = .ok (.iand, 1) := by decide +kernel
theorem d_Mo_undoRows_217 : decode b_Mo_undoRows 217 = .ok (.iastore, 1) := by decide +kernel
theorem d_Mo_undoRows_218 : decode b_Mo_undoRows 218 = .ok (.iinc 4 1, 3) := by decide +kernel
theorem d_Mo_undoRows_221 : decode b_Mo_undoRows 221 = .ok (.iinc 9 1, 3) := by decide +kernel
theorem d_Mo_undoRows_224 : decode b_Mo_undoRows 224 = .ok (.goto (-122), 3) := by decide +kernel
theorem d_Mo_undoRows_227 : decode b_Mo_undoRows 227 = .ok (.iload 6, 2) := by decide +kernel
theorem d_Mo_undoRows_229 : decode b_Mo_undoRows 229 = .ok (.iload_n 2, 1) := by decide +kernel
theorem d_Mo_undoRows_230 : decode b_Mo_undoRows 230 = .ok (.iconst 1, 1) := by decide +kernel
theorem d_Mo_undoRows_231 : decode b_Mo_undoRows 231 = .ok (.iadd, 1) := by decide +kernel
theorem d_Mo_undoRows_232 : decode b_Mo_undoRows 232 = .ok (.iadd, 1) := by decide +kernel
theorem d_Mo_undoRows_233 : decode b_Mo_undoRows 233 = .ok (.istore 6, 2) := by decide +kernel
theorem d_Mo_undoRows_235 : decode b_Mo_undoRows 235 = .ok (.goto (-200), 3) := by decide +kernel
theorem d_Mo_undoRows_238 : decode b_Mo_undoRows 238 = .ok (.iconst 0, 1) := by decide +kernel
theorem d_Mo_undoRows_239 : decode b_Mo_undoRows 239 = .ok (.istore 6, 2) := by decide +kernel
theorem d_Mo_undoRows_241 : decode b_Mo_undoRows 241 = .ok (.iload 6, 2) := by decide +kernel
theorem d_Mo_undoRows_243 : decode b_Mo_undoRows 243 = .ok (.iload 4, 2) := by decide +kernel
theorem d_Mo_undoRows_245 : decode b_Mo_undoRows 245 = .ok (.if_icmp .ge 23, 3) := by decide +kernel
theorem d_Mo_undoRows_248 : decode b_Mo_undoRows 248 = .ok (.aload_n 0, 1) := by decide +kernel
theorem d_Mo_undoRows_249 : decode b_Mo_undoRows 249 = .ok (.getfield 39, 3) := by decide +kernel
theorem d_Mo_undoRows_252 : decode b_Mo_undoRows 252 = .ok (.iload 6, 2) := by decide +kernel
theorem d_Mo_undoRows_254 : decode b_Mo_undoRows 254 = .ok (.aload_n 0, 1) := by decide +kernel
theorem d_Mo_undoRows_255 : decode b_Mo_undoRows 255 = .ok (.getfield 36, 3) := by decide +kernel
theorem d_Mo_undoRows_258 : decode b_Mo_undoRows 258 = .ok (.iload 6, 2) := by decide +kernel
theorem d_Mo_undoRows_260 : decode b_Mo_undoRows 260 = .ok (.iaload, 1) := by decide +kernel
theorem d_Mo_undoRows_261 : decode b_Mo_undoRows 261 = .ok (.iastore, 1) := by decide +kernel
theorem d_Mo_undoRows_262 : decode b_Mo_undoRows 262 = .ok (.iinc 6 1, 3) := by decide +kernel
theorem d_Mo_undoRows_265 : decode b_Mo_undoRows 265 = .ok (.goto (-24), 3) := by decide +kernel
theorem d_Mo_undoRows_268 : decode b_Mo_undoRows 268 = .ok (.aload_n 0, 1) := by decide +kernel
theorem d_Mo_undoRows_269 : decode b_Mo_undoRows 269 = .ok (.iload 4, 2) := by decide +kernel
theorem d_Mo_undoRows_271 : decode b_Mo_undoRows 271 = .ok (.putfield 106, 3) := by decide +kernel
theorem d_Mo_undoRows_274 : decode b_Mo_undoRows 274 = .ok (.iload 5, 2) := by decide +kernel
theorem d_Mo_undoRows_276 : decode b_Mo_undoRows 276 = .ok (.ireturn, 1) := by decide +kernel
noncomputable def f_Mo_undoRows_L241  (n0 : Nat) : Nat → mH → Nat → Int32 → Int32 → Int32 → Option (Int32 × mH)
  | 0, _, _, _, _, _ => none
  | n + 1, h0, a0, x4, x5, x6 =>
    if x4 ≤ x6 then
      mpt h0 a0 10 13 (.int x4) fun h12 =>
      mge (narrow .boolean (.int x5) = .int x5) <|
      some (x5, h12)
    else
      mgr h0 a0 10 14 fun r14 =>
      mgr h0 a0 10 12 fun r15 =>
      mai h0 r15 .int x6 fun v16 =>
      mas h0 r14 .int x6 v16 fun h17 =>
      mnm (x6 + 1) fun v18 =>
      (f_Mo_undoRows_L241 n0 n) h17 a0 x4 x5 v18
noncomputable def f_Mo_undoRows_B238  (n0 : Nat) (h0 : mH) (a0 : Nat) (x4 : Int32) (x5 : Int32) : Option (Int32 × mH) :=
  f_Mo_undoRows_L241 n0 n0 h0 a0 x4 x5 0
noncomputable def f_Mo_undoRows_B227 (K35 : mH → Nat → Int32 → Int32 → Int32 → Int32 → Int32 → Option (Int32 × mH)) (n0 : Nat) (h0 : mH) (a0 : Nat) (x2 : Int32) (x3 : Int32) (x4 : Int32) (x5 : Int32) (x6 : Int32) : Option (Int32 × mH) :=
  mnm (x6 + (x2 + 1)) fun v26 =>
  K35 h0 a0 x2 x3 x4 x5 v26
noncomputable def f_Mo_undoRows_B181 (K35 : mH → Nat → Int32 → Int32 → Int32 → Int32 → Int32 → Option (Int32 × mH)) (K102 : mH → Nat → Int32 → Int32 → Int32 → Int32 → Int32 → Int32 → Int32 → Int32 → Option (Int32 × mH)) (n0 : Nat) (h0 : mH) (a0 : Nat) (x2 : Int32) (x3 : Int32) (x4 : Int32) (x5 : Int32) (x6 : Int32) (x7 : Int32) (x8 : Int32) (x9 : Int32) (x10 : Int32) (x11 : Int32) (p0 : Int32) : Option (Int32 × mH) :=
  mgr h0 a0 10 12 fun r31 =>
  mgr h0 a0 10 14 fun r32 =>
  mai h0 r32 .int ((x6 + 1) + x9) fun v33 =>
  mcl (f_Mo_added n0 h0 x7 x10 x11 p0) fun v35 h36 =>
  mas h36 r31 .int x4 ((v33 + v35) &&& 255) fun h37 =>
  mnm (x4 + 1) fun v38 =>
  mnm (x9 + 1) fun v39 =>
  K102 h37 a0 x2 x3 v38 x5 x6 x7 x8 v39
noncomputable def f_Mo_undoRows_B180 (K35 : mH → Nat → Int32 → Int32 → Int32 → Int32 → Int32 → Option (Int32 × mH)) (K102 : mH → Nat → Int32 → Int32 → Int32 → Int32 → Int32 → Int32 → Int32 → Int32 → Option (Int32 × mH)) (n0 : Nat) (h0 : mH) (a0 : Nat) (x2 : Int32) (x3 : Int32) (x4 : Int32) (x5 : Int32) (x6 : Int32) (x7 : Int32) (x8 : Int32) (x9 : Int32) (x10 : Int32) (x11 : Int32) : Option (Int32 × mH) :=
  f_Mo_undoRows_B181 K35 K102 n0 h0 a0 x2 x3 x4 x5 x6 x7 x8 x9 x10 x11 0
noncomputable def f_Mo_undoRows_B153 (K35 : mH → Nat → Int32 → Int32 → Int32 → Int32 → Int32 → Option (Int32 × mH)) (K102 : mH → Nat → Int32 → Int32 → Int32 → Int32 → Int32 → Int32 → Int32 → Int32 → Option (Int32 × mH)) (n0 : Nat) (h0 : mH) (a0 : Nat) (x2 : Int32) (x3 : Int32) (x4 : Int32) (x5 : Int32) (x6 : Int32) (x7 : Int32) (x8 : Int32) (x9 : Int32) (x10 : Int32) (p0 : Int32) : Option (Int32 × mH) :=
  if x6 ≤ 0 then
    f_Mo_undoRows_B180 K35 K102 n0 h0 a0 x2 x3 x4 x5 x6 x7 x8 x9 x10 p0
  else
    if x9 < x3 then
      f_Mo_undoRows_B180 K35 K102 n0 h0 a0 x2 x3 x4 x5 x6 x7 x8 x9 x10 p0
    else
      mgr h0 a0 10 12 fun r41 =>
      mai h0 r41 .int ((x4 - x2) - x3) fun v42 =>
      f_Mo_undoRows_B181 K35 K102 n0 h0 a0 x2 x3 x4 x5 x6 x7 x8 x9 x10 p0 v42
noncomputable def f_Mo_undoRows_B133 (K35 : mH → Nat → Int32 → Int32 → Int32 → Int32 → Int32 → Option (Int32 × mH)) (K102 : mH → Nat → Int32 → Int32 → Int32 → Int32 → Int32 → Int32 → Int32 → Int32 → Option (Int32 × mH)) (n0 : Nat) (h0 : mH) (a0 : Nat) (x2 : Int32) (x3 : Int32) (x4 : Int32) (x5 : Int32) (x6 : Int32) (x7 : Int32) (x8 : Int32) (x9 : Int32) (p0 : Int32) : Option (Int32 × mH) :=
  if x6 ≤ 0 then
    f_Mo_undoRows_B153 K35 K102 n0 h0 a0 x2 x3 x4 x5 x6 x7 x8 x9 p0 0
  else
    mgr h0 a0 10 12 fun r43 =>
    mai h0 r43 .int (x4 - x2) fun v44 =>
    f_Mo_undoRows_B153 K35 K102 n0 h0 a0 x2 x3 x4 x5 x6 x7 x8 x9 p0 v44
noncomputable def f_Mo_undoRows_L102 (K35 : mH → Nat → Int32 → Int32 → Int32 → Int32 → Int32 → Option (Int32 × mH)) (n0 : Nat) : Nat → mH → Nat → Int32 → Int32 → Int32 → Int32 → Int32 → Int32 → Int32 → Int32 → Option (Int32 × mH)
  | 0, _, _, _, _, _, _, _, _, _, _ => none
  | n + 1, h0, a0, x2, x3, x4, x5, x6, x7, x8, x9 =>
    if x8 ≤ x9 then
      f_Mo_undoRows_B227 K35 n0 h0 a0 x2 x3 x4 x5 x6
    else
      if x5 = 0 then
        f_Mo_undoRows_B227 K35 n0 h0 a0 x2 x3 x4 x5 x6
      else
        if x9 < x3 then
          f_Mo_undoRows_B133 K35 (f_Mo_undoRows_L102 K35 n0 n) n0 h0 a0 x2 x3 x4 x5 x6 x7 x8 x9 0
        else
          mgr h0 a0 10 12 fun r45 =>
          mai h0 r45 .int (x4 - x3) fun v46 =>
          f_Mo_undoRows_B133 K35 (f_Mo_undoRows_L102 K35 n0 n) n0 h0 a0 x2 x3 x4 x5 x6 x7 x8 x9 v46
noncomputable def f_Mo_undoRows_B97 (K35 : mH → Nat → Int32 → Int32 → Int32 → Int32 → Int32 → Option (Int32 × mH)) (n0 : Nat) (h0 : mH) (a0 : Nat) (x2 : Int32) (x3 : Int32) (x4 : Int32) (x5 : Int32) (x6 : Int32) (x7 : Int32) (p0 : Int32) : Option (Int32 × mH) :=
  f_Mo_undoRows_L102 K35 n0 n0 h0 a0 x2 x3 x4 x5 x6 x7 p0 0
noncomputable def f_Mo_undoRows_B69 (K35 : mH → Nat → Int32 → Int32 → Int32 → Int32 → Int32 → Option (Int32 × mH)) (n0 : Nat) (h0 : mH) (a0 : Nat) (x2 : Int32) (x3 : Int32) (x4 : Int32) (x6 : Int32) (x7 : Int32) (p0 : Int32) : Option (Int32 × mH) :=
  mgi h0 a0 10 13 fun v23 =>
  if x2 ≤ ((v23 - x6) - 1) then
    f_Mo_undoRows_B97 K35 n0 h0 a0 x2 x3 x4 p0 x6 x7 x2
  else
    mgi h0 a0 10 13 fun v47 =>
    f_Mo_undoRows_B97 K35 n0 h0 a0 x2 x3 x4 p0 x6 x7 ((v47 - x6) - 1)
noncomputable def f_Mo_undoRows_L35  (n0 : Nat) : Nat → mH → Nat → Int32 → Int32 → Int32 → Int32 → Int32 → Option (Int32 × mH)
  | 0, _, _, _, _, _, _, _ => none
  | n + 1, h0, a0, x2, x3, x4, x5, x6 =>
    mgi h0 a0 10 13 fun v9 =>
    if v9 ≤ x6 then
      f_Mo_undoRows_B238 n0 h0 a0 x4 x5
    else
      if x5 = 0 then
        f_Mo_undoRows_B238 n0 h0 a0 x4 x5
      else
        mgr h0 a0 10 14 fun r20 =>
        mai h0 r20 .int x6 fun v21 =>
        if 4 < v21 then
          f_Mo_undoRows_B69 (f_Mo_undoRows_L35 n0 n) n0 h0 a0 x2 x3 x4 x6 v21 0
        else
          f_Mo_undoRows_B69 (f_Mo_undoRows_L35 n0 n) n0 h0 a0 x2 x3 x4 x6 v21 1
noncomputable def f_Mo_undoRows  (n0 : Nat) (h0 : mH) (a0 : Nat) (x1 : Int32) : Option (Int32 × mH) :=
  mis h0 a0 10 <|
  mcl (f_Mo_rowBytes n0 h0 a0 x1) fun v2 h3 =>
  mgr h3 a0 10 7 fun r4 =>
  mai h3 r4 .int x1 fun v5 =>
  mgr h3 a0 10 8 fun r6 =>
  mai h3 r6 .int x1 fun v7 =>
  mnm (((v5 * v7) + 7) / 8) fun v8 =>
  f_Mo_undoRows_L35 n0 n0 h3 a0 v2 v8 0 1 0
set_option maxHeartbeats 4000000 in
set_option maxRecDepth 100000 in
theorem cb_Mo_undoRows_L241 {X : mX} {ad : Nat → Nat} {ln : Launch} (O : mO X ad R_Mo b_Mo_undoRows 13 (mR 3 67) ln) (r' : Int32) (h' : mH) (hE : mEnd X ad (some .boolean) (some (.int r')) h') (n0 : Nat) : ∀ (n : Nat) (h0 : mH) (a0 : Nat) (x4 : Int32) (x5 : Int32) (x6 : Int32), f_Mo_undoRows_L241 n0 n h0 a0 x4 x5 x6 = some (r', h') → mAW X ad 0 0 241 [(0, .ref a0), (4, .int x4), (5, .int x5), (6, .int x6)] [] h0 := by
  intro n
  induction n with
  | zero =>
    intro h0 a0 x4 x5 x6 hf
    rw [f_Mo_undoRows_L241.eq_1] at hf
    cases hf
  | succ n ih =>
    intro h0 a0 x4 x5 x6 hf
    rw [f_Mo_undoRows_L241.eq_2] at hf
    refine ax_iload O d_Mo_undoRows_241 3 rfl ?_
    refine ax_iload O d_Mo_undoRows_243 1 rfl ?_
    refine ax_icmp_ge (tgt := 268) O d_Mo_undoRows_245 (by decide) (fun q11 => ?_) (fun q11 => ?_)
    · rw [if_pos q11] at hf
      refine ax_aload_n O d_Mo_undoRows_268 rfl 0 rfl ?_
      refine ax_iload O d_Mo_undoRows_269 1 rfl ?_
      obtain ⟨fh12, h12, ch12, kh12, eh12, hf⟩ := mpt_some hf
      refine ax_put (v := .int x4) O fp_Mo_106 ch12 kh12 eh12 rfl rfl d_Mo_undoRows_271 ?_
      refine ax_iload O d_Mo_undoRows_274 2 rfl ?_
      obtain ⟨q13, hf⟩ := mge_some hf
      exact ax_retE O hE hf q13 d_Mo_undoRows_276
    · rw [if_neg q11] at hf
      refine ax_aload_n O d_Mo_undoRows_248 rfl 0 rfl ?_
      obtain ⟨fr14, r14, cr14, kr14, hf⟩ := mgr_some hf
      refine ax_get O fg_Mo_39 cr14 kr14 d_Mo_undoRows_249 ?_
      refine ax_iload O d_Mo_undoRows_252 3 rfl ?_
      refine ax_aload_n O d_Mo_undoRows_254 rfl 0 rfl ?_
      obtain ⟨fr15, r15, cr15, kr15, hf⟩ := mgr_some hf
      refine ax_get O fg_Mo_36 cr15 kr15 d_Mo_undoRows_255 ?_
      refine ax_iload O d_Mo_undoRows_258 3 rfl ?_
      obtain ⟨nv16, fv16, v16, cv16, iv16, kv16, hf⟩ := mai_some hf
      refine ax_iald O cv16 iv16 kv16 d_Mo_undoRows_260 ?_
      obtain ⟨nh17, fh17, h17, ch17, ih17, eh17, hf⟩ := mas_some hf
      refine ax_iast O ch17 ih17 eh17 d_Mo_undoRows_261 ?_
      obtain ⟨v18, ev18, hf⟩ := mnm_some hf
      refine ax_iinc (j := 3) (v := v18) (lv' := [(6, .int v18), (0, .ref a0), (4, .int x4), (5, .int x5)]) O d_Mo_undoRows_262 rfl (by rw [ev18]; rfl) (by decide) rfl ?_
      refine ax_goto (tgt := 241) O d_Mo_undoRows_265 (by decide) ?_
      refine ax_sub [1, 2, 3, 0] rfl ?_
      exact ih _ _ _ _ _ hf
set_option maxHeartbeats 4000000 in
set_option maxRecDepth 100000 in
theorem cb_Mo_undoRows_B238 {X : mX} {ad : Nat → Nat} {ln : Launch} (O : mO X ad R_Mo b_Mo_undoRows 13 (mR 3 67) ln) (r' : Int32) (h' : mH) (hE : mEnd X ad (some .boolean) (some (.int r')) h') (n0 : Nat) (h0 : mH) (a0 : Nat) (x4 : Int32) (x5 : Int32) (hf : f_Mo_undoRows_B238 n0 h0 a0 x4 x5 = some (r', h')) : mAW X ad 0 0 238 [(0, .ref a0), (4, .int x4), (5, .int x5)] [] h0 := by
  unfold f_Mo_undoRows_B238 at hf
  refine ax_iconst (v := 0) O d_Mo_undoRows_238 (by decide) ?_
  refine ax_istore (lv' := [(6, .int 0), (0, .ref a0), (4, .int x4), (5, .int x5)]) O d_Mo_undoRows_239 (by decide) rfl ?_
  refine ax_sub [1, 2, 3, 0] rfl ?_
  exact cb_Mo_undoRows_L241 O _ _ hE n0 n0 _ _ _ _ _ hf
set_option maxHeartbeats 4000000 in
set_option maxRecDepth 100000 in
theorem cb_Mo_undoRows_B227 {X : mX} {ad : Nat → Nat} {ln : Launch} (O : mO X ad R_Mo b_Mo_undoRows 13 (mR 3 67) ln) (K35 : mH → Nat → Int32 → Int32 → Int32 → Int32 → Int32 → Option (Int32 × mH)) (r' : Int32) (h' : mH) (hE : mEnd X ad (some .boolean) (some (.int r')) h') (hK35 : ∀ (h : mH) (a0 : Nat) (x2 : Int32) (x3 : Int32) (x4 : Int32) (x5 : Int32) (x6 : Int32), K35 h a0 x2 x3 x4 x5 x6 = some (r', h') → mAW X ad 0 0 35 [(0, .ref a0), (2, .int x2), (3, .int x3), (4, .int x4), (5, .int x5), (6, .int x6)] [] h) (n0 : Nat) (h0 : mH) (a0 : Nat) (x2 : Int32) (x3 : Int32) (x4 : Int32) (x5 : Int32) (x6 : Int32) (hf : f_Mo_undoRows_B227 K35 n0 h0 a0 x2 x3 x4 x5 x6 = some (r', h')) : mAW X ad 0 0 227 [(0, .ref a0), (2, .int x2), (3, .int x3), (4, .int x4), (5, .int x5), (6, .int x6)] [] h0 := by
  unfold f_Mo_undoRows_B227 at hf
  refine ax_iload O d_Mo_undoRows_227 5 rfl ?_
  refine ax_iload_n O d_Mo_undoRows_229 rfl 1 rfl ?_
  refine ax_iconst (v := 1) O d_Mo_undoRows_230 (by decide) ?_
  refine ax_iadd O d_Mo_undoRows_231 ?_
  refine ax_iadd O d_Mo_undoRows_232 ?_
  obtain ⟨v26, ev26, hf⟩ := mnm_some hf
  refine ax_nmi ev26 ?_
  refine ax_istore (lv' := [(6, .int v26), (0, .ref a0), (2, .int x2), (3, .int x3), (4, .int x4), (5, .int x5)]) O d_Mo_undoRows_233 (by decide) rfl ?_
  refine ax_goto (tgt := 35) O d_Mo_undoRows_235 (by decide) ?_
  refine ax_sub [1, 2, 3, 4, 5, 0] rfl ?_
  exact hK35 _ _ _ _ _ _ _ hf
set_option maxHeartbeats 4000000 in
set_option maxRecDepth 100000 in
theorem cb_Mo_undoRows_B181 {X : mX} {ad : Nat → Nat} {ln : Launch} (O : mO X ad R_Mo b_Mo_undoRows 13 (mR 3 67) ln) (K35 : mH → Nat → Int32 → Int32 → Int32 → Int32 → Int32 → Option (Int32 × mH)) (K102 : mH → Nat → Int32 → Int32 → Int32 → Int32 → Int32 → Int32 → Int32 → Int32 → Option (Int32 × mH)) (r' : Int32) (h' : mH) (hE : mEnd X ad (some .boolean) (some (.int r')) h') (hK35 : ∀ (h : mH) (a0 : Nat) (x2 : Int32) (x3 : Int32) (x4 : Int32) (x5 : Int32) (x6 : Int32), K35 h a0 x2 x3 x4 x5 x6 = some (r', h') → mAW X ad 0 0 35 [(0, .ref a0), (2, .int x2), (3, .int x3), (4, .int x4), (5, .int x5), (6, .int x6)] [] h) (hK102 : ∀ (h : mH) (a0 : Nat) (x2 : Int32) (x3 : Int32) (x4 : Int32) (x5 : Int32) (x6 : Int32) (x7 : Int32) (x8 : Int32) (x9 : Int32), K102 h a0 x2 x3 x4 x5 x6 x7 x8 x9 = some (r', h') → mAW X ad 0 0 102 [(0, .ref a0), (2, .int x2), (3, .int x3), (4, .int x4), (5, .int x5), (6, .int x6), (7, .int x7), (8, .int x8), (9, .int x9)] [] h) (n0 : Nat) (h0 : mH) (a0 : Nat) (x2 : Int32) (x3 : Int32) (x4 : Int32) (x5 : Int32) (x6 : Int32) (x7 : Int32) (x8 : Int32) (x9 : Int32) (x10 : Int32) (x11 : Int32) (p0 : Int32) (hf : f_Mo_undoRows_B181 K35 K102 n0 h0 a0 x2 x3 x4 x5 x6 x7 x8 x9 x10 x11 p0 = some (r', h')) : mAW X ad 0 0 181 [(0, .ref a0), (2, .int x2), (3, .int x3), (4, .int x4), (5, .int x5), (6, .int x6), (7, .int x7), (8, .int x8), (9, .int x9), (10, .int x10), (11, .int x11)] [.int p0] h0 := by
  unfold f_Mo_undoRows_B181 at hf
  refine ax_istore (lv' := [(12, .int p0), (0, .ref a0), (2, .int x2), (3, .int x3), (4, .int x4), (5, .int x5), (6, .int x6), (7, .int x7), (8, .int x8), (9, .int x9), (10, .int x10), (11, .int x11)]) O d_Mo_undoRows_181 (by decide) rfl ?_
  refine ax_aload_n O d_Mo_undoRows_183 rfl 1 rfl ?_
  obtain ⟨fr31, r31, cr31, kr31, hf⟩ := mgr_some hf
  refine ax_get O fg_Mo_36 cr31 kr31 d_Mo_undoRows_184 ?_
  refine ax_iload O d_Mo_undoRows_187 4 rfl ?_
  refine ax_aload_n O d_Mo_undoRows_189 rfl 1 rfl ?_
  obtain ⟨fr32, r32, cr32, kr32, hf⟩ := mgr_some hf
  refine ax_get O fg_Mo_39 cr32 kr32 d_Mo_undoRows_190 ?_
  refine ax_iload O d_Mo_undoRows_193 6 rfl ?_
  refine ax_iconst (v := 1) O d_Mo_undoRows_195 (by decide) ?_
  refine ax_iadd O d_Mo_undoRows_196 ?_
  refine ax_iload O d_Mo_undoRows_197 9 rfl ?_
  refine ax_iadd O d_Mo_undoRows_199 ?_
  obtain ⟨nv33, fv33, v33, cv33, iv33, kv33, hf⟩ := mai_some hf
  refine ax_iald O cv33 iv33 kv33 d_Mo_undoRows_200 ?_
  refine ax_iload O d_Mo_undoRows_201 7 rfl ?_
  refine ax_iload O d_Mo_undoRows_203 10 rfl ?_
  refine ax_iload O d_Mo_undoRows_205 11 rfl ?_
  refine ax_iload O d_Mo_undoRows_207 0 rfl ?_
  obtain ⟨v35, h36, mh36, hf⟩ := mcl_some hf
  refine ax_callS (As := [.int x7, .int x10, .int x11, .int p0]) (rest := [.int v33, .int x4, .ref r31]) O cw_Mo_added st_Mo_added lk_Mo_241 (c_Mo_added mh36) rfl ⟨rfl, rfl⟩ (by decide) (by decide) (Nat.le_of_ble_eq_true rfl) d_Mo_undoRows_209 ?_
  refine ax_iadd O d_Mo_undoRows_212 ?_
  refine ax_sipush (v := 255) O d_Mo_undoRows_213 (by decide) ?_
  refine ax_iand O d_Mo_undoRows_216 ?_
  obtain ⟨nh37, fh37, h37, ch37, ih37, eh37, hf⟩ := mas_some hf
  refine ax_iast O ch37 ih37 eh37 d_Mo_undoRows_217 ?_
  obtain ⟨v38, ev38, hf⟩ := mnm_some hf
  refine ax_iinc (j := 4) (v := v38) (lv' := [(4, .int v38), (12, .int p0), (0, .ref a0), (2, .int x2), (3, .int x3), (5, .int x5), (6, .int x6), (7, .int x7), (8, .int x8), (9, .int x9), (10, .int x10), (11, .int x11)]) O d_Mo_undoRows_218 rfl (by rw [ev38]; rfl) (by decide) rfl ?_
  obtain ⟨v39, ev39, hf⟩ := mnm_some hf
  refine ax_iinc (j := 9) (v := v39) (lv' := [(9, .int v39), (4, .int v38), (12, .int p0), (0, .ref a0), (2, .int x2), (3, .int x3), (5, .int x5), (6, .int x6), (7, .int x7), (8, .int x8), (10, .int x10), (11, .int x11)]) O d_Mo_undoRows_221 rfl (by rw [ev39]; rfl) (by decide) rfl ?_
  refine ax_goto (tgt := 102) O d_Mo_undoRows_224 (by decide) ?_
  refine ax_sub [3, 4, 5, 1, 6, 7, 8, 9, 0] rfl ?_
  exact hK102 _ _ _ _ _ _ _ _ _ _ hf
set_option maxHeartbeats 4000000 in
set_option maxRecDepth 100000 in
theorem cb_Mo_undoRows_B180 {X : mX} {ad : Nat → Nat} {ln : Launch} (O : mO X ad R_Mo b_Mo_undoRows 13 (mR 3 67) ln) (K35 : mH → Nat → Int32 → Int32 → Int32 → Int32 → Int32 → Option (Int32 × mH)) (K102 : mH → Nat → Int32 → Int32 → Int32 → Int32 → Int32 → Int32 → Int32 → Int32 → Option (Int32 × mH)) (r' : Int32) (h' : mH) (hE : mEnd X ad (some .boolean) (some (.int r')) h') (hK35 : ∀ (h : mH) (a0 : Nat) (x2 : Int32) (x3 : Int32) (x4 : Int32) (x5 : Int32) (x6 : Int32), K35 h a0 x2 x3 x4 x5 x6 = some (r', h') → mAW X ad 0 0 35 [(0, .ref a0), (2, .int x2), (3, .int x3), (4, .int x4), (5, .int x5), (6, .int x6)] [] h) (hK102 : ∀ (h : mH) (a0 : Nat) (x2 : Int32) (x3 : Int32) (x4 : Int32) (x5 : Int32) (x6 : Int32) (x7 : Int32) (x8 : Int32) (x9 : Int32), K102 h a0 x2 x3 x4 x5 x6 x7 x8 x9 = some (r', h') → mAW X ad 0 0 102 [(0, .ref a0), (2, .int x2), (3, .int x3), (4, .int x4), (5, .int x5), (6, .int x6), (7, .int x7), (8, .int x8), (9, .int x9)] [] h) (n0 : Nat) (h0 : mH) (a0 : Nat) (x2 : Int32) (x3 : Int32) (x4 : Int32) (x5 : Int32) (x6 : Int32) (x7 : Int32) (x8 : Int32) (x9 : Int32) (x10 : Int32) (x11 : Int32) (hf : f_Mo_undoRows_B180 K35 K102 n0 h0 a0 x2 x3 x4 x5 x6 x7 x8 x9 x10 x11 = some (r', h')) : mAW X ad 0 0 180 [(0, .ref a0), (2, .int x2), (3, .int x3), (4, .int x4), (5, .int x5), (6, .int x6), (7, .int x7), (8, .int x8), (9, .int x9), (10, .int x10), (11, .int x11)] [] h0 := by
  unfold f_Mo_undoRows_B180 at hf
  refine ax_iconst (v := 0) O d_Mo_undoRows_180 (by decide) ?_
  exact cb_Mo_undoRows_B181 O K35 K102 _ _ hE hK35 hK102 n0 _ _ _ _ _ _ _ _ _ _ _ _ _ hf
set_option maxHeartbeats 4000000 in
set_option maxRecDepth 100000 in
theorem cb_Mo_undoRows_B153 {X : mX} {ad : Nat → Nat} {ln : Launch} (O : mO X ad R_Mo b_Mo_undoRows 13 (mR 3 67) ln) (K35 : mH → Nat → Int32 → Int32 → Int32 → Int32 → Int32 → Option (Int32 × mH)) (K102 : mH → Nat → Int32 → Int32 → Int32 → Int32 → Int32 → Int32 → Int32 → Int32 → Option (Int32 × mH)) (r' : Int32) (h' : mH) (hE : mEnd X ad (some .boolean) (some (.int r')) h') (hK35 : ∀ (h : mH) (a0 : Nat) (x2 : Int32) (x3 : Int32) (x4 : Int32) (x5 : Int32) (x6 : Int32), K35 h a0 x2 x3 x4 x5 x6 = some (r', h') → mAW X ad 0 0 35 [(0, .ref a0), (2, .int x2), (3, .int x3), (4, .int x4), (5, .int x5), (6, .int x6)] [] h) (hK102 : ∀ (h : mH) (a0 : Nat) (x2 : Int32) (x3 : Int32) (x4 : Int32) (x5 : Int32) (x6 : Int32) (x7 : Int32) (x8 : Int32) (x9 : Int32), K102 h a0 x2 x3 x4 x5 x6 x7 x8 x9 = some (r', h') → mAW X ad 0 0 102 [(0, .ref a0), (2, .int x2), (3, .int x3), (4, .int x4), (5, .int x5), (6, .int x6), (7, .int x7), (8, .int x8), (9, .int x9)] [] h) (n0 : Nat) (h0 : mH) (a0 : Nat) (x2 : Int32) (x3 : Int32) (x4 : Int32) (x5 : Int32) (x6 : Int32) (x7 : Int32) (x8 : Int32) (x9 : Int32) (x10 : Int32) (p0 : Int32) (hf : f_Mo_undoRows_B153 K35 K102 n0 h0 a0 x2 x3 x4 x5 x6 x7 x8 x9 x10 p0 = some (r', h')) : mAW X ad 0 0 153 [(0, .ref a0), (2, .int x2), (3, .int x3), (4, .int x4), (5, .int x5), (6, .int x6), (7, .int x7), (8, .int x8), (9, .int x9), (10, .int x10)] [.int p0] h0 := by
  unfold f_Mo_undoRows_B153 at hf
  refine ax_istore (lv' := [(11, .int p0), (0, .ref a0), (2, .int x2), (3, .int x3), (4, .int x4), (5, .int x5), (6, .int x6), (7, .int x7), (8, .int x8), (9, .int x9), (10, .int x10)]) O d_Mo_undoRows_153 (by decide) rfl ?_
  refine ax_iload O d_Mo_undoRows_155 6 rfl ?_
  refine ax_if_le (tgt := 180) O d_Mo_undoRows_157 (by decide) (fun q30 => ?_) (fun q30 => ?_)
  · rw [if_pos q30] at hf
    refine ax_sub [1, 2, 3, 4, 5, 6, 7, 8, 9, 10, 0] rfl ?_
    exact cb_Mo_undoRows_B180 O K35 K102 _ _ hE hK35 hK102 n0 _ _ _ _ _ _ _ _ _ _ _ _ hf
  · rw [if_neg q30] at hf
    refine ax_iload O d_Mo_undoRows_160 9 rfl ?_
    refine ax_iload_n O d_Mo_undoRows_162 rfl 3 rfl ?_
    refine ax_icmp_lt (tgt := 180) O d_Mo_undoRows_163 (by decide) (fun q40 => ?_) (fun q40 => ?_)
    · rw [if_pos q40] at hf
      refine ax_sub [1, 2, 3, 4, 5, 6, 7, 8, 9, 10, 0] rfl ?_
      exact cb_Mo_undoRows_B180 O K35 K102 _ _ hE hK35 hK102 n0 _ _ _ _ _ _ _ _ _ _ _ _ hf
    · rw [if_neg q40] at hf
      refine ax_aload_n O d_Mo_undoRows_166 rfl 1 rfl ?_
      obtain ⟨fr41, r41, cr41, kr41, hf⟩ := mgr_some hf
      refine ax_get O fg_Mo_36 cr41 kr41 d_Mo_undoRows_167 ?_
      refine ax_iload O d_Mo_undoRows_170 4 rfl ?_
      refine ax_iload_n O d_Mo_undoRows_172 rfl 2 rfl ?_
      refine ax_isub O d_Mo_undoRows_173 ?_
      refine ax_iload_n O d_Mo_undoRows_174 rfl 3 rfl ?_
      refine ax_isub O d_Mo_undoRows_175 ?_
      obtain ⟨nv42, fv42, v42, cv42, iv42, kv42, hf⟩ := mai_some hf
      refine ax_iald O cv42 iv42 kv42 d_Mo_undoRows_176 ?_
      refine ax_goto (tgt := 181) O d_Mo_undoRows_177 (by decide) ?_
      refine ax_sub [1, 2, 3, 4, 5, 6, 7, 8, 9, 10, 0] rfl ?_
      exact cb_Mo_undoRows_B181 O K35 K102 _ _ hE hK35 hK102 n0 _ _ _ _ _ _ _ _ _ _ _ _ _ hf
set_option maxHeartbeats 4000000 in
set_option maxRecDepth 100000 in
theorem cb_Mo_undoRows_B133 {X : mX} {ad : Nat → Nat} {ln : Launch} (O : mO X ad R_Mo b_Mo_undoRows 13 (mR 3 67) ln) (K35 : mH → Nat → Int32 → Int32 → Int32 → Int32 → Int32 → Option (Int32 × mH)) (K102 : mH → Nat → Int32 → Int32 → Int32 → Int32 → Int32 → Int32 → Int32 → Int32 → Option (Int32 × mH)) (r' : Int32) (h' : mH) (hE : mEnd X ad (some .boolean) (some (.int r')) h') (hK35 : ∀ (h : mH) (a0 : Nat) (x2 : Int32) (x3 : Int32) (x4 : Int32) (x5 : Int32) (x6 : Int32), K35 h a0 x2 x3 x4 x5 x6 = some (r', h') → mAW X ad 0 0 35 [(0, .ref a0), (2, .int x2), (3, .int x3), (4, .int x4), (5, .int x5), (6, .int x6)] [] h) (hK102 : ∀ (h : mH) (a0 : Nat) (x2 : Int32) (x3 : Int32) (x4 : Int32) (x5 : Int32) (x6 : Int32) (x7 : Int32) (x8 : Int32) (x9 : Int32), K102 h a0 x2 x3 x4 x5 x6 x7 x8 x9 = some (r', h') → mAW X ad 0 0 102 [(0, .ref a0), (2, .int x2), (3, .int x3), (4, .int x4), (5, .int x5), (6, .int x6), (7, .int x7), (8, .int x8), (9, .int x9)] [] h) (n0 : Nat) (h0 : mH) (a0 : Nat) (x2 : Int32) (x3 : Int32) (x4 : Int32) (x5 : Int32) (x6 : Int32) (x7 : Int32) (x8 : Int32) (x9 : Int32) (p0 : Int32) (hf : f_Mo_undoRows_B133 K35 K102 n0 h0 a0 x2 x3 x4 x5 x6 x7 x8 x9 p0 = some (r', h')) : mAW X ad 0 0 133 [(0, .ref a0), (2, .int x2), (3, .int x3), (4, .int x4), (5, .int x5), (6, .int x6), (7, .int x7), (8, .int x8), (9, .int x9)] [.int p0] h0 := by
  unfold f_Mo_undoRows_B133 at hf
  refine ax_istore (lv' := [(10, .int p0), (0, .ref a0), (2, .int x2), (3, .int x3), (4, .int x4), (5, .int x5), (6, .int x6), (7, .int x7), (8, .int x8), (9, .int x9)]) O d_Mo_undoRows_133 (by decide) rfl ?_
  refine ax_iload O d_Mo_undoRows_135 6 rfl ?_
  refine ax_if_le (tgt := 152) O d_Mo_undoRows_137 (by decide) (fun q29 => ?_) (fun q29 => ?_)
  · rw [if_pos q29] at hf
    refine ax_iconst (v := 0) O d_Mo_undoRows_152 (by decide) ?_
    refine ax_sub [1, 2, 3, 4, 5, 6, 7, 8, 9, 0] rfl ?_
    exact cb_Mo_undoRows_B153 O K35 K102 _ _ hE hK35 hK102 n0 _ _ _ _ _ _ _ _ _ _ _ _ hf
  · rw [if_neg q29] at hf
    refine ax_aload_n O d_Mo_undoRows_140 rfl 1 rfl ?_
    obtain ⟨fr43, r43, cr43, kr43, hf⟩ := mgr_some hf
    refine ax_get O fg_Mo_36 cr43 kr43 d_Mo_undoRows_141 ?_
    refine ax_iload O d_Mo_undoRows_144 4 rfl ?_
    refine ax_iload_n O d_Mo_undoRows_146 rfl 2 rfl ?_
    refine ax_isub O d_Mo_undoRows_147 ?_
    obtain ⟨nv44, fv44, v44, cv44, iv44, kv44, hf⟩ := mai_some hf
    refine ax_iald O cv44 iv44 kv44 d_Mo_undoRows_148 ?_
    refine ax_goto (tgt := 153) O d_Mo_undoRows_149 (by decide) ?_
    refine ax_sub [1, 2, 3, 4, 5, 6, 7, 8, 9, 0] rfl ?_
    exact cb_Mo_undoRows_B153 O K35 K102 _ _ hE hK35 hK102 n0 _ _ _ _ _ _ _ _ _ _ _ _ hf
set_option maxHeartbeats 4000000 in
set_option maxRecDepth 100000 in
theorem cb_Mo_undoRows_L102 {X : mX} {ad : Nat → Nat} {ln : Launch} (O : mO X ad R_Mo b_Mo_undoRows 13 (mR 3 67) ln) (K35 : mH → Nat → Int32 → Int32 → Int32 → Int32 → Int32 → Option (Int32 × mH)) (r' : Int32) (h' : mH) (hE : mEnd X ad (some .boolean) (some (.int r')) h') (hK35 : ∀ (h : mH) (a0 : Nat) (x2 : Int32) (x3 : Int32) (x4 : Int32) (x5 : Int32) (x6 : Int32), K35 h a0 x2 x3 x4 x5 x6 = some (r', h') → mAW X ad 0 0 35 [(0, .ref a0), (2, .int x2), (3, .int x3), (4, .int x4), (5, .int x5), (6, .int x6)] [] h) (n0 : Nat) : ∀ (n : Nat) (h0 : mH) (a0 : Nat) (x2 : Int32) (x3 : Int32) (x4 : Int32) (x5 : Int32) (x6 : Int32) (x7 : Int32) (x8 : Int32) (x9 : Int32), f_Mo_undoRows_L102 K35 n0 n h0 a0 x2 x3 x4 x5 x6 x7 x8 x9 = some (r', h') → mAW X ad 0 0 102 [(0, .ref a0), (2, .int x2), (3, .int x3), (4, .int x4), (5, .int x5), (6, .int x6), (7, .int x7), (8, .int x8), (9, .int x9)] [] h0 := by
  intro n
  induction n with
  | zero =>
    intro h0 a0 x2 x3 x4 x5 x6 x7 x8 x9 hf
    rw [f_Mo_undoRows_L102.eq_1] at hf
    cases hf
  | succ n ih =>
    intro h0 a0 x2 x3 x4 x5 x6 x7 x8 x9 hf
    rw [f_Mo_undoRows_L102.eq_2] at hf
    refine ax_iload O d_Mo_undoRows_102 8 rfl ?_
    refine ax_iload O d_Mo_undoRows_104 7 rfl ?_
    refine ax_icmp_ge (tgt := 227) O d_Mo_undoRows_106 (by decide) (fun q25 => ?_) (fun q25 => ?_)
    · rw [if_pos q25] at hf
      refine ax_sub [0, 1, 2, 3, 4, 5] rfl ?_
      exact cb_Mo_undoRows_B227 O K35 _ _ hE hK35 n0 _ _ _ _ _ _ _ hf
    · rw [if_neg q25] at hf
      refine ax_iload O d_Mo_undoRows_109 4 rfl ?_
      refine ax_if_eq (tgt := 227) O d_Mo_undoRows_111 (by decide) (fun q27 => ?_) (fun q27 => ?_)
      · rw [if_pos q27] at hf
        refine ax_sub [0, 1, 2, 3, 4, 5] rfl ?_
        exact cb_Mo_undoRows_B227 O K35 _ _ hE hK35 n0 _ _ _ _ _ _ _ hf
      · rw [if_neg q27] at hf
        refine ax_iload O d_Mo_undoRows_114 8 rfl ?_
        refine ax_iload_n O d_Mo_undoRows_116 rfl 2 rfl ?_
        refine ax_icmp_lt (tgt := 132) O d_Mo_undoRows_117 (by decide) (fun q28 => ?_) (fun q28 => ?_)
        · rw [if_pos q28] at hf
          refine ax_iconst (v := 0) O d_Mo_undoRows_132 (by decide) ?_
          exact cb_Mo_undoRows_B133 O K35 (f_Mo_undoRows_L102 K35 n0 n) _ _ hE hK35 ih n0 _ _ _ _ _ _ _ _ _ _ _ hf
        · rw [if_neg q28] at hf
          refine ax_aload_n O d_Mo_undoRows_120 rfl 0 rfl ?_
          obtain ⟨fr45, r45, cr45, kr45, hf⟩ := mgr_some hf
          refine ax_get O fg_Mo_36 cr45 kr45 d_Mo_undoRows_121 ?_
          refine ax_iload O d_Mo_undoRows_124 3 rfl ?_
          refine ax_iload_n O d_Mo_undoRows_126 rfl 2 rfl ?_
          refine ax_isub O d_Mo_undoRows_127 ?_
          obtain ⟨nv46, fv46, v46, cv46, iv46, kv46, hf⟩ := mai_some hf
          refine ax_iald O cv46 iv46 kv46 d_Mo_undoRows_128 ?_
          refine ax_goto (tgt := 133) O d_Mo_undoRows_129 (by decide) ?_
          exact cb_Mo_undoRows_B133 O K35 (f_Mo_undoRows_L102 K35 n0 n) _ _ hE hK35 ih n0 _ _ _ _ _ _ _ _ _ _ _ hf
set_option maxHeartbeats 4000000 in
set_option maxRecDepth 100000 in
theorem cb_Mo_undoRows_B97 {X : mX} {ad : Nat → Nat} {ln : Launch} (O : mO X ad R_Mo b_Mo_undoRows 13 (mR 3 67) ln) (K35 : mH → Nat → Int32 → Int32 → Int32 → Int32 → Int32 → Option (Int32 × mH)) (r' : Int32) (h' : mH) (hE : mEnd X ad (some .boolean) (some (.int r')) h') (hK35 : ∀ (h : mH) (a0 : Nat) (x2 : Int32) (x3 : Int32) (x4 : Int32) (x5 : Int32) (x6 : Int32), K35 h a0 x2 x3 x4 x5 x6 = some (r', h') → mAW X ad 0 0 35 [(0, .ref a0), (2, .int x2), (3, .int x3), (4, .int x4), (5, .int x5), (6, .int x6)] [] h) (n0 : Nat) (h0 : mH) (a0 : Nat) (x2 : Int32) (x3 : Int32) (x4 : Int32) (x5 : Int32) (x6 : Int32) (x7 : Int32) (p0 : Int32) (hf : f_Mo_undoRows_B97 K35 n0 h0 a0 x2 x3 x4 x5 x6 x7 p0 = some (r', h')) : mAW X ad 0 0 97 [(0, .ref a0), (2, .int x2), (3, .int x3), (4, .int x4), (5, .int x5), (6, .int x6), (7, .int x7)] [.int p0] h0 := by
  unfold f_Mo_undoRows_B97 at hf
  refine ax_istore (lv' := [(8, .int p0), (0, .ref a0), (2, .int x2), (3, .int x3), (4, .int x4), (5, .int x5), (6, .int x6), (7, .int x7)]) O d_Mo_undoRows_97 (by decide) rfl ?_
  refine ax_iconst (v := 0) O d_Mo_undoRows_99 (by decide) ?_
  refine ax_istore (lv' := [(9, .int 0), (8, .int p0), (0, .ref a0), (2, .int x2), (3, .int x3), (4, .int x4), (5, .int x5), (6, .int x6), (7, .int x7)]) O d_Mo_undoRows_100 (by decide) rfl ?_
  refine ax_sub [2, 3, 4, 5, 6, 7, 8, 1, 0] rfl ?_
  exact cb_Mo_undoRows_L102 O K35 _ _ hE hK35 n0 n0 _ _ _ _ _ _ _ _ _ _ hf
set_option maxHeartbeats 4000000 in
set_option maxRecDepth 100000 in
theorem cb_Mo_undoRows_B69 {X : mX} {ad : Nat → Nat} {ln : Launch} (O : mO X ad R_Mo b_Mo_undoRows 13 (mR 3 67) ln) (K35 : mH → Nat → Int32 → Int32 → Int32 → Int32 → Int32 → Option (Int32 × mH)) (r' : Int32) (h' : mH) (hE : mEnd X ad (some .boolean) (some (.int r')) h') (hK35 : ∀ (h : mH) (a0 : Nat) (x2 : Int32) (x3 : Int32) (x4 : Int32) (x5 : Int32) (x6 : Int32), K35 h a0 x2 x3 x4 x5 x6 = some (r', h') → mAW X ad 0 0 35 [(0, .ref a0), (2, .int x2), (3, .int x3), (4, .int x4), (5, .int x5), (6, .int x6)] [] h) (n0 : Nat) (h0 : mH) (a0 : Nat) (x2 : Int32) (x3 : Int32) (x4 : Int32) (x6 : Int32) (x7 : Int32) (p0 : Int32) (hf : f_Mo_undoRows_B69 K35 n0 h0 a0 x2 x3 x4 x6 x7 p0 = some (r', h')) : mAW X ad 0 0 69 [(0, .ref a0), (2, .int x2), (3, .int x3), (4, .int x4), (6, .int x6), (7, .int x7)] [.int p0] h0 := by
  unfold f_Mo_undoRows_B69 at hf
  refine ax_istore (lv' := [(5, .int p0), (0, .ref a0), (2, .int x2), (3, .int x3), (4, .int x4), (6, .int x6), (7, .int x7)]) O d_Mo_undoRows_69 (by decide) rfl ?_
  refine ax_aload_n O d_Mo_undoRows_71 rfl 1 rfl ?_
  obtain ⟨fv23, v23, cv23, kv23, hf⟩ := mgi_some hf
  refine ax_get O fg_Mo_106 cv23 kv23 d_Mo_undoRows_72 ?_
  refine ax_iload O d_Mo_undoRows_75 5 rfl ?_
  refine ax_isub O d_Mo_undoRows_77 ?_
  refine ax_iconst (v := 1) O d_Mo_undoRows_78 (by decide) ?_
  refine ax_isub O d_Mo_undoRows_79 ?_
  refine ax_iload_n O d_Mo_undoRows_80 rfl 2 rfl ?_
  refine ax_icmp_ge (tgt := 96) O d_Mo_undoRows_81 (by decide) (fun q24 => ?_) (fun q24 => ?_)
  · rw [if_pos q24] at hf
    refine ax_iload_n O d_Mo_undoRows_96 rfl 2 rfl ?_
    refine ax_sub [1, 2, 3, 4, 0, 5, 6] rfl ?_
    exact cb_Mo_undoRows_B97 O K35 _ _ hE hK35 n0 _ _ _ _ _ _ _ _ _ hf
  · rw [if_neg q24] at hf
    refine ax_aload_n O d_Mo_undoRows_84 rfl 1 rfl ?_
    obtain ⟨fv47, v47, cv47, kv47, hf⟩ := mgi_some hf
    refine ax_get O fg_Mo_106 cv47 kv47 d_Mo_undoRows_85 ?_
    refine ax_iload O d_Mo_undoRows_88 5 rfl ?_
    refine ax_isub O d_Mo_undoRows_90 ?_
    refine ax_iconst (v := 1) O d_Mo_undoRows_91 (by decide) ?_
    refine ax_isub O d_Mo_undoRows_92 ?_
    refine ax_goto (tgt := 97) O d_Mo_undoRows_93 (by decide) ?_
    refine ax_sub [1, 2, 3, 4, 0, 5, 6] rfl ?_
    exact cb_Mo_undoRows_B97 O K35 _ _ hE hK35 n0 _ _ _ _ _ _ _ _ _ hf
set_option maxHeartbeats 4000000 in
set_option maxRecDepth 100000 in
theorem cb_Mo_undoRows_L35 {X : mX} {ad : Nat → Nat} {ln : Launch} (O : mO X ad R_Mo b_Mo_undoRows 13 (mR 3 67) ln) (r' : Int32) (h' : mH) (hE : mEnd X ad (some .boolean) (some (.int r')) h') (n0 : Nat) : ∀ (n : Nat) (h0 : mH) (a0 : Nat) (x2 : Int32) (x3 : Int32) (x4 : Int32) (x5 : Int32) (x6 : Int32), f_Mo_undoRows_L35 n0 n h0 a0 x2 x3 x4 x5 x6 = some (r', h') → mAW X ad 0 0 35 [(0, .ref a0), (2, .int x2), (3, .int x3), (4, .int x4), (5, .int x5), (6, .int x6)] [] h0 := by
  intro n
  induction n with
  | zero =>
    intro h0 a0 x2 x3 x4 x5 x6 hf
    rw [f_Mo_undoRows_L35.eq_1] at hf
    cases hf
  | succ n ih =>
    intro h0 a0 x2 x3 x4 x5 x6 hf
    rw [f_Mo_undoRows_L35.eq_2] at hf
    refine ax_iload O d_Mo_undoRows_35 5 rfl ?_
    refine ax_aload_n O d_Mo_undoRows_37 rfl 0 rfl ?_
    obtain ⟨fv9, v9, cv9, kv9, hf⟩ := mgi_some hf
    refine ax_get O fg_Mo_106 cv9 kv9 d_Mo_undoRows_38 ?_
    refine ax_icmp_ge (tgt := 238) O d_Mo_undoRows_41 (by decide) (fun q10 => ?_) (fun q10 => ?_)
    · rw [if_pos q10] at hf
      refine ax_sub [0, 3, 4] rfl ?_
      exact cb_Mo_undoRows_B238 O _ _ hE n0 _ _ _ _ hf
    · rw [if_neg q10] at hf
      refine ax_iload O d_Mo_undoRows_44 4 rfl ?_
      refine ax_if_eq (tgt := 238) O d_Mo_undoRows_46 (by decide) (fun q19 => ?_) (fun q19 => ?_)
      · rw [if_pos q19] at hf
        refine ax_sub [0, 3, 4] rfl ?_
        exact cb_Mo_undoRows_B238 O _ _ hE n0 _ _ _ _ hf
      · rw [if_neg q19] at hf
        refine ax_aload_n O d_Mo_undoRows_49 rfl 0 rfl ?_
        obtain ⟨fr20, r20, cr20, kr20, hf⟩ := mgr_some hf
        refine ax_get O fg_Mo_39 cr20 kr20 d_Mo_undoRows_50 ?_
        refine ax_iload O d_Mo_undoRows_53 5 rfl ?_
        obtain ⟨nv21, fv21, v21, cv21, iv21, kv21, hf⟩ := mai_some hf
        refine ax_iald O cv21 iv21 kv21 d_Mo_undoRows_55 ?_
        refine ax_istore (lv' := [(7, .int v21), (0, .ref a0), (2, .int x2), (3, .int x3), (4, .int x4), (5, .int x5), (6, .int x6)]) O d_Mo_undoRows_56 (by decide) rfl ?_
        refine ax_iload O d_Mo_undoRows_58 0 rfl ?_
        refine ax_iconst (v := 4) O d_Mo_undoRows_60 (by decide) ?_
        refine ax_icmp_gt (tgt := 68) O d_Mo_undoRows_61 (by decide) (fun q22 => ?_) (fun q22 => ?_)
        · rw [if_pos q22] at hf
          refine ax_iconst (v := 0) O d_Mo_undoRows_68 (by decide) ?_
          refine ax_sub [1, 2, 3, 4, 6, 0] rfl ?_
          exact cb_Mo_undoRows_B69 O (f_Mo_undoRows_L35 n0 n) _ _ hE ih n0 _ _ _ _ _ _ _ _ hf
        · rw [if_neg q22] at hf
          refine ax_iconst (v := 1) O d_Mo_undoRows_64 (by decide) ?_
          refine ax_goto (tgt := 69) O d_Mo_undoRows_65 (by decide) ?_
          refine ax_sub [1, 2, 3, 4, 6, 0] rfl ?_
          exact cb_Mo_undoRows_B69 O (f_Mo_undoRows_L35 n0 n) _ _ hE ih n0 _ _ _ _ _ _ _ _ hf
set_option maxHeartbeats 4000000 in
set_option maxRecDepth 100000 in
theorem cb_Mo_undoRows {X : mX} {ad : Nat → Nat} {ln : Launch} (O : mO X ad R_Mo b_Mo_undoRows 13 (mR 3 67) ln) (r' : Int32) (h' : mH) (hE : mEnd X ad (some .boolean) (some (.int r')) h') (n0 : Nat) (h0 : mH) (a0 : Nat) (x1 : Int32) (hf : f_Mo_undoRows n0 h0 a0 x1 = some (r', h')) : mAW X ad 0 0 0 [(0, .ref a0), (1, .int x1)] [] h0 := by
  unfold f_Mo_undoRows at hf
  refine ax_aload_n O d_Mo_undoRows_0 rfl 0 rfl ?_
  refine ax_iload_n O d_Mo_undoRows_1 rfl 1 rfl ?_
  obtain ⟨fh3, ch3, hf⟩ := mis_some hf
  obtain ⟨v2, h3, mh3, hf⟩ := mcl_some hf
  refine ax_callV (As := [.int x1]) (rest := []) O cw_Mo_rowBytes (q := (R_Mo, T_Mo, 31)) rfl rfl in_Mo_rowBytes se_Mo_rowBytes lk_Mo_224 ch3 (c_Mo_rowBytes mh3) rfl ⟨rfl, rfl⟩ (by decide) (by decide) (Nat.le_of_ble_eq_true rfl) d_Mo_undoRows_2 ?_
  refine ax_istore_n (lv' := [(2, .int v2), (0, .ref a0), (1, .int x1)]) O d_Mo_undoRows_5 rfl (by decide) rfl ?_
  refine ax_aload_n O d_Mo_undoRows_6 rfl 1 rfl ?_
  obtain ⟨fr4, r4, cr4, kr4, hf⟩ := mgr_some hf
  refine ax_get O fg_Mo_22 cr4 kr4 d_Mo_undoRows_7 ?_
  refine ax_iload_n O d_Mo_undoRows_10 rfl 2 rfl ?_
  obtain ⟨nv5, fv5, v5, cv5, iv5, kv5, hf⟩ := mai_some hf
  refine ax_iald O cv5 iv5 kv5 d_Mo_undoRows_11 ?_
  refine ax_aload_n O d_Mo_undoRows_12 rfl 1 rfl ?_
  obtain ⟨fr6, r6, cr6, kr6, hf⟩ := mgr_some hf
  refine ax_get O fg_Mo_25 cr6 kr6 d_Mo_undoRows_13 ?_
  refine ax_iload_n O d_Mo_undoRows_16 rfl 2 rfl ?_
  obtain ⟨nv7, fv7, v7, cv7, iv7, kv7, hf⟩ := mai_some hf
  refine ax_iald O cv7 iv7 kv7 d_Mo_undoRows_17 ?_
  refine ax_imul O d_Mo_undoRows_18 ?_
  refine ax_bipush (v := 7) O d_Mo_undoRows_19 (by decide) ?_
  refine ax_iadd O d_Mo_undoRows_21 ?_
  refine ax_bipush (v := 8) O d_Mo_undoRows_22 (by decide) ?_
  refine ax_idiv O d_Mo_undoRows_24 (by decide) ?_
  obtain ⟨v8, ev8, hf⟩ := mnm_some hf
  refine ax_nmi ev8 ?_
  refine ax_istore_n (lv' := [(3, .int v8), (2, .int v2), (0, .ref a0), (1, .int x1)]) O d_Mo_undoRows_25 rfl (by decide) rfl ?_
  refine ax_iconst (v := 0) O d_Mo_undoRows_26 (by decide) ?_
  refine ax_istore (lv' := [(4, .int 0), (3, .int v8), (2, .int v2), (0, .ref a0), (1, .int x1)]) O d_Mo_undoRows_27 (by decide) rfl ?_
  refine ax_iconst (v := 1) O d_Mo_undoRows_29 (by decide) ?_
  refine ax_istore (lv' := [(5, .int 1), (4, .int 0), (3, .int v8), (2, .int v2), (0, .ref a0), (1, .int x1)]) O d_Mo_undoRows_30 (by decide) rfl ?_
  refine ax_iconst (v := 0) O d_Mo_undoRows_32 (by decide) ?_
  refine ax_istore (lv' := [(6, .int 0), (5, .int 1), (4, .int 0), (3, .int v8), (2, .int v2), (0, .ref a0), (1, .int x1)]) O d_Mo_undoRows_33 (by decide) rfl ?_
  refine ax_sub [5, 4, 3, 2, 1, 0] rfl ?_
  exact cb_Mo_undoRows_L35 O _ _ hE n0 n0 _ _ _ _ _ _ _ hf
theorem c_Mo_undoRows {ln : Launch} {n0 : Nat} {h0 h' : mH} {a0 : Nat} {x1 : Int32} {r' : Int32} (hf : f_Mo_undoRows n0 h0 a0 x1 = some (r', h')) : mMet ln y_Mo_undoRows b_Mo_undoRows 13 (some .boolean) (mR 3 67) [.ref a0, .int x1] h0 (some (.int r')) h' := mMet_of (by decide +kernel) (Nat.le_of_ble_eq_true rfl) (fun X ad O hE => cb_Mo_undoRows O r' h' hE n0 h0 a0 x1 hf)
