theorem wd_59 : Cond.methodLink R_La 7 y_SF_put ∈ mGood := mg_of (i := 644) (by decide +kernel) rfl
theorem wd_60 : Cond.classLink R_La 13 "java/lang/IndexOutOfBoundsException" ∈ mGood := mg_of (i := 642) (by decide +kernel) rfl
theorem wd_61 : Cond.classLink R_La 15 "java/lang/IllegalArgumentException" ∈ mGood := mg_of (i := 643) (by decide +kernel) rfl
theorem wd_62 : Cond.methodLink R_La 17 y_SF_cut ∈ mGood := mg_of (i := 735) (by decide +kernel) rfl
theorem wd_63 : Cond.methodLink R_La 21 y_SF_filter ∈ mGood := mg_of (i := 745) (by decide +kernel) rfl
theorem wd_64 : Cond.classLink R_La 24 "java/lang/IllegalStateException" ∈ mGood := mg_of (i := 744) (by decide +kernel) rfl
theorem wd_65 : Cond.methodLink R_La 26 y_SF_predict ∈ mGood := mg_of (i := 774) (by decide +kernel) rfl
theorem wd_66 : Cond.methodLink R_La 30 y_SF_budget ∈ mGood := mg_of (i := 794) (by decide +kernel) rfl
theorem wd_67 : Cond.methodLink R_La 33 y_SF_keep ∈ mGood := mg_of (i := 802) (by decide +kernel) rfl
theorem cw_La_put : mCwW y_La_put b_La_put 5 (some .int) [(0, 10, 13, 13), (0, 10, 17, 15)] 4 := ⟨mg_of (i := 641) (by decide +kernel) rfl, mg_of (i := 57) (by decide +kernel) rfl, ⟨by decide +kernel, by decide +kernel⟩, by decide +kernel⟩
theorem st_La_put : Cond.static y_La_put ∈ mGood := mg_of (i := 640) (by decide +kernel) rfl
theorem cw_La_cut : mCwW y_La_cut b_La_cut 4 (some .int) [(0, 9, 12, 15)] 3 := ⟨mg_of (i := 734) (by decide +kernel) rfl, mg_of (i := 57) (by decide +kernel) rfl, ⟨by decide +kernel, by decide +kernel⟩, by decide +kernel⟩
theorem st_La_cut : Cond.static y_La_cut ∈ mGood := mg_of (i := 733) (by decide +kernel) rfl
theorem cw_La_filter : mCwW y_La_filter b_La_filter 5 (some .int) [(0, 10, 13, 15), (0, 10, 17, 24)] 4 := ⟨mg_of (i := 743) (by decide +kernel) rfl, mg_of (i := 57) (by decide +kernel) rfl, ⟨by decide +kernel, by decide +kernel⟩, by decide +kernel⟩
theorem st_La_filter : Cond.static y_La_filter ∈ mGood := mg_of (i := 742) (by decide +kernel) rfl
theorem cw_La_predict : mCwW y_La_predict b_La_predict 6 (some .int) [(0, 9, 12, 15), (0, 9, 16, 24)] 5 := ⟨mg_of (i := 773) (by decide +kernel) rfl, mg_of (i := 57) (by decide +kernel) rfl, ⟨by decide +kernel, by decide +kernel⟩, by decide +kernel⟩
theorem st_La_predict : Cond.static y_La_predict ∈ mGood := mg_of (i := 772) (by decide +kernel) rfl
theorem cw_La_budget : mCwW y_La_budget b_La_budget 4 (some .int) [(0, 9, 12, 15)] 3 := ⟨mg_of (i := 793) (by decide +kernel) rfl, mg_of (i := 57) (by decide +kernel) rfl, ⟨by decide +kernel, by decide +kernel⟩, by decide +kernel⟩
theorem st_La_budget : Cond.static y_La_budget ∈ mGood := mg_of (i := 792) (by decide +kernel) rfl
theorem cw_La_keep : mCwW y_La_keep b_La_keep 3 (some .int) [(0, 8, 11, 24)] 2 := ⟨mg_of (i := 801) (by decide +kernel) rfl, mg_of (i := 57) (by decide +kernel) rfl, ⟨by decide +kernel, by decide +kernel⟩, by decide +kernel⟩
theorem st_La_keep : Cond.static y_La_keep ∈ mGood := mg_of (i := 800) (by decide +kernel) rfl
theorem lk_La_7 : mLk R_La 7 y_SF_put := Or.inl (mg_of (i := 644) (by decide +kernel) rfl)
theorem lk_La_17 : mLk R_La 17 y_SF_cut := Or.inl (mg_of (i := 735) (by decide +kernel) rfl)
theorem lk_La_21 : mLk R_La 21 y_SF_filter := Or.inl (mg_of (i := 745) (by decide +kernel) rfl)
theorem lk_La_26 : mLk R_La 26 y_SF_predict := Or.inl (mg_of (i := 774) (by decide +kernel) rfl)
theorem lk_La_30 : mLk R_La 30 y_SF_budget := Or.inl (mg_of (i := 794) (by decide +kernel) rfl)
theorem lk_La_33 : mLk R_La 33 y_SF_keep := Or.inl (mg_of (i := 802) (by decide +kernel) rfl)
/-! ===== StreamFiltersLaw.put(LStreamFilters;II[J)I ===== -/
theorem d_La_put_0 : decode b_La_put 0 = .ok (.aload_n 3, 1) := by decide +kernel
theorem d_La_put_1 : decode b_La_put 1 = .ok (.iconst 0, 1) := by decide +kernel
theorem d_La_put_2 : decode b_La_put 2 = .ok (.aload_n 0, 1) := by decide +kernel
theorem d_La_put_3 : decode b_La_put 3 = .ok (.iload_n 1, 1) := by decide +kernel
theorem d_La_put_4 : decode b_La_put 4 = .ok (.iload_n 2, 1) := by decide +kernel
theorem d_La_put_5 : decode b_La_put 5 = .ok (.invokevirtual 7, 3) := by decide +kernel
theorem d_La_put_8 : decode b_La_put 8 = .ok (.i2l, 1) := by decide +kernel
theorem d_La_put_9 : decode b_La_put 9 = .ok (.lastore, 1) := by decide +kernel
theorem d_La_put_10 : decode b_La_put 10 = .ok (.goto 11, 3) := by decide +kernel
theorem d_La_put_13 : decode b_La_put 13 = .ok (.astore 4, 2) := by decide +kernel
theorem d_La_put_15 : decode b_La_put 15 = .ok (.iconst 1, 1) := by decide +kernel
theorem d_La_put_16 : decode b_La_put 16 = .ok (.ireturn, 1) := by decide +kernel
theorem d_La_put_17 : decode b_La_put 17 = .ok (.astore 4, 2) := by decide +kernel
theorem d_La_put_19 : decode b_La_put 19 = .ok (.iconst 2, 1) := by decide +kernel
theorem d_La_put_20 : decode b_La_put 20 = .ok (.ireturn, 1) := by decide +kernel
theorem d_La_put_21 : decode b_La_put 21 = .ok (.iconst 0, 1) := by decide +kernel
theorem d_La_put_22 : decode b_La_put 22 = .ok (.ireturn, 1) := by decide +kernel
noncomputable def f_La_put (n0 : Nat) (h0 : mH) (a0 : Nat) (x1 : Int32) (x2 : Int32) (a3 : Nat) : Option (Int32 × mH) :=
  mis h0 a0 0 <| match f_SF_put n0 h0 a0 x1 x2 with
    | some (.inl r, h1) => mls h1 a3 0 r.toInt64 fun h2 => some (0, h2)
    | some (.inr 0, _) => some (1, h0)
    | some (.inr 1, _) => some (2, h0)
    | _ => none
theorem ca_La_put_0 : mCat R_La (mEx 0) 5 [(0, 10, 13, 13), (0, 10, 17, 15)] 13 := Or.inl ⟨0, 10, 13, _, rfl, ⟨by decide, by decide, by decide⟩, wd_60, by decide +kernel⟩
theorem hn_La_put_0 : mHnd b_La_put 5 13 1 := ⟨1, rfl, Or.inl ⟨4, by decide, d_La_put_13, d_La_put_15, d_La_put_16⟩⟩
theorem ca_La_put_1 : mCat R_La (mEx 1) 5 [(0, 10, 13, 13), (0, 10, 17, 15)] 17 := Or.inr ⟨0, 10, 13, 13, 0, 10, 15, "java/lang/IndexOutOfBoundsException", _, rfl, ⟨by decide, by decide, by decide⟩, ⟨by decide, by decide, by decide⟩, wd_60, by decide +kernel, wd_61, by decide +kernel⟩
theorem hn_La_put_1 : mHnd b_La_put 5 17 2 := ⟨2, rfl, Or.inl ⟨4, by decide, d_La_put_17, d_La_put_19, d_La_put_20⟩⟩
set_option maxHeartbeats 4000000 in
set_option maxRecDepth 100000 in
theorem cb_La_put {X : mX} {ad : Nat → Nat} {ln : Launch} (hln : ln.stackTraces = false) (O : mO X ad R_La b_La_put 5 (mRx 7 1 6 113) ln) (r' : Int32) (h' : mH) (hE : mEndW X ad (some .int) (some (.int r')) h' [(0, 10, 13, 13), (0, 10, 17, 15)]) (n0 : Nat) (h0 : mH) (a0 : Nat) (x1 : Int32) (x2 : Int32) (a3 : Nat) (hf : f_La_put n0 h0 a0 x1 x2 a3 = some (r', h')) : mAW X ad 0 0 0 [(0, .ref a0), (1, .int x1), (2, .int x2), (3, .ref a3)] [] h0 := by
  unfold f_La_put at hf
  obtain ⟨fs, hc, hf⟩ := mis_some hf
  refine ax_aload_n O d_La_put_0 rfl 3 rfl ?_
  refine ax_iconst (v := 0) O d_La_put_1 (by decide) ?_
  refine ax_aload_n O d_La_put_2 rfl 0 rfl ?_
  refine ax_iload_n O d_La_put_3 rfl 1 rfl ?_
  refine ax_iload_n O d_La_put_4 rfl 2 rfl ?_
  split at hf
  · rename_i r h1 hm
    refine ax_callV (As := [.int x1, .int x2]) (rest := [.int 0, .ref a3]) O cw_SF_put (q := (R_SF, T_SF, 17)) rfl rfl in_SF_put se_SF_put lk_La_7 hc (c_SF_put hm) rfl ⟨rfl, rfl⟩ ⟨Nat.le_of_ble_eq_true rfl, Nat.le_of_ble_eq_true rfl⟩ ⟨Nat.le_of_ble_eq_true rfl, Nat.le_of_ble_eq_true rfl⟩ (Nat.le_of_ble_eq_true rfl) d_La_put_5 ?_
    refine ax_i2l O d_La_put_8 ?_
    obtain ⟨n1, f1, h1, c1, i1, e1, hf⟩ := mls_some hf
    cases hf
    refine ax_last O c1 i1 e1 d_La_put_9 ?_
    refine ax_goto (tgt := 21) O d_La_put_10 (by decide) ?_
    refine ax_iconst (v := 0) O d_La_put_21 (by decide) ?_
    refine ax_widen (cs' := 1) (ss' := 6) (by decide) (by decide) ?_
    exact ax_retW O hE d_La_put_22
  · rename_i z hm
    cases hf
    exact ax_catch (As := [.int x1, .int x2]) (rest := [.int 0, .ref a3]) O hE cw_SF_put (q := (R_SF, T_SF, 17)) rfl in_SF_put se_SF_put wd_59 hc (ct_SF_put hln hm) rfl ⟨rfl, rfl⟩ ⟨Nat.le_of_ble_eq_true rfl, Nat.le_of_ble_eq_true rfl⟩ ⟨Nat.le_of_ble_eq_true rfl, Nat.le_of_ble_eq_true rfl⟩ (Nat.le_of_ble_eq_true rfl) d_La_put_5 ca_La_put_0 hn_La_put_0
  · rename_i z hm
    cases hf
    exact ax_catch (As := [.int x1, .int x2]) (rest := [.int 0, .ref a3]) O hE cw_SF_put (q := (R_SF, T_SF, 17)) rfl in_SF_put se_SF_put wd_59 hc (ct_SF_put hln hm) rfl ⟨rfl, rfl⟩ ⟨Nat.le_of_ble_eq_true rfl, Nat.le_of_ble_eq_true rfl⟩ ⟨Nat.le_of_ble_eq_true rfl, Nat.le_of_ble_eq_true rfl⟩ (Nat.le_of_ble_eq_true rfl) d_La_put_5 ca_La_put_1 hn_La_put_1
  · cases hf
theorem c_La_put {ln : Launch} (hln : ln.stackTraces = false) {n0 : Nat} {h0 h' : mH} {a0 : Nat} {x1 : Int32} {x2 : Int32} {a3 : Nat} {r' : Int32} (hf : f_La_put n0 h0 a0 x1 x2 a3 = some (r', h')) : mMetW ln y_La_put b_La_put 5 (some .int) [(0, 10, 13, 13), (0, 10, 17, 15)] (mRx 7 1 6 113) [.ref a0, .int x1, .int x2, .ref a3] h0 (some (.int r')) h' := mMetW_of (by decide +kernel) (Nat.le_of_ble_eq_true rfl) (fun X ad O hE => cb_La_put hln O r' h' hE n0 h0 a0 x1 x2 a3 hf)
/-! ===== StreamFiltersLaw.cut(LStreamFilters;I[J)I ===== -/
theorem d_La_cut_0 : decode b_La_cut 0 = .ok (.aload_n 2, 1) := by decide +kernel
theorem d_La_cut_1 : decode b_La_cut 1 = .ok (.iconst 0, 1) := by decide +kernel
theorem d_La_cut_2 : decode b_La_cut 2 = .ok (.aload_n 0, 1) := by decide +kernel
theorem d_La_cut_3 : decode b_La_cut 3 = .ok (.iload_n 1, 1) := by decide +kernel
theorem d_La_cut_4 : decode b_La_cut 4 = .ok (.invokevirtual 17, 3) := by decide +kernel
theorem d_La_cut_7 : decode b_La_cut 7 = .ok (.i2l, 1) := by decide +kernel
theorem d_La_cut_8 : decode b_La_cut 8 = .ok (.lastore, 1) := by decide +kernel
theorem d_La_cut_9 : decode b_La_cut 9 = .ok (.goto 6, 3) := by decide +kernel
theorem d_La_cut_12 : decode b_La_cut 12 = .ok (.astore_n 3, 1) := by decide +kernel
theorem d_La_cut_13 : decode b_La_cut 13 = .ok (.iconst 1, 1) := by decide +kernel
theorem d_La_cut_14 : decode b_La_cut 14 = .ok (.ireturn, 1) := by decide +kernel
theorem d_La_cut_15 : decode b_La_cut 15 = .ok (.iconst 0, 1) := by decide +kernel
theorem d_La_cut_16 : decode b_La_cut 16 = .ok (.ireturn, 1) := by decide +kernel
noncomputable def f_La_cut (n0 : Nat) (h0 : mH) (a0 : Nat) (x1 : Int32) (a2 : Nat) : Option (Int32 × mH) :=
  mis h0 a0 0 <| match f_SF_cut n0 h0 a0 x1 with
    | some (.inl r, h1) => mls h1 a2 0 r.toInt64 fun h2 => some (0, h2)
    | some (.inr 1, _) => some (1, h0)
    | _ => none
theorem ca_La_cut_1 : mCat R_La (mEx 1) 4 [(0, 9, 12, 15)] 12 := Or.inl ⟨0, 9, 15, _, rfl, ⟨by decide, by decide, by decide⟩, wd_61, by decide +kernel⟩
theorem hn_La_cut_1 : mHnd b_La_cut 4 12 1 := ⟨1, rfl, Or.inr ⟨3, by decide, d_La_cut_12, d_La_cut_13, d_La_cut_14⟩⟩
set_option maxHeartbeats 4000000 in
set_option maxRecDepth 100000 in
theorem cb_La_cut {X : mX} {ad : Nat → Nat} {ln : Launch} (hln : ln.stackTraces = false) (O : mO X ad R_La b_La_cut 4 (mRx 7 1 6 112) ln) (r' : Int32) (h' : mH) (hE : mEndW X ad (some .int) (some (.int r')) h' [(0, 9, 12, 15)]) (n0 : Nat) (h0 : mH) (a0 : Nat) (x1 : Int32) (a2 : Nat) (hf : f_La_cut n0 h0 a0 x1 a2 = some (r', h')) : mAW X ad 0 0 0 [(0, .ref a0), (1, .int x1), (2, .ref a2)] [] h0 := by
  unfold f_La_cut at hf
  obtain ⟨fs, hc, hf⟩ := mis_some hf
  refine ax_aload_n O d_La_cut_0 rfl 2 rfl ?_
  refine ax_iconst (v := 0) O d_La_cut_1 (by decide) ?_
  refine ax_aload_n O d_La_cut_2 rfl 0 rfl ?_
  refine ax_iload_n O d_La_cut_3 rfl 1 rfl ?_
  split at hf
  · rename_i r h1 hm
    refine ax_callV (As := [.int x1]) (rest := [.int 0, .ref a2]) O cw_SF_cut (q := (R_SF, T_SF, 17)) rfl rfl in_SF_cut se_SF_cut lk_La_17 hc (c_SF_cut hm) rfl ⟨rfl, rfl⟩ ⟨Nat.le_of_ble_eq_true rfl, Nat.le_of_ble_eq_true rfl⟩ ⟨Nat.le_of_ble_eq_true rfl, Nat.le_of_ble_eq_true rfl⟩ (Nat.le_of_ble_eq_true rfl) d_La_cut_4 ?_
    refine ax_i2l O d_La_cut_7 ?_
    obtain ⟨n1, f1, h1, c1, i1, e1, hf⟩ := mls_some hf
    cases hf
    refine ax_last O c1 i1 e1 d_La_cut_8 ?_
    refine ax_goto (tgt := 15) O d_La_cut_9 (by decide) ?_
    refine ax_iconst (v := 0) O d_La_cut_15 (by decide) ?_
    refine ax_widen (cs' := 1) (ss' := 6) (by decide) (by decide) ?_
    exact ax_retW O hE d_La_cut_16
  · rename_i z hm
    cases hf
    exact ax_catch (As := [.int x1]) (rest := [.int 0, .ref a2]) O hE cw_SF_cut (q := (R_SF, T_SF, 17)) rfl in_SF_cut se_SF_cut wd_62 hc (ct_SF_cut hln hm) rfl ⟨rfl, rfl⟩ ⟨Nat.le_of_ble_eq_true rfl, Nat.le_of_ble_eq_true rfl⟩ ⟨Nat.le_of_ble_eq_true rfl, Nat.le_of_ble_eq_true rfl⟩ (Nat.le_of_ble_eq_true rfl) d_La_cut_4 ca_La_cut_1 hn_La_cut_1
  · cases hf
theorem c_La_cut {ln : Launch} (hln : ln.stackTraces = false) {n0 : Nat} {h0 h' : mH} {a0 : Nat} {x1 : Int32} {a2 : Nat} {r' : Int32} (hf : f_La_cut n0 h0 a0 x1 a2 = some (r', h')) : mMetW ln y_La_cut b_La_cut 4 (some .int) [(0, 9, 12, 15)] (mRx 7 1 6 112) [.ref a0, .int x1, .ref a2] h0 (some (.int r')) h' := mMetW_of (by decide +kernel) (Nat.le_of_ble_eq_true rfl) (fun X ad O hE => cb_La_cut hln O r' h' hE n0 h0 a0 x1 a2 hf)
/-! ===== StreamFiltersLaw.filter(LStreamFilters;II[J)I ===== -/
theorem d_La_filter_0 : decode b_La_filter 0 = .ok (.aload_n 3, 1) := by decide +kernel
theorem d_La_filter_1 : decode b_La_filter 1 = .ok (.iconst 0, 1) := by decide +kernel
theorem d_La_filter_2 : decode b_La_filter 2 = .ok (.aload_n 0, 1) := by decide +kernel
theorem d_La_filter_3 : decode b_La_filter 3 = .ok (.iload_n 1, 1) := by decide +kernel
theorem d_La_filter_4 : decode b_La_filter 4 = .ok (.iload_n 2, 1) := by decide +kernel
theorem d_La_filter_5 : decode b_La_filter 5 = .ok (.invokevirtual 21, 3) := by decide +kernel
theorem d_La_filter_8 : decode b_La_filter 8 = .ok (.i2l, 1) := by decide +kernel
theorem d_La_filter_9 : decode b_La_filter 9 = .ok (.lastore, 1) := by decide +kernel
theorem d_La_filter_10 : decode b_La_filter 10 = .ok (.goto 11, 3) := by decide +kernel
theorem d_La_filter_13 : decode b_La_filter 13 = .ok (.astore 4, 2) := by decide +kernel
theorem d_La_filter_15 : decode b_La_filter 15 = .ok (.iconst 1, 1) := by decide +kernel
theorem d_La_filter_16 : decode b_La_filter 16 = .ok (.ireturn, 1) := by decide +kernel
theorem d_La_filter_17 : decode b_La_filter 17 = .ok (.astore 4, 2) := by decide +kernel
theorem d_La_filter_19 : decode b_La_filter 19 = .ok (.iconst 2, 1) := by decide +kernel
theorem d_La_filter_20 : decode b_La_filter 20 = .ok (.ireturn, 1) := by decide +kernel
theorem d_La_filter_21 : decode b_La_filter 21 = .ok (.iconst 0, 1) := by decide +kernel
theorem d_La_filter_22 : decode b_La_filter 22 = .ok (.ireturn, 1) := by decide +kernel
noncomputable def f_La_filter (n0 : Nat) (h0 : mH) (a0 : Nat) (x1 : Int32) (x2 : Int32) (a3 : Nat) : Option (Int32 × mH) :=
  mis h0 a0 0 <| match f_SF_filter n0 h0 a0 x1 x2 with
    | some (.inl r, h1) => mls h1 a3 0 r.toInt64 fun h2 => some (0, h2)
    | some (.inr 1, _) => some (1, h0)
    | some (.inr 2, _) => some (2, h0)
    | _ => none
theorem ca_La_filter_1 : mCat R_La (mEx 1) 5 [(0, 10, 13, 15), (0, 10, 17, 24)] 13 := Or.inl ⟨0, 10, 15, _, rfl, ⟨by decide, by decide, by decide⟩, wd_61, by decide +kernel⟩
theorem hn_La_filter_1 : mHnd b_La_filter 5 13 1 := ⟨1, rfl, Or.inl ⟨4, by decide, d_La_filter_13, d_La_filter_15, d_La_filter_16⟩⟩
theorem ca_La_filter_2 : mCat R_La (mEx 2) 5 [(0, 10, 13, 15), (0, 10, 17, 24)] 17 := Or.inr ⟨0, 10, 13, 15, 0, 10, 24, "java/lang/IllegalArgumentException", _, rfl, ⟨by decide, by decide, by decide⟩, ⟨by decide, by decide, by decide⟩, wd_61, by decide +kernel, wd_64, by decide +kernel⟩
theorem hn_La_filter_2 : mHnd b_La_filter 5 17 2 := ⟨2, rfl, Or.inl ⟨4, by decide, d_La_filter_17, d_La_filter_19, d_La_filter_20⟩⟩
set_option maxHeartbeats 4000000 in
set_option maxRecDepth 100000 in
theorem cb_La_filter {X : mX} {ad : Nat → Nat} {ln : Launch} (hln : ln.stackTraces = false) (O : mO X ad R_La b_La_filter 5 (mRx 7 1 6 112) ln) (r' : Int32) (h' : mH) (hE : mEndW X ad (some .int) (some (.int r')) h' [(0, 10, 13, 15), (0, 10, 17, 24)]) (n0 : Nat) (h0 : mH) (a0 : Nat) (x1 : Int32) (x2 : Int32) (a3 : Nat) (hf : f_La_filter n0 h0 a0 x1 x2 a3 = some (r', h')) : mAW X ad 0 0 0 [(0, .ref a0), (1, .int x1), (2, .int x2), (3, .ref a3)] [] h0 := by
  unfold f_La_filter at hf
  obtain ⟨fs, hc, hf⟩ := mis_some hf
  refine ax_aload_n O d_La_filter_0 rfl 3 rfl ?_
  refine ax_iconst (v := 0) O d_La_filter_1 (by decide) ?_
  refine ax_aload_n O d_La_filter_2 rfl 0 rfl ?_
  refine ax_iload_n O d_La_filter_3 rfl 1 rfl ?_
  refine ax_iload_n O d_La_filter_4 rfl 2 rfl ?_
  split at hf
  · rename_i r h1 hm
    refine ax_callV (As := [.int x1, .int x2]) (rest := [.int 0, .ref a3]) O cw_SF_filter (q := (R_SF, T_SF, 17)) rfl rfl in_SF_filter se_SF_filter lk_La_21 hc (c_SF_filter hm) rfl ⟨rfl, rfl⟩ ⟨Nat.le_of_ble_eq_true rfl, Nat.le_of_ble_eq_true rfl⟩ ⟨Nat.le_of_ble_eq_true rfl, Nat.le_of_ble_eq_true rfl⟩ (Nat.le_of_ble_eq_true rfl) d_La_filter_5 ?_
    refine ax_i2l O d_La_filter_8 ?_
    obtain ⟨n1, f1, h1, c1, i1, e1, hf⟩ := mls_some hf
    cases hf
    refine ax_last O c1 i1 e1 d_La_filter_9 ?_
    refine ax_goto (tgt := 21) O d_La_filter_10 (by decide) ?_
    refine ax_iconst (v := 0) O d_La_filter_21 (by decide) ?_
    refine ax_widen (cs' := 1) (ss' := 6) (by decide) (by decide) ?_
    exact ax_retW O hE d_La_filter_22
  · rename_i z hm
    cases hf
    exact ax_catch (As := [.int x1, .int x2]) (rest := [.int 0, .ref a3]) O hE cw_SF_filter (q := (R_SF, T_SF, 17)) rfl in_SF_filter se_SF_filter wd_63 hc (ct_SF_filter hln hm) rfl ⟨rfl, rfl⟩ ⟨Nat.le_of_ble_eq_true rfl, Nat.le_of_ble_eq_true rfl⟩ ⟨Nat.le_of_ble_eq_true rfl, Nat.le_of_ble_eq_true rfl⟩ (Nat.le_of_ble_eq_true rfl) d_La_filter_5 ca_La_filter_1 hn_La_filter_1
  · rename_i z hm
    cases hf
    exact ax_catch (As := [.int x1, .int x2]) (rest := [.int 0, .ref a3]) O hE cw_SF_filter (q := (R_SF, T_SF, 17)) rfl in_SF_filter se_SF_filter wd_63 hc (ct_SF_filter hln hm) rfl ⟨rfl, rfl⟩ ⟨Nat.le_of_ble_eq_true rfl, Nat.le_of_ble_eq_true rfl⟩ ⟨Nat.le_of_ble_eq_true rfl, Nat.le_of_ble_eq_true rfl⟩ (Nat.le_of_ble_eq_true rfl) d_La_filter_5 ca_La_filter_2 hn_La_filter_2
  · cases hf
theorem c_La_filter {ln : Launch} (hln : ln.stackTraces = false) {n0 : Nat} {h0 h' : mH} {a0 : Nat} {x1 : Int32} {x2 : Int32} {a3 : Nat} {r' : Int32} (hf : f_La_filter n0 h0 a0 x1 x2 a3 = some (r', h')) : mMetW ln y_La_filter b_La_filter 5 (some .int) [(0, 10, 13, 15), (0, 10, 17, 24)] (mRx 7 1 6 112) [.ref a0, .int x1, .int x2, .ref a3] h0 (some (.int r')) h' := mMetW_of (by decide +kernel) (Nat.le_of_ble_eq_true rfl) (fun X ad O hE => cb_La_filter hln O r' h' hE n0 h0 a0 x1 x2 a3 hf)
/-! ===== StreamFiltersLaw.predict(LStreamFilters;IIII)I ===== -/
theorem d_La_predict_0 : decode b_La_predict 0 = .ok (.aload_n 0, 1) := by decide +kernel
theorem d_La_predict_1 : decode b_La_predict 1 = .ok (.iload_n 1, 1) := by decide +kernel
theorem d_La_predict_2 : decode b_La_predict 2 = .ok (.iload_n 2, 1) := by decide +kernel
theorem d_La_predict_3 : decode b_La_predict 3 = .ok (.iload_n 3, 1) := by decide +kernel
theorem d_La_predict_4 : decode b_La_predict 4 = .ok (.iload 4, 2) := by decide +kernel
theorem d_La_predict_6 : decode b_La_predict 6 = .ok (.invokevirtual 26, 3) := by decide +kernel
theorem d_La_predict_9 : decode b_La_predict 9 = .ok (.goto 11, 3) := by decide +kernel
theorem d_La_predict_12 : decode b_La_predict 12 = .ok (.astore 5, 2) := by decide +kernel
theorem d_La_predict_14 : decode b_La_predict 14 = .ok (.iconst 1, 1) := by decide +kernel
theorem d_La_predict_15 : decode b_La_predict 15 = .ok (.ireturn, 1) := by decide +kernel
theorem d_La_predict_16 : decode b_La_predict 16 = .ok (.astore 5, 2) := by decide +kernel
theorem d_La_predict_18 : decode b_La_predict 18 = .ok (.iconst 2, 1) := by decide +kernel
theorem d_La_predict_19 : decode b_La_predict 19 = .ok (.ireturn, 1) := by decide +kernel
theorem d_La_predict_20 : decode b_La_predict 20 = .ok (.iconst 0, 1) := by decide +kernel
theorem d_La_predict_21 : decode b_La_predict 21 = .ok (.ireturn, 1) := by decide +kernel
noncomputable def f_La_predict (n0 : Nat) (h0 : mH) (a0 : Nat) (x1 : Int32) (x2 : Int32) (x3 : Int32) (x4 : Int32) : Option (Int32 × mH) :=
  mis h0 a0 0 <| match f_SF_predict n0 h0 a0 x1 x2 x3 x4 with
    | some (.inl _, h1) => some (0, h1)
    | some (.inr 1, _) => some (1, h0)
    | some (.inr 2, _) => some (2, h0)
    | _ => none
theorem ca_La_predict_1 : mCat R_La (mEx 1) 6 [(0, 9, 12, 15), (0, 9, 16, 24)] 12 := Or.inl ⟨0, 9, 15, _, rfl, ⟨by decide, by decide, by decide⟩, wd_61, by decide +kernel⟩
theorem hn_La_predict_1 : mHnd b_La_predict 6 12 1 := ⟨1, rfl, Or.inl ⟨5, by decide, d_La_predict_12, d_La_predict_14, d_La_predict_15⟩⟩
theorem ca_La_predict_2 : mCat R_La (mEx 2) 6 [(0, 9, 12, 15), (0, 9, 16, 24)] 16 := Or.inr ⟨0, 9, 12, 15, 0, 9, 24, "java/lang/IllegalArgumentException", _, rfl, ⟨by decide, by decide, by decide⟩, ⟨by decide, by decide, by decide⟩, wd_61, by decide +kernel, wd_64, by decide +kernel⟩
theorem hn_La_predict_2 : mHnd b_La_predict 6 16 2 := ⟨2, rfl, Or.inl ⟨5, by decide, d_La_predict_16, d_La_predict_18, d_La_predict_19⟩⟩
set_option maxHeartbeats 4000000 in
set_option maxRecDepth 100000 in
theorem cb_La_predict {X : mX} {ad : Nat → Nat} {ln : Launch} (hln : ln.stackTraces = false) (O : mO X ad R_La b_La_predict 6 (mRx 7 1 6 114) ln) (r' : Int32) (h' : mH) (hE : mEndW X ad (some .int) (some (.int r')) h' [(0, 9, 12, 15), (0, 9, 16, 24)]) (n0 : Nat) (h0 : mH) (a0 : Nat) (x1 : Int32) (x2 : Int32) (x3 : Int32) (x4 : Int32) (hf : f_La_predict n0 h0 a0 x1 x2 x3 x4 = some (r', h')) : mAW X ad 0 0 0 [(0, .ref a0), (1, .int x1), (2, .int x2), (3, .int x3), (4, .int x4)] [] h0 := by
  unfold f_La_predict at hf
  obtain ⟨fs, hc, hf⟩ := mis_some hf
  refine ax_aload_n O d_La_predict_0 rfl 0 rfl ?_
  refine ax_iload_n O d_La_predict_1 rfl 1 rfl ?_
  refine ax_iload_n O d_La_predict_2 rfl 2 rfl ?_
  refine ax_iload_n O d_La_predict_3 rfl 3 rfl ?_
  refine ax_iload O d_La_predict_4 4 rfl ?_
  split at hf
  · rename_i r h1 hm
    refine ax_callV (As := [.int x1, .int x2, .int x3, .int x4]) (rest := []) O cw_SF_predict (q := (R_SF, T_SF, 17)) rfl rfl in_SF_predict se_SF_predict lk_La_26 hc (c_SF_predict hm) rfl ⟨rfl, rfl⟩ ⟨Nat.le_of_ble_eq_true rfl, Nat.le_of_ble_eq_true rfl⟩ ⟨Nat.le_of_ble_eq_true rfl, Nat.le_of_ble_eq_true rfl⟩ (Nat.le_of_ble_eq_true rfl) d_La_predict_6 ?_
    cases hf
    refine ax_goto (tgt := 20) O d_La_predict_9 (by decide) ?_
    refine ax_iconst (v := 0) O d_La_predict_20 (by decide) ?_
    refine ax_widen (cs' := 1) (ss' := 6) (by decide) (by decide) ?_
    exact ax_retW O hE d_La_predict_21
  · rename_i z hm
    cases hf
    exact ax_catch (As := [.int x1, .int x2, .int x3, .int x4]) (rest := []) O hE cw_SF_predict (q := (R_SF, T_SF, 17)) rfl in_SF_predict se_SF_predict wd_65 hc (ct_SF_predict hln hm) rfl ⟨rfl, rfl⟩ ⟨Nat.le_of_ble_eq_true rfl, Nat.le_of_ble_eq_true rfl⟩ ⟨Nat.le_of_ble_eq_true rfl, Nat.le_of_ble_eq_true rfl⟩ (Nat.le_of_ble_eq_true rfl) d_La_predict_6 ca_La_predict_1 hn_La_predict_1
  · rename_i z hm
    cases hf
    exact ax_catch (As := [.int x1, .int x2, .int x3, .int x4]) (rest := []) O hE cw_SF_predict (q := (R_SF, T_SF, 17)) rfl in_SF_predict se_SF_predict wd_65 hc (ct_SF_predict hln hm) rfl ⟨rfl, rfl⟩ ⟨Nat.le_of_ble_eq_true rfl, Nat.le_of_ble_eq_true rfl⟩ ⟨Nat.le_of_ble_eq_true rfl, Nat.le_of_ble_eq_true rfl⟩ (Nat.le_of_ble_eq_true rfl) d_La_predict_6 ca_La_predict_2 hn_La_predict_2
  · cases hf
theorem c_La_predict {ln : Launch} (hln : ln.stackTraces = false) {n0 : Nat} {h0 h' : mH} {a0 : Nat} {x1 : Int32} {x2 : Int32} {x3 : Int32} {x4 : Int32} {r' : Int32} (hf : f_La_predict n0 h0 a0 x1 x2 x3 x4 = some (r', h')) : mMetW ln y_La_predict b_La_predict 6 (some .int) [(0, 9, 12, 15), (0, 9, 16, 24)] (mRx 7 1 6 114) [.ref a0, .int x1, .int x2, .int x3, .int x4] h0 (some (.int r')) h' := mMetW_of (by decide +kernel) (Nat.le_of_ble_eq_true rfl) (fun X ad O hE => cb_La_predict hln O r' h' hE n0 h0 a0 x1 x2 x3 x4 hf)
/-! ===== StreamFiltersLaw.budget(LStreamFilters;I[J)I ===== -/
theorem d_La_budget_0 : decode b_La_budget 0 = .ok (.aload_n 2, 1) := by decide +kernel
theorem d_La_budget_1 : decode b_La_budget 1 = .ok (.iconst 0, 1) := by decide +kernel
theorem d_La_budget_2 : decode b_La_budget 2 = .ok (.aload_n 0, 1) := by decide +kernel
theorem d_La_budget_3 : decode b_La_budget 3 = .ok (.iload_n 1, 1) := by decide +kernel
theorem d_La_budget_4 : decode b_La_budget 4 = .ok (.invokevirtual 30, 3) := by decide +kernel
theorem d_La_budget_7 : decode b_La_budget 7 = .ok (.i2l, 1) := by decide +kernel
theorem d_La_budget_8 : decode b_La_budget 8 = .ok (.lastore, 1) := by decide +kernel
theorem d_La_budget_9 : decode b_La_budget 9 = .ok (.goto 6, 3) := by decide +kernel
theorem d_La_budget_12 : decode b_La_budget 12 = .ok (.astore_n 3, 1) := by decide +kernel
theorem d_La_budget_13 : decode b_La_budget 13 = .ok (.iconst 1, 1) := by decide +kernel
theorem d_La_budget_14 : decode b_La_budget 14 = .ok (.ireturn, 1) := by decide +kernel
theorem d_La_budget_15 : decode b_La_budget 15 = .ok (.iconst 0, 1) := by decide +kernel
theorem d_La_budget_16 : decode b_La_budget 16 = .ok (.ireturn, 1) := by decide +kernel
noncomputable def f_La_budget (n0 : Nat) (h0 : mH) (a0 : Nat) (x1 : Int32) (a2 : Nat) : Option (Int32 × mH) :=
  mis h0 a0 0 <| match f_SF_budget n0 h0 a0 x1 with
    | some (.inl r, h1) => mls h1 a2 0 r.toInt64 fun h2 => some (0, h2)
    | some (.inr 1, _) => some (1, h0)
    | _ => none
theorem ca_La_budget_1 : mCat R_La (mEx 1) 4 [(0, 9, 12, 15)] 12 := Or.inl ⟨0, 9, 15, _, rfl, ⟨by decide, by decide, by decide⟩, wd_61, by decide +kernel⟩
theorem hn_La_budget_1 : mHnd b_La_budget 4 12 1 := ⟨1, rfl, Or.inr ⟨3, by decide, d_La_budget_12, d_La_budget_13, d_La_budget_14⟩⟩
set_option maxHeartbeats 4000000 in
set_option maxRecDepth 100000 in
theorem cb_La_budget {X : mX} {ad : Nat → Nat} {ln : Launch} (hln : ln.stackTraces = false) (O : mO X ad R_La b_La_budget 4 (mRx 7 1 6 112) ln) (r' : Int32) (h' : mH) (hE : mEndW X ad (some .int) (some (.int r')) h' [(0, 9, 12, 15)]) (n0 : Nat) (h0 : mH) (a0 : Nat) (x1 : Int32) (a2 : Nat) (hf : f_La_budget n0 h0 a0 x1 a2 = some (r', h')) : mAW X ad 0 0 0 [(0, .ref a0), (1, .int x1), (2, .ref a2)] [] h0 := by
  unfold f_La_budget at hf
  obtain ⟨fs, hc, hf⟩ := mis_some hf
  refine ax_aload_n O d_La_budget_0 rfl 2 rfl ?_
  refine ax_iconst (v := 0) O d_La_budget_1 (by decide) ?_
  refine ax_aload_n O d_La_budget_2 rfl 0 rfl ?_
  refine ax_iload_n O d_La_budget_3 rfl 1 rfl ?_
  split at hf
  · rename_i r h1 hm
    refine ax_callV (As := [.int x1]) (rest := [.int 0, .ref a2]) O cw_SF_budget (q := (R_SF, T_SF, 17)) rfl rfl in_SF_budget se_SF_budget lk_La_30 hc (c_SF_budget hm) rfl ⟨rfl, rfl⟩ ⟨Nat.le_of_ble_eq_true rfl, Nat.le_of_ble_eq_true rfl⟩ ⟨Nat.le_of_ble_eq_true rfl, Nat.le_of_ble_eq_true rfl⟩ (Nat.le_of_ble_eq_true rfl) d_La_budget_4 ?_
    refine ax_i2l O d_La_budget_7 ?_
    obtain ⟨n1, f1, h1, c1, i1, e1, hf⟩ := mls_some hf
    cases hf
    refine ax_last O c1 i1 e1 d_La_budget_8 ?_
    refine ax_goto (tgt := 15) O d_La_budget_9 (by decide) ?_
    refine ax_iconst (v := 0) O d_La_budget_15 (by decide) ?_
    refine ax_widen (cs' := 1) (ss' := 6) (by decide) (by decide) ?_
    exact ax_retW O hE d_La_budget_16
  · rename_i z hm
    cases hf
    exact ax_catch (As := [.int x1]) (rest := [.int 0, .ref a2]) O hE cw_SF_budget (q := (R_SF, T_SF, 17)) rfl in_SF_budget se_SF_budget wd_66 hc (ct_SF_budget hln hm) rfl ⟨rfl, rfl⟩ ⟨Nat.le_of_ble_eq_true rfl, Nat.le_of_ble_eq_true rfl⟩ ⟨Nat.le_of_ble_eq_true rfl, Nat.le_of_ble_eq_true rfl⟩ (Nat.le_of_ble_eq_true rfl) d_La_budget_4 ca_La_budget_1 hn_La_budget_1
  · cases hf
theorem c_La_budget {ln : Launch} (hln : ln.stackTraces = false) {n0 : Nat} {h0 h' : mH} {a0 : Nat} {x1 : Int32} {a2 : Nat} {r' : Int32} (hf : f_La_budget n0 h0 a0 x1 a2 = some (r', h')) : mMetW ln y_La_budget b_La_budget 4 (some .int) [(0, 9, 12, 15)] (mRx 7 1 6 112) [.ref a0, .int x1, .ref a2] h0 (some (.int r')) h' := mMetW_of (by decide +kernel) (Nat.le_of_ble_eq_true rfl) (fun X ad O hE => cb_La_budget hln O r' h' hE n0 h0 a0 x1 a2 hf)
/-! ===== StreamFiltersLaw.keep(LStreamFilters;[J)I ===== -/
theorem d_La_keep_0 : decode b_La_keep 0 = .ok (.aload_n 1, 1) := by decide +kernel
theorem d_La_keep_1 : decode b_La_keep 1 = .ok (.iconst 0, 1) := by decide +kernel
theorem d_La_keep_2 : decode b_La_keep 2 = .ok (.aload_n 0, 1) := by decide +kernel
theorem d_La_keep_3 : decode b_La_keep 3 = .ok (.invokevirtual 33, 3) := by decide +kernel
theorem d_La_keep_6 : decode b_La_keep 6 = .ok (.i2l, 1) := by decide +kernel
theorem d_La_keep_7 : decode b_La_keep 7 = .ok (.lastore, 1) := by decide +kernel
theorem d_La_keep_8 : decode b_La_keep 8 = .ok (.goto 6, 3) := by decide +kernel
theorem d_La_keep_11 : decode b_La_keep 11 = .ok (.astore_n 2, 1) := by decide +kernel
theorem d_La_keep_12 : decode b_La_keep 12 = .ok (.iconst 1, 1) := by decide +kernel
theorem d_La_keep_13 : decode b_La_keep 13 = .ok (.ireturn, 1) := by decide +kernel
theorem d_La_keep_14 : decode b_La_keep 14 = .ok (.iconst 0, 1) := by decide +kernel
theorem d_La_keep_15 : decode b_La_keep 15 = .ok (.ireturn, 1) := by decide +kernel
noncomputable def f_La_keep (n0 : Nat) (h0 : mH) (a0 : Nat) (a1 : Nat) : Option (Int32 × mH) :=
  mis h0 a0 0 <| match f_SF_keep n0 h0 a0 with
    | some (.inl r, h1) => mls h1 a1 0 r.toInt64 fun h2 => some (0, h2)
    | some (.inr 2, _) => some (1, h0)
    | _ => none
theorem ca_La_keep_2 : mCat R_La (mEx 2) 3 [(0, 8, 11, 24)] 11 := Or.inl ⟨0, 8, 24, _, rfl, ⟨by decide, by decide, by decide⟩, wd_64, by decide +kernel⟩
theorem hn_La_keep_2 : mHnd b_La_keep 3 11 1 := ⟨1, rfl, Or.inr ⟨2, by decide, d_La_keep_11, d_La_keep_12, d_La_keep_13⟩⟩
set_option maxHeartbeats 4000000 in
set_option maxRecDepth 100000 in
theorem cb_La_keep {X : mX} {ad : Nat → Nat} {ln : Launch} (hln : ln.stackTraces = false) (O : mO X ad R_La b_La_keep 3 (mRx 7 1 6 110) ln) (r' : Int32) (h' : mH) (hE : mEndW X ad (some .int) (some (.int r')) h' [(0, 8, 11, 24)]) (n0 : Nat) (h0 : mH) (a0 : Nat) (a1 : Nat) (hf : f_La_keep n0 h0 a0 a1 = some (r', h')) : mAW X ad 0 0 0 [(0, .ref a0), (1, .ref a1)] [] h0 := by
  unfold f_La_keep at hf
  obtain ⟨fs, hc, hf⟩ := mis_some hf
  refine ax_aload_n O d_La_keep_0 rfl 1 rfl ?_
  refine ax_iconst (v := 0) O d_La_keep_1 (by decide) ?_
  refine ax_aload_n O d_La_keep_2 rfl 0 rfl ?_
  split at hf
  · rename_i r h1 hm
    refine ax_callV (As := []) (rest := [.int 0, .ref a1]) O cw_SF_keep (q := (R_SF, T_SF, 17)) rfl rfl in_SF_keep se_SF_keep lk_La_33 hc (c_SF_keep hm) rfl ⟨rfl, rfl⟩ ⟨Nat.le_of_ble_eq_true rfl, Nat.le_of_ble_eq_true rfl⟩ ⟨Nat.le_of_ble_eq_true rfl, Nat.le_of_ble_eq_true rfl⟩ (Nat.le_of_ble_eq_true rfl) d_La_keep_3 ?_
    refine ax_i2l O d_La_keep_6 ?_
    obtain ⟨n1, f1, h1, c1, i1, e1, hf⟩ := mls_some hf
    cases hf
    refine ax_last O c1 i1 e1 d_La_keep_7 ?_
    refine ax_goto (tgt := 14) O d_La_keep_8 (by decide) ?_
    refine ax_iconst (v := 0) O d_La_keep_14 (by decide) ?_
    refine ax_widen (cs' := 1) (ss' := 6) (by decide) (by decide) ?_
    exact ax_retW O hE d_La_keep_15
  · rename_i z hm
    cases hf
    exact ax_catch (As := []) (rest := [.int 0, .ref a1]) O hE cw_SF_keep (q := (R_SF, T_SF, 17)) rfl in_SF_keep se_SF_keep wd_67 hc (ct_SF_keep hln hm) rfl ⟨rfl, rfl⟩ ⟨Nat.le_of_ble_eq_true rfl, Nat.le_of_ble_eq_true rfl⟩ ⟨Nat.le_of_ble_eq_true rfl, Nat.le_of_ble_eq_true rfl⟩ (Nat.le_of_ble_eq_true rfl) d_La_keep_3 ca_La_keep_2 hn_La_keep_2
  · cases hf
theorem c_La_keep {ln : Launch} (hln : ln.stackTraces = false) {n0 : Nat} {h0 h' : mH} {a0 : Nat} {a1 : Nat} {r' : Int32} (hf : f_La_keep n0 h0 a0 a1 = some (r', h')) : mMetW ln y_La_keep b_La_keep 3 (some .int) [(0, 8, 11, 24)] (mRx 7 1 6 110) [.ref a0, .ref a1] h0 (some (.int r')) h' := mMetW_of (by decide +kernel) (Nat.le_of_ble_eq_true rfl) (fun X ad O hE => cb_La_keep hln O r' h' hE n0 h0 a0 a1 hf)
