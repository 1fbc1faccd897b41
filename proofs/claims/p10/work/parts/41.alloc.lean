/-! ===== StreamFilters$Bytes.<init>(I)V ===== -/
theorem d_By_init_0 : decode b_By_init 0 = .ok (.aload_n 0, 1) := by decide +kernel
theorem d_By_init_1 : decode b_By_init 1 = .ok (.invokespecial 1, 3) := by decide +kernel
theorem d_By_init_4 : decode b_By_init 4 = .ok (.aload_n 0, 1) := by decide +kernel
theorem d_By_init_5 : decode b_By_init 5 = .ok (.iconst 0, 1) := by decide +kernel
theorem d_By_init_6 : decode b_By_init 6 = .ok (.putfield 7, 3) := by decide +kernel
theorem d_By_init_9 : decode b_By_init 9 = .ok (.aload_n 0, 1) := by decide +kernel
theorem d_By_init_10 : decode b_By_init 10 = .ok (.iconst 0, 1) := by decide +kernel
theorem d_By_init_11 : decode b_By_init 11 = .ok (.iload_n 1, 1) := by decide +kernel
theorem d_By_init_12 : decode b_By_init 12 = .ok (.invokestatic 13, 3) := by decide +kernel
theorem d_By_init_15 : decode b_By_init 15 = .ok (.newarray .byte, 2) := by decide +kernel
theorem d_By_init_17 : decode b_By_init 17 = .ok (.putfield 19, 3) := by decide +kernel
theorem d_By_init_20 : decode b_By_init 20 = .ok (.return_, 1) := by decide +kernel
noncomputable def f_By_init  (ms : Nat) (n0 : Nat) (h0 : mH) (a0 : Nat) (x1 : Int32) : Option (Unit × mH) :=
  mgd (0 ≤ ms) <|
  mpt h0 a0 1 1 (.int 0) fun h1 =>
  mnm (if 0 < x1 then x1 else 0) fun v2 =>
  mgd (mOkA h0 h1 [.ref a0, .int x1] [.ref a0] ∧ ¬ v2 < 0 ∧ v2.toNatClampNeg * componentBytes .byte ≤ 536870912 ∧ 0 + v2.toNatClampNeg ≤ ms) <|
  mnm h1.length fun r4 =>
  mnm (h1 ++ [.inl (.byte, (v2.toNatClampNeg, .inl (fun _ => 0)))]) fun h5 =>
  mpt h5 a0 1 0 (.ref r4) fun h6 =>
  mgd (mWf h6) <| some ((), h6)
set_option maxHeartbeats 4000000 in
set_option maxRecDepth 100000 in
theorem cb_By_init {X : mX} {ad : Nat → Nat} {ln : Launch} {ms : Nat} (O : mO X ad R_By b_By_init 2 (mRx 1 1 ms 21) ln) (r' : Unit) (h' h0 : mH) (hE : mEndx X ad h0.length h' 1 ms) (n0 : Nat) (a0 : Nat) (x1 : Int32) (hf : f_By_init ms n0 h0 a0 x1 = some (r', h')) : mAW X ad 0 0 0 [(0, .ref a0), (1, .int x1)] [] h0 := by
  have hag : mAg h0.length ad ad := mAg.rf
  unfold f_By_init at hf
  obtain ⟨gms, hf⟩ := mgd_some hf
  refine ax_aload_n O d_By_init_0 rfl 0 rfl ?_
  refine ax_oinit O wd_36 (Nat.le_of_ble_eq_true rfl) (Nat.le_of_ble_eq_true rfl) d_By_init_1 ?_
  refine ax_aload_n O d_By_init_4 rfl 0 rfl ?_
  refine ax_iconst (v := 0) O d_By_init_5 (by decide) ?_
  obtain ⟨fh1, h1, ch1, kh1, eh1, hf⟩ := mpt_some hf
  refine ax_put (v := .int 0) O fp_By_7 ch1 kh1 eh1 rfl rfl d_By_init_6 ?_
  refine ax_aload_n O d_By_init_9 rfl 0 rfl ?_
  refine ax_iconst (v := 0) O d_By_init_10 (by decide) ?_
  refine ax_iload_n O d_By_init_11 rfl 1 rfl ?_
  obtain ⟨v2, ev2, hf⟩ := mnm_some hf
  refine ax_mmax O wd_37 ⟨Nat.le_of_ble_eq_true rfl, Nat.le_of_ble_eq_true rfl, Nat.le_trans (by decide) gms⟩ (Nat.le_of_ble_eq_true rfl) d_By_init_12 ?_
  refine ax_nmi ev2 ?_
  obtain ⟨g3, hf⟩ := mgd_some hf
  obtain ⟨r4, er4, hf⟩ := mnm_some hf
  obtain ⟨h5, eh5, hf⟩ := mnm_some hf
  refine ax_newa (ty := .byte) O rfl rfl (by decide) wd_38 g3.2.1 g3.2.2.1 g3.1 er4 eh5 ⟨Nat.le_of_ble_eq_true rfl, g3.2.2.2⟩ d_By_init_15 (fun ad ag3 => ?_)
  replace O := mO_ag ag3 O
  replace hag := mAg.tr hag ag3 g3.1.2.1
  obtain ⟨fh6, h6, ch6, kh6, eh6, hf⟩ := mpt_some hf
  refine ax_putF (v := .ref r4) O hE fq_By_19 ch6 kh6 eh6 rfl rfl d_By_init_17 ?_
  obtain ⟨g7, hf⟩ := mgd_some hf
  exact ax_vretx O hE hag g7 ⟨by decide, g3.2.2.2⟩ hf d_By_init_20
theorem c_By_init {ln : Launch} {ms n0 : Nat} {h0 h' : mH} {a0 : Nat} {x1 : Int32} {r' : Unit} (hf : f_By_init ms n0 h0 a0 x1 = some (r', h')) : mMetx ln y_By_init b_By_init 2 (mRx 1 1 ms 21) [.ref a0, .int x1] h0 h' 1 ms := mMetx_of (by decide +kernel) rfl (Nat.le_of_ble_eq_true rfl) (fun X ad O hE => cb_By_init O r' h' h0 hE n0 a0 x1 hf)
/-! ===== StreamFilters$Pass.<init>()V ===== -/
theorem d_Pa_init_0 : decode b_Pa_init 0 = .ok (.aload_n 0, 1) := by decide +kernel
theorem d_Pa_init_1 : decode b_Pa_init 1 = .ok (.invokespecial 3, 3) := by decide +kernel
theorem d_Pa_init_4 : decode b_Pa_init 4 = .ok (.aload_n 0, 1) := by decide +kernel
theorem d_Pa_init_5 : decode b_Pa_init 5 = .ok (.new 9, 3) := by decide +kernel
theorem d_Pa_init_8 : decode b_Pa_init 8 = .ok (.dup, 1) := by decide +kernel
theorem d_Pa_init_9 : decode b_Pa_init 9 = .ok (.iconst 0, 1) := by decide +kernel
theorem d_Pa_init_10 : decode b_Pa_init 10 = .ok (.invokespecial 11, 3) := by decide +kernel
theorem d_Pa_init_13 : decode b_Pa_init 13 = .ok (.putfield 14, 3) := by decide +kernel
theorem d_Pa_init_16 : decode b_Pa_init 16 = .ok (.aload_n 0, 1) := by decide +kernel
theorem d_Pa_init_17 : decode b_Pa_init 17 = .ok (.new 9, 3) := by decide +kernel
theorem d_Pa_init_20 : decode b_Pa_init 20 = .ok (.dup, 1) := by decide +kernel
theorem d_Pa_init_21 : decode b_Pa_init 21 = .ok (.iconst 0, 1) := by decide +kernel
theorem d_Pa_init_22 : decode b_Pa_init 22 = .ok (.invokespecial 11, 3) := by decide +kernel
theorem d_Pa_init_25 : decode b_Pa_init 25 = .ok (.putfield 20, 3) := by decide +kernel
theorem d_Pa_init_28 : decode b_Pa_init 28 = .ok (.aload_n 0, 1) := by decide +kernel
theorem d_Pa_init_29 : decode b_Pa_init 29 = .ok (.iconst 0, 1) := by decide +kernel
theorem d_Pa_init_30 : decode b_Pa_init 30 = .ok (.putfield 23, 3) := by decide +kernel
theorem d_Pa_init_33 : decode b_Pa_init 33 = .ok (.aload_n 0, 1) := by decide +kernel
theorem d_Pa_init_34 : decode b_Pa_init 34 = .ok (.iconst 0, 1) := by decide +kernel
theorem d_Pa_init_35 : decode b_Pa_init 35 = .ok (.putfield 27, 3) := by decide +kernel
theorem d_Pa_init_38 : decode b_Pa_init 38 = .ok (.aload_n 0, 1) := by decide +kernel
theorem d_Pa_init_39 : decode b_Pa_init 39 = .ok (.iconst 0, 1) := by decide +kernel
theorem d_Pa_init_40 : decode b_Pa_init 40 = .ok (.putfield 30, 3) := by decide +kernel
theorem d_Pa_init_43 : decode b_Pa_init 43 = .ok (.aload_n 0, 1) := by decide +kernel
theorem d_Pa_init_44 : decode b_Pa_init 44 = .ok (.iconst (-1), 1) := by decide +kernel
theorem d_Pa_init_45 : decode b_Pa_init 45 = .ok (.putfield 33, 3) := by decide +kernel
theorem d_Pa_init_48 : decode b_Pa_init 48 = .ok (.aload_n 0, 1) := by decide +kernel
theorem d_Pa_init_49 : decode b_Pa_init 49 = .ok (.iconst 0, 1) := by decide +kernel
theorem d_Pa_init_50 : decode b_Pa_init 50 = .ok (.putfield 36, 3) := by decide +kernel
theorem d_Pa_init_53 : decode b_Pa_init 53 = .ok (.return_, 1) := by decide +kernel
noncomputable def f_Pa_init  (ms : Nat) (n0 : Nat) (h0 : mH) (a0 : Nat) : Option (Unit × mH) :=
  mgd (4 ≤ ms) <|
  mgd (mOkA h0 h0 [.ref a0] [.ref a0]) <|
  mnm h0.length fun r2 =>
  mnm (h0 ++ [.inr (1, [.null, .int 0])]) fun h3 =>
  mgd (mOkA h0 h3 [.ref a0] [.ref r2, .ref a0]) <|
  mcl (f_By_init 0 n0 h3 r2 0) fun _ h5 =>
  mpt h5 a0 8 0 (.ref r2) fun h7 =>
  mgd (mOkA h0 h7 [.ref a0] [.ref a0]) <|
  mnm h7.length fun r9 =>
  mnm (h7 ++ [.inr (1, [.null, .int 0])]) fun h10 =>
  mgd (mOkA h0 h10 [.ref a0] [.ref r9, .ref a0]) <|
  mcl (f_By_init 0 n0 h10 r9 0) fun _ h12 =>
  mpt h12 a0 8 1 (.ref r9) fun h14 =>
  mpt h14 a0 8 2 (.int 0) fun h15 =>
  mpt h15 a0 8 3 (.int 0) fun h16 =>
  mpt h16 a0 8 4 (.int 0) fun h17 =>
  mpt h17 a0 8 5 (.int (-1)) fun h18 =>
  mpt h18 a0 8 6 (.int 0) fun h19 =>
  mgd (mWf h19) <| some ((), h19)
set_option maxHeartbeats 4000000 in
set_option maxRecDepth 100000 in
theorem cb_Pa_init {X : mX} {ad : Nat → Nat} {ln : Launch} {ms : Nat} (O : mO X ad R_Pa b_Pa_init 1 (mRx 2 4 ms 42) ln) (r' : Unit) (h' h0 : mH) (hE : mEndx X ad h0.length h' 4 ms) (n0 : Nat) (a0 : Nat) (hf : f_Pa_init ms n0 h0 a0 = some (r', h')) : mAW X ad 0 0 0 [(0, .ref a0)] [] h0 := by
  have hag : mAg h0.length ad ad := mAg.rf
  unfold f_Pa_init at hf
  obtain ⟨gms, hf⟩ := mgd_some hf
  refine ax_aload_n O d_Pa_init_0 rfl 0 rfl ?_
  refine ax_oinit O wd_39 (Nat.le_of_ble_eq_true rfl) (Nat.le_of_ble_eq_true rfl) d_Pa_init_1 ?_
  refine ax_aload_n O d_Pa_init_4 rfl 0 rfl ?_
  obtain ⟨g1, hf⟩ := mgd_some hf
  obtain ⟨r2, er2, hf⟩ := mnm_some hf
  obtain ⟨h3, eh3, hf⟩ := mnm_some hf
  refine ax_new O nc_Pa_9 g1 er2 eh3 ⟨Nat.le_of_ble_eq_true rfl, Nat.le_trans (by decide) gms⟩ d_Pa_init_5 (fun ad ag1 => ?_)
  replace O := mO_ag ag1 O
  replace hag := mAg.tr hag ag1 g1.2.1
  refine ax_widen (cs' := 1) (ss' := 2) (by decide) (by decide) ?_
  refine ax_dup O d_Pa_init_8 rfl ?_
  refine ax_iconst (v := 0) O d_Pa_init_9 (by decide) ?_
  obtain ⟨g4, hf⟩ := mgd_some hf
  obtain ⟨u6, h5, mh5, hf⟩ := mcl_some hf
  refine ax_callI (As := [.int 0]) (rest := [.ref r2, .ref a0]) O cw_By_init in_By_init rfl lk_Pa_11 (c_By_init mh5) rfl ⟨rfl, rfl⟩ ⟨Nat.le_of_ble_eq_true rfl, Nat.le_of_ble_eq_true rfl⟩ ⟨Nat.le_of_ble_eq_true rfl, Nat.le_trans (by decide) gms⟩ g4 (Nat.le_of_ble_eq_true rfl) d_Pa_init_10 (fun ad ag4 => ?_)
  replace O := mO_ag ag4 O
  replace hag := mAg.tr hag ag4 g4.2.1
  refine ax_widen (cs' := 2) (ss' := 2) (by decide) (by decide) ?_
  obtain ⟨fh7, h7, ch7, kh7, eh7, hf⟩ := mpt_some hf
  refine ax_put (v := .ref r2) O fp_Pa_14 ch7 kh7 eh7 rfl rfl d_Pa_init_13 ?_
  refine ax_aload_n O d_Pa_init_16 rfl 0 rfl ?_
  obtain ⟨g8, hf⟩ := mgd_some hf
  obtain ⟨r9, er9, hf⟩ := mnm_some hf
  obtain ⟨h10, eh10, hf⟩ := mnm_some hf
  refine ax_new O nc_Pa_9 g8 er9 eh10 ⟨Nat.le_of_ble_eq_true rfl, Nat.le_trans (by decide) gms⟩ d_Pa_init_17 (fun ad ag8 => ?_)
  replace O := mO_ag ag8 O
  replace hag := mAg.tr hag ag8 g8.2.1
  refine ax_widen (cs' := 3) (ss' := 4) (by decide) (by decide) ?_
  refine ax_dup O d_Pa_init_20 rfl ?_
  refine ax_iconst (v := 0) O d_Pa_init_21 (by decide) ?_
  obtain ⟨g11, hf⟩ := mgd_some hf
  obtain ⟨u13, h12, mh12, hf⟩ := mcl_some hf
  refine ax_callI (As := [.int 0]) (rest := [.ref r9, .ref a0]) O cw_By_init in_By_init rfl lk_Pa_11 (c_By_init mh12) rfl ⟨rfl, rfl⟩ ⟨Nat.le_of_ble_eq_true rfl, Nat.le_of_ble_eq_true rfl⟩ ⟨Nat.le_of_ble_eq_true rfl, Nat.le_trans (by decide) gms⟩ g11 (Nat.le_of_ble_eq_true rfl) d_Pa_init_22 (fun ad ag11 => ?_)
  replace O := mO_ag ag11 O
  replace hag := mAg.tr hag ag11 g11.2.1
  refine ax_widen (cs' := 4) (ss' := 4) (by decide) (by decide) ?_
  obtain ⟨fh14, h14, ch14, kh14, eh14, hf⟩ := mpt_some hf
  refine ax_put (v := .ref r9) O fp_Pa_20 ch14 kh14 eh14 rfl rfl d_Pa_init_25 ?_
  refine ax_aload_n O d_Pa_init_28 rfl 0 rfl ?_
  refine ax_iconst (v := 0) O d_Pa_init_29 (by decide) ?_
  obtain ⟨fh15, h15, ch15, kh15, eh15, hf⟩ := mpt_some hf
  refine ax_put (v := .int 0) O fp_Pa_23 ch15 kh15 eh15 rfl rfl d_Pa_init_30 ?_
  refine ax_aload_n O d_Pa_init_33 rfl 0 rfl ?_
  refine ax_iconst (v := 0) O d_Pa_init_34 (by decide) ?_
  obtain ⟨fh16, h16, ch16, kh16, eh16, hf⟩ := mpt_some hf
  refine ax_put (v := .int 0) O fp_Pa_27 ch16 kh16 eh16 rfl rfl d_Pa_init_35 ?_
  refine ax_aload_n O d_Pa_init_38 rfl 0 rfl ?_
  refine ax_iconst (v := 0) O d_Pa_init_39 (by decide) ?_
  obtain ⟨fh17, h17, ch17, kh17, eh17, hf⟩ := mpt_some hf
  refine ax_put (v := .int 0) O fp_Pa_30 ch17 kh17 eh17 rfl rfl d_Pa_init_40 ?_
  refine ax_aload_n O d_Pa_init_43 rfl 0 rfl ?_
  refine ax_iconst (v := (-1)) O d_Pa_init_44 (by decide) ?_
  obtain ⟨fh18, h18, ch18, kh18, eh18, hf⟩ := mpt_some hf
  refine ax_put (v := .int (-1)) O fp_Pa_33 ch18 kh18 eh18 rfl rfl d_Pa_init_45 ?_
  refine ax_aload_n O d_Pa_init_48 rfl 0 rfl ?_
  refine ax_iconst (v := 0) O d_Pa_init_49 (by decide) ?_
  obtain ⟨fh19, h19, ch19, kh19, eh19, hf⟩ := mpt_some hf
  refine ax_put (v := .int 0) O fp_Pa_36 ch19 kh19 eh19 rfl rfl d_Pa_init_50 ?_
  obtain ⟨g20, hf⟩ := mgd_some hf
  exact ax_vretx O hE hag g20 ⟨by decide, Nat.le_trans (by decide) gms⟩ hf d_Pa_init_53
theorem c_Pa_init {ln : Launch} {ms n0 : Nat} {h0 h' : mH} {a0 : Nat} {r' : Unit} (hf : f_Pa_init ms n0 h0 a0 = some (r', h')) : mMetx ln y_Pa_init b_Pa_init 1 (mRx 2 4 ms 42) [.ref a0] h0 h' 4 ms := mMetx_of (by decide +kernel) rfl (Nat.le_of_ble_eq_true rfl) (fun X ad O hE => cb_Pa_init O r' h' h0 hE n0 a0 hf)
/-! ===== StreamFilters$Unpacker.<init>()V ===== -/
theorem d_Un_init_0 : decode b_Un_init 0 = .ok (.aload_n 0, 1) := by decide +kernel
theorem d_Un_init_1 : decode b_Un_init 1 = .ok (.invokespecial 1, 3) := by decide +kernel
theorem d_Un_init_4 : decode b_Un_init 4 = .ok (.return_, 1) := by decide +kernel
noncomputable def f_Un_init  (ms : Nat) (n0 : Nat) (h0 : mH) (a0 : Nat) : Option (Unit × mH) :=
  mgd (0 ≤ ms) <|
  mgd (mWf h0) <| some ((), h0)
set_option maxHeartbeats 4000000 in
set_option maxRecDepth 100000 in
theorem cb_Un_init {X : mX} {ad : Nat → Nat} {ln : Launch} {ms : Nat} (O : mO X ad R_Un b_Un_init 1 (mRx 1 0 ms 20) ln) (r' : Unit) (h' h0 : mH) (hE : mEndx X ad h0.length h' 0 ms) (n0 : Nat) (a0 : Nat) (hf : f_Un_init ms n0 h0 a0 = some (r', h')) : mAW X ad 0 0 0 [(0, .ref a0)] [] h0 := by
  have hag : mAg h0.length ad ad := mAg.rf
  unfold f_Un_init at hf
  obtain ⟨gms, hf⟩ := mgd_some hf
  refine ax_aload_n O d_Un_init_0 rfl 0 rfl ?_
  refine ax_oinit O wd_40 (Nat.le_of_ble_eq_true rfl) (Nat.le_of_ble_eq_true rfl) d_Un_init_1 ?_
  obtain ⟨g1, hf⟩ := mgd_some hf
  exact ax_vretx O hE hag g1 ⟨by decide, Nat.le_trans (by decide) gms⟩ hf d_Un_init_4
theorem c_Un_init {ln : Launch} {ms n0 : Nat} {h0 h' : mH} {a0 : Nat} {r' : Unit} (hf : f_Un_init ms n0 h0 a0 = some (r', h')) : mMetx ln y_Un_init b_Un_init 1 (mRx 1 0 ms 20) [.ref a0] h0 h' 0 ms := mMetx_of (by decide +kernel) rfl (Nat.le_of_ble_eq_true rfl) (fun X ad O hE => cb_Un_init O r' h' h0 hE n0 a0 hf)
/-! ===== StreamFilters$Codes.<init>(I)V ===== -/
theorem d_Co_init_0 : decode b_Co_init 0 = .ok (.aload_n 0, 1) := by decide +kernel
theorem d_Co_init_1 : decode b_Co_init 1 = .ok (.invokespecial 3, 3) := by decide +kernel
theorem d_Co_init_4 : decode b_Co_init 4 = .ok (.aload_n 0, 1) := by decide +kernel
theorem d_Co_init_5 : decode b_Co_init 5 = .ok (.bipush 16, 2) := by decide +kernel
theorem d_Co_init_7 : decode b_Co_init 7 = .ok (.newarray .int, 2) := by decide +kernel
theorem d_Co_init_9 : decode b_Co_init 9 = .ok (.putfield 11, 3) := by decide +kernel
theorem d_Co_init_12 : decode b_Co_init 12 = .ok (.aload_n 0, 1) := by decide +kernel
theorem d_Co_init_13 : decode b_Co_init 13 = .ok (.bipush 16, 2) := by decide +kernel
theorem d_Co_init_15 : decode b_Co_init 15 = .ok (.newarray .int, 2) := by decide +kernel
theorem d_Co_init_17 : decode b_Co_init 17 = .ok (.putfield 15, 3) := by decide +kernel
theorem d_Co_init_20 : decode b_Co_init 20 = .ok (.aload_n 0, 1) := by decide +kernel
theorem d_Co_init_21 : decode b_Co_init 21 = .ok (.iconst 0, 1) := by decide +kernel
theorem d_Co_init_22 : decode b_Co_init 22 = .ok (.putfield 18, 3) := by decide +kernel
theorem d_Co_init_25 : decode b_Co_init 25 = .ok (.aload_n 0, 1) := by decide +kernel
theorem d_Co_init_26 : decode b_Co_init 26 = .ok (.iconst 0, 1) := by decide +kernel
theorem d_Co_init_27 : decode b_Co_init 27 = .ok (.putfield 22, 3) := by decide +kernel
theorem d_Co_init_30 : decode b_Co_init 30 = .ok (.aload_n 0, 1) := by decide +kernel
theorem d_Co_init_31 : decode b_Co_init 31 = .ok (.iconst 0, 1) := by decide +kernel
theorem d_Co_init_32 : decode b_Co_init 32 = .ok (.iload_n 1, 1) := by decide +kernel
theorem d_Co_init_33 : decode b_Co_init 33 = .ok (.invokestatic 25, 3) := by decide +kernel
theorem d_Co_init_36 : decode b_Co_init 36 = .ok (.newarray .int, 2) := by decide +kernel
theorem d_Co_init_38 : decode b_Co_init 38 = .ok (.putfield 31, 3) := by decide +kernel
theorem d_Co_init_41 : decode b_Co_init 41 = .ok (.return_, 1) := by decide +kernel
noncomputable def f_Co_init  (ms : Nat) (n0 : Nat) (h0 : mH) (a0 : Nat) (x1 : Int32) : Option (Unit × mH) :=
  mgd (32 ≤ ms) <|
  mgd (mOkA h0 h0 [.ref a0, .int x1] [.ref a0]) <|
  mnm h0.length fun r2 =>
  mnm (h0 ++ [.inl (.int, ((16 : Int32).toNatClampNeg, .inl (fun _ => 0)))]) fun h3 =>
  mpt h3 a0 2 0 (.ref r2) fun h4 =>
  mgd (mOkA h0 h4 [.ref a0, .int x1] [.ref a0]) <|
  mnm h4.length fun r6 =>
  mnm (h4 ++ [.inl (.int, ((16 : Int32).toNatClampNeg, .inl (fun _ => 0)))]) fun h7 =>
  mpt h7 a0 2 1 (.ref r6) fun h8 =>
  mpt h8 a0 2 3 (.int 0) fun h9 =>
  mpt h9 a0 2 4 (.int 0) fun h10 =>
  mnm (if 0 < x1 then x1 else 0) fun v11 =>
  mgd (mOkA h0 h10 [.ref a0, .int x1] [.ref a0] ∧ ¬ v11 < 0 ∧ v11.toNatClampNeg * componentBytes .int ≤ 536870912 ∧ 32 + v11.toNatClampNeg ≤ ms) <|
  mnm h10.length fun r13 =>
  mnm (h10 ++ [.inl (.int, (v11.toNatClampNeg, .inl (fun _ => 0)))]) fun h14 =>
  mpt h14 a0 2 2 (.ref r13) fun h15 =>
  mgd (mWf h15) <| some ((), h15)
set_option maxHeartbeats 4000000 in
set_option maxRecDepth 100000 in
theorem cb_Co_init {X : mX} {ad : Nat → Nat} {ln : Launch} {ms : Nat} (O : mO X ad R_Co b_Co_init 2 (mRx 1 3 ms 21) ln) (r' : Unit) (h' h0 : mH) (hE : mEndx X ad h0.length h' 3 ms) (n0 : Nat) (a0 : Nat) (x1 : Int32) (hf : f_Co_init ms n0 h0 a0 x1 = some (r', h')) : mAW X ad 0 0 0 [(0, .ref a0), (1, .int x1)] [] h0 := by
  have hag : mAg h0.length ad ad := mAg.rf
  unfold f_Co_init at hf
  obtain ⟨gms, hf⟩ := mgd_some hf
  refine ax_aload_n O d_Co_init_0 rfl 0 rfl ?_
  refine ax_oinit O wd_41 (Nat.le_of_ble_eq_true rfl) (Nat.le_of_ble_eq_true rfl) d_Co_init_1 ?_
  refine ax_aload_n O d_Co_init_4 rfl 0 rfl ?_
  refine ax_bipush (v := 16) O d_Co_init_5 (by decide) ?_
  obtain ⟨g1, hf⟩ := mgd_some hf
  obtain ⟨r2, er2, hf⟩ := mnm_some hf
  obtain ⟨h3, eh3, hf⟩ := mnm_some hf
  refine ax_newa (ty := .int) O rfl rfl (by decide) wd_42 (by decide) (by decide) g1 er2 eh3 ⟨Nat.le_of_ble_eq_true rfl, Nat.le_trans (by decide) gms⟩ d_Co_init_7 (fun ad ag1 => ?_)
  replace O := mO_ag ag1 O
  replace hag := mAg.tr hag ag1 g1.2.1
  refine ax_widen (cs' := 1) (ss' := 16) (by decide) (by decide) ?_
  obtain ⟨fh4, h4, ch4, kh4, eh4, hf⟩ := mpt_some hf
  refine ax_putF (v := .ref r2) O hE fq_Co_11 ch4 kh4 eh4 rfl rfl d_Co_init_9 ?_
  refine ax_aload_n O d_Co_init_12 rfl 0 rfl ?_
  refine ax_bipush (v := 16) O d_Co_init_13 (by decide) ?_
  obtain ⟨g5, hf⟩ := mgd_some hf
  obtain ⟨r6, er6, hf⟩ := mnm_some hf
  obtain ⟨h7, eh7, hf⟩ := mnm_some hf
  refine ax_newa (ty := .int) O rfl rfl (by decide) wd_42 (by decide) (by decide) g5 er6 eh7 ⟨Nat.le_of_ble_eq_true rfl, Nat.le_trans (by decide) gms⟩ d_Co_init_15 (fun ad ag5 => ?_)
  replace O := mO_ag ag5 O
  replace hag := mAg.tr hag ag5 g5.2.1
  refine ax_widen (cs' := 2) (ss' := 32) (by decide) (by decide) ?_
  obtain ⟨fh8, h8, ch8, kh8, eh8, hf⟩ := mpt_some hf
  refine ax_putF (v := .ref r6) O hE fq_Co_15 ch8 kh8 eh8 rfl rfl d_Co_init_17 ?_
  refine ax_aload_n O d_Co_init_20 rfl 0 rfl ?_
  refine ax_iconst (v := 0) O d_Co_init_21 (by decide) ?_
  obtain ⟨fh9, h9, ch9, kh9, eh9, hf⟩ := mpt_some hf
  refine ax_put (v := .int 0) O fp_Co_18 ch9 kh9 eh9 rfl rfl d_Co_init_22 ?_
  refine ax_aload_n O d_Co_init_25 rfl 0 rfl ?_
  refine ax_iconst (v := 0) O d_Co_init_26 (by decide) ?_
  obtain ⟨fh10, h10, ch10, kh10, eh10, hf⟩ := mpt_some hf
  refine ax_put (v := .int 0) O fp_Co_22 ch10 kh10 eh10 rfl rfl d_Co_init_27 ?_
  refine ax_aload_n O d_Co_init_30 rfl 0 rfl ?_
  refine ax_iconst (v := 0) O d_Co_init_31 (by decide) ?_
  refine ax_iload_n O d_Co_init_32 rfl 1 rfl ?_
  obtain ⟨v11, ev11, hf⟩ := mnm_some hf
  refine ax_mmax O wd_0 ⟨Nat.le_of_ble_eq_true rfl, Nat.le_of_ble_eq_true rfl, Nat.le_trans (by decide) gms⟩ (Nat.le_of_ble_eq_true rfl) d_Co_init_33 ?_
  refine ax_nmi ev11 ?_
  obtain ⟨g12, hf⟩ := mgd_some hf
  obtain ⟨r13, er13, hf⟩ := mnm_some hf
  obtain ⟨h14, eh14, hf⟩ := mnm_some hf
  refine ax_newa (ty := .int) O rfl rfl (by decide) wd_42 g12.2.1 g12.2.2.1 g12.1 er13 eh14 ⟨Nat.le_of_ble_eq_true rfl, g12.2.2.2⟩ d_Co_init_36 (fun ad ag12 => ?_)
  replace O := mO_ag ag12 O
  replace hag := mAg.tr hag ag12 g12.1.2.1
  obtain ⟨fh15, h15, ch15, kh15, eh15, hf⟩ := mpt_some hf
  refine ax_putF (v := .ref r13) O hE fq_Co_31 ch15 kh15 eh15 rfl rfl d_Co_init_38 ?_
  obtain ⟨g16, hf⟩ := mgd_some hf
  exact ax_vretx O hE hag g16 ⟨by decide, g12.2.2.2⟩ hf d_Co_init_41
theorem c_Co_init {ln : Launch} {ms n0 : Nat} {h0 h' : mH} {a0 : Nat} {x1 : Int32} {r' : Unit} (hf : f_Co_init ms n0 h0 a0 x1 = some (r', h')) : mMetx ln y_Co_init b_Co_init 2 (mRx 1 3 ms 21) [.ref a0, .int x1] h0 h' 3 ms := mMetx_of (by decide +kernel) rfl (Nat.le_of_ble_eq_true rfl) (fun X ad O hE => cb_Co_init O r' h' h0 hE n0 a0 x1 hf)
/-! ===== StreamFilters$Flate.<init>()V ===== -/
theorem d_Fl_init_0 : decode b_Fl_init 0 = .ok (.aload_n 0, 1) := by decide +kernel
theorem d_Fl_init_1 : decode b_Fl_init 1 = .ok (.invokespecial 3, 3) := by decide +kernel
theorem d_Fl_init_4 : decode b_Fl_init 4 = .ok (.aload_n 0, 1) := by decide +kernel
theorem d_Fl_init_5 : decode b_Fl_init 5 = .ok (.new 9, 3) := by decide +kernel
theorem d_Fl_init_8 : decode b_Fl_init 8 = .ok (.dup, 1) := by decide +kernel
theorem d_Fl_init_9 : decode b_Fl_init 9 = .ok (.sipush 288, 3) := by decide +kernel
theorem d_Fl_init_12 : decode b_Fl_init 12 = .ok (.invokespecial 13, 3) := by decide +kernel
theorem d_Fl_init_15 : decode b_Fl_init 15 = .ok (.putfield 16, 3) := by decide +kernel
theorem d_Fl_init_18 : decode b_Fl_init 18 = .ok (.aload_n 0, 1) := by decide +kernel
theorem d_Fl_init_19 : decode b_Fl_init 19 = .ok (.new 9, 3) := by decide +kernel
theorem d_Fl_init_22 : decode b_Fl_init 22 = .ok (.dup, 1) := by decide +kernel
theorem d_Fl_init_23 : decode b_Fl_init 23 = .ok (.bipush 32, 2) := by decide +kernel
theorem d_Fl_init_25 : decode b_Fl_init 25 = .ok (.invokespecial 13, 3) := by decide +kernel
theorem d_Fl_init_28 : decode b_Fl_init 28 = .ok (.putfield 20, 3) := by decide +kernel
theorem d_Fl_init_31 : decode b_Fl_init 31 = .ok (.aload_n 0, 1) := by decide +kernel
theorem d_Fl_init_32 : decode b_Fl_init 32 = .ok (.new 9, 3) := by decide +kernel
theorem d_Fl_init_35 : decode b_Fl_init 35 = .ok (.dup, 1) := by decide +kernel
theorem d_Fl_init_36 : decode b_Fl_init 36 = .ok (.sipush 288, 3) := by decide +kernel
theorem d_Fl_init_39 : decode b_Fl_init 39 = .ok (.invokespecial 13, 3) := by decide +kernel
theorem d_Fl_init_42 : decode b_Fl_init 42 = .ok (.putfield 23, 3) := by decide +kernel
theorem d_Fl_init_45 : decode b_Fl_init 45 = .ok (.aload_n 0, 1) := by decide +kernel
theorem d_Fl_init_46 : decode b_Fl_init 46 = .ok (.new 9, 3) := by decide +kernel
theorem d_Fl_init_49 : decode b_Fl_init 49 = .ok (.dup, 1) := by decide +kernel
theorem d_Fl_init_50 : decode b_Fl_init 50 = .ok (.bipush 32, 2) := by decide +kernel
theorem d_Fl_init_52 : decode b_Fl_init 52 = .ok (.invokespecial 13, 3) := by decide +kernel
theorem d_Fl_init_55 : decode b_Fl_init 55 = .ok (.putfield 26, 3) := by decide +kernel
theorem d_Fl_init_58 : decode b_Fl_init 58 = .ok (.aload_n 0, 1) := by decide +kernel
theorem d_Fl_init_59 : decode b_Fl_init 59 = .ok (.new 9, 3) := by decide +kernel
theorem d_Fl_init_62 : decode b_Fl_init 62 = .ok (.dup, 1) := by decide +kernel
theorem d_Fl_init_63 : decode b_Fl_init 63 = .ok (.getstatic 29, 3) := by decide +kernel
theorem d_Fl_init_66 : decode b_Fl_init 66 = .ok (.arraylength, 1) := by decide +kernel
theorem d_Fl_init_67 : decode b_Fl_init 67 = .ok (.invokespecial 13, 3) := by decide +kernel
theorem d_Fl_init_70 : decode b_Fl_init 70 = .ok (.putfield 33, 3) := by decide +kernel
theorem d_Fl_init_73 : decode b_Fl_init 73 = .ok (.aload_n 0, 1) := by decide +kernel
theorem d_Fl_init_74 : decode b_Fl_init 74 = .ok (.sipush 320, 3) := by decide +kernel
theorem d_Fl_init_77 : decode b_Fl_init 77 = .ok (.newarray .int, 2) := by decide +kernel
theorem d_Fl_init_79 : decode b_Fl_init 79 = .ok (.putfield 36, 3) := by decide +kernel
theorem d_Fl_init_82 : decode b_Fl_init 82 = .ok (.sipush 320, 3) := by decide +kernel
theorem d_Fl_init_85 : decode b_Fl_init 85 = .ok (.newarray .int, 2) := by decide +kernel
theorem d_Fl_init_87 : decode b_Fl_init 87 = .ok (.astore_n 1, 1) := by decide +kernel
theorem d_Fl_init_88 : decode b_Fl_init 88 = .ok (.iconst 0, 1) := by decide +kernel
theorem d_Fl_init_89 : decode b_Fl_init 89 = .ok (.istore_n 2, 1) := by decide +kernel
theorem d_Fl_init_90 : decode b_Fl_init 90 = .ok (.iload_n 2, 1) := by decide +kernel
theorem d_Fl_init_91 : decode b_Fl_init 91 = .ok (.sipush 288, 3) := by decide +kernel
theorem d_Fl_init_94 : decode b_Fl_init 94 = .ok (.if_icmp .ge 50, 3) := by decide +kernel
theorem d_Fl_init_97 : decode b_Fl_init 97 = .ok (.aload_n 1, 1) := by decide +kernel
theorem d_Fl_init_98 : decode b_Fl_init 98 = .ok (.iload_n 2, 1) := by decide +kernel
theorem d_Fl_init_99 : decode b_Fl_init 99 = .ok (.iload_n 2, 1) := by decide +kernel
theorem d_Fl_init_100 : decode b_Fl_init 100 = .ok (.sipush 144, 3) := by decide +kernel
theorem d_Fl_init_103 : decode b_Fl_init 103 = .ok (.if_icmp .ge 8, 3) := by decide +kernel
theorem d_Fl_init_106 : decode b_Fl_init 106 = .ok (.bipush 8, 2) := by decide +kernel
theorem d_Fl_init_108 : decode b_Fl_init 108 = .ok (.goto 29, 3) := by decide +kernel
theorem d_Fl_init_111 : decode b_Fl_init 111 = .ok (.iload_n 2, 1) := by decide +kernel
theorem d_Fl_init_112 : decode b_Fl_init 112 = .ok (.sipush 256, 3) := by decide +kernel
theorem d_Fl_init_115 : decode b_Fl_init 115 = .ok (.if_icmp .ge 8, 3) := by decide +kernel
theorem d_Fl_init_118 : decode b_Fl_init 118 = .ok (.bipush 9, 2) := by decide +kernel
theorem d_Fl_init_120 : decode b_Fl_init 120 = .ok (.goto 17, 3) := by decide +kernel
theorem d_Fl_init_123 : decode b_Fl_init 123 = .ok (.iload_n 2, 1) := by decide +kernel
theorem d_Fl_init_124 : decode b_Fl_init 124 = .ok (.sipush 280, 3) := by decide +kernel
theorem d_Fl_init_127 : decode b_Fl_init 127 = .ok (.if_icmp .ge 8, 3) := by decide +kernel
theorem d_Fl_init_130 : decode b_Fl_init 130 = .ok (.bipush 7, 2) := by decide +kernel
theorem d_Fl_init_132 : decode b_Fl_init 132 = .ok (.goto 5, 3) := by decide +kernel
theorem d_Fl_init_135 : decode b_Fl_init 135 = .ok (.bipush 8, 2) := by decide +kernel
theorem d_Fl_init_137 : decode b_Fl_init 137 = .ok (.iastore, 1) := by decide +kernel
theorem d_Fl_init_138 : decode b_Fl_init 138 = .ok (.iinc 2 1, 3) := by decide +kernel
theorem d_Fl_init_141 : decode b_Fl_init 141 = .ok (.goto (-51), 3) := by decide +kernel
theorem d_Fl_init_144 : decode b_Fl_init 144 = .ok (.iconst 0, 1) := by decide +kernel
theorem d_Fl_init_145 : decode b_Fl_init 145 = .ok (.istore_n 2, 1) := by decide +kernel
theorem d_Fl_init_146 : decode b_Fl_init 146 = .ok (.iload_n 2, 1) := by decide +kernel
theorem d_Fl_init_147 : decode b_Fl_init 147 = .ok (.bipush 32, 2) := by decide +kernel
theorem d_Fl_init_149 : decode b_Fl_init 149 = .ok (.if_icmp .ge 17, 3) := by decide +kernel
theorem d_Fl_init_152 : decode b_Fl_init 152 = .ok (.aload_n 1, 1) := by decide +kernel
theorem d_Fl_init_153 : decode b_Fl_init 153 = .ok (.sipush 288, 3) := by decide +kernel
theorem d_Fl_init_156 : decode b_Fl_init 156 = .ok (.iload_n 2, 1) := by decide +kernel
theorem d_Fl_init_157 : decode b_Fl_init 157 = .ok (.iadd, 1) := by decide +kernel
theorem d_Fl_init_158 : decode b_Fl_init 158 = .ok (.iconst 5, 1) := by decide +kernel
theorem d_Fl_init_159 : decode b_Fl_init 159 = .ok (.iastore, 1) := by decide +kernel
theorem d_Fl_init_160 : decode b_Fl_init 160 = .ok (.iinc 2 1, 3) := by decide +kernel
theorem d_Fl_init_163 : decode b_Fl_init 163 = .ok (.goto (-17), 3) := by decide +kernel
theorem d_Fl_init_166 : decode b_Fl_init 166 = .ok (.aload_n 0, 1) := by decide +kernel
theorem d_Fl_init_167 : decode b_Fl_init 167 = .ok (.getfield 16, 3) := by decide +kernel
theorem d_Fl_init_170 : decode b_Fl_init 170 = .ok (.aload_n 1, 1) := by decide +kernel
theorem d_Fl_init_171 : decode b_Fl_init 171 = .ok (.iconst 0, 1) := by decide +kernel
theorem d_Fl_init_172 : decode b_Fl_init 172 = .ok (.sipush 288, 3) := by decide +kernel
theorem d_Fl_init_175 : decode b_Fl_init 175 = .ok (.invokevirtual 39, 3) := by decide +kernel
theorem d_Fl_init_178 : decode b_Fl_init 178 = .ok (.aload_n 0, 1) := by decide +kernel
theorem d_Fl_init_179 : decode b_Fl_init 179 = .ok (.getfield 20, 3) := by decide +kernel
theorem d_Fl_init_182 : decode b_Fl_init 182 = .ok (.aload_n 1, 1) := by decide +kernel
theorem d_Fl_init_183 : decode b_Fl_init 183 = .ok (.sipush 288, 3) := by decide +kernel
theorem d_Fl_init_186 : decode b_Fl_init 186 = .ok (.bipush 32, 2) := by decide +kernel
theorem d_Fl_init_188 : decode b_Fl_init 188 = .ok (.invokevirtual 39, 3) := by decide +kernel
theorem d_Fl_init_191 : decode b_Fl_init 191 = .ok (.return_, 1) := by decide +kernel
noncomputable def f_Fl_init_L146  (ms : Nat) (hb : mH) (n0 : Nat) : Nat → mH → Nat → Nat → Int32 → Option (Unit × mH)
  | 0, _, _, _, _ => none
  | n + 1, h0, a0, a1, x2 =>
    if 32 ≤ x2 then
      mgr h0 a0 3 0 fun r49 =>
      mis h0 r49 2 <|
      mcl (f_Co_build n0 h0 r49 a1 0 288) fun _ h52 =>
      mgr h52 a0 3 1 fun r54 =>
      mis h52 r54 2 <|
      mcl (f_Co_build n0 h52 r54 a1 288 32) fun _ h57 =>
      mgd (mWf h57) <| some ((), h57)
    else
      mas h0 a1 .int (288 + x2) 5 fun h60 =>
      mnm (x2 + 1) fun v61 =>
      (f_Fl_init_L146 ms hb n0 n) h60 a0 a1 v61
noncomputable def f_Fl_init_L90  (ms : Nat) (hb : mH) (n0 : Nat) : Nat → mH → Nat → Nat → Int32 → Option (Unit × mH)
  | 0, _, _, _, _ => none
  | n + 1, h0, a0, a1, x2 =>
    if 288 ≤ x2 then
      f_Fl_init_L146 ms hb n0 n0 h0 a0 a1 0
    else
      if 144 ≤ x2 then
        if 256 ≤ x2 then
          if 280 ≤ x2 then
            mas h0 a1 .int x2 8 fun h65 =>
            mnm (x2 + 1) fun v66 =>
            (f_Fl_init_L90 ms hb n0 n) h65 a0 a1 v66
          else
            mas h0 a1 .int x2 7 fun h67 =>
            mnm (x2 + 1) fun v68 =>
            (f_Fl_init_L90 ms hb n0 n) h67 a0 a1 v68
        else
          mas h0 a1 .int x2 9 fun h69 =>
          mnm (x2 + 1) fun v70 =>
          (f_Fl_init_L90 ms hb n0 n) h69 a0 a1 v70
      else
        mas h0 a1 .int x2 8 fun h71 =>
        mnm (x2 + 1) fun v72 =>
        (f_Fl_init_L90 ms hb n0 n) h71 a0 a1 v72
noncomputable def f_Fl_init  (ms : Nat) (n0 : Nat) (h0 : mH) (a0 : Nat) : Option (Unit × mH) :=
  mgd (1484 ≤ ms) <|
  mgd (mOkA h0 h0 [.ref a0] []) <|
  mcl (f_Un_init 0 n0 h0 a0) fun _ h2 =>
  mgd (mOkA h0 h2 [.ref a0] [.ref a0]) <|
  mnm h2.length fun r5 =>
  mnm (h2 ++ [.inr (2, [.null, .null, .null, .int 0, .int 0])]) fun h6 =>
  mgd (mOkA h0 h6 [.ref a0] [.ref r5, .ref a0]) <|
  mcl (f_Co_init 320 n0 h6 r5 288) fun _ h8 =>
  mpt h8 a0 3 0 (.ref r5) fun h10 =>
  mgd (mOkA h0 h10 [.ref a0] [.ref a0]) <|
  mnm h10.length fun r12 =>
  mnm (h10 ++ [.inr (2, [.null, .null, .null, .int 0, .int 0])]) fun h13 =>
  mgd (mOkA h0 h13 [.ref a0] [.ref r12, .ref a0]) <|
  mcl (f_Co_init 64 n0 h13 r12 32) fun _ h15 =>
  mpt h15 a0 3 1 (.ref r12) fun h17 =>
  mgd (mOkA h0 h17 [.ref a0] [.ref a0]) <|
  mnm h17.length fun r19 =>
  mnm (h17 ++ [.inr (2, [.null, .null, .null, .int 0, .int 0])]) fun h20 =>
  mgd (mOkA h0 h20 [.ref a0] [.ref r19, .ref a0]) <|
  mcl (f_Co_init 320 n0 h20 r19 288) fun _ h22 =>
  mpt h22 a0 3 2 (.ref r19) fun h24 =>
  mgd (mOkA h0 h24 [.ref a0] [.ref a0]) <|
  mnm h24.length fun r26 =>
  mnm (h24 ++ [.inr (2, [.null, .null, .null, .int 0, .int 0])]) fun h27 =>
  mgd (mOkA h0 h27 [.ref a0] [.ref r26, .ref a0]) <|
  mcl (f_Co_init 64 n0 h27 r26 32) fun _ h29 =>
  mpt h29 a0 3 3 (.ref r26) fun h31 =>
  mgd (mOkA h0 h31 [.ref a0] [.ref a0]) <|
  mnm h31.length fun r33 =>
  mnm (h31 ++ [.inr (2, [.null, .null, .null, .int 0, .int 0])]) fun h34 =>
  mgd (mOkA h0 h34 [.ref a0] [.ref r33, .ref a0]) <|
  mcl (f_Co_init 51 n0 h34 r33 (nI 19)) fun _ h37 =>
  mpt h37 a0 3 4 (.ref r33) fun h39 =>
  mgd (mOkA h0 h39 [.ref a0] [.ref a0]) <|
  mnm h39.length fun r41 =>
  mnm (h39 ++ [.inl (.int, ((320 : Int32).toNatClampNeg, .inl (fun _ => 0)))]) fun h42 =>
  mpt h42 a0 3 5 (.ref r41) fun h43 =>
  mgd (mOkA h0 h43 [.ref a0] []) <|
  mnm h43.length fun r45 =>
  mnm (h43 ++ [.inl (.int, ((320 : Int32).toNatClampNeg, .inl (fun _ => 0)))]) fun h46 =>
  f_Fl_init_L90 ms h0 n0 n0 h46 a0 r45 0
set_option maxHeartbeats 4000000 in
set_option maxRecDepth 100000 in
theorem cb_Fl_init_L146 {X : mX} {ad ad0 : Nat → Nat} {ln : Launch} {ms : Nat} {hb : mH} (O : mO X ad R_Fl b_Fl_init 3 (mRx 3 22 ms 71) ln) (r' : Unit) (h' : mH) (hE : mEndx X ad0 hb.length h' 22 ms) (gms : 1484 ≤ ms) (hag : mAg hb.length ad0 ad) (n0 : Nat) : ∀ (n : Nat) (h0 : mH) (a0 : Nat) (a1 : Nat) (x2 : Int32), f_Fl_init_L146 ms hb n0 n h0 a0 a1 x2 = some (r', h') → mAW X ad 22 1484 146 [(0, .ref a0), (1, .ref a1), (2, .int x2)] [] h0 := by
  intro n
  induction n with
  | zero =>
    intro h0 a0 a1 x2 hf
    rw [f_Fl_init_L146.eq_1] at hf
    cases hf
  | succ n ih =>
    intro h0 a0 a1 x2 hf
    rw [f_Fl_init_L146.eq_2] at hf
    refine ax_iload_n O d_Fl_init_146 rfl 2 rfl ?_
    refine ax_bipush (v := 32) O d_Fl_init_147 (by decide) ?_
    refine ax_icmp_ge (tgt := 166) O d_Fl_init_149 (by decide) (fun q48 => ?_) (fun q48 => ?_)
    · rw [if_pos q48] at hf
      refine ax_aload_n O d_Fl_init_166 rfl 0 rfl ?_
      obtain ⟨fr49, r49, cr49, kr49, hf⟩ := mgr_some hf
      refine ax_get O fg_Fl_16 cr49 kr49 d_Fl_init_167 ?_
      refine ax_aload_n O d_Fl_init_170 rfl 1 rfl ?_
      refine ax_iconst (v := 0) O d_Fl_init_171 (by decide) ?_
      refine ax_sipush (v := 288) O d_Fl_init_172 (by decide) ?_
      obtain ⟨fh52, ch52, hf⟩ := mis_some hf
      obtain ⟨u53, h52, mh52, hf⟩ := mcl_some hf
      refine ax_callV (As := [.ref a1, .int 0, .int 288]) (rest := []) O cw_Co_build (q := (R_Co, T_Co, 5)) rfl rfl in_Co_build se_Co_build lk_Fl_39 ch52 (c_Co_build mh52) rfl ⟨rfl, rfl⟩ ⟨Nat.le_of_ble_eq_true rfl, Nat.le_of_ble_eq_true rfl⟩ ⟨Nat.le_of_ble_eq_true rfl, Nat.le_trans (by decide) gms⟩ (Nat.le_of_ble_eq_true rfl) d_Fl_init_175 ?_
      refine ax_aload_n O d_Fl_init_178 rfl 0 rfl ?_
      obtain ⟨fr54, r54, cr54, kr54, hf⟩ := mgr_some hf
      refine ax_get O fg_Fl_20 cr54 kr54 d_Fl_init_179 ?_
      refine ax_aload_n O d_Fl_init_182 rfl 1 rfl ?_
      refine ax_sipush (v := 288) O d_Fl_init_183 (by decide) ?_
      refine ax_bipush (v := 32) O d_Fl_init_186 (by decide) ?_
      obtain ⟨fh57, ch57, hf⟩ := mis_some hf
      obtain ⟨u58, h57, mh57, hf⟩ := mcl_some hf
      refine ax_callV (As := [.ref a1, .int 288, .int 32]) (rest := []) O cw_Co_build (q := (R_Co, T_Co, 5)) rfl rfl in_Co_build se_Co_build lk_Fl_39 ch57 (c_Co_build mh57) rfl ⟨rfl, rfl⟩ ⟨Nat.le_of_ble_eq_true rfl, Nat.le_of_ble_eq_true rfl⟩ ⟨Nat.le_of_ble_eq_true rfl, Nat.le_trans (by decide) gms⟩ (Nat.le_of_ble_eq_true rfl) d_Fl_init_188 ?_
      obtain ⟨g59, hf⟩ := mgd_some hf
      exact ax_vretx O hE hag g59 ⟨by decide, Nat.le_trans (by decide) gms⟩ hf d_Fl_init_191
    · rw [if_neg q48] at hf
      refine ax_aload_n O d_Fl_init_152 rfl 1 rfl ?_
      refine ax_sipush (v := 288) O d_Fl_init_153 (by decide) ?_
      refine ax_iload_n O d_Fl_init_156 rfl 2 rfl ?_
      refine ax_iadd O d_Fl_init_157 ?_
      refine ax_iconst (v := 5) O d_Fl_init_158 (by decide) ?_
      obtain ⟨nh60, fh60, h60, ch60, ih60, eh60, hf⟩ := mas_some hf
      refine ax_iast O ch60 ih60 eh60 d_Fl_init_159 ?_
      obtain ⟨v61, ev61, hf⟩ := mnm_some hf
      refine ax_iinc (j := 2) (v := v61) (lv' := [(2, .int v61), (0, .ref a0), (1, .ref a1)]) O d_Fl_init_160 rfl (by rw [ev61]; rfl) (by decide) rfl ?_
      refine ax_goto (tgt := 146) O d_Fl_init_163 (by decide) ?_
      refine ax_sub [1, 2, 0] rfl ?_
      exact ih _ _ _ _ hf
set_option maxHeartbeats 4000000 in
set_option maxRecDepth 100000 in
theorem cb_Fl_init_L90 {X : mX} {ad ad0 : Nat → Nat} {ln : Launch} {ms : Nat} {hb : mH} (O : mO X ad R_Fl b_Fl_init 3 (mRx 3 22 ms 71) ln) (r' : Unit) (h' : mH) (hE : mEndx X ad0 hb.length h' 22 ms) (gms : 1484 ≤ ms) (hag : mAg hb.length ad0 ad) (n0 : Nat) : ∀ (n : Nat) (h0 : mH) (a0 : Nat) (a1 : Nat) (x2 : Int32), f_Fl_init_L90 ms hb n0 n h0 a0 a1 x2 = some (r', h') → mAW X ad 22 1484 90 [(0, .ref a0), (1, .ref a1), (2, .int x2)] [] h0 := by
  intro n
  induction n with
  | zero =>
    intro h0 a0 a1 x2 hf
    rw [f_Fl_init_L90.eq_1] at hf
    cases hf
  | succ n ih =>
    intro h0 a0 a1 x2 hf
    rw [f_Fl_init_L90.eq_2] at hf
    refine ax_iload_n O d_Fl_init_90 rfl 2 rfl ?_
    refine ax_sipush (v := 288) O d_Fl_init_91 (by decide) ?_
    refine ax_icmp_ge (tgt := 144) O d_Fl_init_94 (by decide) (fun q47 => ?_) (fun q47 => ?_)
    · rw [if_pos q47] at hf
      refine ax_iconst (v := 0) O d_Fl_init_144 (by decide) ?_
      refine ax_istore_n (lv' := [(2, .int 0), (0, .ref a0), (1, .ref a1)]) O d_Fl_init_145 rfl (by decide) rfl ?_
      refine ax_sub [1, 2, 0] rfl ?_
      exact cb_Fl_init_L146 O _ _ hE gms hag n0 n0 _ _ _ _ hf
    · rw [if_neg q47] at hf
      refine ax_aload_n O d_Fl_init_97 rfl 1 rfl ?_
      refine ax_iload_n O d_Fl_init_98 rfl 2 rfl ?_
      refine ax_iload_n O d_Fl_init_99 rfl 2 rfl ?_
      refine ax_sipush (v := 144) O d_Fl_init_100 (by decide) ?_
      refine ax_icmp_ge (tgt := 111) O d_Fl_init_103 (by decide) (fun q62 => ?_) (fun q62 => ?_)
      · rw [if_pos q62] at hf
        refine ax_iload_n O d_Fl_init_111 rfl 2 rfl ?_
        refine ax_sipush (v := 256) O d_Fl_init_112 (by decide) ?_
        refine ax_icmp_ge (tgt := 123) O d_Fl_init_115 (by decide) (fun q63 => ?_) (fun q63 => ?_)
        · rw [if_pos q63] at hf
          refine ax_iload_n O d_Fl_init_123 rfl 2 rfl ?_
          refine ax_sipush (v := 280) O d_Fl_init_124 (by decide) ?_
          refine ax_icmp_ge (tgt := 135) O d_Fl_init_127 (by decide) (fun q64 => ?_) (fun q64 => ?_)
          · rw [if_pos q64] at hf
            refine ax_bipush (v := 8) O d_Fl_init_135 (by decide) ?_
            obtain ⟨nh65, fh65, h65, ch65, ih65, eh65, hf⟩ := mas_some hf
            refine ax_iast O ch65 ih65 eh65 d_Fl_init_137 ?_
            obtain ⟨v66, ev66, hf⟩ := mnm_some hf
            refine ax_iinc (j := 2) (v := v66) (lv' := [(2, .int v66), (0, .ref a0), (1, .ref a1)]) O d_Fl_init_138 rfl (by rw [ev66]; rfl) (by decide) rfl ?_
            refine ax_goto (tgt := 90) O d_Fl_init_141 (by decide) ?_
            refine ax_sub [1, 2, 0] rfl ?_
            exact ih _ _ _ _ hf
          · rw [if_neg q64] at hf
            refine ax_bipush (v := 7) O d_Fl_init_130 (by decide) ?_
            refine ax_goto (tgt := 137) O d_Fl_init_132 (by decide) ?_
            obtain ⟨nh67, fh67, h67, ch67, ih67, eh67, hf⟩ := mas_some hf
            refine ax_iast O ch67 ih67 eh67 d_Fl_init_137 ?_
            obtain ⟨v68, ev68, hf⟩ := mnm_some hf
            refine ax_iinc (j := 2) (v := v68) (lv' := [(2, .int v68), (0, .ref a0), (1, .ref a1)]) O d_Fl_init_138 rfl (by rw [ev68]; rfl) (by decide) rfl ?_
            refine ax_goto (tgt := 90) O d_Fl_init_141 (by decide) ?_
            refine ax_sub [1, 2, 0] rfl ?_
            exact ih _ _ _ _ hf
        · rw [if_neg q63] at hf
          refine ax_bipush (v := 9) O d_Fl_init_118 (by decide) ?_
          refine ax_goto (tgt := 137) O d_Fl_init_120 (by decide) ?_
          obtain ⟨nh69, fh69, h69, ch69, ih69, eh69, hf⟩ := mas_some hf
          refine ax_iast O ch69 ih69 eh69 d_Fl_init_137 ?_
          obtain ⟨v70, ev70, hf⟩ := mnm_some hf
          refine ax_iinc (j := 2) (v := v70) (lv' := [(2, .int v70), (0, .ref a0), (1, .ref a1)]) O d_Fl_init_138 rfl (by rw [ev70]; rfl) (by decide) rfl ?_
          refine ax_goto (tgt := 90) O d_Fl_init_141 (by decide) ?_
          refine ax_sub [1, 2, 0] rfl ?_
          exact ih _ _ _ _ hf
      · rw [if_neg q62] at hf
        refine ax_bipush (v := 8) O d_Fl_init_106 (by decide) ?_
        refine ax_goto (tgt := 137) O d_Fl_init_108 (by decide) ?_
        obtain ⟨nh71, fh71, h71, ch71, ih71, eh71, hf⟩ := mas_some hf
        refine ax_iast O ch71 ih71 eh71 d_Fl_init_137 ?_
        obtain ⟨v72, ev72, hf⟩ := mnm_some hf
        refine ax_iinc (j := 2) (v := v72) (lv' := [(2, .int v72), (0, .ref a0), (1, .ref a1)]) O d_Fl_init_138 rfl (by rw [ev72]; rfl) (by decide) rfl ?_
        refine ax_goto (tgt := 90) O d_Fl_init_141 (by decide) ?_
        refine ax_sub [1, 2, 0] rfl ?_
        exact ih _ _ _ _ hf
set_option maxHeartbeats 4000000 in
set_option maxRecDepth 100000 in
theorem cb_Fl_init {X : mX} {ad : Nat → Nat} {ln : Launch} {ms : Nat} (O : mO X ad R_Fl b_Fl_init 3 (mRx 3 22 ms 71) ln) (r' : Unit) (h' h0 : mH) (hE : mEndx X ad h0.length h' 22 ms) (n0 : Nat) (a0 : Nat) (hf : f_Fl_init ms n0 h0 a0 = some (r', h')) : mAW X ad 0 0 0 [(0, .ref a0)] [] h0 := by
  have hag : mAg h0.length ad ad := mAg.rf
  unfold f_Fl_init at hf
  obtain ⟨gms, hf⟩ := mgd_some hf
  refine ax_aload_n O d_Fl_init_0 rfl 0 rfl ?_
  obtain ⟨g1, hf⟩ := mgd_some hf
  obtain ⟨u3, h2, mh2, hf⟩ := mcl_some hf
  refine ax_callI (As := []) (rest := []) O cw_Un_init in_Un_init rfl lk_Fl_3 (c_Un_init mh2) rfl ⟨rfl, rfl⟩ ⟨Nat.le_of_ble_eq_true rfl, Nat.le_of_ble_eq_true rfl⟩ ⟨Nat.le_of_ble_eq_true rfl, Nat.le_trans (by decide) gms⟩ g1 (Nat.le_of_ble_eq_true rfl) d_Fl_init_1 (fun ad ag1 => ?_)
  replace O := mO_ag ag1 O
  replace hag := mAg.tr hag ag1 g1.2.1
  refine ax_widen (cs' := 0) (ss' := 0) (by decide) (by decide) ?_
  refine ax_aload_n O d_Fl_init_4 rfl 0 rfl ?_
  obtain ⟨g4, hf⟩ := mgd_some hf
  obtain ⟨r5, er5, hf⟩ := mnm_some hf
  obtain ⟨h6, eh6, hf⟩ := mnm_some hf
  refine ax_new O nc_Fl_9 g4 er5 eh6 ⟨Nat.le_of_ble_eq_true rfl, Nat.le_trans (by decide) gms⟩ d_Fl_init_5 (fun ad ag4 => ?_)
  replace O := mO_ag ag4 O
  replace hag := mAg.tr hag ag4 g4.2.1
  refine ax_widen (cs' := 1) (ss' := 5) (by decide) (by decide) ?_
  refine ax_dup O d_Fl_init_8 rfl ?_
  refine ax_sipush (v := 288) O d_Fl_init_9 (by decide) ?_
  obtain ⟨g7, hf⟩ := mgd_some hf
  obtain ⟨u9, h8, mh8, hf⟩ := mcl_some hf
  refine ax_callI (As := [.int 288]) (rest := [.ref r5, .ref a0]) O cw_Co_init in_Co_init rfl lk_Fl_13 (c_Co_init mh8) rfl ⟨rfl, rfl⟩ ⟨Nat.le_of_ble_eq_true rfl, Nat.le_of_ble_eq_true rfl⟩ ⟨Nat.le_of_ble_eq_true rfl, Nat.le_trans (by decide) gms⟩ g7 (Nat.le_of_ble_eq_true rfl) d_Fl_init_12 (fun ad ag7 => ?_)
  replace O := mO_ag ag7 O
  replace hag := mAg.tr hag ag7 g7.2.1
  refine ax_widen (cs' := 4) (ss' := 325) (by decide) (by decide) ?_
  obtain ⟨fh10, h10, ch10, kh10, eh10, hf⟩ := mpt_some hf
  refine ax_putF (v := .ref r5) O hE fq_Fl_16 ch10 kh10 eh10 rfl rfl d_Fl_init_15 ?_
  refine ax_aload_n O d_Fl_init_18 rfl 0 rfl ?_
  obtain ⟨g11, hf⟩ := mgd_some hf
  obtain ⟨r12, er12, hf⟩ := mnm_some hf
  obtain ⟨h13, eh13, hf⟩ := mnm_some hf
  refine ax_new O nc_Fl_9 g11 er12 eh13 ⟨Nat.le_of_ble_eq_true rfl, Nat.le_trans (by decide) gms⟩ d_Fl_init_19 (fun ad ag11 => ?_)
  replace O := mO_ag ag11 O
  replace hag := mAg.tr hag ag11 g11.2.1
  refine ax_widen (cs' := 5) (ss' := 330) (by decide) (by decide) ?_
  refine ax_dup O d_Fl_init_22 rfl ?_
  refine ax_bipush (v := 32) O d_Fl_init_23 (by decide) ?_
  obtain ⟨g14, hf⟩ := mgd_some hf
  obtain ⟨u16, h15, mh15, hf⟩ := mcl_some hf
  refine ax_callI (As := [.int 32]) (rest := [.ref r12, .ref a0]) O cw_Co_init in_Co_init rfl lk_Fl_13 (c_Co_init mh15) rfl ⟨rfl, rfl⟩ ⟨Nat.le_of_ble_eq_true rfl, Nat.le_of_ble_eq_true rfl⟩ ⟨Nat.le_of_ble_eq_true rfl, Nat.le_trans (by decide) gms⟩ g14 (Nat.le_of_ble_eq_true rfl) d_Fl_init_25 (fun ad ag14 => ?_)
  replace O := mO_ag ag14 O
  replace hag := mAg.tr hag ag14 g14.2.1
  refine ax_widen (cs' := 8) (ss' := 394) (by decide) (by decide) ?_
  obtain ⟨fh17, h17, ch17, kh17, eh17, hf⟩ := mpt_some hf
  refine ax_putF (v := .ref r12) O hE fq_Fl_20 ch17 kh17 eh17 rfl rfl d_Fl_init_28 ?_
  refine ax_aload_n O d_Fl_init_31 rfl 0 rfl ?_
  obtain ⟨g18, hf⟩ := mgd_some hf
  obtain ⟨r19, er19, hf⟩ := mnm_some hf
  obtain ⟨h20, eh20, hf⟩ := mnm_some hf
  refine ax_new O nc_Fl_9 g18 er19 eh20 ⟨Nat.le_of_ble_eq_true rfl, Nat.le_trans (by decide) gms⟩ d_Fl_init_32 (fun ad ag18 => ?_)
  replace O := mO_ag ag18 O
  replace hag := mAg.tr hag ag18 g18.2.1
  refine ax_widen (cs' := 9) (ss' := 399) (by decide) (by decide) ?_
  refine ax_dup O d_Fl_init_35 rfl ?_
  refine ax_sipush (v := 288) O d_Fl_init_36 (by decide) ?_
  obtain ⟨g21, hf⟩ := mgd_some hf
  obtain ⟨u23, h22, mh22, hf⟩ := mcl_some hf
  refine ax_callI (As := [.int 288]) (rest := [.ref r19, .ref a0]) O cw_Co_init in_Co_init rfl lk_Fl_13 (c_Co_init mh22) rfl ⟨rfl, rfl⟩ ⟨Nat.le_of_ble_eq_true rfl, Nat.le_of_ble_eq_true rfl⟩ ⟨Nat.le_of_ble_eq_true rfl, Nat.le_trans (by decide) gms⟩ g21 (Nat.le_of_ble_eq_true rfl) d_Fl_init_39 (fun ad ag21 => ?_)
  replace O := mO_ag ag21 O
  replace hag := mAg.tr hag ag21 g21.2.1
  refine ax_widen (cs' := 12) (ss' := 719) (by decide) (by decide) ?_
  obtain ⟨fh24, h24, ch24, kh24, eh24, hf⟩ := mpt_some hf
  refine ax_putF (v := .ref r19) O hE fq_Fl_23 ch24 kh24 eh24 rfl rfl d_Fl_init_42 ?_
  refine ax_aload_n O d_Fl_init_45 rfl 0 rfl ?_
  obtain ⟨g25, hf⟩ := mgd_some hf
  obtain ⟨r26, er26, hf⟩ := mnm_some hf
  obtain ⟨h27, eh27, hf⟩ := mnm_some hf
  refine ax_new O nc_Fl_9 g25 er26 eh27 ⟨Nat.le_of_ble_eq_true rfl, Nat.le_trans (by decide) gms⟩ d_Fl_init_46 (fun ad ag25 => ?_)
  replace O := mO_ag ag25 O
  replace hag := mAg.tr hag ag25 g25.2.1
  refine ax_widen (cs' := 13) (ss' := 724) (by decide) (by decide) ?_
  refine ax_dup O d_Fl_init_49 rfl ?_
  refine ax_bipush (v := 32) O d_Fl_init_50 (by decide) ?_
  obtain ⟨g28, hf⟩ := mgd_some hf
  obtain ⟨u30, h29, mh29, hf⟩ := mcl_some hf
  refine ax_callI (As := [.int 32]) (rest := [.ref r26, .ref a0]) O cw_Co_init in_Co_init rfl lk_Fl_13 (c_Co_init mh29) rfl ⟨rfl, rfl⟩ ⟨Nat.le_of_ble_eq_true rfl, Nat.le_of_ble_eq_true rfl⟩ ⟨Nat.le_of_ble_eq_true rfl, Nat.le_trans (by decide) gms⟩ g28 (Nat.le_of_ble_eq_true rfl) d_Fl_init_52 (fun ad ag28 => ?_)
  replace O := mO_ag ag28 O
  replace hag := mAg.tr hag ag28 g28.2.1
  refine ax_widen (cs' := 16) (ss' := 788) (by decide) (by decide) ?_
  obtain ⟨fh31, h31, ch31, kh31, eh31, hf⟩ := mpt_some hf
  refine ax_putF (v := .ref r26) O hE fq_Fl_26 ch31 kh31 eh31 rfl rfl d_Fl_init_55 ?_
  refine ax_aload_n O d_Fl_init_58 rfl 0 rfl ?_
  obtain ⟨g32, hf⟩ := mgd_some hf
  obtain ⟨r33, er33, hf⟩ := mnm_some hf
  obtain ⟨h34, eh34, hf⟩ := mnm_some hf
  refine ax_new O nc_Fl_9 g32 er33 eh34 ⟨Nat.le_of_ble_eq_true rfl, Nat.le_trans (by decide) gms⟩ d_Fl_init_59 (fun ad ag32 => ?_)
  replace O := mO_ag ag32 O
  replace hag := mAg.tr hag ag32 g32.2.1
  refine ax_widen (cs' := 17) (ss' := 793) (by decide) (by decide) ?_
  refine ax_dup O d_Fl_init_62 rfl ?_
  refine ax_gets O 0 rfl wd_25 d_Fl_init_63 ?_
  refine ax_stl O 0 rfl d_Fl_init_66 ?_
  obtain ⟨g36, hf⟩ := mgd_some hf
  obtain ⟨u38, h37, mh37, hf⟩ := mcl_some hf
  refine ax_callI (As := [.int (nI 19)]) (rest := [.ref r33, .ref a0]) O cw_Co_init in_Co_init rfl lk_Fl_13 (c_Co_init mh37) rfl ⟨rfl, rfl⟩ ⟨Nat.le_of_ble_eq_true rfl, Nat.le_of_ble_eq_true rfl⟩ ⟨Nat.le_of_ble_eq_true rfl, Nat.le_trans (by decide) gms⟩ g36 (Nat.le_of_ble_eq_true rfl) d_Fl_init_67 (fun ad ag36 => ?_)
  replace O := mO_ag ag36 O
  replace hag := mAg.tr hag ag36 g36.2.1
  refine ax_widen (cs' := 20) (ss' := 844) (by decide) (by decide) ?_
  obtain ⟨fh39, h39, ch39, kh39, eh39, hf⟩ := mpt_some hf
  refine ax_putF (v := .ref r33) O hE fq_Fl_33 ch39 kh39 eh39 rfl rfl d_Fl_init_70 ?_
  refine ax_aload_n O d_Fl_init_73 rfl 0 rfl ?_
  refine ax_sipush (v := 320) O d_Fl_init_74 (by decide) ?_
  obtain ⟨g40, hf⟩ := mgd_some hf
  obtain ⟨r41, er41, hf⟩ := mnm_some hf
  obtain ⟨h42, eh42, hf⟩ := mnm_some hf
  refine ax_newa (ty := .int) O rfl rfl (by decide) wd_42 (by decide) (by decide) g40 er41 eh42 ⟨Nat.le_of_ble_eq_true rfl, Nat.le_trans (by decide) gms⟩ d_Fl_init_77 (fun ad ag40 => ?_)
  replace O := mO_ag ag40 O
  replace hag := mAg.tr hag ag40 g40.2.1
  refine ax_widen (cs' := 21) (ss' := 1164) (by decide) (by decide) ?_
  obtain ⟨fh43, h43, ch43, kh43, eh43, hf⟩ := mpt_some hf
  refine ax_putF (v := .ref r41) O hE fq_Fl_36 ch43 kh43 eh43 rfl rfl d_Fl_init_79 ?_
  refine ax_sipush (v := 320) O d_Fl_init_82 (by decide) ?_
  obtain ⟨g44, hf⟩ := mgd_some hf
  obtain ⟨r45, er45, hf⟩ := mnm_some hf
  obtain ⟨h46, eh46, hf⟩ := mnm_some hf
  refine ax_newa (ty := .int) O rfl rfl (by decide) wd_42 (by decide) (by decide) g44 er45 eh46 ⟨Nat.le_of_ble_eq_true rfl, Nat.le_trans (by decide) gms⟩ d_Fl_init_85 (fun ad ag44 => ?_)
  replace O := mO_ag ag44 O
  replace hag := mAg.tr hag ag44 g44.2.1
  refine ax_widen (cs' := 22) (ss' := 1484) (by decide) (by decide) ?_
  refine ax_astore_n (lv' := [(1, .ref r45), (0, .ref a0)]) O d_Fl_init_87 rfl (by decide) rfl ?_
  refine ax_iconst (v := 0) O d_Fl_init_88 (by decide) ?_
  refine ax_istore_n (lv' := [(2, .int 0), (1, .ref r45), (0, .ref a0)]) O d_Fl_init_89 rfl (by decide) rfl ?_
  refine ax_sub [2, 1, 0] rfl ?_
  exact cb_Fl_init_L90 O _ _ hE gms hag n0 n0 _ _ _ _ hf
theorem c_Fl_init {ln : Launch} {ms n0 : Nat} {h0 h' : mH} {a0 : Nat} {r' : Unit} (hf : f_Fl_init ms n0 h0 a0 = some (r', h')) : mMetx ln y_Fl_init b_Fl_init 3 (mRx 3 22 ms 71) [.ref a0] h0 h' 22 ms := mMetx_of (by decide +kernel) rfl (Nat.le_of_ble_eq_true rfl) (fun X ad O hE => cb_Fl_init O r' h' h0 hE n0 a0 hf)
/-! ===== StreamFilters$Lzw.<init>()V ===== -/
theorem d_Lz_init_0 : decode b_Lz_init 0 = .ok (.aload_n 0, 1) := by decide +kernel
theorem d_Lz_init_1 : decode b_Lz_init 1 = .ok (.invokespecial 3, 3) := by decide +kernel
theorem d_Lz_init_4 : decode b_Lz_init 4 = .ok (.aload_n 0, 1) := by decide +kernel
theorem d_Lz_init_5 : decode b_Lz_init 5 = .ok (.sipush 4096, 3) := by decide +kernel
theorem d_Lz_init_8 : decode b_Lz_init 8 = .ok (.newarray .int, 2) := by decide +kernel
theorem d_Lz_init_10 : decode b_Lz_init 10 = .ok (.putfield 11, 3) := by decide +kernel
theorem d_Lz_init_13 : decode b_Lz_init 13 = .ok (.aload_n 0, 1) := by decide +kernel
theorem d_Lz_init_14 : decode b_Lz_init 14 = .ok (.sipush 4096, 3) := by decide +kernel
theorem d_Lz_init_17 : decode b_Lz_init 17 = .ok (.newarray .int, 2) := by decide +kernel
theorem d_Lz_init_19 : decode b_Lz_init 19 = .ok (.putfield 15, 3) := by decide +kernel
theorem d_Lz_init_22 : decode b_Lz_init 22 = .ok (.aload_n 0, 1) := by decide +kernel
theorem d_Lz_init_23 : decode b_Lz_init 23 = .ok (.sipush 258, 3) := by decide +kernel
theorem d_Lz_init_26 : decode b_Lz_init 26 = .ok (.putfield 18, 3) := by decide +kernel
theorem d_Lz_init_29 : decode b_Lz_init 29 = .ok (.aload_n 0, 1) := by decide +kernel
theorem d_Lz_init_30 : decode b_Lz_init 30 = .ok (.iconst 0, 1) := by decide +kernel
theorem d_Lz_init_31 : decode b_Lz_init 31 = .ok (.putfield 22, 3) := by decide +kernel
theorem d_Lz_init_34 : decode b_Lz_init 34 = .ok (.aload_n 0, 1) := by decide +kernel
theorem d_Lz_init_35 : decode b_Lz_init 35 = .ok (.iconst 0, 1) := by decide +kernel
theorem d_Lz_init_36 : decode b_Lz_init 36 = .ok (.putfield 25, 3) := by decide +kernel
theorem d_Lz_init_39 : decode b_Lz_init 39 = .ok (.return_, 1) := by decide +kernel
noncomputable def f_Lz_init  (ms : Nat) (n0 : Nat) (h0 : mH) (a0 : Nat) : Option (Unit × mH) :=
  mgd (8192 ≤ ms) <|
  mgd (mOkA h0 h0 [.ref a0] []) <|
  mcl (f_Un_init 0 n0 h0 a0) fun _ h2 =>
  mgd (mOkA h0 h2 [.ref a0] [.ref a0]) <|
  mnm h2.length fun r5 =>
  mnm (h2 ++ [.inl (.int, ((4096 : Int32).toNatClampNeg, .inl (fun _ => 0)))]) fun h6 =>
  mpt h6 a0 7 0 (.ref r5) fun h7 =>
  mgd (mOkA h0 h7 [.ref a0] [.ref a0]) <|
  mnm h7.length fun r9 =>
  mnm (h7 ++ [.inl (.int, ((4096 : Int32).toNatClampNeg, .inl (fun _ => 0)))]) fun h10 =>
  mpt h10 a0 7 1 (.ref r9) fun h11 =>
  mpt h11 a0 7 2 (.int 258) fun h12 =>
  mpt h12 a0 7 3 (.int 0) fun h13 =>
  mpt h13 a0 7 4 (.int 0) fun h14 =>
  mgd (mWf h14) <| some ((), h14)
set_option maxHeartbeats 4000000 in
set_option maxRecDepth 100000 in
theorem cb_Lz_init {X : mX} {ad : Nat → Nat} {ln : Launch} {ms : Nat} (O : mO X ad R_Lz b_Lz_init 1 (mRx 2 2 ms 40) ln) (r' : Unit) (h' h0 : mH) (hE : mEndx X ad h0.length h' 2 ms) (n0 : Nat) (a0 : Nat) (hf : f_Lz_init ms n0 h0 a0 = some (r', h')) : mAW X ad 0 0 0 [(0, .ref a0)] [] h0 := by
  have hag : mAg h0.length ad ad := mAg.rf
  unfold f_Lz_init at hf
  obtain ⟨gms, hf⟩ := mgd_some hf
  refine ax_aload_n O d_Lz_init_0 rfl 0 rfl ?_
  obtain ⟨g1, hf⟩ := mgd_some hf
  obtain ⟨u3, h2, mh2, hf⟩ := mcl_some hf
  refine ax_callI (As := []) (rest := []) O cw_Un_init in_Un_init rfl lk_Lz_3 (c_Un_init mh2) rfl ⟨rfl, rfl⟩ ⟨Nat.le_of_ble_eq_true rfl, Nat.le_of_ble_eq_true rfl⟩ ⟨Nat.le_of_ble_eq_true rfl, Nat.le_trans (by decide) gms⟩ g1 (Nat.le_of_ble_eq_true rfl) d_Lz_init_1 (fun ad ag1 => ?_)
  replace O := mO_ag ag1 O
  replace hag := mAg.tr hag ag1 g1.2.1
  refine ax_widen (cs' := 0) (ss' := 0) (by decide) (by decide) ?_
  refine ax_aload_n O d_Lz_init_4 rfl 0 rfl ?_
  refine ax_sipush (v := 4096) O d_Lz_init_5 (by decide) ?_
  obtain ⟨g4, hf⟩ := mgd_some hf
  obtain ⟨r5, er5, hf⟩ := mnm_some hf
  obtain ⟨h6, eh6, hf⟩ := mnm_some hf
  refine ax_newa (ty := .int) O rfl rfl (by decide) wd_42 (by decide) (by decide) g4 er5 eh6 ⟨Nat.le_of_ble_eq_true rfl, Nat.le_trans (by decide) gms⟩ d_Lz_init_8 (fun ad ag4 => ?_)
  replace O := mO_ag ag4 O
  replace hag := mAg.tr hag ag4 g4.2.1
  refine ax_widen (cs' := 1) (ss' := 4096) (by decide) (by decide) ?_
  obtain ⟨fh7, h7, ch7, kh7, eh7, hf⟩ := mpt_some hf
  refine ax_putF (v := .ref r5) O hE fq_Lz_11 ch7 kh7 eh7 rfl rfl d_Lz_init_10 ?_
  refine ax_aload_n O d_Lz_init_13 rfl 0 rfl ?_
  refine ax_sipush (v := 4096) O d_Lz_init_14 (by decide) ?_
  obtain ⟨g8, hf⟩ := mgd_some hf
  obtain ⟨r9, er9, hf⟩ := mnm_some hf
  obtain ⟨h10, eh10, hf⟩ := mnm_some hf
  refine ax_newa (ty := .int) O rfl rfl (by decide) wd_42 (by decide) (by decide) g8 er9 eh10 ⟨Nat.le_of_ble_eq_true rfl, Nat.le_trans (by decide) gms⟩ d_Lz_init_17 (fun ad ag8 => ?_)
  replace O := mO_ag ag8 O
  replace hag := mAg.tr hag ag8 g8.2.1
  refine ax_widen (cs' := 2) (ss' := 8192) (by decide) (by decide) ?_
  obtain ⟨fh11, h11, ch11, kh11, eh11, hf⟩ := mpt_some hf
  refine ax_putF (v := .ref r9) O hE fq_Lz_15 ch11 kh11 eh11 rfl rfl d_Lz_init_19 ?_
  refine ax_aload_n O d_Lz_init_22 rfl 0 rfl ?_
  refine ax_sipush (v := 258) O d_Lz_init_23 (by decide) ?_
  obtain ⟨fh12, h12, ch12, kh12, eh12, hf⟩ := mpt_some hf
  refine ax_put (v := .int 258) O fp_Lz_18 ch12 kh12 eh12 rfl rfl d_Lz_init_26 ?_
  refine ax_aload_n O d_Lz_init_29 rfl 0 rfl ?_
  refine ax_iconst (v := 0) O d_Lz_init_30 (by decide) ?_
  obtain ⟨fh13, h13, ch13, kh13, eh13, hf⟩ := mpt_some hf
  refine ax_put (v := .int 0) O fp_Lz_22 ch13 kh13 eh13 rfl rfl d_Lz_init_31 ?_
  refine ax_aload_n O d_Lz_init_34 rfl 0 rfl ?_
  refine ax_iconst (v := 0) O d_Lz_init_35 (by decide) ?_
  obtain ⟨fh14, h14, ch14, kh14, eh14, hf⟩ := mpt_some hf
  refine ax_put (v := .int 0) O fp_Lz_25 ch14 kh14 eh14 rfl rfl d_Lz_init_36 ?_
  obtain ⟨g15, hf⟩ := mgd_some hf
  exact ax_vretx O hE hag g15 ⟨by decide, Nat.le_trans (by decide) gms⟩ hf d_Lz_init_39
theorem c_Lz_init {ln : Launch} {ms n0 : Nat} {h0 h' : mH} {a0 : Nat} {r' : Unit} (hf : f_Lz_init ms n0 h0 a0 = some (r', h')) : mMetx ln y_Lz_init b_Lz_init 1 (mRx 2 2 ms 40) [.ref a0] h0 h' 2 ms := mMetx_of (by decide +kernel) rfl (Nat.le_of_ble_eq_true rfl) (fun X ad O hE => cb_Lz_init O r' h' h0 hE n0 a0 hf)
/-! ===== StreamFilters$Text85.<init>()V ===== -/
theorem d_T8_init_0 : decode b_T8_init 0 = .ok (.aload_n 0, 1) := by decide +kernel
theorem d_T8_init_1 : decode b_T8_init 1 = .ok (.invokespecial 3, 3) := by decide +kernel
theorem d_T8_init_4 : decode b_T8_init 4 = .ok (.aload_n 0, 1) := by decide +kernel
theorem d_T8_init_5 : decode b_T8_init 5 = .ok (.lconst 0, 1) := by decide +kernel
theorem d_T8_init_6 : decode b_T8_init 6 = .ok (.putfield 9, 3) := by decide +kernel
theorem d_T8_init_9 : decode b_T8_init 9 = .ok (.aload_n 0, 1) := by decide +kernel
theorem d_T8_init_10 : decode b_T8_init 10 = .ok (.iconst 0, 1) := by decide +kernel
theorem d_T8_init_11 : decode b_T8_init 11 = .ok (.putfield 15, 3) := by decide +kernel
theorem d_T8_init_14 : decode b_T8_init 14 = .ok (.return_, 1) := by decide +kernel
noncomputable def f_T8_init  (ms : Nat) (n0 : Nat) (h0 : mH) (a0 : Nat) : Option (Unit × mH) :=
  mgd (0 ≤ ms) <|
  mgd (mOkA h0 h0 [.ref a0] []) <|
  mcl (f_Un_init 0 n0 h0 a0) fun _ h2 =>
  mpt h2 a0 9 0 (.long 0) fun h4 =>
  mpt h4 a0 9 1 (.int 0) fun h5 =>
  mgd (mWf h5) <| some ((), h5)
set_option maxHeartbeats 4000000 in
set_option maxRecDepth 100000 in
theorem cb_T8_init {X : mX} {ad : Nat → Nat} {ln : Launch} {ms : Nat} (O : mO X ad R_T8 b_T8_init 1 (mRx 2 0 ms 40) ln) (r' : Unit) (h' h0 : mH) (hE : mEndx X ad h0.length h' 0 ms) (n0 : Nat) (a0 : Nat) (hf : f_T8_init ms n0 h0 a0 = some (r', h')) : mAW X ad 0 0 0 [(0, .ref a0)] [] h0 := by
  have hag : mAg h0.length ad ad := mAg.rf
  unfold f_T8_init at hf
  obtain ⟨gms, hf⟩ := mgd_some hf
  refine ax_aload_n O d_T8_init_0 rfl 0 rfl ?_
  obtain ⟨g1, hf⟩ := mgd_some hf
  obtain ⟨u3, h2, mh2, hf⟩ := mcl_some hf
  refine ax_callI (As := []) (rest := []) O cw_Un_init in_Un_init rfl lk_T8_3 (c_Un_init mh2) rfl ⟨rfl, rfl⟩ ⟨Nat.le_of_ble_eq_true rfl, Nat.le_of_ble_eq_true rfl⟩ ⟨Nat.le_of_ble_eq_true rfl, Nat.le_trans (by decide) gms⟩ g1 (Nat.le_of_ble_eq_true rfl) d_T8_init_1 (fun ad ag1 => ?_)
  replace O := mO_ag ag1 O
  replace hag := mAg.tr hag ag1 g1.2.1
  refine ax_widen (cs' := 0) (ss' := 0) (by decide) (by decide) ?_
  refine ax_aload_n O d_T8_init_4 rfl 0 rfl ?_
  refine ax_lconst (v := 0) O d_T8_init_5 (by decide) ?_
  obtain ⟨fh4, h4, ch4, kh4, eh4, hf⟩ := mpt_some hf
  refine ax_put (v := .long 0) O fp_T8_9 ch4 kh4 eh4 rfl rfl d_T8_init_6 ?_
  refine ax_aload_n O d_T8_init_9 rfl 0 rfl ?_
  refine ax_iconst (v := 0) O d_T8_init_10 (by decide) ?_
  obtain ⟨fh5, h5, ch5, kh5, eh5, hf⟩ := mpt_some hf
  refine ax_put (v := .int 0) O fp_T8_15 ch5 kh5 eh5 rfl rfl d_T8_init_11 ?_
  obtain ⟨g6, hf⟩ := mgd_some hf
  exact ax_vretx O hE hag g6 ⟨by decide, Nat.le_trans (by decide) gms⟩ hf d_T8_init_14
theorem c_T8_init {ln : Launch} {ms n0 : Nat} {h0 h' : mH} {a0 : Nat} {r' : Unit} (hf : f_T8_init ms n0 h0 a0 = some (r', h')) : mMetx ln y_T8_init b_T8_init 1 (mRx 2 0 ms 40) [.ref a0] h0 h' 0 ms := mMetx_of (by decide +kernel) rfl (Nat.le_of_ble_eq_true rfl) (fun X ad O hE => cb_T8_init O r' h' h0 hE n0 a0 hf)
/-! ===== StreamFilters$Hexadecimal.<init>()V ===== -/
theorem d_Hx_init_0 : decode b_Hx_init 0 = .ok (.aload_n 0, 1) := by decide +kernel
theorem d_Hx_init_1 : decode b_Hx_init 1 = .ok (.invokespecial 3, 3) := by decide +kernel
theorem d_Hx_init_4 : decode b_Hx_init 4 = .ok (.return_, 1) := by decide +kernel
noncomputable def f_Hx_init  (ms : Nat) (n0 : Nat) (h0 : mH) (a0 : Nat) : Option (Unit × mH) :=
  mgd (0 ≤ ms) <|
  mgd (mOkA h0 h0 [.ref a0] []) <|
  mcl (f_Un_init 0 n0 h0 a0) fun _ h2 =>
  mgd (mWf h2) <| some ((), h2)
set_option maxHeartbeats 4000000 in
set_option maxRecDepth 100000 in
theorem cb_Hx_init {X : mX} {ad : Nat → Nat} {ln : Launch} {ms : Nat} (O : mO X ad R_Hx b_Hx_init 1 (mRx 2 0 ms 40) ln) (r' : Unit) (h' h0 : mH) (hE : mEndx X ad h0.length h' 0 ms) (n0 : Nat) (a0 : Nat) (hf : f_Hx_init ms n0 h0 a0 = some (r', h')) : mAW X ad 0 0 0 [(0, .ref a0)] [] h0 := by
  have hag : mAg h0.length ad ad := mAg.rf
  unfold f_Hx_init at hf
  obtain ⟨gms, hf⟩ := mgd_some hf
  refine ax_aload_n O d_Hx_init_0 rfl 0 rfl ?_
  obtain ⟨g1, hf⟩ := mgd_some hf
  obtain ⟨u3, h2, mh2, hf⟩ := mcl_some hf
  refine ax_callI (As := []) (rest := []) O cw_Un_init in_Un_init rfl lk_Hx_3 (c_Un_init mh2) rfl ⟨rfl, rfl⟩ ⟨Nat.le_of_ble_eq_true rfl, Nat.le_of_ble_eq_true rfl⟩ ⟨Nat.le_of_ble_eq_true rfl, Nat.le_trans (by decide) gms⟩ g1 (Nat.le_of_ble_eq_true rfl) d_Hx_init_1 (fun ad ag1 => ?_)
  replace O := mO_ag ag1 O
  replace hag := mAg.tr hag ag1 g1.2.1
  refine ax_widen (cs' := 0) (ss' := 0) (by decide) (by decide) ?_
  obtain ⟨g4, hf⟩ := mgd_some hf
  exact ax_vretx O hE hag g4 ⟨by decide, Nat.le_trans (by decide) gms⟩ hf d_Hx_init_4
theorem c_Hx_init {ln : Launch} {ms n0 : Nat} {h0 h' : mH} {a0 : Nat} {r' : Unit} (hf : f_Hx_init ms n0 h0 a0 = some (r', h')) : mMetx ln y_Hx_init b_Hx_init 1 (mRx 2 0 ms 40) [.ref a0] h0 h' 0 ms := mMetx_of (by decide +kernel) rfl (Nat.le_of_ble_eq_true rfl) (fun X ad O hE => cb_Hx_init O r' h' h0 hE n0 a0 hf)
/-! ===== StreamFilters$Lengths.<init>()V ===== -/
theorem d_Le_init_0 : decode b_Le_init 0 = .ok (.aload_n 0, 1) := by decide +kernel
theorem d_Le_init_1 : decode b_Le_init 1 = .ok (.invokespecial 3, 3) := by decide +kernel
theorem d_Le_init_4 : decode b_Le_init 4 = .ok (.return_, 1) := by decide +kernel
noncomputable def f_Le_init  (ms : Nat) (n0 : Nat) (h0 : mH) (a0 : Nat) : Option (Unit × mH) :=
  mgd (0 ≤ ms) <|
  mgd (mOkA h0 h0 [.ref a0] []) <|
  mcl (f_Un_init 0 n0 h0 a0) fun _ h2 =>
  mgd (mWf h2) <| some ((), h2)
set_option maxHeartbeats 4000000 in
set_option maxRecDepth 100000 in
theorem cb_Le_init {X : mX} {ad : Nat → Nat} {ln : Launch} {ms : Nat} (O : mO X ad R_Le b_Le_init 1 (mRx 2 0 ms 40) ln) (r' : Unit) (h' h0 : mH) (hE : mEndx X ad h0.length h' 0 ms) (n0 : Nat) (a0 : Nat) (hf : f_Le_init ms n0 h0 a0 = some (r', h')) : mAW X ad 0 0 0 [(0, .ref a0)] [] h0 := by
  have hag : mAg h0.length ad ad := mAg.rf
  unfold f_Le_init at hf
  obtain ⟨gms, hf⟩ := mgd_some hf
  refine ax_aload_n O d_Le_init_0 rfl 0 rfl ?_
  obtain ⟨g1, hf⟩ := mgd_some hf
  obtain ⟨u3, h2, mh2, hf⟩ := mcl_some hf
  refine ax_callI (As := []) (rest := []) O cw_Un_init in_Un_init rfl lk_Le_3 (c_Un_init mh2) rfl ⟨rfl, rfl⟩ ⟨Nat.le_of_ble_eq_true rfl, Nat.le_of_ble_eq_true rfl⟩ ⟨Nat.le_of_ble_eq_true rfl, Nat.le_trans (by decide) gms⟩ g1 (Nat.le_of_ble_eq_true rfl) d_Le_init_1 (fun ad ag1 => ?_)
  replace O := mO_ag ag1 O
  replace hag := mAg.tr hag ag1 g1.2.1
  refine ax_widen (cs' := 0) (ss' := 0) (by decide) (by decide) ?_
  obtain ⟨g4, hf⟩ := mgd_some hf
  exact ax_vretx O hE hag g4 ⟨by decide, Nat.le_trans (by decide) gms⟩ hf d_Le_init_4
theorem c_Le_init {ln : Launch} {ms n0 : Nat} {h0 h' : mH} {a0 : Nat} {r' : Unit} (hf : f_Le_init ms n0 h0 a0 = some (r', h')) : mMetx ln y_Le_init b_Le_init 1 (mRx 2 0 ms 40) [.ref a0] h0 h' 0 ms := mMetx_of (by decide +kernel) rfl (Nat.le_of_ble_eq_true rfl) (fun X ad O hE => cb_Le_init O r' h' h0 hE n0 a0 hf)
/-! ===== StreamFilters$Link.<init>()V ===== -/
theorem d_Li_init_0 : decode b_Li_init 0 = .ok (.aload_n 0, 1) := by decide +kernel
theorem d_Li_init_1 : decode b_Li_init 1 = .ok (.invokespecial 3, 3) := by decide +kernel
theorem d_Li_init_4 : decode b_Li_init 4 = .ok (.aload_n 0, 1) := by decide +kernel
theorem d_Li_init_5 : decode b_Li_init 5 = .ok (.iconst 0, 1) := by decide +kernel
theorem d_Li_init_6 : decode b_Li_init 6 = .ok (.putfield 9, 3) := by decide +kernel
theorem d_Li_init_9 : decode b_Li_init 9 = .ok (.aload_n 0, 1) := by decide +kernel
theorem d_Li_init_10 : decode b_Li_init 10 = .ok (.iconst 0, 1) := by decide +kernel
theorem d_Li_init_11 : decode b_Li_init 11 = .ok (.putfield 15, 3) := by decide +kernel
theorem d_Li_init_14 : decode b_Li_init 14 = .ok (.aload_n 0, 1) := by decide +kernel
theorem d_Li_init_15 : decode b_Li_init 15 = .ok (.iconst 1, 1) := by decide +kernel
theorem d_Li_init_16 : decode b_Li_init 16 = .ok (.putfield 18, 3) := by decide +kernel
theorem d_Li_init_19 : decode b_Li_init 19 = .ok (.aload_n 0, 1) := by decide +kernel
theorem d_Li_init_20 : decode b_Li_init 20 = .ok (.iconst 1, 1) := by decide +kernel
theorem d_Li_init_21 : decode b_Li_init 21 = .ok (.putfield 21, 3) := by decide +kernel
theorem d_Li_init_24 : decode b_Li_init 24 = .ok (.aload_n 0, 1) := by decide +kernel
theorem d_Li_init_25 : decode b_Li_init 25 = .ok (.bipush 8, 2) := by decide +kernel
theorem d_Li_init_27 : decode b_Li_init 27 = .ok (.putfield 24, 3) := by decide +kernel
theorem d_Li_init_30 : decode b_Li_init 30 = .ok (.aload_n 0, 1) := by decide +kernel
theorem d_Li_init_31 : decode b_Li_init 31 = .ok (.iconst 1, 1) := by decide +kernel
theorem d_Li_init_32 : decode b_Li_init 32 = .ok (.putfield 27, 3) := by decide +kernel
theorem d_Li_init_35 : decode b_Li_init 35 = .ok (.return_, 1) := by decide +kernel
noncomputable def f_Li_init  (ms : Nat) (n0 : Nat) (h0 : mH) (a0 : Nat) : Option (Unit × mH) :=
  mgd (0 ≤ ms) <|
  mpt h0 a0 6 0 (.int 0) fun h1 =>
  mpt h1 a0 6 1 (.int 0) fun h2 =>
  mpt h2 a0 6 2 (.int 1) fun h3 =>
  mpt h3 a0 6 3 (.int 1) fun h4 =>
  mpt h4 a0 6 4 (.int 8) fun h5 =>
  mpt h5 a0 6 5 (.int 1) fun h6 =>
  mgd (mWf h6) <| some ((), h6)
set_option maxHeartbeats 4000000 in
set_option maxRecDepth 100000 in
theorem cb_Li_init {X : mX} {ad : Nat → Nat} {ln : Launch} {ms : Nat} (O : mO X ad R_Li b_Li_init 1 (mRx 1 0 ms 20) ln) (r' : Unit) (h' h0 : mH) (hE : mEndx X ad h0.length h' 0 ms) (n0 : Nat) (a0 : Nat) (hf : f_Li_init ms n0 h0 a0 = some (r', h')) : mAW X ad 0 0 0 [(0, .ref a0)] [] h0 := by
  have hag : mAg h0.length ad ad := mAg.rf
  unfold f_Li_init at hf
  obtain ⟨gms, hf⟩ := mgd_some hf
  refine ax_aload_n O d_Li_init_0 rfl 0 rfl ?_
  refine ax_oinit O wd_43 (Nat.le_of_ble_eq_true rfl) (Nat.le_of_ble_eq_true rfl) d_Li_init_1 ?_
  refine ax_aload_n O d_Li_init_4 rfl 0 rfl ?_
  refine ax_iconst (v := 0) O d_Li_init_5 (by decide) ?_
  obtain ⟨fh1, h1, ch1, kh1, eh1, hf⟩ := mpt_some hf
  refine ax_put (v := .int 0) O fp_Li_9 ch1 kh1 eh1 rfl rfl d_Li_init_6 ?_
  refine ax_aload_n O d_Li_init_9 rfl 0 rfl ?_
  refine ax_iconst (v := 0) O d_Li_init_10 (by decide) ?_
  obtain ⟨fh2, h2, ch2, kh2, eh2, hf⟩ := mpt_some hf
  refine ax_put (v := .int 0) O fp_Li_15 ch2 kh2 eh2 rfl rfl d_Li_init_11 ?_
  refine ax_aload_n O d_Li_init_14 rfl 0 rfl ?_
  refine ax_iconst (v := 1) O d_Li_init_15 (by decide) ?_
  obtain ⟨fh3, h3, ch3, kh3, eh3, hf⟩ := mpt_some hf
  refine ax_put (v := .int 1) O fp_Li_18 ch3 kh3 eh3 rfl rfl d_Li_init_16 ?_
  refine ax_aload_n O d_Li_init_19 rfl 0 rfl ?_
  refine ax_iconst (v := 1) O d_Li_init_20 (by decide) ?_
  obtain ⟨fh4, h4, ch4, kh4, eh4, hf⟩ := mpt_some hf
  refine ax_put (v := .int 1) O fp_Li_21 ch4 kh4 eh4 rfl rfl d_Li_init_21 ?_
  refine ax_aload_n O d_Li_init_24 rfl 0 rfl ?_
  refine ax_bipush (v := 8) O d_Li_init_25 (by decide) ?_
  obtain ⟨fh5, h5, ch5, kh5, eh5, hf⟩ := mpt_some hf
  refine ax_put (v := .int 8) O fp_Li_24 ch5 kh5 eh5 rfl rfl d_Li_init_27 ?_
  refine ax_aload_n O d_Li_init_30 rfl 0 rfl ?_
  refine ax_iconst (v := 1) O d_Li_init_31 (by decide) ?_
  obtain ⟨fh6, h6, ch6, kh6, eh6, hf⟩ := mpt_some hf
  refine ax_put (v := .int 1) O fp_Li_27 ch6 kh6 eh6 rfl rfl d_Li_init_32 ?_
  obtain ⟨g7, hf⟩ := mgd_some hf
  exact ax_vretx O hE hag g7 ⟨by decide, Nat.le_trans (by decide) gms⟩ hf d_Li_init_35
theorem c_Li_init {ln : Launch} {ms n0 : Nat} {h0 h' : mH} {a0 : Nat} {r' : Unit} (hf : f_Li_init ms n0 h0 a0 = some (r', h')) : mMetx ln y_Li_init b_Li_init 1 (mRx 1 0 ms 20) [.ref a0] h0 h' 0 ms := mMetx_of (by decide +kernel) rfl (Nat.le_of_ble_eq_true rfl) (fun X ad O hE => cb_Li_init O r' h' h0 hE n0 a0 hf)
/-! ===== StreamFilters.<init>()V ===== -/
theorem d_SF_init_0 : decode b_SF_init 0 = .ok (.aload_n 0, 1) := by decide +kernel
theorem d_SF_init_1 : decode b_SF_init 1 = .ok (.invokespecial 1, 3) := by decide +kernel
theorem d_SF_init_4 : decode b_SF_init 4 = .ok (.aload_n 0, 1) := by decide +kernel
theorem d_SF_init_5 : decode b_SF_init 5 = .ok (.new 7, 3) := by decide +kernel
theorem d_SF_init_8 : decode b_SF_init 8 = .ok (.dup, 1) := by decide +kernel
theorem d_SF_init_9 : decode b_SF_init 9 = .ok (.sipush 16384, 3) := by decide +kernel
theorem d_SF_init_12 : decode b_SF_init 12 = .ok (.invokespecial 11, 3) := by decide +kernel
theorem d_SF_init_15 : decode b_SF_init 15 = .ok (.putfield 14, 3) := by decide +kernel
theorem d_SF_init_18 : decode b_SF_init 18 = .ok (.aload_n 0, 1) := by decide +kernel
theorem d_SF_init_19 : decode b_SF_init 19 = .ok (.bipush 8, 2) := by decide +kernel
theorem d_SF_init_21 : decode b_SF_init 21 = .ok (.anewarray 18, 3) := by decide +kernel
theorem d_SF_init_24 : decode b_SF_init 24 = .ok (.putfield 20, 3) := by decide +kernel
theorem d_SF_init_27 : decode b_SF_init 27 = .ok (.aload_n 0, 1) := by decide +kernel
theorem d_SF_init_28 : decode b_SF_init 28 = .ok (.iconst 0, 1) := by decide +kernel
theorem d_SF_init_29 : decode b_SF_init 29 = .ok (.putfield 24, 3) := by decide +kernel
theorem d_SF_init_32 : decode b_SF_init 32 = .ok (.aload_n 0, 1) := by decide +kernel
theorem d_SF_init_33 : decode b_SF_init 33 = .ok (.ldc 28, 2) := by decide +kernel
theorem d_SF_init_35 : decode b_SF_init 35 = .ok (.putfield 29, 3) := by decide +kernel
theorem d_SF_init_38 : decode b_SF_init 38 = .ok (.aload_n 0, 1) := by decide +kernel
theorem d_SF_init_39 : decode b_SF_init 39 = .ok (.new 32, 3) := by decide +kernel
theorem d_SF_init_42 : decode b_SF_init 42 = .ok (.dup, 1) := by decide +kernel
theorem d_SF_init_43 : decode b_SF_init 43 = .ok (.invokespecial 34, 3) := by decide +kernel
theorem d_SF_init_46 : decode b_SF_init 46 = .ok (.putfield 35, 3) := by decide +kernel
theorem d_SF_init_49 : decode b_SF_init 49 = .ok (.aload_n 0, 1) := by decide +kernel
theorem d_SF_init_50 : decode b_SF_init 50 = .ok (.new 39, 3) := by decide +kernel
theorem d_SF_init_53 : decode b_SF_init 53 = .ok (.dup, 1) := by decide +kernel
theorem d_SF_init_54 : decode b_SF_init 54 = .ok (.invokespecial 41, 3) := by decide +kernel
theorem d_SF_init_57 : decode b_SF_init 57 = .ok (.putfield 42, 3) := by decide +kernel
theorem d_SF_init_60 : decode b_SF_init 60 = .ok (.aload_n 0, 1) := by decide +kernel
theorem d_SF_init_61 : decode b_SF_init 61 = .ok (.new 46, 3) := by decide +kernel
theorem d_SF_init_64 : decode b_SF_init 64 = .ok (.dup, 1) := by decide +kernel
theorem d_SF_init_65 : decode b_SF_init 65 = .ok (.invokespecial 48, 3) := by decide +kernel
theorem d_SF_init_68 : decode b_SF_init 68 = .ok (.putfield 49, 3) := by decide +kernel
theorem d_SF_init_71 : decode b_SF_init 71 = .ok (.aload_n 0, 1) := by decide +kernel
theorem d_SF_init_72 : decode b_SF_init 72 = .ok (.new 53, 3) := by decide +kernel
theorem d_SF_init_75 : decode b_SF_init 75 = .ok (.dup, 1) := by decide +kernel
theorem d_SF_init_76 : decode b_SF_init 76 = .ok (.invokespecial 55, 3) := by decide +kernel
theorem d_SF_init_79 : decode b_SF_init 79 = .ok (.putfield 56, 3) := by decide +kernel
theorem d_SF_init_82 : decode b_SF_init 82 = .ok (.aload_n 0, 1) := by decide +kernel
theorem d_SF_init_83 : decode b_SF_init 83 = .ok (.new 60, 3) := by decide +kernel
theorem d_SF_init_86 : decode b_SF_init 86 = .ok (.dup, 1) := by decide +kernel
theorem d_SF_init_87 : decode b_SF_init 87 = .ok (.invokespecial 62, 3) := by decide +kernel
theorem d_SF_init_90 : decode b_SF_init 90 = .ok (.putfield 63, 3) := by decide +kernel
theorem d_SF_init_93 : decode b_SF_init 93 = .ok (.aload_n 0, 1) := by decide +kernel
theorem d_SF_init_94 : decode b_SF_init 94 = .ok (.new 67, 3) := by decide +kernel
theorem d_SF_init_97 : decode b_SF_init 97 = .ok (.dup, 1) := by decide +kernel
theorem d_SF_init_98 : decode b_SF_init 98 = .ok (.invokespecial 69, 3) := by decide +kernel
theorem d_SF_init_101 : decode b_SF_init 101 = .ok (.putfield 70, 3) := by decide +kernel
theorem d_SF_init_104 : decode b_SF_init 104 = .ok (.aload_n 0, 1) := by decide +kernel
theorem d_SF_init_105 : decode b_SF_init 105 = .ok (.new 7, 3) := by decide +kernel
theorem d_SF_init_108 : decode b_SF_init 108 = .ok (.dup, 1) := by decide +kernel
theorem d_SF_init_109 : decode b_SF_init 109 = .ok (.ldc 28, 2) := by decide +kernel
theorem d_SF_init_111 : decode b_SF_init 111 = .ok (.invokespecial 11, 3) := by decide +kernel
theorem d_SF_init_114 : decode b_SF_init 114 = .ok (.putfield 74, 3) := by decide +kernel
theorem d_SF_init_117 : decode b_SF_init 117 = .ok (.aload_n 0, 1) := by decide +kernel
theorem d_SF_init_118 : decode b_SF_init 118 = .ok (.new 7, 3) := by decide +kernel
theorem d_SF_init_121 : decode b_SF_init 121 = .ok (.dup, 1) := by decide +kernel
theorem d_SF_init_122 : decode b_SF_init 122 = .ok (.ldc 28, 2) := by decide +kernel
theorem d_SF_init_124 : decode b_SF_init 124 = .ok (.invokespecial 11, 3) := by decide +kernel
theorem d_SF_init_127 : decode b_SF_init 127 = .ok (.putfield 77, 3) := by decide +kernel
theorem d_SF_init_130 : decode b_SF_init 130 = .ok (.aload_n 0, 1) := by decide +kernel
theorem d_SF_init_131 : decode b_SF_init 131 = .ok (.aload_n 0, 1) := by decide +kernel
theorem d_SF_init_132 : decode b_SF_init 132 = .ok (.getfield 74, 3) := by decide +kernel
theorem d_SF_init_135 : decode b_SF_init 135 = .ok (.putfield 80, 3) := by decide +kernel
theorem d_SF_init_138 : decode b_SF_init 138 = .ok (.aload_n 0, 1) := by decide +kernel
theorem d_SF_init_139 : decode b_SF_init 139 = .ok (.iconst 0, 1) := by decide +kernel
theorem d_SF_init_140 : decode b_SF_init 140 = .ok (.putfield 83, 3) := by decide +kernel
theorem d_SF_init_143 : decode b_SF_init 143 = .ok (.aload_n 0, 1) := by decide +kernel
theorem d_SF_init_144 : decode b_SF_init 144 = .ok (.iconst (-1), 1) := by decide +kernel
theorem d_SF_init_145 : decode b_SF_init 145 = .ok (.putfield 87, 3) := by decide +kernel
theorem d_SF_init_148 : decode b_SF_init 148 = .ok (.aload_n 0, 1) := by decide +kernel
theorem d_SF_init_149 : decode b_SF_init 149 = .ok (.iconst (-1), 1) := by decide +kernel
theorem d_SF_init_150 : decode b_SF_init 150 = .ok (.putfield 90, 3) := by decide +kernel
theorem d_SF_init_153 : decode b_SF_init 153 = .ok (.aload_n 0, 1) := by decide +kernel
theorem d_SF_init_154 : decode b_SF_init 154 = .ok (.iconst (-1), 1) := by decide +kernel
theorem d_SF_init_155 : decode b_SF_init 155 = .ok (.putfield 93, 3) := by decide +kernel
theorem d_SF_init_158 : decode b_SF_init 158 = .ok (.iconst 0, 1) := by decide +kernel
theorem d_SF_init_159 : decode b_SF_init 159 = .ok (.istore_n 1, 1) := by decide +kernel
theorem d_SF_init_160 : decode b_SF_init 160 = .ok (.iload_n 1, 1) := by decide +kernel
theorem d_SF_init_161 : decode b_SF_init 161 = .ok (.aload_n 0, 1) := by decide +kernel
theorem d_SF_init_162 : decode b_SF_init 162 = .ok (.getfield 20, 3) := by decide +kernel
theorem d_SF_init_165 : decode b_SF_init 165 = .ok (.arraylength, 1) := by decide +kernel
theorem d_SF_init_166 : decode b_SF_init 166 = .ok (.if_icmp .ge 22, 3) := by decide +kernel
theorem d_SF_init_169 : decode b_SF_init 169 = .ok (.aload_n 0, 1) := by decide +kernel
theorem d_SF_init_170 : decode b_SF_init 170 = .ok (.getfield 20, 3) := by decide +kernel
theorem d_SF_init_173 : decode b_SF_init 173 = .ok (.iload_n 1, 1) := by decide +kernel
theorem d_SF_init_174 : decode b_SF_init 174 = .ok (.new 18, 3) := by decide +kernel
theorem d_SF_init_177 : decode b_SF_init 177 = .ok (.dup, 1) := by decide +kernel
theorem d_SF_init_178 : decode b_SF_init 178 = .ok (.invokespecial 96, 3) := by decide +kernel
theorem d_SF_init_181 : decode b_SF_init 181 = .ok (.aastore, 1) := by decide +kernel
theorem d_SF_init_182 : decode b_SF_init 182 = .ok (.iinc 1 1, 3) := by decide +kernel
theorem d_SF_init_185 : decode b_SF_init 185 = .ok (.goto (-25), 3) := by decide +kernel
theorem d_SF_init_188 : decode b_SF_init 188 = .ok (.return_, 1) := by decide +kernel
noncomputable def f_SF_init  (ms : Nat) (n0 : Nat) (h0 : mH) (a0 : Nat) : Option (Unit × mH) :=
  mgd (157224 ≤ ms) <|
  mgd (mOkA h0 h0 [.ref a0] [.ref a0]) <|
  mnm h0.length fun r2 =>
  mnm (h0 ++ [.inr (1, [.null, .int 0])]) fun h3 =>
  mgd (mOkA h0 h3 [.ref a0] [.ref r2, .ref a0]) <|
  mcl (f_By_init 16384 n0 h3 r2 16384) fun _ h5 =>
  mpt h5 a0 0 0 (.ref r2) fun h7 =>
  mgd (mOkA h0 h7 [.ref a0] [.ref a0]) <|
  mnm h7.length fun r9 =>
  mnm (h7 ++ [.inl (.object "StreamFilters$Link", ((8 : Int32).toNatClampNeg, .inr (.inr (.inr (.inr (fun _ => none))))))]) fun h10 =>
  mpt h10 a0 0 1 (.ref r9) fun h11 =>
  mpt h11 a0 0 2 (.int 0) fun h12 =>
  mpt h12 a0 0 3 (.int 65536) fun h13 =>
  mgd (mOkA h0 h13 [.ref a0] [.ref a0]) <|
  mnm h13.length fun r15 =>
  mnm (h13 ++ [.inr (8, [.null, .null, .int 0, .int 0, .int 0, .int 0, .int 0])]) fun h16 =>
  mgd (mOkA h0 h16 [.ref a0] [.ref r15, .ref a0]) <|
  mcl (f_Pa_init 4 n0 h16 r15) fun _ h18 =>
  mpt h18 a0 0 4 (.ref r15) fun h20 =>
  mgd (mOkA h0 h20 [.ref a0] [.ref a0]) <|
  mnm h20.length fun r22 =>
  mnm (h20 ++ [.inr (3, [.null, .null, .null, .null, .null, .null])]) fun h23 =>
  mgd (mOkA h0 h23 [.ref a0] [.ref r22, .ref a0]) <|
  mcl (f_Fl_init 1484 n0 h23 r22) fun _ h25 =>
  mpt h25 a0 0 5 (.ref r22) fun h27 =>
  mgd (mOkA h0 h27 [.ref a0] [.ref a0]) <|
  mnm h27.length fun r29 =>
  mnm (h27 ++ [.inr (7, [.null, .null, .int 0, .int 0, .int 0])]) fun h30 =>
  mgd (mOkA h0 h30 [.ref a0] [.ref r29, .ref a0]) <|
  mcl (f_Lz_init 8192 n0 h30 r29) fun _ h32 =>
  mpt h32 a0 0 6 (.ref r29) fun h34 =>
  mgd (mOkA h0 h34 [.ref a0] [.ref a0]) <|
  mnm h34.length fun r36 =>
  mnm (h34 ++ [.inr (9, [.long 0, .int 0])]) fun h37 =>
  mgd (mOkA h0 h37 [.ref a0] [.ref r36, .ref a0]) <|
  mcl (f_T8_init 0 n0 h37 r36) fun _ h39 =>
  mpt h39 a0 0 7 (.ref r36) fun h41 =>
  mgd (mOkA h0 h41 [.ref a0] [.ref a0]) <|
  mnm h41.length fun r43 =>
  mnm (h41 ++ [.inr (4, [])]) fun h44 =>
  mgd (mOkA h0 h44 [.ref a0] [.ref r43, .ref a0]) <|
  mcl (f_Hx_init 0 n0 h44 r43) fun _ h46 =>
  mpt h46 a0 0 8 (.ref r43) fun h48 =>
  mgd (mOkA h0 h48 [.ref a0] [.ref a0]) <|
  mnm h48.length fun r50 =>
  mnm (h48 ++ [.inr (5, [])]) fun h51 =>
  mgd (mOkA h0 h51 [.ref a0] [.ref r50, .ref a0]) <|
  mcl (f_Le_init 0 n0 h51 r50) fun _ h53 =>
  mpt h53 a0 0 9 (.ref r50) fun h55 =>
  mgd (mOkA h0 h55 [.ref a0] [.ref a0]) <|
  mnm h55.length fun r57 =>
  mnm (h55 ++ [.inr (1, [.null, .int 0])]) fun h58 =>
  mgd (mOkA h0 h58 [.ref a0] [.ref r57, .ref a0]) <|
  mcl (f_By_init 65536 n0 h58 r57 65536) fun _ h60 =>
  mpt h60 a0 0 10 (.ref r57) fun h62 =>
  mgd (mOkA h0 h62 [.ref a0] [.ref a0]) <|
  mnm h62.length fun r64 =>
  mnm (h62 ++ [.inr (1, [.null, .int 0])]) fun h65 =>
  mgd (mOkA h0 h65 [.ref a0] [.ref r64, .ref a0]) <|
  mcl (f_By_init 65536 n0 h65 r64 65536) fun _ h67 =>
  mpt h67 a0 0 11 (.ref r64) fun h69 =>
  mgr h69 a0 0 10 fun r70 =>
  mpt h69 a0 0 12 (.ref r70) fun h71 =>
  mpt h71 a0 0 13 (.int 0) fun h72 =>
  mpt h72 a0 0 14 (.int (-1)) fun h73 =>
  mpt h73 a0 0 15 (.int (-1)) fun h74 =>
  mpt h74 a0 0 16 (.int (-1)) fun h75 =>
  mgr h75 a0 0 1 fun r76 =>
  mln h75 r76 (.object "StreamFilters$Link") fun v77 =>
  if v77 ≤ 0 then
    mgd (mWf h75) <| some ((), h75)
  else
    mgr h75 a0 0 1 fun r80 =>
    mgd (mOkA h0 h75 [.int 0, .ref a0] [.int 0, .ref r80]) <|
    mnm h75.length fun r82 =>
    mnm (h75 ++ [.inr (6, [.int 0, .int 0, .int 0, .int 0, .int 0, .int 0])]) fun h83 =>
    mgd (mOkA h0 h83 [.int 0, .ref a0] [.ref r82, .int 0, .ref r80]) <|
    mcl (f_Li_init 0 n0 h83 r82) fun _ h85 =>
    mrs h85 r80 "StreamFilters$Link" 0 r82 6 fun h87 =>
    mnm (0 + 1) fun v88 =>
    mgr h87 a0 0 1 fun r89 =>
    mln h87 r89 (.object "StreamFilters$Link") fun v90 =>
    if v90 ≤ v88 then
      mgd (mWf h87) <| some ((), h87)
    else
      mgr h87 a0 0 1 fun r93 =>
      mgd (mOkA h0 h87 [.int v88, .ref a0] [.int v88, .ref r93]) <|
      mnm h87.length fun r95 =>
      mnm (h87 ++ [.inr (6, [.int 0, .int 0, .int 0, .int 0, .int 0, .int 0])]) fun h96 =>
      mgd (mOkA h0 h96 [.int v88, .ref a0] [.ref r95, .int v88, .ref r93]) <|
      mcl (f_Li_init 0 n0 h96 r95) fun _ h98 =>
      mrs h98 r93 "StreamFilters$Link" v88 r95 6 fun h100 =>
      mnm (v88 + 1) fun v101 =>
      mgr h100 a0 0 1 fun r102 =>
      mln h100 r102 (.object "StreamFilters$Link") fun v103 =>
      if v103 ≤ v101 then
        mgd (mWf h100) <| some ((), h100)
      else
        mgr h100 a0 0 1 fun r106 =>
        mgd (mOkA h0 h100 [.int v101, .ref a0] [.int v101, .ref r106]) <|
        mnm h100.length fun r108 =>
        mnm (h100 ++ [.inr (6, [.int 0, .int 0, .int 0, .int 0, .int 0, .int 0])]) fun h109 =>
        mgd (mOkA h0 h109 [.int v101, .ref a0] [.ref r108, .int v101, .ref r106]) <|
        mcl (f_Li_init 0 n0 h109 r108) fun _ h111 =>
        mrs h111 r106 "StreamFilters$Link" v101 r108 6 fun h113 =>
        mnm (v101 + 1) fun v114 =>
        mgr h113 a0 0 1 fun r115 =>
        mln h113 r115 (.object "StreamFilters$Link") fun v116 =>
        if v116 ≤ v114 then
          mgd (mWf h113) <| some ((), h113)
        else
          mgr h113 a0 0 1 fun r119 =>
          mgd (mOkA h0 h113 [.int v114, .ref a0] [.int v114, .ref r119]) <|
          mnm h113.length fun r121 =>
          mnm (h113 ++ [.inr (6, [.int 0, .int 0, .int 0, .int 0, .int 0, .int 0])]) fun h122 =>
          mgd (mOkA h0 h122 [.int v114, .ref a0] [.ref r121, .int v114, .ref r119]) <|
          mcl (f_Li_init 0 n0 h122 r121) fun _ h124 =>
          mrs h124 r119 "StreamFilters$Link" v114 r121 6 fun h126 =>
          mnm (v114 + 1) fun v127 =>
          mgr h126 a0 0 1 fun r128 =>
          mln h126 r128 (.object "StreamFilters$Link") fun v129 =>
          if v129 ≤ v127 then
            mgd (mWf h126) <| some ((), h126)
          else
            mgr h126 a0 0 1 fun r132 =>
            mgd (mOkA h0 h126 [.int v127, .ref a0] [.int v127, .ref r132]) <|
            mnm h126.length fun r134 =>
            mnm (h126 ++ [.inr (6, [.int 0, .int 0, .int 0, .int 0, .int 0, .int 0])]) fun h135 =>
            mgd (mOkA h0 h135 [.int v127, .ref a0] [.ref r134, .int v127, .ref r132]) <|
            mcl (f_Li_init 0 n0 h135 r134) fun _ h137 =>
            mrs h137 r132 "StreamFilters$Link" v127 r134 6 fun h139 =>
            mnm (v127 + 1) fun v140 =>
            mgr h139 a0 0 1 fun r141 =>
            mln h139 r141 (.object "StreamFilters$Link") fun v142 =>
            if v142 ≤ v140 then
              mgd (mWf h139) <| some ((), h139)
            else
              mgr h139 a0 0 1 fun r145 =>
              mgd (mOkA h0 h139 [.int v140, .ref a0] [.int v140, .ref r145]) <|
              mnm h139.length fun r147 =>
              mnm (h139 ++ [.inr (6, [.int 0, .int 0, .int 0, .int 0, .int 0, .int 0])]) fun h148 =>
              mgd (mOkA h0 h148 [.int v140, .ref a0] [.ref r147, .int v140, .ref r145]) <|
              mcl (f_Li_init 0 n0 h148 r147) fun _ h150 =>
              mrs h150 r145 "StreamFilters$Link" v140 r147 6 fun h152 =>
              mnm (v140 + 1) fun v153 =>
              mgr h152 a0 0 1 fun r154 =>
              mln h152 r154 (.object "StreamFilters$Link") fun v155 =>
              if v155 ≤ v153 then
                mgd (mWf h152) <| some ((), h152)
              else
                mgr h152 a0 0 1 fun r158 =>
                mgd (mOkA h0 h152 [.int v153, .ref a0] [.int v153, .ref r158]) <|
                mnm h152.length fun r160 =>
                mnm (h152 ++ [.inr (6, [.int 0, .int 0, .int 0, .int 0, .int 0, .int 0])]) fun h161 =>
                mgd (mOkA h0 h161 [.int v153, .ref a0] [.ref r160, .int v153, .ref r158]) <|
                mcl (f_Li_init 0 n0 h161 r160) fun _ h163 =>
                mrs h163 r158 "StreamFilters$Link" v153 r160 6 fun h165 =>
                mnm (v153 + 1) fun v166 =>
                mgr h165 a0 0 1 fun r167 =>
                mln h165 r167 (.object "StreamFilters$Link") fun v168 =>
                if v168 ≤ v166 then
                  mgd (mWf h165) <| some ((), h165)
                else
                  mgr h165 a0 0 1 fun r171 =>
                  mgd (mOkA h0 h165 [.int v166, .ref a0] [.int v166, .ref r171]) <|
                  mnm h165.length fun r173 =>
                  mnm (h165 ++ [.inr (6, [.int 0, .int 0, .int 0, .int 0, .int 0, .int 0])]) fun h174 =>
                  mgd (mOkA h0 h174 [.int v166, .ref a0] [.ref r173, .int v166, .ref r171]) <|
                  mcl (f_Li_init 0 n0 h174 r173) fun _ h176 =>
                  mrs h176 r171 "StreamFilters$Link" v166 r173 6 fun h178 =>
                  mnm (v166 + 1) fun v179 =>
                  mgr h178 a0 0 1 fun r180 =>
                  mln h178 r180 (.object "StreamFilters$Link") fun v181 =>
                  if v181 ≤ v179 then
                    mgd (mWf h178) <| some ((), h178)
                  else
                    mgr h178 a0 0 1 fun r184 =>
                    mgd (mOkA h0 h178 [.int v179, .ref a0] [.int v179, .ref r184]) <|
                    mnm h178.length fun r186 =>
                    mnm (h178 ++ [.inr (6, [.int 0, .int 0, .int 0, .int 0, .int 0, .int 0])]) fun h187 =>
                    mgd (mOkA h0 h187 [.int v179, .ref a0] [.ref r186, .int v179, .ref r184]) <|
                    mcl (f_Li_init 0 n0 h187 r186) fun _ h189 =>
                    mrs h189 r184 "StreamFilters$Link" v179 r186 6 fun h191 =>
                    mnm (v179 + 1) fun v192 =>
                    none
set_option maxHeartbeats 4000000 in
set_option maxRecDepth 100000 in
theorem cb_SF_init {X : mX} {ad : Nat → Nat} {ln : Launch} {ms : Nat} (O : mO X ad R_SF b_SF_init 2 (mRx 4 50 ms 93) ln) (r' : Unit) (h' h0 : mH) (hE : mEndx X ad h0.length h' 50 ms) (n0 : Nat) (a0 : Nat) (hf : f_SF_init ms n0 h0 a0 = some (r', h')) : mAW X ad 0 0 0 [(0, .ref a0)] [] h0 := by
  have hag : mAg h0.length ad ad := mAg.rf
  unfold f_SF_init at hf
  obtain ⟨gms, hf⟩ := mgd_some hf
  refine ax_aload_n O d_SF_init_0 rfl 0 rfl ?_
  refine ax_oinit O wd_44 (Nat.le_of_ble_eq_true rfl) (Nat.le_of_ble_eq_true rfl) d_SF_init_1 ?_
  refine ax_aload_n O d_SF_init_4 rfl 0 rfl ?_
  obtain ⟨g1, hf⟩ := mgd_some hf
  obtain ⟨r2, er2, hf⟩ := mnm_some hf
  obtain ⟨h3, eh3, hf⟩ := mnm_some hf
  refine ax_new O nc_SF_7 g1 er2 eh3 ⟨Nat.le_of_ble_eq_true rfl, Nat.le_trans (by decide) gms⟩ d_SF_init_5 (fun ad ag1 => ?_)
  replace O := mO_ag ag1 O
  replace hag := mAg.tr hag ag1 g1.2.1
  refine ax_widen (cs' := 1) (ss' := 2) (by decide) (by decide) ?_
  refine ax_dup O d_SF_init_8 rfl ?_
  refine ax_sipush (v := 16384) O d_SF_init_9 (by decide) ?_
  obtain ⟨g4, hf⟩ := mgd_some hf
  obtain ⟨u6, h5, mh5, hf⟩ := mcl_some hf
  refine ax_callI (As := [.int 16384]) (rest := [.ref r2, .ref a0]) O cw_By_init in_By_init rfl lk_SF_11 (c_By_init mh5) rfl ⟨rfl, rfl⟩ ⟨Nat.le_of_ble_eq_true rfl, Nat.le_of_ble_eq_true rfl⟩ ⟨Nat.le_of_ble_eq_true rfl, Nat.le_trans (by decide) gms⟩ g4 (Nat.le_of_ble_eq_true rfl) d_SF_init_12 (fun ad ag4 => ?_)
  replace O := mO_ag ag4 O
  replace hag := mAg.tr hag ag4 g4.2.1
  refine ax_widen (cs' := 2) (ss' := 16386) (by decide) (by decide) ?_
  obtain ⟨fh7, h7, ch7, kh7, eh7, hf⟩ := mpt_some hf
  refine ax_putF (v := .ref r2) O hE fq_SF_14 ch7 kh7 eh7 rfl rfl d_SF_init_15 ?_
  refine ax_aload_n O d_SF_init_18 rfl 0 rfl ?_
  refine ax_bipush (v := 8) O d_SF_init_19 (by decide) ?_
  obtain ⟨g8, hf⟩ := mgd_some hf
  obtain ⟨r9, er9, hf⟩ := mnm_some hf
  obtain ⟨h10, eh10, hf⟩ := mnm_some hf
  refine ax_newq (C := "StreamFilters$Link") O (by decide) wd_45 (by decide +kernel) (by decide) (by decide) g8 er9 eh10 ⟨Nat.le_of_ble_eq_true rfl, Nat.le_trans (by decide) gms⟩ d_SF_init_21 (fun ad ag8 => ?_)
  replace O := mO_ag ag8 O
  replace hag := mAg.tr hag ag8 g8.2.1
  refine ax_widen (cs' := 3) (ss' := 16394) (by decide) (by decide) ?_
  obtain ⟨fh11, h11, ch11, kh11, eh11, hf⟩ := mpt_some hf
  refine ax_putF (v := .ref r9) O hE fq_SF_20 ch11 kh11 eh11 rfl rfl d_SF_init_24 ?_
  refine ax_aload_n O d_SF_init_27 rfl 0 rfl ?_
  refine ax_iconst (v := 0) O d_SF_init_28 (by decide) ?_
  obtain ⟨fh12, h12, ch12, kh12, eh12, hf⟩ := mpt_some hf
  refine ax_put (v := .int 0) O fp_SF_24 ch12 kh12 eh12 rfl rfl d_SF_init_29 ?_
  refine ax_aload_n O d_SF_init_32 rfl 0 rfl ?_
  refine ax_ldc (v := 65536) O d_SF_init_33 wd_46 ?_
  obtain ⟨fh13, h13, ch13, kh13, eh13, hf⟩ := mpt_some hf
  refine ax_put (v := .int 65536) O fp_SF_29 ch13 kh13 eh13 rfl rfl d_SF_init_35 ?_
  refine ax_aload_n O d_SF_init_38 rfl 0 rfl ?_
  obtain ⟨g14, hf⟩ := mgd_some hf
  obtain ⟨r15, er15, hf⟩ := mnm_some hf
  obtain ⟨h16, eh16, hf⟩ := mnm_some hf
  refine ax_new O nc_SF_32 g14 er15 eh16 ⟨Nat.le_of_ble_eq_true rfl, Nat.le_trans (by decide) gms⟩ d_SF_init_39 (fun ad ag14 => ?_)
  replace O := mO_ag ag14 O
  replace hag := mAg.tr hag ag14 g14.2.1
  refine ax_widen (cs' := 4) (ss' := 16401) (by decide) (by decide) ?_
  refine ax_dup O d_SF_init_42 rfl ?_
  obtain ⟨g17, hf⟩ := mgd_some hf
  obtain ⟨u19, h18, mh18, hf⟩ := mcl_some hf
  refine ax_callI (As := []) (rest := [.ref r15, .ref a0]) O cw_Pa_init in_Pa_init rfl lk_SF_34 (c_Pa_init mh18) rfl ⟨rfl, rfl⟩ ⟨Nat.le_of_ble_eq_true rfl, Nat.le_of_ble_eq_true rfl⟩ ⟨Nat.le_of_ble_eq_true rfl, Nat.le_trans (by decide) gms⟩ g17 (Nat.le_of_ble_eq_true rfl) d_SF_init_43 (fun ad ag17 => ?_)
  replace O := mO_ag ag17 O
  replace hag := mAg.tr hag ag17 g17.2.1
  refine ax_widen (cs' := 8) (ss' := 16405) (by decide) (by decide) ?_
  obtain ⟨fh20, h20, ch20, kh20, eh20, hf⟩ := mpt_some hf
  refine ax_putF (v := .ref r15) O hE fq_SF_35 ch20 kh20 eh20 rfl rfl d_SF_init_46 ?_
  refine ax_aload_n O d_SF_init_49 rfl 0 rfl ?_
  obtain ⟨g21, hf⟩ := mgd_some hf
  obtain ⟨r22, er22, hf⟩ := mnm_some hf
  obtain ⟨h23, eh23, hf⟩ := mnm_some hf
  refine ax_new O nc_SF_39 g21 er22 eh23 ⟨Nat.le_of_ble_eq_true rfl, Nat.le_trans (by decide) gms⟩ d_SF_init_50 (fun ad ag21 => ?_)
  replace O := mO_ag ag21 O
  replace hag := mAg.tr hag ag21 g21.2.1
  refine ax_widen (cs' := 9) (ss' := 16411) (by decide) (by decide) ?_
  refine ax_dup O d_SF_init_53 rfl ?_
  obtain ⟨g24, hf⟩ := mgd_some hf
  obtain ⟨u26, h25, mh25, hf⟩ := mcl_some hf
  refine ax_callI (As := []) (rest := [.ref r22, .ref a0]) O cw_Fl_init in_Fl_init rfl lk_SF_41 (c_Fl_init mh25) rfl ⟨rfl, rfl⟩ ⟨Nat.le_of_ble_eq_true rfl, Nat.le_of_ble_eq_true rfl⟩ ⟨Nat.le_of_ble_eq_true rfl, Nat.le_trans (by decide) gms⟩ g24 (Nat.le_of_ble_eq_true rfl) d_SF_init_54 (fun ad ag24 => ?_)
  replace O := mO_ag ag24 O
  replace hag := mAg.tr hag ag24 g24.2.1
  refine ax_widen (cs' := 31) (ss' := 17895) (by decide) (by decide) ?_
  obtain ⟨fh27, h27, ch27, kh27, eh27, hf⟩ := mpt_some hf
  refine ax_putF (v := .ref r22) O hE fq_SF_42 ch27 kh27 eh27 rfl rfl d_SF_init_57 ?_
  refine ax_aload_n O d_SF_init_60 rfl 0 rfl ?_
  obtain ⟨g28, hf⟩ := mgd_some hf
  obtain ⟨r29, er29, hf⟩ := mnm_some hf
  obtain ⟨h30, eh30, hf⟩ := mnm_some hf
  refine ax_new O nc_SF_46 g28 er29 eh30 ⟨Nat.le_of_ble_eq_true rfl, Nat.le_trans (by decide) gms⟩ d_SF_init_61 (fun ad ag28 => ?_)
  replace O := mO_ag ag28 O
  replace hag := mAg.tr hag ag28 g28.2.1
  refine ax_widen (cs' := 32) (ss' := 17900) (by decide) (by decide) ?_
  refine ax_dup O d_SF_init_64 rfl ?_
  obtain ⟨g31, hf⟩ := mgd_some hf
  obtain ⟨u33, h32, mh32, hf⟩ := mcl_some hf
  refine ax_callI (As := []) (rest := [.ref r29, .ref a0]) O cw_Lz_init in_Lz_init rfl lk_SF_48 (c_Lz_init mh32) rfl ⟨rfl, rfl⟩ ⟨Nat.le_of_ble_eq_true rfl, Nat.le_of_ble_eq_true rfl⟩ ⟨Nat.le_of_ble_eq_true rfl, Nat.le_trans (by decide) gms⟩ g31 (Nat.le_of_ble_eq_true rfl) d_SF_init_65 (fun ad ag31 => ?_)
  replace O := mO_ag ag31 O
  replace hag := mAg.tr hag ag31 g31.2.1
  refine ax_widen (cs' := 34) (ss' := 26092) (by decide) (by decide) ?_
  obtain ⟨fh34, h34, ch34, kh34, eh34, hf⟩ := mpt_some hf
  refine ax_putF (v := .ref r29) O hE fq_SF_49 ch34 kh34 eh34 rfl rfl d_SF_init_68 ?_
  refine ax_aload_n O d_SF_init_71 rfl 0 rfl ?_
  obtain ⟨g35, hf⟩ := mgd_some hf
  obtain ⟨r36, er36, hf⟩ := mnm_some hf
  obtain ⟨h37, eh37, hf⟩ := mnm_some hf
  refine ax_new O nc_SF_53 g35 er36 eh37 ⟨Nat.le_of_ble_eq_true rfl, Nat.le_trans (by decide) gms⟩ d_SF_init_72 (fun ad ag35 => ?_)
  replace O := mO_ag ag35 O
  replace hag := mAg.tr hag ag35 g35.2.1
  refine ax_widen (cs' := 35) (ss' := 26094) (by decide) (by decide) ?_
  refine ax_dup O d_SF_init_75 rfl ?_
  obtain ⟨g38, hf⟩ := mgd_some hf
  obtain ⟨u40, h39, mh39, hf⟩ := mcl_some hf
  refine ax_callI (As := []) (rest := [.ref r36, .ref a0]) O cw_T8_init in_T8_init rfl lk_SF_55 (c_T8_init mh39) rfl ⟨rfl, rfl⟩ ⟨Nat.le_of_ble_eq_true rfl, Nat.le_of_ble_eq_true rfl⟩ ⟨Nat.le_of_ble_eq_true rfl, Nat.le_trans (by decide) gms⟩ g38 (Nat.le_of_ble_eq_true rfl) d_SF_init_76 (fun ad ag38 => ?_)
  replace O := mO_ag ag38 O
  replace hag := mAg.tr hag ag38 g38.2.1
  refine ax_widen (cs' := 35) (ss' := 26094) (by decide) (by decide) ?_
  obtain ⟨fh41, h41, ch41, kh41, eh41, hf⟩ := mpt_some hf
  refine ax_putF (v := .ref r36) O hE fq_SF_56 ch41 kh41 eh41 rfl rfl d_SF_init_79 ?_
  refine ax_aload_n O d_SF_init_82 rfl 0 rfl ?_
  obtain ⟨g42, hf⟩ := mgd_some hf
  obtain ⟨r43, er43, hf⟩ := mnm_some hf
  obtain ⟨h44, eh44, hf⟩ := mnm_some hf
  refine ax_new O nc_SF_60 g42 er43 eh44 ⟨Nat.le_of_ble_eq_true rfl, Nat.le_trans (by decide) gms⟩ d_SF_init_83 (fun ad ag42 => ?_)
  replace O := mO_ag ag42 O
  replace hag := mAg.tr hag ag42 g42.2.1
  refine ax_widen (cs' := 36) (ss' := 26094) (by decide) (by decide) ?_
  refine ax_dup O d_SF_init_86 rfl ?_
  obtain ⟨g45, hf⟩ := mgd_some hf
  obtain ⟨u47, h46, mh46, hf⟩ := mcl_some hf
  refine ax_callI (As := []) (rest := [.ref r43, .ref a0]) O cw_Hx_init in_Hx_init rfl lk_SF_62 (c_Hx_init mh46) rfl ⟨rfl, rfl⟩ ⟨Nat.le_of_ble_eq_true rfl, Nat.le_of_ble_eq_true rfl⟩ ⟨Nat.le_of_ble_eq_true rfl, Nat.le_trans (by decide) gms⟩ g45 (Nat.le_of_ble_eq_true rfl) d_SF_init_87 (fun ad ag45 => ?_)
  replace O := mO_ag ag45 O
  replace hag := mAg.tr hag ag45 g45.2.1
  refine ax_widen (cs' := 36) (ss' := 26094) (by decide) (by decide) ?_
  obtain ⟨fh48, h48, ch48, kh48, eh48, hf⟩ := mpt_some hf
  refine ax_putF (v := .ref r43) O hE fq_SF_63 ch48 kh48 eh48 rfl rfl d_SF_init_90 ?_
  refine ax_aload_n O d_SF_init_93 rfl 0 rfl ?_
  obtain ⟨g49, hf⟩ := mgd_some hf
  obtain ⟨r50, er50, hf⟩ := mnm_some hf
  obtain ⟨h51, eh51, hf⟩ := mnm_some hf
  refine ax_new O nc_SF_67 g49 er50 eh51 ⟨Nat.le_of_ble_eq_true rfl, Nat.le_trans (by decide) gms⟩ d_SF_init_94 (fun ad ag49 => ?_)
  replace O := mO_ag ag49 O
  replace hag := mAg.tr hag ag49 g49.2.1
  refine ax_widen (cs' := 37) (ss' := 26094) (by decide) (by decide) ?_
  refine ax_dup O d_SF_init_97 rfl ?_
  obtain ⟨g52, hf⟩ := mgd_some hf
  obtain ⟨u54, h53, mh53, hf⟩ := mcl_some hf
  refine ax_callI (As := []) (rest := [.ref r50, .ref a0]) O cw_Le_init in_Le_init rfl lk_SF_69 (c_Le_init mh53) rfl ⟨rfl, rfl⟩ ⟨Nat.le_of_ble_eq_true rfl, Nat.le_of_ble_eq_true rfl⟩ ⟨Nat.le_of_ble_eq_true rfl, Nat.le_trans (by decide) gms⟩ g52 (Nat.le_of_ble_eq_true rfl) d_SF_init_98 (fun ad ag52 => ?_)
  replace O := mO_ag ag52 O
  replace hag := mAg.tr hag ag52 g52.2.1
  refine ax_widen (cs' := 37) (ss' := 26094) (by decide) (by decide) ?_
  obtain ⟨fh55, h55, ch55, kh55, eh55, hf⟩ := mpt_some hf
  refine ax_putF (v := .ref r50) O hE fq_SF_70 ch55 kh55 eh55 rfl rfl d_SF_init_101 ?_
  refine ax_aload_n O d_SF_init_104 rfl 0 rfl ?_
  obtain ⟨g56, hf⟩ := mgd_some hf
  obtain ⟨r57, er57, hf⟩ := mnm_some hf
  obtain ⟨h58, eh58, hf⟩ := mnm_some hf
  refine ax_new O nc_SF_7 g56 er57 eh58 ⟨Nat.le_of_ble_eq_true rfl, Nat.le_trans (by decide) gms⟩ d_SF_init_105 (fun ad ag56 => ?_)
  replace O := mO_ag ag56 O
  replace hag := mAg.tr hag ag56 g56.2.1
  refine ax_widen (cs' := 38) (ss' := 26096) (by decide) (by decide) ?_
  refine ax_dup O d_SF_init_108 rfl ?_
  refine ax_ldc (v := 65536) O d_SF_init_109 wd_46 ?_
  obtain ⟨g59, hf⟩ := mgd_some hf
  obtain ⟨u61, h60, mh60, hf⟩ := mcl_some hf
  refine ax_callI (As := [.int 65536]) (rest := [.ref r57, .ref a0]) O cw_By_init in_By_init rfl lk_SF_11 (c_By_init mh60) rfl ⟨rfl, rfl⟩ ⟨Nat.le_of_ble_eq_true rfl, Nat.le_of_ble_eq_true rfl⟩ ⟨Nat.le_of_ble_eq_true rfl, Nat.le_trans (by decide) gms⟩ g59 (Nat.le_of_ble_eq_true rfl) d_SF_init_111 (fun ad ag59 => ?_)
  replace O := mO_ag ag59 O
  replace hag := mAg.tr hag ag59 g59.2.1
  refine ax_widen (cs' := 39) (ss' := 91632) (by decide) (by decide) ?_
  obtain ⟨fh62, h62, ch62, kh62, eh62, hf⟩ := mpt_some hf
  refine ax_putF (v := .ref r57) O hE fq_SF_74 ch62 kh62 eh62 rfl rfl d_SF_init_114 ?_
  refine ax_aload_n O d_SF_init_117 rfl 0 rfl ?_
  obtain ⟨g63, hf⟩ := mgd_some hf
  obtain ⟨r64, er64, hf⟩ := mnm_some hf
  obtain ⟨h65, eh65, hf⟩ := mnm_some hf
  refine ax_new O nc_SF_7 g63 er64 eh65 ⟨Nat.le_of_ble_eq_true rfl, Nat.le_trans (by decide) gms⟩ d_SF_init_118 (fun ad ag63 => ?_)
  replace O := mO_ag ag63 O
  replace hag := mAg.tr hag ag63 g63.2.1
  refine ax_widen (cs' := 40) (ss' := 91634) (by decide) (by decide) ?_
  refine ax_dup O d_SF_init_121 rfl ?_
  refine ax_ldc (v := 65536) O d_SF_init_122 wd_46 ?_
  obtain ⟨g66, hf⟩ := mgd_some hf
  obtain ⟨u68, h67, mh67, hf⟩ := mcl_some hf
  refine ax_callI (As := [.int 65536]) (rest := [.ref r64, .ref a0]) O cw_By_init in_By_init rfl lk_SF_11 (c_By_init mh67) rfl ⟨rfl, rfl⟩ ⟨Nat.le_of_ble_eq_true rfl, Nat.le_of_ble_eq_true rfl⟩ ⟨Nat.le_of_ble_eq_true rfl, Nat.le_trans (by decide) gms⟩ g66 (Nat.le_of_ble_eq_true rfl) d_SF_init_124 (fun ad ag66 => ?_)
  replace O := mO_ag ag66 O
  replace hag := mAg.tr hag ag66 g66.2.1
  refine ax_widen (cs' := 41) (ss' := 157170) (by decide) (by decide) ?_
  obtain ⟨fh69, h69, ch69, kh69, eh69, hf⟩ := mpt_some hf
  refine ax_putF (v := .ref r64) O hE fq_SF_77 ch69 kh69 eh69 rfl rfl d_SF_init_127 ?_
  refine ax_aload_n O d_SF_init_130 rfl 0 rfl ?_
  refine ax_aload_n O d_SF_init_131 rfl 0 rfl ?_
  obtain ⟨fr70, r70, cr70, kr70, hf⟩ := mgr_some hf
  refine ax_get O fg_SF_74 cr70 kr70 d_SF_init_132 ?_
  obtain ⟨fh71, h71, ch71, kh71, eh71, hf⟩ := mpt_some hf
  refine ax_put (v := .ref r70) O fp_SF_80 ch71 kh71 eh71 rfl rfl d_SF_init_135 ?_
  refine ax_aload_n O d_SF_init_138 rfl 0 rfl ?_
  refine ax_iconst (v := 0) O d_SF_init_139 (by decide) ?_
  obtain ⟨fh72, h72, ch72, kh72, eh72, hf⟩ := mpt_some hf
  refine ax_put (v := .int 0) O fp_SF_83 ch72 kh72 eh72 rfl rfl d_SF_init_140 ?_
  refine ax_aload_n O d_SF_init_143 rfl 0 rfl ?_
  refine ax_iconst (v := (-1)) O d_SF_init_144 (by decide) ?_
  obtain ⟨fh73, h73, ch73, kh73, eh73, hf⟩ := mpt_some hf
  refine ax_put (v := .int (-1)) O fp_SF_87 ch73 kh73 eh73 rfl rfl d_SF_init_145 ?_
  refine ax_aload_n O d_SF_init_148 rfl 0 rfl ?_
  refine ax_iconst (v := (-1)) O d_SF_init_149 (by decide) ?_
  obtain ⟨fh74, h74, ch74, kh74, eh74, hf⟩ := mpt_some hf
  refine ax_put (v := .int (-1)) O fp_SF_90 ch74 kh74 eh74 rfl rfl d_SF_init_150 ?_
  refine ax_aload_n O d_SF_init_153 rfl 0 rfl ?_
  refine ax_iconst (v := (-1)) O d_SF_init_154 (by decide) ?_
  obtain ⟨fh75, h75, ch75, kh75, eh75, hf⟩ := mpt_some hf
  refine ax_put (v := .int (-1)) O fp_SF_93 ch75 kh75 eh75 rfl rfl d_SF_init_155 ?_
  refine ax_iconst (v := 0) O d_SF_init_158 (by decide) ?_
  refine ax_istore_n (lv' := [(1, .int 0), (0, .ref a0)]) O d_SF_init_159 rfl (by decide) rfl ?_
  refine ax_iload_n O d_SF_init_160 rfl 0 rfl ?_
  refine ax_aload_n O d_SF_init_161 rfl 1 rfl ?_
  obtain ⟨fr76, r76, cr76, kr76, hf⟩ := mgr_some hf
  refine ax_get O fg_SF_20 cr76 kr76 d_SF_init_162 ?_
  obtain ⟨xv77, v77, cv77, kv77, hf⟩ := mln_some hf
  refine ax_alen O (by decide) cv77 kv77 d_SF_init_165 ?_
  refine ax_icmp_ge (tgt := 188) O d_SF_init_166 (by decide) (fun q78 => ?_) (fun q78 => ?_)
  · rw [if_pos q78] at hf
    obtain ⟨g79, hf⟩ := mgd_some hf
    exact ax_vretx O hE hag g79 ⟨by decide, Nat.le_trans (by decide) gms⟩ hf d_SF_init_188
  · rw [if_neg q78] at hf
    refine ax_aload_n O d_SF_init_169 rfl 1 rfl ?_
    obtain ⟨fr80, r80, cr80, kr80, hf⟩ := mgr_some hf
    refine ax_get O fg_SF_20 cr80 kr80 d_SF_init_170 ?_
    refine ax_iload_n O d_SF_init_173 rfl 0 rfl ?_
    obtain ⟨g81, hf⟩ := mgd_some hf
    obtain ⟨r82, er82, hf⟩ := mnm_some hf
    obtain ⟨h83, eh83, hf⟩ := mnm_some hf
    refine ax_new O nc_SF_18 g81 er82 eh83 ⟨Nat.le_of_ble_eq_true rfl, Nat.le_trans (by decide) gms⟩ d_SF_init_174 (fun ad ag81 => ?_)
    replace O := mO_ag ag81 O
    replace hag := mAg.tr hag ag81 g81.2.1
    refine ax_widen (cs' := 42) (ss' := 157176) (by decide) (by decide) ?_
    refine ax_dup O d_SF_init_177 rfl ?_
    obtain ⟨g84, hf⟩ := mgd_some hf
    obtain ⟨u86, h85, mh85, hf⟩ := mcl_some hf
    refine ax_callI (As := []) (rest := [.ref r82, .int 0, .ref r80]) O cw_Li_init in_Li_init rfl lk_SF_96 (c_Li_init mh85) rfl ⟨rfl, rfl⟩ ⟨Nat.le_of_ble_eq_true rfl, Nat.le_of_ble_eq_true rfl⟩ ⟨Nat.le_of_ble_eq_true rfl, Nat.le_trans (by decide) gms⟩ g84 (Nat.le_of_ble_eq_true rfl) d_SF_init_178 (fun ad ag84 => ?_)
    replace O := mO_ag ag84 O
    replace hag := mAg.tr hag ag84 g84.2.1
    refine ax_widen (cs' := 42) (ss' := 157176) (by decide) (by decide) ?_
    obtain ⟨nh87, fh87, zh87, h87, ch87, dh87, ih87, eh87, hf⟩ := mrs_some hf
    refine ax_aast (q := (R_Li, T_Li, 6)) O rfl (by decide) ch87 dh87 ih87 eh87 d_SF_init_181 ?_
    obtain ⟨v88, ev88, hf⟩ := mnm_some hf
    refine ax_iinc (j := 0) (v := v88) (lv' := [(1, .int v88), (0, .ref a0)]) O d_SF_init_182 rfl (by rw [ev88]; rfl) (by decide) rfl ?_
    refine ax_goto (tgt := 160) O d_SF_init_185 (by decide) ?_
    refine ax_iload_n O d_SF_init_160 rfl 0 rfl ?_
    refine ax_aload_n O d_SF_init_161 rfl 1 rfl ?_
    obtain ⟨fr89, r89, cr89, kr89, hf⟩ := mgr_some hf
    refine ax_get O fg_SF_20 cr89 kr89 d_SF_init_162 ?_
    obtain ⟨xv90, v90, cv90, kv90, hf⟩ := mln_some hf
    refine ax_alen O (by decide) cv90 kv90 d_SF_init_165 ?_
    refine ax_icmp_ge (tgt := 188) O d_SF_init_166 (by decide) (fun q91 => ?_) (fun q91 => ?_)
    · rw [if_pos q91] at hf
      obtain ⟨g92, hf⟩ := mgd_some hf
      exact ax_vretx O hE hag g92 ⟨by decide, Nat.le_trans (by decide) gms⟩ hf d_SF_init_188
    · rw [if_neg q91] at hf
      refine ax_aload_n O d_SF_init_169 rfl 1 rfl ?_
      obtain ⟨fr93, r93, cr93, kr93, hf⟩ := mgr_some hf
      refine ax_get O fg_SF_20 cr93 kr93 d_SF_init_170 ?_
      refine ax_iload_n O d_SF_init_173 rfl 0 rfl ?_
      obtain ⟨g94, hf⟩ := mgd_some hf
      obtain ⟨r95, er95, hf⟩ := mnm_some hf
      obtain ⟨h96, eh96, hf⟩ := mnm_some hf
      refine ax_new O nc_SF_18 g94 er95 eh96 ⟨Nat.le_of_ble_eq_true rfl, Nat.le_trans (by decide) gms⟩ d_SF_init_174 (fun ad ag94 => ?_)
      replace O := mO_ag ag94 O
      replace hag := mAg.tr hag ag94 g94.2.1
      refine ax_widen (cs' := 43) (ss' := 157182) (by decide) (by decide) ?_
      refine ax_dup O d_SF_init_177 rfl ?_
      obtain ⟨g97, hf⟩ := mgd_some hf
      obtain ⟨u99, h98, mh98, hf⟩ := mcl_some hf
      refine ax_callI (As := []) (rest := [.ref r95, .int v88, .ref r93]) O cw_Li_init in_Li_init rfl lk_SF_96 (c_Li_init mh98) rfl ⟨rfl, rfl⟩ ⟨Nat.le_of_ble_eq_true rfl, Nat.le_of_ble_eq_true rfl⟩ ⟨Nat.le_of_ble_eq_true rfl, Nat.le_trans (by decide) gms⟩ g97 (Nat.le_of_ble_eq_true rfl) d_SF_init_178 (fun ad ag97 => ?_)
      replace O := mO_ag ag97 O
      replace hag := mAg.tr hag ag97 g97.2.1
      refine ax_widen (cs' := 43) (ss' := 157182) (by decide) (by decide) ?_
      obtain ⟨nh100, fh100, zh100, h100, ch100, dh100, ih100, eh100, hf⟩ := mrs_some hf
      refine ax_aast (q := (R_Li, T_Li, 6)) O rfl (by decide) ch100 dh100 ih100 eh100 d_SF_init_181 ?_
      obtain ⟨v101, ev101, hf⟩ := mnm_some hf
      refine ax_iinc (j := 0) (v := v101) (lv' := [(1, .int v101), (0, .ref a0)]) O d_SF_init_182 rfl (by rw [ev101]; rfl) (by decide) rfl ?_
      refine ax_goto (tgt := 160) O d_SF_init_185 (by decide) ?_
      refine ax_iload_n O d_SF_init_160 rfl 0 rfl ?_
      refine ax_aload_n O d_SF_init_161 rfl 1 rfl ?_
      obtain ⟨fr102, r102, cr102, kr102, hf⟩ := mgr_some hf
      refine ax_get O fg_SF_20 cr102 kr102 d_SF_init_162 ?_
      obtain ⟨xv103, v103, cv103, kv103, hf⟩ := mln_some hf
      refine ax_alen O (by decide) cv103 kv103 d_SF_init_165 ?_
      refine ax_icmp_ge (tgt := 188) O d_SF_init_166 (by decide) (fun q104 => ?_) (fun q104 => ?_)
      · rw [if_pos q104] at hf
        obtain ⟨g105, hf⟩ := mgd_some hf
        exact ax_vretx O hE hag g105 ⟨by decide, Nat.le_trans (by decide) gms⟩ hf d_SF_init_188
      · rw [if_neg q104] at hf
        refine ax_aload_n O d_SF_init_169 rfl 1 rfl ?_
        obtain ⟨fr106, r106, cr106, kr106, hf⟩ := mgr_some hf
        refine ax_get O fg_SF_20 cr106 kr106 d_SF_init_170 ?_
        refine ax_iload_n O d_SF_init_173 rfl 0 rfl ?_
        obtain ⟨g107, hf⟩ := mgd_some hf
        obtain ⟨r108, er108, hf⟩ := mnm_some hf
        obtain ⟨h109, eh109, hf⟩ := mnm_some hf
        refine ax_new O nc_SF_18 g107 er108 eh109 ⟨Nat.le_of_ble_eq_true rfl, Nat.le_trans (by decide) gms⟩ d_SF_init_174 (fun ad ag107 => ?_)
        replace O := mO_ag ag107 O
        replace hag := mAg.tr hag ag107 g107.2.1
        refine ax_widen (cs' := 44) (ss' := 157188) (by decide) (by decide) ?_
        refine ax_dup O d_SF_init_177 rfl ?_
        obtain ⟨g110, hf⟩ := mgd_some hf
        obtain ⟨u112, h111, mh111, hf⟩ := mcl_some hf
        refine ax_callI (As := []) (rest := [.ref r108, .int v101, .ref r106]) O cw_Li_init in_Li_init rfl lk_SF_96 (c_Li_init mh111) rfl ⟨rfl, rfl⟩ ⟨Nat.le_of_ble_eq_true rfl, Nat.le_of_ble_eq_true rfl⟩ ⟨Nat.le_of_ble_eq_true rfl, Nat.le_trans (by decide) gms⟩ g110 (Nat.le_of_ble_eq_true rfl) d_SF_init_178 (fun ad ag110 => ?_)
        replace O := mO_ag ag110 O
        replace hag := mAg.tr hag ag110 g110.2.1
        refine ax_widen (cs' := 44) (ss' := 157188) (by decide) (by decide) ?_
        obtain ⟨nh113, fh113, zh113, h113, ch113, dh113, ih113, eh113, hf⟩ := mrs_some hf
        refine ax_aast (q := (R_Li, T_Li, 6)) O rfl (by decide) ch113 dh113 ih113 eh113 d_SF_init_181 ?_
        obtain ⟨v114, ev114, hf⟩ := mnm_some hf
        refine ax_iinc (j := 0) (v := v114) (lv' := [(1, .int v114), (0, .ref a0)]) O d_SF_init_182 rfl (by rw [ev114]; rfl) (by decide) rfl ?_
        refine ax_goto (tgt := 160) O d_SF_init_185 (by decide) ?_
        refine ax_iload_n O d_SF_init_160 rfl 0 rfl ?_
        refine ax_aload_n O d_SF_init_161 rfl 1 rfl ?_
        obtain ⟨fr115, r115, cr115, kr115, hf⟩ := mgr_some hf
        refine ax_get O fg_SF_20 cr115 kr115 d_SF_init_162 ?_
        obtain ⟨xv116, v116, cv116, kv116, hf⟩ := mln_some hf
        refine ax_alen O (by decide) cv116 kv116 d_SF_init_165 ?_
        refine ax_icmp_ge (tgt := 188) O d_SF_init_166 (by decide) (fun q117 => ?_) (fun q117 => ?_)
        · rw [if_pos q117] at hf
          obtain ⟨g118, hf⟩ := mgd_some hf
          exact ax_vretx O hE hag g118 ⟨by decide, Nat.le_trans (by decide) gms⟩ hf d_SF_init_188
        · rw [if_neg q117] at hf
          refine ax_aload_n O d_SF_init_169 rfl 1 rfl ?_
          obtain ⟨fr119, r119, cr119, kr119, hf⟩ := mgr_some hf
          refine ax_get O fg_SF_20 cr119 kr119 d_SF_init_170 ?_
          refine ax_iload_n O d_SF_init_173 rfl 0 rfl ?_
          obtain ⟨g120, hf⟩ := mgd_some hf
          obtain ⟨r121, er121, hf⟩ := mnm_some hf
          obtain ⟨h122, eh122, hf⟩ := mnm_some hf
          refine ax_new O nc_SF_18 g120 er121 eh122 ⟨Nat.le_of_ble_eq_true rfl, Nat.le_trans (by decide) gms⟩ d_SF_init_174 (fun ad ag120 => ?_)
          replace O := mO_ag ag120 O
          replace hag := mAg.tr hag ag120 g120.2.1
          refine ax_widen (cs' := 45) (ss' := 157194) (by decide) (by decide) ?_
          refine ax_dup O d_SF_init_177 rfl ?_
          obtain ⟨g123, hf⟩ := mgd_some hf
          obtain ⟨u125, h124, mh124, hf⟩ := mcl_some hf
          refine ax_callI (As := []) (rest := [.ref r121, .int v114, .ref r119]) O cw_Li_init in_Li_init rfl lk_SF_96 (c_Li_init mh124) rfl ⟨rfl, rfl⟩ ⟨Nat.le_of_ble_eq_true rfl, Nat.le_of_ble_eq_true rfl⟩ ⟨Nat.le_of_ble_eq_true rfl, Nat.le_trans (by decide) gms⟩ g123 (Nat.le_of_ble_eq_true rfl) d_SF_init_178 (fun ad ag123 => ?_)
          replace O := mO_ag ag123 O
          replace hag := mAg.tr hag ag123 g123.2.1
          refine ax_widen (cs' := 45) (ss' := 157194) (by decide) (by decide) ?_
          obtain ⟨nh126, fh126, zh126, h126, ch126, dh126, ih126, eh126, hf⟩ := mrs_some hf
          refine ax_aast (q := (R_Li, T_Li, 6)) O rfl (by decide) ch126 dh126 ih126 eh126 d_SF_init_181 ?_
          obtain ⟨v127, ev127, hf⟩ := mnm_some hf
          refine ax_iinc (j := 0) (v := v127) (lv' := [(1, .int v127), (0, .ref a0)]) O d_SF_init_182 rfl (by rw [ev127]; rfl) (by decide) rfl ?_
          refine ax_goto (tgt := 160) O d_SF_init_185 (by decide) ?_
          refine ax_iload_n O d_SF_init_160 rfl 0 rfl ?_
          refine ax_aload_n O d_SF_init_161 rfl 1 rfl ?_
          obtain ⟨fr128, r128, cr128, kr128, hf⟩ := mgr_some hf
          refine ax_get O fg_SF_20 cr128 kr128 d_SF_init_162 ?_
          obtain ⟨xv129, v129, cv129, kv129, hf⟩ := mln_some hf
          refine ax_alen O (by decide) cv129 kv129 d_SF_init_165 ?_
          refine ax_icmp_ge (tgt := 188) O d_SF_init_166 (by decide) (fun q130 => ?_) (fun q130 => ?_)
          · rw [if_pos q130] at hf
            obtain ⟨g131, hf⟩ := mgd_some hf
            exact ax_vretx O hE hag g131 ⟨by decide, Nat.le_trans (by decide) gms⟩ hf d_SF_init_188
          · rw [if_neg q130] at hf
            refine ax_aload_n O d_SF_init_169 rfl 1 rfl ?_
            obtain ⟨fr132, r132, cr132, kr132, hf⟩ := mgr_some hf
            refine ax_get O fg_SF_20 cr132 kr132 d_SF_init_170 ?_
            refine ax_iload_n O d_SF_init_173 rfl 0 rfl ?_
            obtain ⟨g133, hf⟩ := mgd_some hf
            obtain ⟨r134, er134, hf⟩ := mnm_some hf
            obtain ⟨h135, eh135, hf⟩ := mnm_some hf
            refine ax_new O nc_SF_18 g133 er134 eh135 ⟨Nat.le_of_ble_eq_true rfl, Nat.le_trans (by decide) gms⟩ d_SF_init_174 (fun ad ag133 => ?_)
            replace O := mO_ag ag133 O
            replace hag := mAg.tr hag ag133 g133.2.1
            refine ax_widen (cs' := 46) (ss' := 157200) (by decide) (by decide) ?_
            refine ax_dup O d_SF_init_177 rfl ?_
            obtain ⟨g136, hf⟩ := mgd_some hf
            obtain ⟨u138, h137, mh137, hf⟩ := mcl_some hf
            refine ax_callI (As := []) (rest := [.ref r134, .int v127, .ref r132]) O cw_Li_init in_Li_init rfl lk_SF_96 (c_Li_init mh137) rfl ⟨rfl, rfl⟩ ⟨Nat.le_of_ble_eq_true rfl, Nat.le_of_ble_eq_true rfl⟩ ⟨Nat.le_of_ble_eq_true rfl, Nat.le_trans (by decide) gms⟩ g136 (Nat.le_of_ble_eq_true rfl) d_SF_init_178 (fun ad ag136 => ?_)
            replace O := mO_ag ag136 O
            replace hag := mAg.tr hag ag136 g136.2.1
            refine ax_widen (cs' := 46) (ss' := 157200) (by decide) (by decide) ?_
            obtain ⟨nh139, fh139, zh139, h139, ch139, dh139, ih139, eh139, hf⟩ := mrs_some hf
            refine ax_aast (q := (R_Li, T_Li, 6)) O rfl (by decide) ch139 dh139 ih139 eh139 d_SF_init_181 ?_
            obtain ⟨v140, ev140, hf⟩ := mnm_some hf
            refine ax_iinc (j := 0) (v := v140) (lv' := [(1, .int v140), (0, .ref a0)]) O d_SF_init_182 rfl (by rw [ev140]; rfl) (by decide) rfl ?_
            refine ax_goto (tgt := 160) O d_SF_init_185 (by decide) ?_
            refine ax_iload_n O d_SF_init_160 rfl 0 rfl ?_
            refine ax_aload_n O d_SF_init_161 rfl 1 rfl ?_
            obtain ⟨fr141, r141, cr141, kr141, hf⟩ := mgr_some hf
            refine ax_get O fg_SF_20 cr141 kr141 d_SF_init_162 ?_
            obtain ⟨xv142, v142, cv142, kv142, hf⟩ := mln_some hf
            refine ax_alen O (by decide) cv142 kv142 d_SF_init_165 ?_
            refine ax_icmp_ge (tgt := 188) O d_SF_init_166 (by decide) (fun q143 => ?_) (fun q143 => ?_)
            · rw [if_pos q143] at hf
              obtain ⟨g144, hf⟩ := mgd_some hf
              exact ax_vretx O hE hag g144 ⟨by decide, Nat.le_trans (by decide) gms⟩ hf d_SF_init_188
            · rw [if_neg q143] at hf
              refine ax_aload_n O d_SF_init_169 rfl 1 rfl ?_
              obtain ⟨fr145, r145, cr145, kr145, hf⟩ := mgr_some hf
              refine ax_get O fg_SF_20 cr145 kr145 d_SF_init_170 ?_
              refine ax_iload_n O d_SF_init_173 rfl 0 rfl ?_
              obtain ⟨g146, hf⟩ := mgd_some hf
              obtain ⟨r147, er147, hf⟩ := mnm_some hf
              obtain ⟨h148, eh148, hf⟩ := mnm_some hf
              refine ax_new O nc_SF_18 g146 er147 eh148 ⟨Nat.le_of_ble_eq_true rfl, Nat.le_trans (by decide) gms⟩ d_SF_init_174 (fun ad ag146 => ?_)
              replace O := mO_ag ag146 O
              replace hag := mAg.tr hag ag146 g146.2.1
              refine ax_widen (cs' := 47) (ss' := 157206) (by decide) (by decide) ?_
              refine ax_dup O d_SF_init_177 rfl ?_
              obtain ⟨g149, hf⟩ := mgd_some hf
              obtain ⟨u151, h150, mh150, hf⟩ := mcl_some hf
              refine ax_callI (As := []) (rest := [.ref r147, .int v140, .ref r145]) O cw_Li_init in_Li_init rfl lk_SF_96 (c_Li_init mh150) rfl ⟨rfl, rfl⟩ ⟨Nat.le_of_ble_eq_true rfl, Nat.le_of_ble_eq_true rfl⟩ ⟨Nat.le_of_ble_eq_true rfl, Nat.le_trans (by decide) gms⟩ g149 (Nat.le_of_ble_eq_true rfl) d_SF_init_178 (fun ad ag149 => ?_)
              replace O := mO_ag ag149 O
              replace hag := mAg.tr hag ag149 g149.2.1
              refine ax_widen (cs' := 47) (ss' := 157206) (by decide) (by decide) ?_
              obtain ⟨nh152, fh152, zh152, h152, ch152, dh152, ih152, eh152, hf⟩ := mrs_some hf
              refine ax_aast (q := (R_Li, T_Li, 6)) O rfl (by decide) ch152 dh152 ih152 eh152 d_SF_init_181 ?_
              obtain ⟨v153, ev153, hf⟩ := mnm_some hf
              refine ax_iinc (j := 0) (v := v153) (lv' := [(1, .int v153), (0, .ref a0)]) O d_SF_init_182 rfl (by rw [ev153]; rfl) (by decide) rfl ?_
              refine ax_goto (tgt := 160) O d_SF_init_185 (by decide) ?_
              refine ax_iload_n O d_SF_init_160 rfl 0 rfl ?_
              refine ax_aload_n O d_SF_init_161 rfl 1 rfl ?_
              obtain ⟨fr154, r154, cr154, kr154, hf⟩ := mgr_some hf
              refine ax_get O fg_SF_20 cr154 kr154 d_SF_init_162 ?_
              obtain ⟨xv155, v155, cv155, kv155, hf⟩ := mln_some hf
              refine ax_alen O (by decide) cv155 kv155 d_SF_init_165 ?_
              refine ax_icmp_ge (tgt := 188) O d_SF_init_166 (by decide) (fun q156 => ?_) (fun q156 => ?_)
              · rw [if_pos q156] at hf
                obtain ⟨g157, hf⟩ := mgd_some hf
                exact ax_vretx O hE hag g157 ⟨by decide, Nat.le_trans (by decide) gms⟩ hf d_SF_init_188
              · rw [if_neg q156] at hf
                refine ax_aload_n O d_SF_init_169 rfl 1 rfl ?_
                obtain ⟨fr158, r158, cr158, kr158, hf⟩ := mgr_some hf
                refine ax_get O fg_SF_20 cr158 kr158 d_SF_init_170 ?_
                refine ax_iload_n O d_SF_init_173 rfl 0 rfl ?_
                obtain ⟨g159, hf⟩ := mgd_some hf
                obtain ⟨r160, er160, hf⟩ := mnm_some hf
                obtain ⟨h161, eh161, hf⟩ := mnm_some hf
                refine ax_new O nc_SF_18 g159 er160 eh161 ⟨Nat.le_of_ble_eq_true rfl, Nat.le_trans (by decide) gms⟩ d_SF_init_174 (fun ad ag159 => ?_)
                replace O := mO_ag ag159 O
                replace hag := mAg.tr hag ag159 g159.2.1
                refine ax_widen (cs' := 48) (ss' := 157212) (by decide) (by decide) ?_
                refine ax_dup O d_SF_init_177 rfl ?_
                obtain ⟨g162, hf⟩ := mgd_some hf
                obtain ⟨u164, h163, mh163, hf⟩ := mcl_some hf
                refine ax_callI (As := []) (rest := [.ref r160, .int v153, .ref r158]) O cw_Li_init in_Li_init rfl lk_SF_96 (c_Li_init mh163) rfl ⟨rfl, rfl⟩ ⟨Nat.le_of_ble_eq_true rfl, Nat.le_of_ble_eq_true rfl⟩ ⟨Nat.le_of_ble_eq_true rfl, Nat.le_trans (by decide) gms⟩ g162 (Nat.le_of_ble_eq_true rfl) d_SF_init_178 (fun ad ag162 => ?_)
                replace O := mO_ag ag162 O
                replace hag := mAg.tr hag ag162 g162.2.1
                refine ax_widen (cs' := 48) (ss' := 157212) (by decide) (by decide) ?_
                obtain ⟨nh165, fh165, zh165, h165, ch165, dh165, ih165, eh165, hf⟩ := mrs_some hf
                refine ax_aast (q := (R_Li, T_Li, 6)) O rfl (by decide) ch165 dh165 ih165 eh165 d_SF_init_181 ?_
                obtain ⟨v166, ev166, hf⟩ := mnm_some hf
                refine ax_iinc (j := 0) (v := v166) (lv' := [(1, .int v166), (0, .ref a0)]) O d_SF_init_182 rfl (by rw [ev166]; rfl) (by decide) rfl ?_
                refine ax_goto (tgt := 160) O d_SF_init_185 (by decide) ?_
                refine ax_iload_n O d_SF_init_160 rfl 0 rfl ?_
                refine ax_aload_n O d_SF_init_161 rfl 1 rfl ?_
                obtain ⟨fr167, r167, cr167, kr167, hf⟩ := mgr_some hf
                refine ax_get O fg_SF_20 cr167 kr167 d_SF_init_162 ?_
                obtain ⟨xv168, v168, cv168, kv168, hf⟩ := mln_some hf
                refine ax_alen O (by decide) cv168 kv168 d_SF_init_165 ?_
                refine ax_icmp_ge (tgt := 188) O d_SF_init_166 (by decide) (fun q169 => ?_) (fun q169 => ?_)
                · rw [if_pos q169] at hf
                  obtain ⟨g170, hf⟩ := mgd_some hf
                  exact ax_vretx O hE hag g170 ⟨by decide, Nat.le_trans (by decide) gms⟩ hf d_SF_init_188
                · rw [if_neg q169] at hf
                  refine ax_aload_n O d_SF_init_169 rfl 1 rfl ?_
                  obtain ⟨fr171, r171, cr171, kr171, hf⟩ := mgr_some hf
                  refine ax_get O fg_SF_20 cr171 kr171 d_SF_init_170 ?_
                  refine ax_iload_n O d_SF_init_173 rfl 0 rfl ?_
                  obtain ⟨g172, hf⟩ := mgd_some hf
                  obtain ⟨r173, er173, hf⟩ := mnm_some hf
                  obtain ⟨h174, eh174, hf⟩ := mnm_some hf
                  refine ax_new O nc_SF_18 g172 er173 eh174 ⟨Nat.le_of_ble_eq_true rfl, Nat.le_trans (by decide) gms⟩ d_SF_init_174 (fun ad ag172 => ?_)
                  replace O := mO_ag ag172 O
                  replace hag := mAg.tr hag ag172 g172.2.1
                  refine ax_widen (cs' := 49) (ss' := 157218) (by decide) (by decide) ?_
                  refine ax_dup O d_SF_init_177 rfl ?_
                  obtain ⟨g175, hf⟩ := mgd_some hf
                  obtain ⟨u177, h176, mh176, hf⟩ := mcl_some hf
                  refine ax_callI (As := []) (rest := [.ref r173, .int v166, .ref r171]) O cw_Li_init in_Li_init rfl lk_SF_96 (c_Li_init mh176) rfl ⟨rfl, rfl⟩ ⟨Nat.le_of_ble_eq_true rfl, Nat.le_of_ble_eq_true rfl⟩ ⟨Nat.le_of_ble_eq_true rfl, Nat.le_trans (by decide) gms⟩ g175 (Nat.le_of_ble_eq_true rfl) d_SF_init_178 (fun ad ag175 => ?_)
                  replace O := mO_ag ag175 O
                  replace hag := mAg.tr hag ag175 g175.2.1
                  refine ax_widen (cs' := 49) (ss' := 157218) (by decide) (by decide) ?_
                  obtain ⟨nh178, fh178, zh178, h178, ch178, dh178, ih178, eh178, hf⟩ := mrs_some hf
                  refine ax_aast (q := (R_Li, T_Li, 6)) O rfl (by decide) ch178 dh178 ih178 eh178 d_SF_init_181 ?_
                  obtain ⟨v179, ev179, hf⟩ := mnm_some hf
                  refine ax_iinc (j := 0) (v := v179) (lv' := [(1, .int v179), (0, .ref a0)]) O d_SF_init_182 rfl (by rw [ev179]; rfl) (by decide) rfl ?_
                  refine ax_goto (tgt := 160) O d_SF_init_185 (by decide) ?_
                  refine ax_iload_n O d_SF_init_160 rfl 0 rfl ?_
                  refine ax_aload_n O d_SF_init_161 rfl 1 rfl ?_
                  obtain ⟨fr180, r180, cr180, kr180, hf⟩ := mgr_some hf
                  refine ax_get O fg_SF_20 cr180 kr180 d_SF_init_162 ?_
                  obtain ⟨xv181, v181, cv181, kv181, hf⟩ := mln_some hf
                  refine ax_alen O (by decide) cv181 kv181 d_SF_init_165 ?_
                  refine ax_icmp_ge (tgt := 188) O d_SF_init_166 (by decide) (fun q182 => ?_) (fun q182 => ?_)
                  · rw [if_pos q182] at hf
                    obtain ⟨g183, hf⟩ := mgd_some hf
                    exact ax_vretx O hE hag g183 ⟨by decide, Nat.le_trans (by decide) gms⟩ hf d_SF_init_188
                  · rw [if_neg q182] at hf
                    refine ax_aload_n O d_SF_init_169 rfl 1 rfl ?_
                    obtain ⟨fr184, r184, cr184, kr184, hf⟩ := mgr_some hf
                    refine ax_get O fg_SF_20 cr184 kr184 d_SF_init_170 ?_
                    refine ax_iload_n O d_SF_init_173 rfl 0 rfl ?_
                    obtain ⟨g185, hf⟩ := mgd_some hf
                    obtain ⟨r186, er186, hf⟩ := mnm_some hf
                    obtain ⟨h187, eh187, hf⟩ := mnm_some hf
                    refine ax_new O nc_SF_18 g185 er186 eh187 ⟨Nat.le_of_ble_eq_true rfl, Nat.le_trans (by decide) gms⟩ d_SF_init_174 (fun ad ag185 => ?_)
                    replace O := mO_ag ag185 O
                    replace hag := mAg.tr hag ag185 g185.2.1
                    refine ax_widen (cs' := 50) (ss' := 157224) (by decide) (by decide) ?_
                    refine ax_dup O d_SF_init_177 rfl ?_
                    obtain ⟨g188, hf⟩ := mgd_some hf
                    obtain ⟨u190, h189, mh189, hf⟩ := mcl_some hf
                    refine ax_callI (As := []) (rest := [.ref r186, .int v179, .ref r184]) O cw_Li_init in_Li_init rfl lk_SF_96 (c_Li_init mh189) rfl ⟨rfl, rfl⟩ ⟨Nat.le_of_ble_eq_true rfl, Nat.le_of_ble_eq_true rfl⟩ ⟨Nat.le_of_ble_eq_true rfl, Nat.le_trans (by decide) gms⟩ g188 (Nat.le_of_ble_eq_true rfl) d_SF_init_178 (fun ad ag188 => ?_)
                    replace O := mO_ag ag188 O
                    replace hag := mAg.tr hag ag188 g188.2.1
                    refine ax_widen (cs' := 50) (ss' := 157224) (by decide) (by decide) ?_
                    obtain ⟨nh191, fh191, zh191, h191, ch191, dh191, ih191, eh191, hf⟩ := mrs_some hf
                    refine ax_aast (q := (R_Li, T_Li, 6)) O rfl (by decide) ch191 dh191 ih191 eh191 d_SF_init_181 ?_
                    obtain ⟨v192, ev192, hf⟩ := mnm_some hf
                    refine ax_iinc (j := 0) (v := v192) (lv' := [(1, .int v192), (0, .ref a0)]) O d_SF_init_182 rfl (by rw [ev192]; rfl) (by decide) rfl ?_
                    refine ax_goto (tgt := 160) O d_SF_init_185 (by decide) ?_
                    cases hf
theorem c_SF_init {ln : Launch} {ms n0 : Nat} {h0 h' : mH} {a0 : Nat} {r' : Unit} (hf : f_SF_init ms n0 h0 a0 = some (r', h')) : mMetx ln y_SF_init b_SF_init 2 (mRx 4 50 ms 93) [.ref a0] h0 h' 50 ms := mMetx_of (by decide +kernel) rfl (Nat.le_of_ble_eq_true rfl) (fun X ad O hE => cb_SF_init O r' h' h0 hE n0 a0 hf)
/-! ===== StreamFiltersModel.<init>()V ===== -/
theorem d_Mo_init_0 : decode b_Mo_init 0 = .ok (.aload_n 0, 1) := by decide +kernel
theorem d_Mo_init_1 : decode b_Mo_init 1 = .ok (.invokespecial 1, 3) := by decide +kernel
theorem d_Mo_init_4 : decode b_Mo_init 4 = .ok (.aload_n 0, 1) := by decide +kernel
theorem d_Mo_init_5 : decode b_Mo_init 5 = .ok (.sipush 16384, 3) := by decide +kernel
theorem d_Mo_init_8 : decode b_Mo_init 8 = .ok (.newarray .int, 2) := by decide +kernel
theorem d_Mo_init_10 : decode b_Mo_init 10 = .ok (.putfield 7, 3) := by decide +kernel
theorem d_Mo_init_13 : decode b_Mo_init 13 = .ok (.aload_n 0, 1) := by decide +kernel
theorem d_Mo_init_14 : decode b_Mo_init 14 = .ok (.bipush 8, 2) := by decide +kernel
theorem d_Mo_init_16 : decode b_Mo_init 16 = .ok (.newarray .int, 2) := by decide +kernel
theorem d_Mo_init_18 : decode b_Mo_init 18 = .ok (.putfield 13, 3) := by decide +kernel
theorem d_Mo_init_21 : decode b_Mo_init 21 = .ok (.aload_n 0, 1) := by decide +kernel
theorem d_Mo_init_22 : decode b_Mo_init 22 = .ok (.bipush 8, 2) := by decide +kernel
theorem d_Mo_init_24 : decode b_Mo_init 24 = .ok (.newarray .int, 2) := by decide +kernel
theorem d_Mo_init_26 : decode b_Mo_init 26 = .ok (.putfield 16, 3) := by decide +kernel
theorem d_Mo_init_29 : decode b_Mo_init 29 = .ok (.aload_n 0, 1) := by decide +kernel
theorem d_Mo_init_30 : decode b_Mo_init 30 = .ok (.bipush 8, 2) := by decide +kernel
theorem d_Mo_init_32 : decode b_Mo_init 32 = .ok (.newarray .int, 2) := by decide +kernel
theorem d_Mo_init_34 : decode b_Mo_init 34 = .ok (.putfield 19, 3) := by decide +kernel
theorem d_Mo_init_37 : decode b_Mo_init 37 = .ok (.aload_n 0, 1) := by decide +kernel
theorem d_Mo_init_38 : decode b_Mo_init 38 = .ok (.bipush 8, 2) := by decide +kernel
theorem d_Mo_init_40 : decode b_Mo_init 40 = .ok (.newarray .int, 2) := by decide +kernel
theorem d_Mo_init_42 : decode b_Mo_init 42 = .ok (.putfield 22, 3) := by decide +kernel
theorem d_Mo_init_45 : decode b_Mo_init 45 = .ok (.aload_n 0, 1) := by decide +kernel
theorem d_Mo_init_46 : decode b_Mo_init 46 = .ok (.bipush 8, 2) := by decide +kernel
theorem d_Mo_init_48 : decode b_Mo_init 48 = .ok (.newarray .int, 2) := by decide +kernel
theorem d_Mo_init_50 : decode b_Mo_init 50 = .ok (.putfield 25, 3) := by decide +kernel
theorem d_Mo_init_53 : decode b_Mo_init 53 = .ok (.aload_n 0, 1) := by decide +kernel
theorem d_Mo_init_54 : decode b_Mo_init 54 = .ok (.bipush 8, 2) := by decide +kernel
theorem d_Mo_init_56 : decode b_Mo_init 56 = .ok (.newarray .int, 2) := by decide +kernel
theorem d_Mo_init_58 : decode b_Mo_init 58 = .ok (.putfield 28, 3) := by decide +kernel
theorem d_Mo_init_61 : decode b_Mo_init 61 = .ok (.aload_n 0, 1) := by decide +kernel
theorem d_Mo_init_62 : decode b_Mo_init 62 = .ok (.ldc 31, 2) := by decide +kernel
theorem d_Mo_init_64 : decode b_Mo_init 64 = .ok (.putfield 32, 3) := by decide +kernel
theorem d_Mo_init_67 : decode b_Mo_init 67 = .ok (.aload_n 0, 1) := by decide +kernel
theorem d_Mo_init_68 : decode b_Mo_init 68 = .ok (.ldc 31, 2) := by decide +kernel
theorem d_Mo_init_70 : decode b_Mo_init 70 = .ok (.newarray .int, 2) := by decide +kernel
theorem d_Mo_init_72 : decode b_Mo_init 72 = .ok (.putfield 36, 3) := by decide +kernel
theorem d_Mo_init_75 : decode b_Mo_init 75 = .ok (.aload_n 0, 1) := by decide +kernel
theorem d_Mo_init_76 : decode b_Mo_init 76 = .ok (.ldc 31, 2) := by decide +kernel
theorem d_Mo_init_78 : decode b_Mo_init 78 = .ok (.newarray .int, 2) := by decide +kernel
theorem d_Mo_init_80 : decode b_Mo_init 80 = .ok (.putfield 39, 3) := by decide +kernel
theorem d_Mo_init_83 : decode b_Mo_init 83 = .ok (.aload_n 0, 1) := by decide +kernel
theorem d_Mo_init_84 : decode b_Mo_init 84 = .ok (.sipush 339, 3) := by decide +kernel
theorem d_Mo_init_87 : decode b_Mo_init 87 = .ok (.newarray .int, 2) := by decide +kernel
theorem d_Mo_init_89 : decode b_Mo_init 89 = .ok (.putfield 42, 3) := by decide +kernel
theorem d_Mo_init_92 : decode b_Mo_init 92 = .ok (.aload_n 0, 1) := by decide +kernel
theorem d_Mo_init_93 : decode b_Mo_init 93 = .ok (.sipush 339, 3) := by decide +kernel
theorem d_Mo_init_96 : decode b_Mo_init 96 = .ok (.newarray .int, 2) := by decide +kernel
theorem d_Mo_init_98 : decode b_Mo_init 98 = .ok (.putfield 45, 3) := by decide +kernel
theorem d_Mo_init_101 : decode b_Mo_init 101 = .ok (.aload_n 0, 1) := by decide +kernel
theorem d_Mo_init_102 : decode b_Mo_init 102 = .ok (.sipush 4096, 3) := by decide +kernel
theorem d_Mo_init_105 : decode b_Mo_init 105 = .ok (.newarray .int, 2) := by decide +kernel
theorem d_Mo_init_107 : decode b_Mo_init 107 = .ok (.putfield 48, 3) := by decide +kernel
theorem d_Mo_init_110 : decode b_Mo_init 110 = .ok (.aload_n 0, 1) := by decide +kernel
theorem d_Mo_init_111 : decode b_Mo_init 111 = .ok (.sipush 4096, 3) := by decide +kernel
theorem d_Mo_init_114 : decode b_Mo_init 114 = .ok (.newarray .int, 2) := by decide +kernel
theorem d_Mo_init_116 : decode b_Mo_init 116 = .ok (.putfield 51, 3) := by decide +kernel
theorem d_Mo_init_119 : decode b_Mo_init 119 = .ok (.aload_n 0, 1) := by decide +kernel
theorem d_Mo_init_120 : decode b_Mo_init 120 = .ok (.sipush 4096, 3) := by decide +kernel
theorem d_Mo_init_123 : decode b_Mo_init 123 = .ok (.newarray .int, 2) := by decide +kernel
theorem d_Mo_init_125 : decode b_Mo_init 125 = .ok (.putfield 54, 3) := by decide +kernel
theorem d_Mo_init_128 : decode b_Mo_init 128 = .ok (.aload_n 0, 1) := by decide +kernel
theorem d_Mo_init_129 : decode b_Mo_init 129 = .ok (.ldc 31, 2) := by decide +kernel
theorem d_Mo_init_131 : decode b_Mo_init 131 = .ok (.newarray .int, 2) := by decide +kernel
theorem d_Mo_init_133 : decode b_Mo_init 133 = .ok (.putfield 57, 3) := by decide +kernel
theorem d_Mo_init_136 : decode b_Mo_init 136 = .ok (.aload_n 0, 1) := by decide +kernel
theorem d_Mo_init_137 : decode b_Mo_init 137 = .ok (.iconst (-1), 1) := by decide +kernel
theorem d_Mo_init_138 : decode b_Mo_init 138 = .ok (.putfield 60, 3) := by decide +kernel
theorem d_Mo_init_141 : decode b_Mo_init 141 = .ok (.aload_n 0, 1) := by decide +kernel
theorem d_Mo_init_142 : decode b_Mo_init 142 = .ok (.iconst (-1), 1) := by decide +kernel
theorem d_Mo_init_143 : decode b_Mo_init 143 = .ok (.putfield 63, 3) := by decide +kernel
theorem d_Mo_init_146 : decode b_Mo_init 146 = .ok (.aload_n 0, 1) := by decide +kernel
theorem d_Mo_init_147 : decode b_Mo_init 147 = .ok (.iconst (-1), 1) := by decide +kernel
theorem d_Mo_init_148 : decode b_Mo_init 148 = .ok (.putfield 66, 3) := by decide +kernel
theorem d_Mo_init_151 : decode b_Mo_init 151 = .ok (.return_, 1) := by decide +kernel
noncomputable def f_Mo_init  (ms : Nat) (n0 : Nat) (h0 : mH) (a0 : Nat) : Option (Unit × mH) :=
  mgd (226006 ≤ ms) <|
  mgd (mOkA h0 h0 [.ref a0] [.ref a0]) <|
  mnm h0.length fun r2 =>
  mnm (h0 ++ [.inl (.int, ((16384 : Int32).toNatClampNeg, .inl (fun _ => 0)))]) fun h3 =>
  mpt h3 a0 10 2 (.ref r2) fun h4 =>
  mgd (mOkA h0 h4 [.ref a0] [.ref a0]) <|
  mnm h4.length fun r6 =>
  mnm (h4 ++ [.inl (.int, ((8 : Int32).toNatClampNeg, .inl (fun _ => 0)))]) fun h7 =>
  mpt h7 a0 10 4 (.ref r6) fun h8 =>
  mgd (mOkA h0 h8 [.ref a0] [.ref a0]) <|
  mnm h8.length fun r10 =>
  mnm (h8 ++ [.inl (.int, ((8 : Int32).toNatClampNeg, .inl (fun _ => 0)))]) fun h11 =>
  mpt h11 a0 10 5 (.ref r10) fun h12 =>
  mgd (mOkA h0 h12 [.ref a0] [.ref a0]) <|
  mnm h12.length fun r14 =>
  mnm (h12 ++ [.inl (.int, ((8 : Int32).toNatClampNeg, .inl (fun _ => 0)))]) fun h15 =>
  mpt h15 a0 10 6 (.ref r14) fun h16 =>
  mgd (mOkA h0 h16 [.ref a0] [.ref a0]) <|
  mnm h16.length fun r18 =>
  mnm (h16 ++ [.inl (.int, ((8 : Int32).toNatClampNeg, .inl (fun _ => 0)))]) fun h19 =>
  mpt h19 a0 10 7 (.ref r18) fun h20 =>
  mgd (mOkA h0 h20 [.ref a0] [.ref a0]) <|
  mnm h20.length fun r22 =>
  mnm (h20 ++ [.inl (.int, ((8 : Int32).toNatClampNeg, .inl (fun _ => 0)))]) fun h23 =>
  mpt h23 a0 10 8 (.ref r22) fun h24 =>
  mgd (mOkA h0 h24 [.ref a0] [.ref a0]) <|
  mnm h24.length fun r26 =>
  mnm (h24 ++ [.inl (.int, ((8 : Int32).toNatClampNeg, .inl (fun _ => 0)))]) fun h27 =>
  mpt h27 a0 10 9 (.ref r26) fun h28 =>
  mpt h28 a0 10 10 (.int 65536) fun h29 =>
  mgd (mOkA h0 h29 [.ref a0] [.ref a0]) <|
  mnm h29.length fun r31 =>
  mnm (h29 ++ [.inl (.int, ((65536 : Int32).toNatClampNeg, .inl (fun _ => 0)))]) fun h32 =>
  mpt h32 a0 10 12 (.ref r31) fun h33 =>
  mgd (mOkA h0 h33 [.ref a0] [.ref a0]) <|
  mnm h33.length fun r35 =>
  mnm (h33 ++ [.inl (.int, ((65536 : Int32).toNatClampNeg, .inl (fun _ => 0)))]) fun h36 =>
  mpt h36 a0 10 14 (.ref r35) fun h37 =>
  mgd (mOkA h0 h37 [.ref a0] [.ref a0]) <|
  mnm h37.length fun r39 =>
  mnm (h37 ++ [.inl (.int, ((339 : Int32).toNatClampNeg, .inl (fun _ => 0)))]) fun h40 =>
  mpt h40 a0 10 20 (.ref r39) fun h41 =>
  mgd (mOkA h0 h41 [.ref a0] [.ref a0]) <|
  mnm h41.length fun r43 =>
  mnm (h41 ++ [.inl (.int, ((339 : Int32).toNatClampNeg, .inl (fun _ => 0)))]) fun h44 =>
  mpt h44 a0 10 21 (.ref r43) fun h45 =>
  mgd (mOkA h0 h45 [.ref a0] [.ref a0]) <|
  mnm h45.length fun r47 =>
  mnm (h45 ++ [.inl (.int, ((4096 : Int32).toNatClampNeg, .inl (fun _ => 0)))]) fun h48 =>
  mpt h48 a0 10 22 (.ref r47) fun h49 =>
  mgd (mOkA h0 h49 [.ref a0] [.ref a0]) <|
  mnm h49.length fun r51 =>
  mnm (h49 ++ [.inl (.int, ((4096 : Int32).toNatClampNeg, .inl (fun _ => 0)))]) fun h52 =>
  mpt h52 a0 10 23 (.ref r51) fun h53 =>
  mgd (mOkA h0 h53 [.ref a0] [.ref a0]) <|
  mnm h53.length fun r55 =>
  mnm (h53 ++ [.inl (.int, ((4096 : Int32).toNatClampNeg, .inl (fun _ => 0)))]) fun h56 =>
  mpt h56 a0 10 24 (.ref r55) fun h57 =>
  mgd (mOkA h0 h57 [.ref a0] [.ref a0]) <|
  mnm h57.length fun r59 =>
  mnm (h57 ++ [.inl (.int, ((65536 : Int32).toNatClampNeg, .inl (fun _ => 0)))]) fun h60 =>
  mpt h60 a0 10 27 (.ref r59) fun h61 =>
  mpt h61 a0 10 28 (.int (-1)) fun h62 =>
  mpt h62 a0 10 29 (.int (-1)) fun h63 =>
  mpt h63 a0 10 30 (.int (-1)) fun h64 =>
  mgd (mWf h64) <| some ((), h64)
set_option maxHeartbeats 4000000 in
set_option maxRecDepth 100000 in
theorem cb_Mo_init {X : mX} {ad : Nat → Nat} {ln : Launch} {ms : Nat} (O : mO X ad R_Mo b_Mo_init 1 (mRx 1 15 ms 20) ln) (r' : Unit) (h' h0 : mH) (hE : mEndx X ad h0.length h' 15 ms) (n0 : Nat) (a0 : Nat) (hf : f_Mo_init ms n0 h0 a0 = some (r', h')) : mAW X ad 0 0 0 [(0, .ref a0)] [] h0 := by
  have hag : mAg h0.length ad ad := mAg.rf
  unfold f_Mo_init at hf
  obtain ⟨gms, hf⟩ := mgd_some hf
  refine ax_aload_n O d_Mo_init_0 rfl 0 rfl ?_
  refine ax_oinit O wd_47 (Nat.le_of_ble_eq_true rfl) (Nat.le_of_ble_eq_true rfl) d_Mo_init_1 ?_
  refine ax_aload_n O d_Mo_init_4 rfl 0 rfl ?_
  refine ax_sipush (v := 16384) O d_Mo_init_5 (by decide) ?_
  obtain ⟨g1, hf⟩ := mgd_some hf
  obtain ⟨r2, er2, hf⟩ := mnm_some hf
  obtain ⟨h3, eh3, hf⟩ := mnm_some hf
  refine ax_newa (ty := .int) O rfl rfl (by decide) wd_42 (by decide) (by decide) g1 er2 eh3 ⟨Nat.le_of_ble_eq_true rfl, Nat.le_trans (by decide) gms⟩ d_Mo_init_8 (fun ad ag1 => ?_)
  replace O := mO_ag ag1 O
  replace hag := mAg.tr hag ag1 g1.2.1
  refine ax_widen (cs' := 1) (ss' := 16384) (by decide) (by decide) ?_
  obtain ⟨fh4, h4, ch4, kh4, eh4, hf⟩ := mpt_some hf
  refine ax_putF (v := .ref r2) O hE fq_Mo_7 ch4 kh4 eh4 rfl rfl d_Mo_init_10 ?_
  refine ax_aload_n O d_Mo_init_13 rfl 0 rfl ?_
  refine ax_bipush (v := 8) O d_Mo_init_14 (by decide) ?_
  obtain ⟨g5, hf⟩ := mgd_some hf
  obtain ⟨r6, er6, hf⟩ := mnm_some hf
  obtain ⟨h7, eh7, hf⟩ := mnm_some hf
  refine ax_newa (ty := .int) O rfl rfl (by decide) wd_42 (by decide) (by decide) g5 er6 eh7 ⟨Nat.le_of_ble_eq_true rfl, Nat.le_trans (by decide) gms⟩ d_Mo_init_16 (fun ad ag5 => ?_)
  replace O := mO_ag ag5 O
  replace hag := mAg.tr hag ag5 g5.2.1
  refine ax_widen (cs' := 2) (ss' := 16392) (by decide) (by decide) ?_
  obtain ⟨fh8, h8, ch8, kh8, eh8, hf⟩ := mpt_some hf
  refine ax_putF (v := .ref r6) O hE fq_Mo_13 ch8 kh8 eh8 rfl rfl d_Mo_init_18 ?_
  refine ax_aload_n O d_Mo_init_21 rfl 0 rfl ?_
  refine ax_bipush (v := 8) O d_Mo_init_22 (by decide) ?_
  obtain ⟨g9, hf⟩ := mgd_some hf
  obtain ⟨r10, er10, hf⟩ := mnm_some hf
  obtain ⟨h11, eh11, hf⟩ := mnm_some hf
  refine ax_newa (ty := .int) O rfl rfl (by decide) wd_42 (by decide) (by decide) g9 er10 eh11 ⟨Nat.le_of_ble_eq_true rfl, Nat.le_trans (by decide) gms⟩ d_Mo_init_24 (fun ad ag9 => ?_)
  replace O := mO_ag ag9 O
  replace hag := mAg.tr hag ag9 g9.2.1
  refine ax_widen (cs' := 3) (ss' := 16400) (by decide) (by decide) ?_
  obtain ⟨fh12, h12, ch12, kh12, eh12, hf⟩ := mpt_some hf
  refine ax_putF (v := .ref r10) O hE fq_Mo_16 ch12 kh12 eh12 rfl rfl d_Mo_init_26 ?_
  refine ax_aload_n O d_Mo_init_29 rfl 0 rfl ?_
  refine ax_bipush (v := 8) O d_Mo_init_30 (by decide) ?_
  obtain ⟨g13, hf⟩ := mgd_some hf
  obtain ⟨r14, er14, hf⟩ := mnm_some hf
  obtain ⟨h15, eh15, hf⟩ := mnm_some hf
  refine ax_newa (ty := .int) O rfl rfl (by decide) wd_42 (by decide) (by decide) g13 er14 eh15 ⟨Nat.le_of_ble_eq_true rfl, Nat.le_trans (by decide) gms⟩ d_Mo_init_32 (fun ad ag13 => ?_)
  replace O := mO_ag ag13 O
  replace hag := mAg.tr hag ag13 g13.2.1
  refine ax_widen (cs' := 4) (ss' := 16408) (by decide) (by decide) ?_
  obtain ⟨fh16, h16, ch16, kh16, eh16, hf⟩ := mpt_some hf
  refine ax_putF (v := .ref r14) O hE fq_Mo_19 ch16 kh16 eh16 rfl rfl d_Mo_init_34 ?_
  refine ax_aload_n O d_Mo_init_37 rfl 0 rfl ?_
  refine ax_bipush (v := 8) O d_Mo_init_38 (by decide) ?_
  obtain ⟨g17, hf⟩ := mgd_some hf
  obtain ⟨r18, er18, hf⟩ := mnm_some hf
  obtain ⟨h19, eh19, hf⟩ := mnm_some hf
  refine ax_newa (ty := .int) O rfl rfl (by decide) wd_42 (by decide) (by decide) g17 er18 eh19 ⟨Nat.le_of_ble_eq_true rfl, Nat.le_trans (by decide) gms⟩ d_Mo_init_40 (fun ad ag17 => ?_)
  replace O := mO_ag ag17 O
  replace hag := mAg.tr hag ag17 g17.2.1
  refine ax_widen (cs' := 5) (ss' := 16416) (by decide) (by decide) ?_
  obtain ⟨fh20, h20, ch20, kh20, eh20, hf⟩ := mpt_some hf
  refine ax_putF (v := .ref r18) O hE fq_Mo_22 ch20 kh20 eh20 rfl rfl d_Mo_init_42 ?_
  refine ax_aload_n O d_Mo_init_45 rfl 0 rfl ?_
  refine ax_bipush (v := 8) O d_Mo_init_46 (by decide) ?_
  obtain ⟨g21, hf⟩ := mgd_some hf
  obtain ⟨r22, er22, hf⟩ := mnm_some hf
  obtain ⟨h23, eh23, hf⟩ := mnm_some hf
  refine ax_newa (ty := .int) O rfl rfl (by decide) wd_42 (by decide) (by decide) g21 er22 eh23 ⟨Nat.le_of_ble_eq_true rfl, Nat.le_trans (by decide) gms⟩ d_Mo_init_48 (fun ad ag21 => ?_)
  replace O := mO_ag ag21 O
  replace hag := mAg.tr hag ag21 g21.2.1
  refine ax_widen (cs' := 6) (ss' := 16424) (by decide) (by decide) ?_
  obtain ⟨fh24, h24, ch24, kh24, eh24, hf⟩ := mpt_some hf
  refine ax_putF (v := .ref r22) O hE fq_Mo_25 ch24 kh24 eh24 rfl rfl d_Mo_init_50 ?_
  refine ax_aload_n O d_Mo_init_53 rfl 0 rfl ?_
  refine ax_bipush (v := 8) O d_Mo_init_54 (by decide) ?_
  obtain ⟨g25, hf⟩ := mgd_some hf
  obtain ⟨r26, er26, hf⟩ := mnm_some hf
  obtain ⟨h27, eh27, hf⟩ := mnm_some hf
  refine ax_newa (ty := .int) O rfl rfl (by decide) wd_42 (by decide) (by decide) g25 er26 eh27 ⟨Nat.le_of_ble_eq_true rfl, Nat.le_trans (by decide) gms⟩ d_Mo_init_56 (fun ad ag25 => ?_)
  replace O := mO_ag ag25 O
  replace hag := mAg.tr hag ag25 g25.2.1
  refine ax_widen (cs' := 7) (ss' := 16432) (by decide) (by decide) ?_
  obtain ⟨fh28, h28, ch28, kh28, eh28, hf⟩ := mpt_some hf
  refine ax_putF (v := .ref r26) O hE fq_Mo_28 ch28 kh28 eh28 rfl rfl d_Mo_init_58 ?_
  refine ax_aload_n O d_Mo_init_61 rfl 0 rfl ?_
  refine ax_ldc (v := 65536) O d_Mo_init_62 wd_7 ?_
  obtain ⟨fh29, h29, ch29, kh29, eh29, hf⟩ := mpt_some hf
  refine ax_put (v := .int 65536) O fp_Mo_32 ch29 kh29 eh29 rfl rfl d_Mo_init_64 ?_
  refine ax_aload_n O d_Mo_init_67 rfl 0 rfl ?_
  refine ax_ldc (v := 65536) O d_Mo_init_68 wd_7 ?_
  obtain ⟨g30, hf⟩ := mgd_some hf
  obtain ⟨r31, er31, hf⟩ := mnm_some hf
  obtain ⟨h32, eh32, hf⟩ := mnm_some hf
  refine ax_newa (ty := .int) O rfl rfl (by decide) wd_42 (by decide) (by decide) g30 er31 eh32 ⟨Nat.le_of_ble_eq_true rfl, Nat.le_trans (by decide) gms⟩ d_Mo_init_70 (fun ad ag30 => ?_)
  replace O := mO_ag ag30 O
  replace hag := mAg.tr hag ag30 g30.2.1
  refine ax_widen (cs' := 8) (ss' := 81968) (by decide) (by decide) ?_
  obtain ⟨fh33, h33, ch33, kh33, eh33, hf⟩ := mpt_some hf
  refine ax_putF (v := .ref r31) O hE fq_Mo_36 ch33 kh33 eh33 rfl rfl d_Mo_init_72 ?_
  refine ax_aload_n O d_Mo_init_75 rfl 0 rfl ?_
  refine ax_ldc (v := 65536) O d_Mo_init_76 wd_7 ?_
  obtain ⟨g34, hf⟩ := mgd_some hf
  obtain ⟨r35, er35, hf⟩ := mnm_some hf
  obtain ⟨h36, eh36, hf⟩ := mnm_some hf
  refine ax_newa (ty := .int) O rfl rfl (by decide) wd_42 (by decide) (by decide) g34 er35 eh36 ⟨Nat.le_of_ble_eq_true rfl, Nat.le_trans (by decide) gms⟩ d_Mo_init_78 (fun ad ag34 => ?_)
  replace O := mO_ag ag34 O
  replace hag := mAg.tr hag ag34 g34.2.1
  refine ax_widen (cs' := 9) (ss' := 147504) (by decide) (by decide) ?_
  obtain ⟨fh37, h37, ch37, kh37, eh37, hf⟩ := mpt_some hf
  refine ax_putF (v := .ref r35) O hE fq_Mo_39 ch37 kh37 eh37 rfl rfl d_Mo_init_80 ?_
  refine ax_aload_n O d_Mo_init_83 rfl 0 rfl ?_
  refine ax_sipush (v := 339) O d_Mo_init_84 (by decide) ?_
  obtain ⟨g38, hf⟩ := mgd_some hf
  obtain ⟨r39, er39, hf⟩ := mnm_some hf
  obtain ⟨h40, eh40, hf⟩ := mnm_some hf
  refine ax_newa (ty := .int) O rfl rfl (by decide) wd_42 (by decide) (by decide) g38 er39 eh40 ⟨Nat.le_of_ble_eq_true rfl, Nat.le_trans (by decide) gms⟩ d_Mo_init_87 (fun ad ag38 => ?_)
  replace O := mO_ag ag38 O
  replace hag := mAg.tr hag ag38 g38.2.1
  refine ax_widen (cs' := 10) (ss' := 147843) (by decide) (by decide) ?_
  obtain ⟨fh41, h41, ch41, kh41, eh41, hf⟩ := mpt_some hf
  refine ax_putF (v := .ref r39) O hE fq_Mo_42 ch41 kh41 eh41 rfl rfl d_Mo_init_89 ?_
  refine ax_aload_n O d_Mo_init_92 rfl 0 rfl ?_
  refine ax_sipush (v := 339) O d_Mo_init_93 (by decide) ?_
  obtain ⟨g42, hf⟩ := mgd_some hf
  obtain ⟨r43, er43, hf⟩ := mnm_some hf
  obtain ⟨h44, eh44, hf⟩ := mnm_some hf
  refine ax_newa (ty := .int) O rfl rfl (by decide) wd_42 (by decide) (by decide) g42 er43 eh44 ⟨Nat.le_of_ble_eq_true rfl, Nat.le_trans (by decide) gms⟩ d_Mo_init_96 (fun ad ag42 => ?_)
  replace O := mO_ag ag42 O
  replace hag := mAg.tr hag ag42 g42.2.1
  refine ax_widen (cs' := 11) (ss' := 148182) (by decide) (by decide) ?_
  obtain ⟨fh45, h45, ch45, kh45, eh45, hf⟩ := mpt_some hf
  refine ax_putF (v := .ref r43) O hE fq_Mo_45 ch45 kh45 eh45 rfl rfl d_Mo_init_98 ?_
  refine ax_aload_n O d_Mo_init_101 rfl 0 rfl ?_
  refine ax_sipush (v := 4096) O d_Mo_init_102 (by decide) ?_
  obtain ⟨g46, hf⟩ := mgd_some hf
  obtain ⟨r47, er47, hf⟩ := mnm_some hf
  obtain ⟨h48, eh48, hf⟩ := mnm_some hf
  refine ax_newa (ty := .int) O rfl rfl (by decide) wd_42 (by decide) (by decide) g46 er47 eh48 ⟨Nat.le_of_ble_eq_true rfl, Nat.le_trans (by decide) gms⟩ d_Mo_init_105 (fun ad ag46 => ?_)
  replace O := mO_ag ag46 O
  replace hag := mAg.tr hag ag46 g46.2.1
  refine ax_widen (cs' := 12) (ss' := 152278) (by decide) (by decide) ?_
  obtain ⟨fh49, h49, ch49, kh49, eh49, hf⟩ := mpt_some hf
  refine ax_putF (v := .ref r47) O hE fq_Mo_48 ch49 kh49 eh49 rfl rfl d_Mo_init_107 ?_
  refine ax_aload_n O d_Mo_init_110 rfl 0 rfl ?_
  refine ax_sipush (v := 4096) O d_Mo_init_111 (by decide) ?_
  obtain ⟨g50, hf⟩ := mgd_some hf
  obtain ⟨r51, er51, hf⟩ := mnm_some hf
  obtain ⟨h52, eh52, hf⟩ := mnm_some hf
  refine ax_newa (ty := .int) O rfl rfl (by decide) wd_42 (by decide) (by decide) g50 er51 eh52 ⟨Nat.le_of_ble_eq_true rfl, Nat.le_trans (by decide) gms⟩ d_Mo_init_114 (fun ad ag50 => ?_)
  replace O := mO_ag ag50 O
  replace hag := mAg.tr hag ag50 g50.2.1
  refine ax_widen (cs' := 13) (ss' := 156374) (by decide) (by decide) ?_
  obtain ⟨fh53, h53, ch53, kh53, eh53, hf⟩ := mpt_some hf
  refine ax_putF (v := .ref r51) O hE fq_Mo_51 ch53 kh53 eh53 rfl rfl d_Mo_init_116 ?_
  refine ax_aload_n O d_Mo_init_119 rfl 0 rfl ?_
  refine ax_sipush (v := 4096) O d_Mo_init_120 (by decide) ?_
  obtain ⟨g54, hf⟩ := mgd_some hf
  obtain ⟨r55, er55, hf⟩ := mnm_some hf
  obtain ⟨h56, eh56, hf⟩ := mnm_some hf
  refine ax_newa (ty := .int) O rfl rfl (by decide) wd_42 (by decide) (by decide) g54 er55 eh56 ⟨Nat.le_of_ble_eq_true rfl, Nat.le_trans (by decide) gms⟩ d_Mo_init_123 (fun ad ag54 => ?_)
  replace O := mO_ag ag54 O
  replace hag := mAg.tr hag ag54 g54.2.1
  refine ax_widen (cs' := 14) (ss' := 160470) (by decide) (by decide) ?_
  obtain ⟨fh57, h57, ch57, kh57, eh57, hf⟩ := mpt_some hf
  refine ax_putF (v := .ref r55) O hE fq_Mo_54 ch57 kh57 eh57 rfl rfl d_Mo_init_125 ?_
  refine ax_aload_n O d_Mo_init_128 rfl 0 rfl ?_
  refine ax_ldc (v := 65536) O d_Mo_init_129 wd_7 ?_
  obtain ⟨g58, hf⟩ := mgd_some hf
  obtain ⟨r59, er59, hf⟩ := mnm_some hf
  obtain ⟨h60, eh60, hf⟩ := mnm_some hf
  refine ax_newa (ty := .int) O rfl rfl (by decide) wd_42 (by decide) (by decide) g58 er59 eh60 ⟨Nat.le_of_ble_eq_true rfl, Nat.le_trans (by decide) gms⟩ d_Mo_init_131 (fun ad ag58 => ?_)
  replace O := mO_ag ag58 O
  replace hag := mAg.tr hag ag58 g58.2.1
  refine ax_widen (cs' := 15) (ss' := 226006) (by decide) (by decide) ?_
  obtain ⟨fh61, h61, ch61, kh61, eh61, hf⟩ := mpt_some hf
  refine ax_putF (v := .ref r59) O hE fq_Mo_57 ch61 kh61 eh61 rfl rfl d_Mo_init_133 ?_
  refine ax_aload_n O d_Mo_init_136 rfl 0 rfl ?_
  refine ax_iconst (v := (-1)) O d_Mo_init_137 (by decide) ?_
  obtain ⟨fh62, h62, ch62, kh62, eh62, hf⟩ := mpt_some hf
  refine ax_put (v := .int (-1)) O fp_Mo_60 ch62 kh62 eh62 rfl rfl d_Mo_init_138 ?_
  refine ax_aload_n O d_Mo_init_141 rfl 0 rfl ?_
  refine ax_iconst (v := (-1)) O d_Mo_init_142 (by decide) ?_
  obtain ⟨fh63, h63, ch63, kh63, eh63, hf⟩ := mpt_some hf
  refine ax_put (v := .int (-1)) O fp_Mo_63 ch63 kh63 eh63 rfl rfl d_Mo_init_143 ?_
  refine ax_aload_n O d_Mo_init_146 rfl 0 rfl ?_
  refine ax_iconst (v := (-1)) O d_Mo_init_147 (by decide) ?_
  obtain ⟨fh64, h64, ch64, kh64, eh64, hf⟩ := mpt_some hf
  refine ax_put (v := .int (-1)) O fp_Mo_66 ch64 kh64 eh64 rfl rfl d_Mo_init_148 ?_
  obtain ⟨g65, hf⟩ := mgd_some hf
  exact ax_vretx O hE hag g65 ⟨by decide, Nat.le_trans (by decide) gms⟩ hf d_Mo_init_151
theorem c_Mo_init {ln : Launch} {ms n0 : Nat} {h0 h' : mH} {a0 : Nat} {r' : Unit} (hf : f_Mo_init ms n0 h0 a0 = some (r', h')) : mMetx ln y_Mo_init b_Mo_init 1 (mRx 1 15 ms 20) [.ref a0] h0 h' 15 ms := mMetx_of (by decide +kernel) rfl (Nat.le_of_ble_eq_true rfl) (fun X ad O hE => cb_Mo_init O r' h' h0 hE n0 a0 hf)
