set_option maxHeartbeats 4000000 in
set_option maxRecDepth 100000 in
theorem law_walk {X : mX} {ad : Nat → Nat} {ln : Launch} {b L : Nat} {xs : Nat → Int32} (hln : ln.stackTraces = false) (O : mO X ad R_La b_La_law 7 room_1 ln) (hXs : mScr X ad L xs) (hTX : mTX X) (hE : mEndL X b) {n0 : Nat} {h1 h2 h' : mH} (hSF : f_SF_init 157224 400 [.inr (0, [.null, .null, .int 0, .int 0, .null, .null, .null, .null, .null, .null, .null, .null, .null, .int 0, .int 0, .int 0, .int 0])] 0 = some ((), h1)) (n1 : 50 = h1.length) (k1 : mOkA [] h1 [.ref 0, .ref 20000] []) (k2 : mOkA [] (h1 ++ [.inr (10, [.int 0, .int 0, .null, .int 0, .null, .null, .null, .null, .null, .null, .int 0, .int 0, .null, .int 0, .null, .int 0, .int 0, .int 0, .int 0, .int 0, .null, .null, .null, .null, .null, .int 0, .int 0, .null, .int 0, .int 0, .int 0])]) [.ref 0, .ref 20000] [.ref 50]) (hMo : f_Mo_init 226006 400 (h1 ++ [.inr (10, [.int 0, .int 0, .null, .int 0, .null, .null, .null, .null, .null, .null, .int 0, .int 0, .null, .int 0, .null, .int 0, .int 0, .int 0, .int 0, .int 0, .null, .null, .null, .null, .null, .int 0, .int 0, .null, .int 0, .int 0, .int 0])]) 50 = some ((), h2)) (n2 : 66 = h2.length) (k3 : mOkA [] h2 [.ref 50, .ref 0, .ref 20000] []) (hlp : f_La_loop n0 xs L 66 50 0 513 (h2 ++ [.inl (.long, ((1 : Int32).toNatClampNeg, .inr (.inl (fun _ => 0))))]) 0 = some ((), h')) : mAW X ad 0 0 0 [(0, .ref 20000)] [] [] := by
  refine ax_new (h0 := []) (r := 0) O nc_La_8 (mOk_of rfl rfl rfl rfl rfl) rfl rfl ⟨Nat.le_of_ble_eq_true rfl, Nat.le_of_ble_eq_true rfl⟩ d_La_law_0 (fun ad a1 => ?_)
  replace O := mO_ag a1 O
  replace hXs := mScr_ag a1 hXs
  refine ax_dup O d_La_law_3 rfl ?_
  refine ax_callI (h0 := []) (As := []) (rest := [.ref 0]) O cw_SF_init in_SF_init rfl lk_La_37 (c_SF_init hSF) rfl ⟨rfl, rfl⟩ ⟨Nat.le_of_ble_eq_true rfl, Nat.le_of_ble_eq_true rfl⟩ ⟨Nat.le_of_ble_eq_true rfl, Nat.le_of_ble_eq_true rfl⟩ (mOk_of rfl rfl rfl rfl rfl) (Nat.le_of_ble_eq_true rfl) d_La_law_4 (fun ad a2 => ?_)
  replace O := mO_ag a2 O
  replace hXs := mScr_ag a2 hXs
  refine ax_astore_n (lv' := [(1, .ref 0), (0, .ref 20000)]) O d_La_law_7 rfl (by decide) rfl ?_
  refine ax_new (h0 := []) (r := 50) O nc_La_38 k1 n1 rfl ⟨Nat.le_of_ble_eq_true rfl, Nat.le_of_ble_eq_true rfl⟩ d_La_law_8 (fun ad a3 => ?_)
  replace O := mO_ag a3 O
  replace hXs := mScr_ag a3 hXs
  refine ax_dup O d_La_law_11 rfl ?_
  refine ax_callI (h0 := []) (As := []) (rest := [.ref 50]) O cw_Mo_init in_Mo_init rfl lk_La_40 (c_Mo_init hMo) rfl ⟨rfl, rfl⟩ ⟨Nat.le_of_ble_eq_true rfl, Nat.le_of_ble_eq_true rfl⟩ ⟨Nat.le_of_ble_eq_true rfl, Nat.le_of_ble_eq_true rfl⟩ k2 (Nat.le_of_ble_eq_true rfl) d_La_law_12 (fun ad a4 => ?_)
  replace O := mO_ag a4 O
  replace hXs := mScr_ag a4 hXs
  refine ax_astore_n (lv' := [(2, .ref 50), (1, .ref 0), (0, .ref 20000)]) O d_La_law_15 rfl (by decide) rfl ?_
  refine ax_iconst (v := 1) O d_La_law_16 (by decide) ?_
  refine ax_newl (h0 := []) (r := 66) O wd_85 (by decide) (by decide) k3 n2 rfl ⟨Nat.le_of_ble_eq_true rfl, Nat.le_of_ble_eq_true rfl⟩ d_La_law_17 (fun ad a5 => ?_)
  replace O := mO_ag a5 O
  replace hXs := mScr_ag a5 hXs
  refine ax_astore_n (lv' := [(3, .ref 66), (2, .ref 50), (1, .ref 0), (0, .ref 20000)]) O d_La_law_19 rfl (by decide) rfl ?_
  refine ax_iconst (v := 0) O d_La_law_20 (by decide) ?_
  refine ax_istore (lv' := [(4, .int 0), (3, .ref 66), (2, .ref 50), (1, .ref 0), (0, .ref 20000)]) O d_La_law_21 (by decide) rfl ?_
  exact lb_loop hln O hXs hTX hE n0 66 50 0 () h' 513 _ 0 _ _ (Nat.le_of_ble_eq_true rfl) (Nat.le_of_ble_eq_true rfl) hlp
