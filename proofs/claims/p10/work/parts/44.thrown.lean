def mEx : Nat → String
  | 0 => "java/lang/IndexOutOfBoundsException"
  | 1 => "java/lang/IllegalArgumentException"
  | _ => "java/lang/IllegalStateException"
theorem pu_SF_isPredictor {n0 : Nat} {h h' : mH} {x v : Int32} (hf : f_SF_isPredictor n0 h x = some (v, h')) : h' = h ∧ f_SF_isPredictor n0 [] x = some (v, []) := by
  unfold f_SF_isPredictor at hf ⊢
  repeat' split at hf
  all_goals (cases hf; refine ⟨rfl, ?_⟩; first | (simp only [*, if_true, if_false, ↓reduceIte]; done) | (simp only [*, if_true, if_false, ↓reduceIte]; rfl) | (simp only [*, if_true, if_false, ↓reduceIte]; simp))
theorem pu_SF_isBits {n0 : Nat} {h h' : mH} {x v : Int32} (hf : f_SF_isBits n0 h x = some (v, h')) : h' = h ∧ f_SF_isBits n0 [] x = some (v, []) := by
  unfold f_SF_isBits at hf ⊢
  repeat' split at hf
  all_goals (cases hf; refine ⟨rfl, ?_⟩; first | (simp only [*, if_true, if_false, ↓reduceIte]; done) | (simp only [*, if_true, if_false, ↓reduceIte]; rfl) | (simp only [*, if_true, if_false, ↓reduceIte]; simp))
section mRetI
variable {X : mX} {ad : Nat → Nat} {own : String} {cc : ByteArray} {N pc : Nat} {lv : List (Nat × Value)} {h h' : mH} {Rm : Room} {ln : Launch}
theorem ax_retI (O : mO X ad own cc N Rm ln) {ty : FieldType} {v r : Int32} (hE : mEnd X ad (some ty) (some (.int r)) h') (hf : some ((Sum.inl v : Int32 ⊕ Nat), h) = some (Sum.inl r, h')) (hn : narrow ty (.int v) = .int v) (d : decode cc pc = .ok (.ireturn, 1)) : mAW X ad 0 0 pc lv [.int v] h := by
  cases hf
  exact ax_ret O hE hn d
theorem ax_vretI (O : mO X ad own cc N Rm ln) {r : Unit} (hE : mEnd X ad none none h') (hf : some ((Sum.inl () : Unit ⊕ Nat), h) = some (Sum.inl r, h')) (d : decode cc pc = .ok (.return_, 1)) : mAW X ad 0 0 pc lv [] h := by
  cases hf
  exact ax_vret O hE d
end mRetI
theorem wd_48 : Cond.classLink R_SF 103 "java/lang/IndexOutOfBoundsException" ∈ mGood := mg_of (i := 648) (by decide +kernel) rfl
theorem wd_49 : Cond.instantiable "java/lang/IndexOutOfBoundsException" 6 ∈ mGood := mg_of (i := 649) (by decide +kernel) rfl
theorem wd_50 : Cond.initialized "java/lang/IndexOutOfBoundsException" ∈ mGood := mg_of (i := 74) (by decide +kernel) rfl
theorem wd_51 : Cond.classLink R_SF 110 "java/lang/IllegalArgumentException" ∈ mGood := mg_of (i := 715) (by decide +kernel) rfl
theorem wd_52 : Cond.instantiable "java/lang/IllegalArgumentException" 6 ∈ mGood := mg_of (i := 716) (by decide +kernel) rfl
theorem wd_53 : Cond.initialized "java/lang/IllegalArgumentException" ∈ mGood := mg_of (i := 75) (by decide +kernel) rfl
theorem wd_54 : Cond.classLink R_SF 135 "java/lang/IllegalStateException" ∈ mGood := mg_of (i := 751) (by decide +kernel) rfl
theorem wd_55 : Cond.instantiable "java/lang/IllegalStateException" 6 ∈ mGood := mg_of (i := 752) (by decide +kernel) rfl
theorem wd_56 : Cond.initialized "java/lang/IllegalStateException" ∈ mGood := mg_of (i := 76) (by decide +kernel) rfl
theorem wd_57 : Cond.methodLink R_SF 143 y_SF_isPredictor ∈ mGood := mg_of (i := 778) (by decide +kernel) rfl
theorem wd_58 : Cond.methodLink R_SF 149 y_SF_isBits ∈ mGood := mg_of (i := 782) (by decide +kernel) rfl
theorem cw_SF_put : mCw y_SF_put b_SF_put 4 (some .int) 2 := ⟨mg_of (i := 647) (by decide +kernel) rfl, mg_of (i := 58) (by decide +kernel) rfl, ⟨by decide +kernel, by decide +kernel⟩, by decide +kernel⟩
theorem in_SF_put : Cond.instanceMethod y_SF_put ∈ mGood := mg_of (i := 645) (by decide +kernel) rfl
theorem se_SF_put : Cond.selects R_SF y_SF_put y_SF_put ∈ mGood := mg_of (i := 646) (by decide +kernel) rfl
theorem cw_SF_cut : mCw y_SF_cut b_SF_cut 3 (some .int) 1 := ⟨mg_of (i := 738) (by decide +kernel) rfl, mg_of (i := 58) (by decide +kernel) rfl, ⟨by decide +kernel, by decide +kernel⟩, by decide +kernel⟩
theorem in_SF_cut : Cond.instanceMethod y_SF_cut ∈ mGood := mg_of (i := 736) (by decide +kernel) rfl
theorem se_SF_cut : Cond.selects R_SF y_SF_cut y_SF_cut ∈ mGood := mg_of (i := 737) (by decide +kernel) rfl
theorem cw_SF_filter : mCw y_SF_filter b_SF_filter 3 (some .int) 2 := ⟨mg_of (i := 748) (by decide +kernel) rfl, mg_of (i := 58) (by decide +kernel) rfl, ⟨by decide +kernel, by decide +kernel⟩, by decide +kernel⟩
theorem in_SF_filter : Cond.instanceMethod y_SF_filter ∈ mGood := mg_of (i := 746) (by decide +kernel) rfl
theorem se_SF_filter : Cond.selects R_SF y_SF_filter y_SF_filter ∈ mGood := mg_of (i := 747) (by decide +kernel) rfl
theorem cw_SF_predict : mCw y_SF_predict b_SF_predict 5 none 4 := ⟨mg_of (i := 777) (by decide +kernel) rfl, mg_of (i := 58) (by decide +kernel) rfl, ⟨by decide +kernel, by decide +kernel⟩, by decide +kernel⟩
theorem in_SF_predict : Cond.instanceMethod y_SF_predict ∈ mGood := mg_of (i := 775) (by decide +kernel) rfl
theorem se_SF_predict : Cond.selects R_SF y_SF_predict y_SF_predict ∈ mGood := mg_of (i := 776) (by decide +kernel) rfl
theorem cw_SF_budget : mCw y_SF_budget b_SF_budget 3 (some .int) 1 := ⟨mg_of (i := 797) (by decide +kernel) rfl, mg_of (i := 58) (by decide +kernel) rfl, ⟨by decide +kernel, by decide +kernel⟩, by decide +kernel⟩
theorem in_SF_budget : Cond.instanceMethod y_SF_budget ∈ mGood := mg_of (i := 795) (by decide +kernel) rfl
theorem se_SF_budget : Cond.selects R_SF y_SF_budget y_SF_budget ∈ mGood := mg_of (i := 796) (by decide +kernel) rfl
theorem cw_SF_keep : mCw y_SF_keep b_SF_keep 1 (some .int) 0 := ⟨mg_of (i := 805) (by decide +kernel) rfl, mg_of (i := 58) (by decide +kernel) rfl, ⟨by decide +kernel, by decide +kernel⟩, by decide +kernel⟩
theorem in_SF_keep : Cond.instanceMethod y_SF_keep ∈ mGood := mg_of (i := 803) (by decide +kernel) rfl
theorem se_SF_keep : Cond.selects R_SF y_SF_keep y_SF_keep ∈ mGood := mg_of (i := 804) (by decide +kernel) rfl
theorem lk_SF_119 : mLk R_SF 119 y_By_change := Or.inl (mg_of (i := 731) (by decide +kernel) rfl)
theorem lk_SF_140 : mLk R_SF 140 y_Li_begin := Or.inl (mg_of (i := 767) (by decide +kernel) rfl)
theorem lk_SF_149 : mLk R_SF 149 y_SF_isBits := Or.inl (mg_of (i := 782) (by decide +kernel) rfl)
theorem lk_SF_156 : mLk R_SF 156 y_Li_shape := Or.inl (mg_of (i := 787) (by decide +kernel) rfl)
set_option maxRecDepth 100000 in
theorem at_SF_107 : ∀ w ∈ Bundle.ownAtoms R_SF 107 "java/lang/IndexOutOfBoundsException" ["java/lang/RuntimeException", "java/lang/Exception"], w ∈ mGood ∨ w ∈ mNest ∨ w ∈ mFour ∨ w = .castable "java/lang/IndexOutOfBoundsException" "java/lang/IndexOutOfBoundsException" := by decide +kernel
set_option maxRecDepth 100000 in
theorem at_SF_114 : ∀ w ∈ Bundle.ownAtoms R_SF 114 "java/lang/IllegalArgumentException" ["java/lang/RuntimeException", "java/lang/Exception"], w ∈ mGood ∨ w ∈ mNest ∨ w ∈ mFour ∨ w = .castable "java/lang/IllegalArgumentException" "java/lang/IllegalArgumentException" := by decide +kernel
set_option maxRecDepth 100000 in
theorem at_SF_139 : ∀ w ∈ Bundle.ownAtoms R_SF 139 "java/lang/IllegalStateException" ["java/lang/RuntimeException", "java/lang/Exception"], w ∈ mGood ∨ w ∈ mNest ∨ w ∈ mFour ∨ w = .castable "java/lang/IllegalStateException" "java/lang/IllegalStateException" := by decide +kernel
/-! ===== StreamFilters.put(II)I ===== -/
theorem d_SF_put_0 : decode b_SF_put 0 = .ok (.iload_n 1, 1) := by decide +kernel
theorem d_SF_put_1 : decode b_SF_put 1 = .ok (.ifCond .lt 14, 3) := by decide +kernel
theorem d_SF_put_4 : decode b_SF_put 4 = .ok (.iload_n 1, 1) := by decide +kernel
theorem d_SF_put_5 : decode b_SF_put 5 = .ok (.aload_n 0, 1) := by decide +kernel
theorem d_SF_put_6 : decode b_SF_put 6 = .ok (.getfield 14, 3) := by decide +kernel
theorem d_SF_put_9 : decode b_SF_put 9 = .ok (.getfield 97, 3) := by decide +kernel
theorem d_SF_put_12 : decode b_SF_put 12 = .ok (.if_icmp .lt 13, 3) := by decide +kernel
theorem d_SF_put_15 : decode b_SF_put 15 = .ok (.new 103, 3) := by decide +kernel
theorem d_SF_put_18 : decode b_SF_put 18 = .ok (.dup, 1) := by decide +kernel
theorem d_SF_put_19 : decode b_SF_put 19 = .ok (.ldc 105, 2) := by decide +kernel
theorem d_SF_put_21 : decode b_SF_put 21 = .ok (.invokespecial 107, 3) := by decide +kernel
theorem d_SF_put_24 : decode b_SF_put 24 = .ok (.athrow, 1) := by decide +kernel
theorem d_SF_put_25 : decode b_SF_put 25 = .ok (.iload_n 2, 1) := by decide +kernel
theorem d_SF_put_26 : decode b_SF_put 26 = .ok (.ifCond .lt 10, 3) := by decide +kernel
theorem d_SF_put_29 : decode b_SF_put 29 = .ok (.iload_n 2, 1) := by decide +kernel
theorem d_SF_put_30 : decode b_SF_put 30 = .ok (.sipush 255, 3) := by decide +kernel
theorem d_SF_put_33 : decode b_SF_put 33 = .ok (.if_icmp .le 13, 3) := by decide +kernel
theorem d_SF_put_36 : decode b_SF_put 36 = .ok (.new 110, 3) := by decide +kernel
theorem d_SF_put_39 : decode b_SF_put 39 = .ok (.dup, 1) := by decide +kernel
theorem d_SF_put_40 : decode b_SF_put 40 = .ok (.ldc 112, 2) := by decide +kernel
theorem d_SF_put_42 : decode b_SF_put 42 = .ok (.invokespecial 114, 3) := by decide +kernel
theorem d_SF_put_45 : decode b_SF_put 45 = .ok (.athrow, 1) := by decide +kernel
theorem d_SF_put_46 : decode b_SF_put 46 = .ok (.aload_n 0, 1) := by decide +kernel
theorem d_SF_put_47 : decode b_SF_put 47 = .ok (.getfield 14, 3) := by decide +kernel
theorem d_SF_put_50 : decode b_SF_put 50 = .ok (.iload_n 1, 1) := by decide +kernel
theorem d_SF_put_51 : decode b_SF_put 51 = .ok (.invokevirtual 115, 3) := by decide +kernel
theorem d_SF_put_54 : decode b_SF_put 54 = .ok (.istore_n 3, 1) := by decide +kernel
theorem d_SF_put_55 : decode b_SF_put 55 = .ok (.aload_n 0, 1) := by decide +kernel
theorem d_SF_put_56 : decode b_SF_put 56 = .ok (.getfield 14, 3) := by decide +kernel
theorem d_SF_put_59 : decode b_SF_put 59 = .ok (.iload_n 1, 1) := by decide +kernel
theorem d_SF_put_60 : decode b_SF_put 60 = .ok (.iload_n 2, 1) := by decide +kernel
theorem d_SF_put_61 : decode b_SF_put 61 = .ok (.invokevirtual 119, 3) := by decide +kernel
theorem d_SF_put_64 : decode b_SF_put 64 = .ok (.iload_n 3, 1) := by decide +kernel
theorem d_SF_put_65 : decode b_SF_put 65 = .ok (.ireturn, 1) := by decide +kernel
noncomputable def f_SF_put  (n0 : Nat) (h0 : mH) (a0 : Nat) (x1 : Int32) (x2 : Int32) : Option ((Int32 ⊕ Nat) × mH) :=
  if x1 < 0 then
    some (.inr 0, h0)
  else
    mgr h0 a0 0 0 fun r2 =>
    mgi h0 r2 1 1 fun v3 =>
    if x1 < v3 then
      if x2 < 0 then
        some (.inr 1, h0)
      else
        if x2 ≤ 255 then
          mgr h0 a0 0 0 fun r7 =>
          mis h0 r7 1 <|
          mcl (f_By_byteAt n0 h0 r7 x1) fun v9 h10 =>
          mgr h10 a0 0 0 fun r11 =>
          mis h10 r11 1 <|
          mcl (f_By_change n0 h10 r11 x1 x2) fun _ h14 =>
          some (.inl v9, h14)
        else
          some (.inr 1, h0)
    else
      some (.inr 0, h0)
set_option maxHeartbeats 4000000 in
set_option maxRecDepth 100000 in
theorem cb_SF_put {X : mX} {ad : Nat → Nat} {ln : Launch} (O : mO X ad R_SF b_SF_put 4 (mR 6 90) ln) (r' : Int32) (h' : mH) (hE : mEnd X ad (some .int) (some (.int r')) h') (n0 : Nat) (h0 : mH) (a0 : Nat) (x1 : Int32) (x2 : Int32) (hf : f_SF_put n0 h0 a0 x1 x2 = some (.inl r', h')) : mAW X ad 0 0 0 [(0, .ref a0), (1, .int x1), (2, .int x2)] [] h0 := by
  unfold f_SF_put at hf
  refine ax_iload_n O d_SF_put_0 rfl 1 rfl ?_
  refine ax_if_lt (tgt := 15) O d_SF_put_1 (by decide) (fun q1 => ?_) (fun q1 => ?_)
  · rw [if_pos q1] at hf
    cases hf
  · rw [if_neg q1] at hf
    refine ax_iload_n O d_SF_put_4 rfl 1 rfl ?_
    refine ax_aload_n O d_SF_put_5 rfl 0 rfl ?_
    obtain ⟨fr2, r2, cr2, kr2, hf⟩ := mgr_some hf
    refine ax_get O fg_SF_14 cr2 kr2 d_SF_put_6 ?_
    obtain ⟨fv3, v3, cv3, kv3, hf⟩ := mgi_some hf
    refine ax_get O fg_SF_97 cv3 kv3 d_SF_put_9 ?_
    refine ax_icmp_lt (tgt := 25) O d_SF_put_12 (by decide) (fun q4 => ?_) (fun q4 => ?_)
    · rw [if_pos q4] at hf
      refine ax_iload_n O d_SF_put_25 rfl 2 rfl ?_
      refine ax_if_lt (tgt := 36) O d_SF_put_26 (by decide) (fun q5 => ?_) (fun q5 => ?_)
      · rw [if_pos q5] at hf
        cases hf
      · rw [if_neg q5] at hf
        refine ax_iload_n O d_SF_put_29 rfl 2 rfl ?_
        refine ax_sipush (v := 255) O d_SF_put_30 (by decide) ?_
        refine ax_icmp_le (tgt := 46) O d_SF_put_33 (by decide) (fun q6 => ?_) (fun q6 => ?_)
        · rw [if_pos q6] at hf
          refine ax_aload_n O d_SF_put_46 rfl 0 rfl ?_
          obtain ⟨fr7, r7, cr7, kr7, hf⟩ := mgr_some hf
          refine ax_get O fg_SF_14 cr7 kr7 d_SF_put_47 ?_
          refine ax_iload_n O d_SF_put_50 rfl 1 rfl ?_
          obtain ⟨fh10, ch10, hf⟩ := mis_some hf
          obtain ⟨v9, h10, mh10, hf⟩ := mcl_some hf
          refine ax_callV (As := [.int x1]) (rest := []) O cw_By_byteAt (q := (R_By, T_By, 2)) rfl rfl in_By_byteAt se_By_byteAt lk_SF_115 ch10 (c_By_byteAt mh10) rfl ⟨rfl, rfl⟩ (by decide) (by decide) (Nat.le_of_ble_eq_true rfl) d_SF_put_51 ?_
          refine ax_istore_n (lv' := [(3, .int v9), (0, .ref a0), (1, .int x1), (2, .int x2)]) O d_SF_put_54 rfl (by decide) rfl ?_
          refine ax_aload_n O d_SF_put_55 rfl 1 rfl ?_
          obtain ⟨fr11, r11, cr11, kr11, hf⟩ := mgr_some hf
          refine ax_get O fg_SF_14 cr11 kr11 d_SF_put_56 ?_
          refine ax_iload_n O d_SF_put_59 rfl 2 rfl ?_
          refine ax_iload_n O d_SF_put_60 rfl 3 rfl ?_
          obtain ⟨fh14, ch14, hf⟩ := mis_some hf
          obtain ⟨u15, h14, mh14, hf⟩ := mcl_some hf
          refine ax_callV (As := [.int x1, .int x2]) (rest := []) O cw_By_change (q := (R_By, T_By, 2)) rfl rfl in_By_change se_By_change lk_SF_119 ch14 (c_By_change mh14) rfl ⟨rfl, rfl⟩ (by decide) (by decide) (Nat.le_of_ble_eq_true rfl) d_SF_put_61 ?_
          refine ax_iload_n O d_SF_put_64 rfl 0 rfl ?_
          exact ax_retI O hE hf rfl d_SF_put_65
        · rw [if_neg q6] at hf
          cases hf
    · rw [if_neg q4] at hf
      cases hf
theorem c_SF_put {ln : Launch} {n0 : Nat} {h0 h' : mH} {a0 : Nat} {x1 : Int32} {x2 : Int32} {r' : Int32} (hf : f_SF_put n0 h0 a0 x1 x2 = some (.inl r', h')) : mMet ln y_SF_put b_SF_put 4 (some .int) (mR 6 90) [.ref a0, .int x1, .int x2] h0 (some (.int r')) h' := mMet_of (by decide +kernel) (Nat.le_of_ble_eq_true rfl) (fun X ad O hE => cb_SF_put O r' h' hE n0 h0 a0 x1 x2 hf)
set_option maxHeartbeats 4000000 in
set_option maxRecDepth 100000 in
theorem cbt_SF_put {X : mX} {ad : Nat → Nat} {ln : Launch} (hln : ln.stackTraces = false) (O : mO X ad R_SF b_SF_put 4 (mRx 6 1 6 90) ln) (k : Nat) (h' : mH) (hE : mEndT X (mEx k)) (n0 : Nat) (h0 : mH) (a0 : Nat) (x1 : Int32) (x2 : Int32) (hf : f_SF_put n0 h0 a0 x1 x2 = some (.inr k, h')) : mAR X ad 0 0 0 [(0, .ref a0), (1, .int x1), (2, .int x2)] [] h0 := by
  unfold f_SF_put at hf
  refine ar_iload_n O d_SF_put_0 rfl 1 rfl ?_
  refine ar_if_lt (tgt := 15) O d_SF_put_1 (by decide) (fun q1 => ?_) (fun q1 => ?_)
  · rw [if_pos q1] at hf
    cases hf
    exact ar_throw (E := "java/lang/IndexOutOfBoundsException") (tx := "the row has no such byte") (names := ["java/lang/RuntimeException", "java/lang/Exception"]) O hE hln wd_48 wd_49 wd_50 (by decide +kernel) (by decide) at_SF_107 ⟨by decide +kernel, by decide +kernel⟩ ⟨by decide, Nat.le_of_ble_eq_true rfl, by decide, by decide⟩ d_SF_put_15 d_SF_put_18 d_SF_put_19 d_SF_put_21 d_SF_put_24
  · rw [if_neg q1] at hf
    refine ar_iload_n O d_SF_put_4 rfl 1 rfl ?_
    refine ar_aload_n O d_SF_put_5 rfl 0 rfl ?_
    obtain ⟨fr2, r2, cr2, kr2, hf⟩ := mgr_some hf
    refine ar_get O fg_SF_14 cr2 kr2 d_SF_put_6 ?_
    obtain ⟨fv3, v3, cv3, kv3, hf⟩ := mgi_some hf
    refine ar_get O fg_SF_97 cv3 kv3 d_SF_put_9 ?_
    refine ar_icmp_lt (tgt := 25) O d_SF_put_12 (by decide) (fun q4 => ?_) (fun q4 => ?_)
    · rw [if_pos q4] at hf
      refine ar_iload_n O d_SF_put_25 rfl 2 rfl ?_
      refine ar_if_lt (tgt := 36) O d_SF_put_26 (by decide) (fun q5 => ?_) (fun q5 => ?_)
      · rw [if_pos q5] at hf
        cases hf
        exact ar_throw (E := "java/lang/IllegalArgumentException") (tx := "not a byte") (names := ["java/lang/RuntimeException", "java/lang/Exception"]) O hE hln wd_51 wd_52 wd_53 (by decide +kernel) (by decide) at_SF_114 ⟨by decide +kernel, by decide +kernel⟩ ⟨by decide, Nat.le_of_ble_eq_true rfl, by decide, by decide⟩ d_SF_put_36 d_SF_put_39 d_SF_put_40 d_SF_put_42 d_SF_put_45
      · rw [if_neg q5] at hf
        refine ar_iload_n O d_SF_put_29 rfl 2 rfl ?_
        refine ar_sipush (v := 255) O d_SF_put_30 (by decide) ?_
        refine ar_icmp_le (tgt := 46) O d_SF_put_33 (by decide) (fun q6 => ?_) (fun q6 => ?_)
        · rw [if_pos q6] at hf
          skip
          obtain ⟨fr7, r7, cr7, kr7, hf⟩ := mgr_some hf
          obtain ⟨fh10, ch10, hf⟩ := mis_some hf
          obtain ⟨v9, h10, mh10, hf⟩ := mcl_some hf
          obtain ⟨fr11, r11, cr11, kr11, hf⟩ := mgr_some hf
          obtain ⟨fh14, ch14, hf⟩ := mis_some hf
          obtain ⟨u15, h14, mh14, hf⟩ := mcl_some hf
          cases hf
        · rw [if_neg q6] at hf
          cases hf
          exact ar_throw (E := "java/lang/IllegalArgumentException") (tx := "not a byte") (names := ["java/lang/RuntimeException", "java/lang/Exception"]) O hE hln wd_51 wd_52 wd_53 (by decide +kernel) (by decide) at_SF_114 ⟨by decide +kernel, by decide +kernel⟩ ⟨by decide, Nat.le_of_ble_eq_true rfl, by decide, by decide⟩ d_SF_put_36 d_SF_put_39 d_SF_put_40 d_SF_put_42 d_SF_put_45
    · rw [if_neg q4] at hf
      cases hf
      exact ar_throw (E := "java/lang/IndexOutOfBoundsException") (tx := "the row has no such byte") (names := ["java/lang/RuntimeException", "java/lang/Exception"]) O hE hln wd_48 wd_49 wd_50 (by decide +kernel) (by decide) at_SF_107 ⟨by decide +kernel, by decide +kernel⟩ ⟨by decide, Nat.le_of_ble_eq_true rfl, by decide, by decide⟩ d_SF_put_15 d_SF_put_18 d_SF_put_19 d_SF_put_21 d_SF_put_24
theorem ct_SF_put {ln : Launch} (hln : ln.stackTraces = false) {n0 : Nat} {h0 h' : mH} {a0 : Nat} {x1 : Int32} {x2 : Int32} {k : Nat} (hf : f_SF_put n0 h0 a0 x1 x2 = some (.inr k, h')) : mMetT ln y_SF_put b_SF_put 4 (some .int) (mRx 6 1 6 90) [.ref a0, .int x1, .int x2] h0 (mEx k) := mMetT_of (by decide +kernel) (Nat.le_of_ble_eq_true rfl) (fun X ad O hE => cbt_SF_put hln O k h' hE n0 h0 a0 x1 x2 hf)
/-! ===== StreamFilters.cut(I)I ===== -/
theorem d_SF_cut_0 : decode b_SF_cut 0 = .ok (.iload_n 1, 1) := by decide +kernel
theorem d_SF_cut_1 : decode b_SF_cut 1 = .ok (.ifCond .ge 13, 3) := by decide +kernel
theorem d_SF_cut_4 : decode b_SF_cut 4 = .ok (.new 110, 3) := by decide +kernel
theorem d_SF_cut_7 : decode b_SF_cut 7 = .ok (.dup, 1) := by decide +kernel
theorem d_SF_cut_8 : decode b_SF_cut 8 = .ok (.ldc 123, 2) := by decide +kernel
theorem d_SF_cut_10 : decode b_SF_cut 10 = .ok (.invokespecial 114, 3) := by decide +kernel
theorem d_SF_cut_13 : decode b_SF_cut 13 = .ok (.athrow, 1) := by decide +kernel
theorem d_SF_cut_14 : decode b_SF_cut 14 = .ok (.iconst 0, 1) := by decide +kernel
theorem d_SF_cut_15 : decode b_SF_cut 15 = .ok (.aload_n 0, 1) := by decide +kernel
theorem d_SF_cut_16 : decode b_SF_cut 16 = .ok (.getfield 14, 3) := by decide +kernel
theorem d_SF_cut_19 : decode b_SF_cut 19 = .ok (.getfield 97, 3) := by decide +kernel
theorem d_SF_cut_22 : decode b_SF_cut 22 = .ok (.iload_n 1, 1) := by decide +kernel
theorem d_SF_cut_23 : decode b_SF_cut 23 = .ok (.isub, 1) := by decide +kernel
theorem d_SF_cut_24 : decode b_SF_cut 24 = .ok (.invokestatic 125, 3) := by decide +kernel
theorem d_SF_cut_27 : decode b_SF_cut 27 = .ok (.istore_n 2, 1) := by decide +kernel
theorem d_SF_cut_28 : decode b_SF_cut 28 = .ok (.aload_n 0, 1) := by decide +kernel
theorem d_SF_cut_29 : decode b_SF_cut 29 = .ok (.getfield 14, 3) := by decide +kernel
theorem d_SF_cut_32 : decode b_SF_cut 32 = .ok (.dup, 1) := by decide +kernel
theorem d_SF_cut_33 : decode b_SF_cut 33 = .ok (.getfield 97, 3) := by decide +kernel
theorem d_SF_cut_36 : decode b_SF_cut 36 = .ok (.iload_n 2, 1) := by decide +kernel
theorem d_SF_cut_37 : decode b_SF_cut 37 = .ok (.isub, 1) := by decide +kernel
theorem d_SF_cut_38 : decode b_SF_cut 38 = .ok (.putfield 97, 3) := by decide +kernel
theorem d_SF_cut_41 : decode b_SF_cut 41 = .ok (.iload_n 2, 1) := by decide +kernel
theorem d_SF_cut_42 : decode b_SF_cut 42 = .ok (.ireturn, 1) := by decide +kernel
noncomputable def f_SF_cut  (n0 : Nat) (h0 : mH) (a0 : Nat) (x1 : Int32) : Option ((Int32 ⊕ Nat) × mH) :=
  if 0 ≤ x1 then
    mgr h0 a0 0 0 fun r2 =>
    mgi h0 r2 1 1 fun v3 =>
    mnm (if 0 < (v3 - x1) then (v3 - x1) else 0) fun v4 =>
    mgr h0 a0 0 0 fun r5 =>
    mgi h0 r5 1 1 fun v6 =>
    mpt h0 r5 1 1 (.int (v6 - v4)) fun h7 =>
    some (.inl v4, h7)
  else
    some (.inr 1, h0)
set_option maxHeartbeats 4000000 in
set_option maxRecDepth 100000 in
theorem cb_SF_cut {X : mX} {ad : Nat → Nat} {ln : Launch} (O : mO X ad R_SF b_SF_cut 3 (mR 6 90) ln) (r' : Int32) (h' : mH) (hE : mEnd X ad (some .int) (some (.int r')) h') (n0 : Nat) (h0 : mH) (a0 : Nat) (x1 : Int32) (hf : f_SF_cut n0 h0 a0 x1 = some (.inl r', h')) : mAW X ad 0 0 0 [(0, .ref a0), (1, .int x1)] [] h0 := by
  unfold f_SF_cut at hf
  refine ax_iload_n O d_SF_cut_0 rfl 1 rfl ?_
  refine ax_if_ge (tgt := 14) O d_SF_cut_1 (by decide) (fun q1 => ?_) (fun q1 => ?_)
  · rw [if_pos q1] at hf
    refine ax_iconst (v := 0) O d_SF_cut_14 (by decide) ?_
    refine ax_aload_n O d_SF_cut_15 rfl 0 rfl ?_
    obtain ⟨fr2, r2, cr2, kr2, hf⟩ := mgr_some hf
    refine ax_get O fg_SF_14 cr2 kr2 d_SF_cut_16 ?_
    obtain ⟨fv3, v3, cv3, kv3, hf⟩ := mgi_some hf
    refine ax_get O fg_SF_97 cv3 kv3 d_SF_cut_19 ?_
    refine ax_iload_n O d_SF_cut_22 rfl 1 rfl ?_
    refine ax_isub O d_SF_cut_23 ?_
    obtain ⟨v4, ev4, hf⟩ := mnm_some hf
    refine ax_mmax O wd_1 (by decide) (Nat.le_of_ble_eq_true rfl) d_SF_cut_24 ?_
    refine ax_nmi ev4 ?_
    refine ax_istore_n (lv' := [(2, .int v4), (0, .ref a0), (1, .int x1)]) O d_SF_cut_27 rfl (by decide) rfl ?_
    refine ax_aload_n O d_SF_cut_28 rfl 1 rfl ?_
    obtain ⟨fr5, r5, cr5, kr5, hf⟩ := mgr_some hf
    refine ax_get O fg_SF_14 cr5 kr5 d_SF_cut_29 ?_
    refine ax_dup O d_SF_cut_32 rfl ?_
    obtain ⟨fv6, v6, cv6, kv6, hf⟩ := mgi_some hf
    refine ax_get O fg_SF_97 cv6 kv6 d_SF_cut_33 ?_
    refine ax_iload_n O d_SF_cut_36 rfl 0 rfl ?_
    refine ax_isub O d_SF_cut_37 ?_
    obtain ⟨fh7, h7, ch7, kh7, eh7, hf⟩ := mpt_some hf
    refine ax_put (v := .int (v6 - v4)) O fp_SF_97 ch7 kh7 eh7 rfl rfl d_SF_cut_38 ?_
    refine ax_iload_n O d_SF_cut_41 rfl 0 rfl ?_
    exact ax_retI O hE hf rfl d_SF_cut_42
  · rw [if_neg q1] at hf
    cases hf
theorem c_SF_cut {ln : Launch} {n0 : Nat} {h0 h' : mH} {a0 : Nat} {x1 : Int32} {r' : Int32} (hf : f_SF_cut n0 h0 a0 x1 = some (.inl r', h')) : mMet ln y_SF_cut b_SF_cut 3 (some .int) (mR 6 90) [.ref a0, .int x1] h0 (some (.int r')) h' := mMet_of (by decide +kernel) (Nat.le_of_ble_eq_true rfl) (fun X ad O hE => cb_SF_cut O r' h' hE n0 h0 a0 x1 hf)
set_option maxHeartbeats 4000000 in
set_option maxRecDepth 100000 in
theorem cbt_SF_cut {X : mX} {ad : Nat → Nat} {ln : Launch} (hln : ln.stackTraces = false) (O : mO X ad R_SF b_SF_cut 3 (mRx 6 1 6 90) ln) (k : Nat) (h' : mH) (hE : mEndT X (mEx k)) (n0 : Nat) (h0 : mH) (a0 : Nat) (x1 : Int32) (hf : f_SF_cut n0 h0 a0 x1 = some (.inr k, h')) : mAR X ad 0 0 0 [(0, .ref a0), (1, .int x1)] [] h0 := by
  unfold f_SF_cut at hf
  refine ar_iload_n O d_SF_cut_0 rfl 1 rfl ?_
  refine ar_if_ge (tgt := 14) O d_SF_cut_1 (by decide) (fun q1 => ?_) (fun q1 => ?_)
  · rw [if_pos q1] at hf
    skip
    obtain ⟨fr2, r2, cr2, kr2, hf⟩ := mgr_some hf
    obtain ⟨fv3, v3, cv3, kv3, hf⟩ := mgi_some hf
    obtain ⟨v4, ev4, hf⟩ := mnm_some hf
    obtain ⟨fr5, r5, cr5, kr5, hf⟩ := mgr_some hf
    obtain ⟨fv6, v6, cv6, kv6, hf⟩ := mgi_some hf
    obtain ⟨fh7, h7, ch7, kh7, eh7, hf⟩ := mpt_some hf
    cases hf
  · rw [if_neg q1] at hf
    cases hf
    exact ar_throw (E := "java/lang/IllegalArgumentException") (tx := "fewer than no bytes") (names := ["java/lang/RuntimeException", "java/lang/Exception"]) O hE hln wd_51 wd_52 wd_53 (by decide +kernel) (by decide) at_SF_114 ⟨by decide +kernel, by decide +kernel⟩ ⟨by decide, Nat.le_of_ble_eq_true rfl, by decide, by decide⟩ d_SF_cut_4 d_SF_cut_7 d_SF_cut_8 d_SF_cut_10 d_SF_cut_13
theorem ct_SF_cut {ln : Launch} (hln : ln.stackTraces = false) {n0 : Nat} {h0 h' : mH} {a0 : Nat} {x1 : Int32} {k : Nat} (hf : f_SF_cut n0 h0 a0 x1 = some (.inr k, h')) : mMetT ln y_SF_cut b_SF_cut 3 (some .int) (mRx 6 1 6 90) [.ref a0, .int x1] h0 (mEx k) := mMetT_of (by decide +kernel) (Nat.le_of_ble_eq_true rfl) (fun X ad O hE => cbt_SF_cut hln O k h' hE n0 h0 a0 x1 hf)
/-! ===== StreamFilters.filter(II)I ===== -/
theorem d_SF_filter_0 : decode b_SF_filter 0 = .ok (.iload_n 1, 1) := by decide +kernel
theorem d_SF_filter_1 : decode b_SF_filter 1 = .ok (.ifCond .lt 8, 3) := by decide +kernel
theorem d_SF_filter_4 : decode b_SF_filter 4 = .ok (.iload_n 1, 1) := by decide +kernel
theorem d_SF_filter_5 : decode b_SF_filter 5 = .ok (.iconst 4, 1) := by decide +kernel
theorem d_SF_filter_6 : decode b_SF_filter 6 = .ok (.if_icmp .le 13, 3) := by decide +kernel
theorem d_SF_filter_9 : decode b_SF_filter 9 = .ok (.new 110, 3) := by decide +kernel
theorem d_SF_filter_12 : decode b_SF_filter 12 = .ok (.dup, 1) := by decide +kernel
theorem d_SF_filter_13 : decode b_SF_filter 13 = .ok (.ldc 131, 2) := by decide +kernel
theorem d_SF_filter_15 : decode b_SF_filter 15 = .ok (.invokespecial 114, 3) := by decide +kernel
theorem d_SF_filter_18 : decode b_SF_filter 18 = .ok (.athrow, 1) := by decide +kernel
theorem d_SF_filter_19 : decode b_SF_filter 19 = .ok (.iload_n 2, 1) := by decide +kernel
theorem d_SF_filter_20 : decode b_SF_filter 20 = .ok (.ifCond .lt 8, 3) := by decide +kernel
theorem d_SF_filter_23 : decode b_SF_filter 23 = .ok (.iload_n 2, 1) := by decide +kernel
theorem d_SF_filter_24 : decode b_SF_filter 24 = .ok (.iconst 1, 1) := by decide +kernel
theorem d_SF_filter_25 : decode b_SF_filter 25 = .ok (.if_icmp .le 13, 3) := by decide +kernel
theorem d_SF_filter_28 : decode b_SF_filter 28 = .ok (.new 110, 3) := by decide +kernel
theorem d_SF_filter_31 : decode b_SF_filter 31 = .ok (.dup, 1) := by decide +kernel
theorem d_SF_filter_32 : decode b_SF_filter 32 = .ok (.ldc 133, 2) := by decide +kernel
theorem d_SF_filter_34 : decode b_SF_filter 34 = .ok (.invokespecial 114, 3) := by decide +kernel
theorem d_SF_filter_37 : decode b_SF_filter 37 = .ok (.athrow, 1) := by decide +kernel
theorem d_SF_filter_38 : decode b_SF_filter 38 = .ok (.aload_n 0, 1) := by decide +kernel
theorem d_SF_filter_39 : decode b_SF_filter 39 = .ok (.getfield 24, 3) := by decide +kernel
theorem d_SF_filter_42 : decode b_SF_filter 42 = .ok (.aload_n 0, 1) := by decide +kernel
theorem d_SF_filter_43 : decode b_SF_filter 43 = .ok (.getfield 20, 3) := by decide +kernel
theorem d_SF_filter_46 : decode b_SF_filter 46 = .ok (.arraylength, 1) := by decide +kernel
theorem d_SF_filter_47 : decode b_SF_filter 47 = .ok (.if_icmp .lt 13, 3) := by decide +kernel
theorem d_SF_filter_50 : decode b_SF_filter 50 = .ok (.new 135, 3) := by decide +kernel
theorem d_SF_filter_53 : decode b_SF_filter 53 = .ok (.dup, 1) := by decide +kernel
theorem d_SF_filter_54 : decode b_SF_filter 54 = .ok (.ldc 137, 2) := by decide +kernel
theorem d_SF_filter_56 : decode b_SF_filter 56 = .ok (.invokespecial 139, 3) := by decide +kernel
theorem d_SF_filter_59 : decode b_SF_filter 59 = .ok (.athrow, 1) := by decide +kernel
theorem d_SF_filter_60 : decode b_SF_filter 60 = .ok (.aload_n 0, 1) := by decide +kernel
theorem d_SF_filter_61 : decode b_SF_filter 61 = .ok (.getfield 20, 3) := by decide +kernel
theorem d_SF_filter_64 : decode b_SF_filter 64 = .ok (.aload_n 0, 1) := by decide +kernel
theorem d_SF_filter_65 : decode b_SF_filter 65 = .ok (.getfield 24, 3) := by decide +kernel
theorem d_SF_filter_68 : decode b_SF_filter 68 = .ok (.aaload, 1) := by decide +kernel
theorem d_SF_filter_69 : decode b_SF_filter 69 = .ok (.iload_n 1, 1) := by decide +kernel
theorem d_SF_filter_70 : decode b_SF_filter 70 = .ok (.iload_n 2, 1) := by decide +kernel
theorem d_SF_filter_71 : decode b_SF_filter 71 = .ok (.invokevirtual 140, 3) := by decide +kernel
theorem d_SF_filter_74 : decode b_SF_filter 74 = .ok (.aload_n 0, 1) := by decide +kernel
theorem d_SF_filter_75 : decode b_SF_filter 75 = .ok (.dup, 1) := by decide +kernel
theorem d_SF_filter_76 : decode b_SF_filter 76 = .ok (.getfield 24, 3) := by decide +kernel
theorem d_SF_filter_79 : decode b_SF_filter 79 = .ok (.iconst 1, 1) := by decide +kernel
theorem d_SF_filter_80 : decode b_SF_filter 80 = .ok (.iadd, 1) := by decide +kernel
theorem d_SF_filter_81 : decode b_SF_filter 81 = .ok (.putfield 24, 3) := by decide +kernel
theorem d_SF_filter_84 : decode b_SF_filter 84 = .ok (.aload_n 0, 1) := by decide +kernel
theorem d_SF_filter_85 : decode b_SF_filter 85 = .ok (.getfield 24, 3) := by decide +kernel
theorem d_SF_filter_88 : decode b_SF_filter 88 = .ok (.ireturn, 1) := by decide +kernel
noncomputable def f_SF_filter  (n0 : Nat) (h0 : mH) (a0 : Nat) (x1 : Int32) (x2 : Int32) : Option ((Int32 ⊕ Nat) × mH) :=
  if x1 < 0 then
    some (.inr 1, h0)
  else
    if x1 ≤ 4 then
      if x2 < 0 then
        some (.inr 1, h0)
      else
        if x2 ≤ 1 then
          mgi h0 a0 0 2 fun v5 =>
          mgr h0 a0 0 1 fun r6 =>
          mln h0 r6 (.object "StreamFilters$Link") fun v7 =>
          if v5 < v7 then
            mgr h0 a0 0 1 fun r9 =>
            mgi h0 a0 0 2 fun v10 =>
            mar h0 r9 (.object "StreamFilters$Link") v10 fun r11 =>
            mis h0 r11 6 <|
            mcl (f_Li_begin n0 h0 r11 x1 x2) fun _ h14 =>
            mgi h14 a0 0 2 fun v16 =>
            mpt h14 a0 0 2 (.int (v16 + 1)) fun h17 =>
            mgi h17 a0 0 2 fun v18 =>
            some (.inl v18, h17)
          else
            some (.inr 2, h0)
        else
          some (.inr 1, h0)
    else
      some (.inr 1, h0)
set_option maxHeartbeats 4000000 in
set_option maxRecDepth 100000 in
theorem cb_SF_filter {X : mX} {ad : Nat → Nat} {ln : Launch} (O : mO X ad R_SF b_SF_filter 3 (mR 6 90) ln) (r' : Int32) (h' : mH) (hE : mEnd X ad (some .int) (some (.int r')) h') (n0 : Nat) (h0 : mH) (a0 : Nat) (x1 : Int32) (x2 : Int32) (hf : f_SF_filter n0 h0 a0 x1 x2 = some (.inl r', h')) : mAW X ad 0 0 0 [(0, .ref a0), (1, .int x1), (2, .int x2)] [] h0 := by
  unfold f_SF_filter at hf
  refine ax_iload_n O d_SF_filter_0 rfl 1 rfl ?_
  refine ax_if_lt (tgt := 9) O d_SF_filter_1 (by decide) (fun q1 => ?_) (fun q1 => ?_)
  · rw [if_pos q1] at hf
    cases hf
  · rw [if_neg q1] at hf
    refine ax_iload_n O d_SF_filter_4 rfl 1 rfl ?_
    refine ax_iconst (v := 4) O d_SF_filter_5 (by decide) ?_
    refine ax_icmp_le (tgt := 19) O d_SF_filter_6 (by decide) (fun q2 => ?_) (fun q2 => ?_)
    · rw [if_pos q2] at hf
      refine ax_iload_n O d_SF_filter_19 rfl 2 rfl ?_
      refine ax_if_lt (tgt := 28) O d_SF_filter_20 (by decide) (fun q3 => ?_) (fun q3 => ?_)
      · rw [if_pos q3] at hf
        cases hf
      · rw [if_neg q3] at hf
        refine ax_iload_n O d_SF_filter_23 rfl 2 rfl ?_
        refine ax_iconst (v := 1) O d_SF_filter_24 (by decide) ?_
        refine ax_icmp_le (tgt := 38) O d_SF_filter_25 (by decide) (fun q4 => ?_) (fun q4 => ?_)
        · rw [if_pos q4] at hf
          refine ax_aload_n O d_SF_filter_38 rfl 0 rfl ?_
          obtain ⟨fv5, v5, cv5, kv5, hf⟩ := mgi_some hf
          refine ax_get O fg_SF_24 cv5 kv5 d_SF_filter_39 ?_
          refine ax_aload_n O d_SF_filter_42 rfl 0 rfl ?_
          obtain ⟨fr6, r6, cr6, kr6, hf⟩ := mgr_some hf
          refine ax_get O fg_SF_20 cr6 kr6 d_SF_filter_43 ?_
          obtain ⟨xv7, v7, cv7, kv7, hf⟩ := mln_some hf
          refine ax_alen O (by decide) cv7 kv7 d_SF_filter_46 ?_
          refine ax_icmp_lt (tgt := 60) O d_SF_filter_47 (by decide) (fun q8 => ?_) (fun q8 => ?_)
          · rw [if_pos q8] at hf
            refine ax_aload_n O d_SF_filter_60 rfl 0 rfl ?_
            obtain ⟨fr9, r9, cr9, kr9, hf⟩ := mgr_some hf
            refine ax_get O fg_SF_20 cr9 kr9 d_SF_filter_61 ?_
            refine ax_aload_n O d_SF_filter_64 rfl 0 rfl ?_
            obtain ⟨fv10, v10, cv10, kv10, hf⟩ := mgi_some hf
            refine ax_get O fg_SF_24 cv10 kv10 d_SF_filter_65 ?_
            obtain ⟨nr11, fr11, r11, cr11, ir11, kr11, hf⟩ := mar_some hf
            refine ax_aald O (by decide) cr11 ir11 kr11 d_SF_filter_68 ?_
            refine ax_iload_n O d_SF_filter_69 rfl 1 rfl ?_
            refine ax_iload_n O d_SF_filter_70 rfl 2 rfl ?_
            obtain ⟨fh14, ch14, hf⟩ := mis_some hf
            obtain ⟨u15, h14, mh14, hf⟩ := mcl_some hf
            refine ax_callV (As := [.int x1, .int x2]) (rest := []) O cw_Li_begin (q := (R_Li, T_Li, 6)) rfl rfl in_Li_begin se_Li_begin lk_SF_140 ch14 (c_Li_begin mh14) rfl ⟨rfl, rfl⟩ (by decide) (by decide) (Nat.le_of_ble_eq_true rfl) d_SF_filter_71 ?_
            refine ax_aload_n O d_SF_filter_74 rfl 0 rfl ?_
            refine ax_dup O d_SF_filter_75 rfl ?_
            obtain ⟨fv16, v16, cv16, kv16, hf⟩ := mgi_some hf
            refine ax_get O fg_SF_24 cv16 kv16 d_SF_filter_76 ?_
            refine ax_iconst (v := 1) O d_SF_filter_79 (by decide) ?_
            refine ax_iadd O d_SF_filter_80 ?_
            obtain ⟨fh17, h17, ch17, kh17, eh17, hf⟩ := mpt_some hf
            refine ax_put (v := .int (v16 + 1)) O fp_SF_24 ch17 kh17 eh17 rfl rfl d_SF_filter_81 ?_
            refine ax_aload_n O d_SF_filter_84 rfl 0 rfl ?_
            obtain ⟨fv18, v18, cv18, kv18, hf⟩ := mgi_some hf
            refine ax_get O fg_SF_24 cv18 kv18 d_SF_filter_85 ?_
            exact ax_retI O hE hf rfl d_SF_filter_88
          · rw [if_neg q8] at hf
            cases hf
        · rw [if_neg q4] at hf
          cases hf
    · rw [if_neg q2] at hf
      cases hf
theorem c_SF_filter {ln : Launch} {n0 : Nat} {h0 h' : mH} {a0 : Nat} {x1 : Int32} {x2 : Int32} {r' : Int32} (hf : f_SF_filter n0 h0 a0 x1 x2 = some (.inl r', h')) : mMet ln y_SF_filter b_SF_filter 3 (some .int) (mR 6 90) [.ref a0, .int x1, .int x2] h0 (some (.int r')) h' := mMet_of (by decide +kernel) (Nat.le_of_ble_eq_true rfl) (fun X ad O hE => cb_SF_filter O r' h' hE n0 h0 a0 x1 x2 hf)
set_option maxHeartbeats 4000000 in
set_option maxRecDepth 100000 in
theorem cbt_SF_filter {X : mX} {ad : Nat → Nat} {ln : Launch} (hln : ln.stackTraces = false) (O : mO X ad R_SF b_SF_filter 3 (mRx 6 1 6 90) ln) (k : Nat) (h' : mH) (hE : mEndT X (mEx k)) (n0 : Nat) (h0 : mH) (a0 : Nat) (x1 : Int32) (x2 : Int32) (hf : f_SF_filter n0 h0 a0 x1 x2 = some (.inr k, h')) : mAR X ad 0 0 0 [(0, .ref a0), (1, .int x1), (2, .int x2)] [] h0 := by
  unfold f_SF_filter at hf
  refine ar_iload_n O d_SF_filter_0 rfl 1 rfl ?_
  refine ar_if_lt (tgt := 9) O d_SF_filter_1 (by decide) (fun q1 => ?_) (fun q1 => ?_)
  · rw [if_pos q1] at hf
    cases hf
    exact ar_throw (E := "java/lang/IllegalArgumentException") (tx := "no such kind of filter") (names := ["java/lang/RuntimeException", "java/lang/Exception"]) O hE hln wd_51 wd_52 wd_53 (by decide +kernel) (by decide) at_SF_114 ⟨by decide +kernel, by decide +kernel⟩ ⟨by decide, Nat.le_of_ble_eq_true rfl, by decide, by decide⟩ d_SF_filter_9 d_SF_filter_12 d_SF_filter_13 d_SF_filter_15 d_SF_filter_18
  · rw [if_neg q1] at hf
    refine ar_iload_n O d_SF_filter_4 rfl 1 rfl ?_
    refine ar_iconst (v := 4) O d_SF_filter_5 (by decide) ?_
    refine ar_icmp_le (tgt := 19) O d_SF_filter_6 (by decide) (fun q2 => ?_) (fun q2 => ?_)
    · rw [if_pos q2] at hf
      refine ar_iload_n O d_SF_filter_19 rfl 2 rfl ?_
      refine ar_if_lt (tgt := 28) O d_SF_filter_20 (by decide) (fun q3 => ?_) (fun q3 => ?_)
      · rw [if_pos q3] at hf
        cases hf
        exact ar_throw (E := "java/lang/IllegalArgumentException") (tx := "early is 0 or 1") (names := ["java/lang/RuntimeException", "java/lang/Exception"]) O hE hln wd_51 wd_52 wd_53 (by decide +kernel) (by decide) at_SF_114 ⟨by decide +kernel, by decide +kernel⟩ ⟨by decide, Nat.le_of_ble_eq_true rfl, by decide, by decide⟩ d_SF_filter_28 d_SF_filter_31 d_SF_filter_32 d_SF_filter_34 d_SF_filter_37
      · rw [if_neg q3] at hf
        refine ar_iload_n O d_SF_filter_23 rfl 2 rfl ?_
        refine ar_iconst (v := 1) O d_SF_filter_24 (by decide) ?_
        refine ar_icmp_le (tgt := 38) O d_SF_filter_25 (by decide) (fun q4 => ?_) (fun q4 => ?_)
        · rw [if_pos q4] at hf
          refine ar_aload_n O d_SF_filter_38 rfl 0 rfl ?_
          obtain ⟨fv5, v5, cv5, kv5, hf⟩ := mgi_some hf
          refine ar_get O fg_SF_24 cv5 kv5 d_SF_filter_39 ?_
          refine ar_aload_n O d_SF_filter_42 rfl 0 rfl ?_
          obtain ⟨fr6, r6, cr6, kr6, hf⟩ := mgr_some hf
          refine ar_get O fg_SF_20 cr6 kr6 d_SF_filter_43 ?_
          obtain ⟨xv7, v7, cv7, kv7, hf⟩ := mln_some hf
          refine ar_alen O (by decide) cv7 kv7 d_SF_filter_46 ?_
          refine ar_icmp_lt (tgt := 60) O d_SF_filter_47 (by decide) (fun q8 => ?_) (fun q8 => ?_)
          · rw [if_pos q8] at hf
            skip
            obtain ⟨fr9, r9, cr9, kr9, hf⟩ := mgr_some hf
            obtain ⟨fv10, v10, cv10, kv10, hf⟩ := mgi_some hf
            obtain ⟨nr11, fr11, r11, cr11, ir11, kr11, hf⟩ := mar_some hf
            obtain ⟨fh14, ch14, hf⟩ := mis_some hf
            obtain ⟨u15, h14, mh14, hf⟩ := mcl_some hf
            obtain ⟨fv16, v16, cv16, kv16, hf⟩ := mgi_some hf
            obtain ⟨fh17, h17, ch17, kh17, eh17, hf⟩ := mpt_some hf
            obtain ⟨fv18, v18, cv18, kv18, hf⟩ := mgi_some hf
            cases hf
          · rw [if_neg q8] at hf
            cases hf
            exact ar_throw (E := "java/lang/IllegalStateException") (tx := "the chain is full") (names := ["java/lang/RuntimeException", "java/lang/Exception"]) O hE hln wd_54 wd_55 wd_56 (by decide +kernel) (by decide) at_SF_139 ⟨by decide +kernel, by decide +kernel⟩ ⟨by decide, Nat.le_of_ble_eq_true rfl, by decide, by decide⟩ d_SF_filter_50 d_SF_filter_53 d_SF_filter_54 d_SF_filter_56 d_SF_filter_59
        · rw [if_neg q4] at hf
          cases hf
          exact ar_throw (E := "java/lang/IllegalArgumentException") (tx := "early is 0 or 1") (names := ["java/lang/RuntimeException", "java/lang/Exception"]) O hE hln wd_51 wd_52 wd_53 (by decide +kernel) (by decide) at_SF_114 ⟨by decide +kernel, by decide +kernel⟩ ⟨by decide, Nat.le_of_ble_eq_true rfl, by decide, by decide⟩ d_SF_filter_28 d_SF_filter_31 d_SF_filter_32 d_SF_filter_34 d_SF_filter_37
    · rw [if_neg q2] at hf
      cases hf
      exact ar_throw (E := "java/lang/IllegalArgumentException") (tx := "no such kind of filter") (names := ["java/lang/RuntimeException", "java/lang/Exception"]) O hE hln wd_51 wd_52 wd_53 (by decide +kernel) (by decide) at_SF_114 ⟨by decide +kernel, by decide +kernel⟩ ⟨by decide, Nat.le_of_ble_eq_true rfl, by decide, by decide⟩ d_SF_filter_9 d_SF_filter_12 d_SF_filter_13 d_SF_filter_15 d_SF_filter_18
theorem ct_SF_filter {ln : Launch} (hln : ln.stackTraces = false) {n0 : Nat} {h0 h' : mH} {a0 : Nat} {x1 : Int32} {x2 : Int32} {k : Nat} (hf : f_SF_filter n0 h0 a0 x1 x2 = some (.inr k, h')) : mMetT ln y_SF_filter b_SF_filter 3 (some .int) (mRx 6 1 6 90) [.ref a0, .int x1, .int x2] h0 (mEx k) := mMetT_of (by decide +kernel) (Nat.le_of_ble_eq_true rfl) (fun X ad O hE => cbt_SF_filter hln O k h' hE n0 h0 a0 x1 x2 hf)
/-! ===== StreamFilters.predict(IIII)V ===== -/
theorem d_SF_predict_0 : decode b_SF_predict 0 = .ok (.iload_n 1, 1) := by decide +kernel
theorem d_SF_predict_1 : decode b_SF_predict 1 = .ok (.invokestatic 143, 3) := by decide +kernel
theorem d_SF_predict_4 : decode b_SF_predict 4 = .ok (.ifCond .ne 13, 3) := by decide +kernel
theorem d_SF_predict_7 : decode b_SF_predict 7 = .ok (.new 110, 3) := by decide +kernel
theorem d_SF_predict_10 : decode b_SF_predict 10 = .ok (.dup, 1) := by decide +kernel
theorem d_SF_predict_11 : decode b_SF_predict 11 = .ok (.ldc 147, 2) := by decide +kernel
theorem d_SF_predict_13 : decode b_SF_predict 13 = .ok (.invokespecial 114, 3) := by decide +kernel
theorem d_SF_predict_16 : decode b_SF_predict 16 = .ok (.athrow, 1) := by decide +kernel
theorem d_SF_predict_17 : decode b_SF_predict 17 = .ok (.iload_n 2, 1) := by decide +kernel
theorem d_SF_predict_18 : decode b_SF_predict 18 = .ok (.iconst 1, 1) := by decide +kernel
theorem d_SF_predict_19 : decode b_SF_predict 19 = .ok (.if_icmp .lt 30, 3) := by decide +kernel
theorem d_SF_predict_22 : decode b_SF_predict 22 = .ok (.iload_n 2, 1) := by decide +kernel
theorem d_SF_predict_23 : decode b_SF_predict 23 = .ok (.bipush 8, 2) := by decide +kernel
theorem d_SF_predict_25 : decode b_SF_predict 25 = .ok (.if_icmp .gt 24, 3) := by decide +kernel
theorem d_SF_predict_28 : decode b_SF_predict 28 = .ok (.iload_n 3, 1) := by decide +kernel
theorem d_SF_predict_29 : decode b_SF_predict 29 = .ok (.invokestatic 149, 3) := by decide +kernel
theorem d_SF_predict_32 : decode b_SF_predict 32 = .ok (.ifCond .eq 17, 3) := by decide +kernel
theorem d_SF_predict_35 : decode b_SF_predict 35 = .ok (.iload 4, 2) := by decide +kernel
theorem d_SF_predict_37 : decode b_SF_predict 37 = .ok (.iconst 1, 1) := by decide +kernel
theorem d_SF_predict_38 : decode b_SF_predict 38 = .ok (.if_icmp .lt 11, 3) := by decide +kernel
theorem d_SF_predict_41 : decode b_SF_predict 41 = .ok (.iload 4, 2) := by decide +kernel
theorem d_SF_predict_43 : decode b_SF_predict 43 = .ok (.sipush 4096, 3) := by decide +kernel
theorem d_SF_predict_46 : decode b_SF_predict 46 = .ok (.if_icmp .le 13, 3) := by decide +kernel
theorem d_SF_predict_49 : decode b_SF_predict 49 = .ok (.new 110, 3) := by decide +kernel
theorem d_SF_predict_52 : decode b_SF_predict 52 = .ok (.dup, 1) := by decide +kernel
theorem d_SF_predict_53 : decode b_SF_predict 53 = .ok (.ldc 152, 2) := by decide +kernel
theorem d_SF_predict_55 : decode b_SF_predict 55 = .ok (.invokespecial 114, 3) := by decide +kernel
theorem d_SF_predict_58 : decode b_SF_predict 58 = .ok (.athrow, 1) := by decide +kernel
theorem d_SF_predict_59 : decode b_SF_predict 59 = .ok (.aload_n 0, 1) := by decide +kernel
theorem d_SF_predict_60 : decode b_SF_predict 60 = .ok (.getfield 24, 3) := by decide +kernel
theorem d_SF_predict_63 : decode b_SF_predict 63 = .ok (.iconst 1, 1) := by decide +kernel
theorem d_SF_predict_64 : decode b_SF_predict 64 = .ok (.if_icmp .lt 15, 3) := by decide +kernel
theorem d_SF_predict_67 : decode b_SF_predict 67 = .ok (.aload_n 0, 1) := by decide +kernel
theorem d_SF_predict_68 : decode b_SF_predict 68 = .ok (.getfield 24, 3) := by decide +kernel
theorem d_SF_predict_71 : decode b_SF_predict 71 = .ok (.aload_n 0, 1) := by decide +kernel
theorem d_SF_predict_72 : decode b_SF_predict 72 = .ok (.getfield 20, 3) := by decide +kernel
theorem d_SF_predict_75 : decode b_SF_predict 75 = .ok (.arraylength, 1) := by decide +kernel
theorem d_SF_predict_76 : decode b_SF_predict 76 = .ok (.if_icmp .le 13, 3) := by decide +kernel
theorem d_SF_predict_79 : decode b_SF_predict 79 = .ok (.new 135, 3) := by decide +kernel
theorem d_SF_predict_82 : decode b_SF_predict 82 = .ok (.dup, 1) := by decide +kernel
theorem d_SF_predict_83 : decode b_SF_predict 83 = .ok (.ldc 154, 2) := by decide +kernel
theorem d_SF_predict_85 : decode b_SF_predict 85 = .ok (.invokespecial 139, 3) := by decide +kernel
theorem d_SF_predict_88 : decode b_SF_predict 88 = .ok (.athrow, 1) := by decide +kernel
theorem d_SF_predict_89 : decode b_SF_predict 89 = .ok (.aload_n 0, 1) := by decide +kernel
theorem d_SF_predict_90 : decode b_SF_predict 90 = .ok (.getfield 20, 3) := by decide +kernel
theorem d_SF_predict_93 : decode b_SF_predict 93 = .ok (.aload_n 0, 1) := by decide +kernel
theorem d_SF_predict_94 : decode b_SF_predict 94 = .ok (.getfield 24, 3) := by decide +kernel
theorem d_SF_predict_97 : decode b_SF_predict 97 = .ok (.iconst 1, 1) := by decide +kernel
theorem d_SF_predict_98 : decode b_SF_predict 98 = .ok (.isub, 1) := by decide +kernel
theorem d_SF_predict_99 : decode b_SF_predict 99 = .ok (.aaload, 1) := by decide +kernel
theorem d_SF_predict_100 : decode b_SF_predict 100 = .ok (.iload_n 1, 1) := by decide +kernel
theorem d_SF_predict_101 : decode b_SF_predict 101 = .ok (.iload_n 2, 1) := by decide +kernel
theorem d_SF_predict_102 : decode b_SF_predict 102 = .ok (.iload_n 3, 1) := by decide +kernel
theorem d_SF_predict_103 : decode b_SF_predict 103 = .ok (.iload 4, 2) := by decide +kernel
theorem d_SF_predict_105 : decode b_SF_predict 105 = .ok (.invokevirtual 156, 3) := by decide +kernel
theorem d_SF_predict_108 : decode b_SF_predict 108 = .ok (.return_, 1) := by decide +kernel
noncomputable def f_SF_predict  (n0 : Nat) (h0 : mH) (a0 : Nat) (x1 : Int32) (x2 : Int32) (x3 : Int32) (x4 : Int32) : Option ((Unit ⊕ Nat) × mH) :=
  mcl (f_SF_isPredictor n0 h0 x1) fun v2 h3 =>
  if v2 = 0 then
    some (.inr 1, h3)
  else
    if x2 < 1 then
      some (.inr 1, h3)
    else
      if 8 < x2 then
        some (.inr 1, h3)
      else
        mcl (f_SF_isBits n0 h3 x3) fun v8 h9 =>
        if v8 = 0 then
          some (.inr 1, h9)
        else
          if x4 < 1 then
            some (.inr 1, h9)
          else
            if x4 ≤ 4096 then
              mgi h9 a0 0 2 fun v13 =>
              if v13 < 1 then
                some (.inr 2, h9)
              else
                mgi h9 a0 0 2 fun v15 =>
                mgr h9 a0 0 1 fun r16 =>
                mln h9 r16 (.object "StreamFilters$Link") fun v17 =>
                if v15 ≤ v17 then
                  mgr h9 a0 0 1 fun r19 =>
                  mgi h9 a0 0 2 fun v20 =>
                  mar h9 r19 (.object "StreamFilters$Link") (v20 - 1) fun r21 =>
                  mis h9 r21 6 <|
                  mcl (f_Li_shape n0 h9 r21 x1 x2 x3 x4) fun _ h24 =>
                  some (.inl (), h24)
                else
                  some (.inr 2, h9)
            else
              some (.inr 1, h9)
set_option maxHeartbeats 4000000 in
set_option maxRecDepth 100000 in
theorem cb_SF_predict {X : mX} {ad : Nat → Nat} {ln : Launch} (O : mO X ad R_SF b_SF_predict 5 (mR 6 90) ln) (r' : Unit) (h' : mH) (hE : mEnd X ad none none h') (n0 : Nat) (h0 : mH) (a0 : Nat) (x1 : Int32) (x2 : Int32) (x3 : Int32) (x4 : Int32) (hf : f_SF_predict n0 h0 a0 x1 x2 x3 x4 = some (.inl r', h')) : mAW X ad 0 0 0 [(0, .ref a0), (1, .int x1), (2, .int x2), (3, .int x3), (4, .int x4)] [] h0 := by
  unfold f_SF_predict at hf
  refine ax_iload_n O d_SF_predict_0 rfl 1 rfl ?_
  obtain ⟨v2, h3, mh3, hf⟩ := mcl_some hf
  refine ax_callS (As := [.int x1]) (rest := []) O cw_SF_isPredictor st_SF_isPredictor lk_SF_143 (c_SF_isPredictor mh3) rfl ⟨rfl, rfl⟩ (by decide) (by decide) (Nat.le_of_ble_eq_true rfl) d_SF_predict_1 ?_
  refine ax_if_ne (tgt := 17) O d_SF_predict_4 (by decide) (fun q4 => ?_) (fun q4 => ?_)
  · rw [if_neg q4] at hf
    refine ax_iload_n O d_SF_predict_17 rfl 2 rfl ?_
    refine ax_iconst (v := 1) O d_SF_predict_18 (by decide) ?_
    refine ax_icmp_lt (tgt := 49) O d_SF_predict_19 (by decide) (fun q5 => ?_) (fun q5 => ?_)
    · rw [if_pos q5] at hf
      cases hf
    · rw [if_neg q5] at hf
      refine ax_iload_n O d_SF_predict_22 rfl 2 rfl ?_
      refine ax_bipush (v := 8) O d_SF_predict_23 (by decide) ?_
      refine ax_icmp_gt (tgt := 49) O d_SF_predict_25 (by decide) (fun q6 => ?_) (fun q6 => ?_)
      · rw [if_pos q6] at hf
        cases hf
      · rw [if_neg q6] at hf
        refine ax_iload_n O d_SF_predict_28 rfl 3 rfl ?_
        obtain ⟨v8, h9, mh9, hf⟩ := mcl_some hf
        refine ax_callS (As := [.int x3]) (rest := []) O cw_SF_isBits st_SF_isBits lk_SF_149 (c_SF_isBits mh9) rfl ⟨rfl, rfl⟩ (by decide) (by decide) (Nat.le_of_ble_eq_true rfl) d_SF_predict_29 ?_
        refine ax_if_eq (tgt := 49) O d_SF_predict_32 (by decide) (fun q10 => ?_) (fun q10 => ?_)
        · rw [if_pos q10] at hf
          cases hf
        · rw [if_neg q10] at hf
          refine ax_iload O d_SF_predict_35 4 rfl ?_
          refine ax_iconst (v := 1) O d_SF_predict_37 (by decide) ?_
          refine ax_icmp_lt (tgt := 49) O d_SF_predict_38 (by decide) (fun q11 => ?_) (fun q11 => ?_)
          · rw [if_pos q11] at hf
            cases hf
          · rw [if_neg q11] at hf
            refine ax_iload O d_SF_predict_41 4 rfl ?_
            refine ax_sipush (v := 4096) O d_SF_predict_43 (by decide) ?_
            refine ax_icmp_le (tgt := 59) O d_SF_predict_46 (by decide) (fun q12 => ?_) (fun q12 => ?_)
            · rw [if_pos q12] at hf
              refine ax_aload_n O d_SF_predict_59 rfl 0 rfl ?_
              obtain ⟨fv13, v13, cv13, kv13, hf⟩ := mgi_some hf
              refine ax_get O fg_SF_24 cv13 kv13 d_SF_predict_60 ?_
              refine ax_iconst (v := 1) O d_SF_predict_63 (by decide) ?_
              refine ax_icmp_lt (tgt := 79) O d_SF_predict_64 (by decide) (fun q14 => ?_) (fun q14 => ?_)
              · rw [if_pos q14] at hf
                cases hf
              · rw [if_neg q14] at hf
                refine ax_aload_n O d_SF_predict_67 rfl 0 rfl ?_
                obtain ⟨fv15, v15, cv15, kv15, hf⟩ := mgi_some hf
                refine ax_get O fg_SF_24 cv15 kv15 d_SF_predict_68 ?_
                refine ax_aload_n O d_SF_predict_71 rfl 0 rfl ?_
                obtain ⟨fr16, r16, cr16, kr16, hf⟩ := mgr_some hf
                refine ax_get O fg_SF_20 cr16 kr16 d_SF_predict_72 ?_
                obtain ⟨xv17, v17, cv17, kv17, hf⟩ := mln_some hf
                refine ax_alen O (by decide) cv17 kv17 d_SF_predict_75 ?_
                refine ax_icmp_le (tgt := 89) O d_SF_predict_76 (by decide) (fun q18 => ?_) (fun q18 => ?_)
                · rw [if_pos q18] at hf
                  refine ax_aload_n O d_SF_predict_89 rfl 0 rfl ?_
                  obtain ⟨fr19, r19, cr19, kr19, hf⟩ := mgr_some hf
                  refine ax_get O fg_SF_20 cr19 kr19 d_SF_predict_90 ?_
                  refine ax_aload_n O d_SF_predict_93 rfl 0 rfl ?_
                  obtain ⟨fv20, v20, cv20, kv20, hf⟩ := mgi_some hf
                  refine ax_get O fg_SF_24 cv20 kv20 d_SF_predict_94 ?_
                  refine ax_iconst (v := 1) O d_SF_predict_97 (by decide) ?_
                  refine ax_isub O d_SF_predict_98 ?_
                  obtain ⟨nr21, fr21, r21, cr21, ir21, kr21, hf⟩ := mar_some hf
                  refine ax_aald O (by decide) cr21 ir21 kr21 d_SF_predict_99 ?_
                  refine ax_iload_n O d_SF_predict_100 rfl 1 rfl ?_
                  refine ax_iload_n O d_SF_predict_101 rfl 2 rfl ?_
                  refine ax_iload_n O d_SF_predict_102 rfl 3 rfl ?_
                  refine ax_iload O d_SF_predict_103 4 rfl ?_
                  obtain ⟨fh24, ch24, hf⟩ := mis_some hf
                  obtain ⟨u25, h24, mh24, hf⟩ := mcl_some hf
                  refine ax_callV (As := [.int x1, .int x2, .int x3, .int x4]) (rest := []) O cw_Li_shape (q := (R_Li, T_Li, 6)) rfl rfl in_Li_shape se_Li_shape lk_SF_156 ch24 (c_Li_shape mh24) rfl ⟨rfl, rfl⟩ (by decide) (by decide) (Nat.le_of_ble_eq_true rfl) d_SF_predict_105 ?_
                  exact ax_vretI O hE hf d_SF_predict_108
                · rw [if_neg q18] at hf
                  cases hf
            · rw [if_neg q12] at hf
              cases hf
  · rw [if_pos q4] at hf
    cases hf
theorem c_SF_predict {ln : Launch} {n0 : Nat} {h0 h' : mH} {a0 : Nat} {x1 : Int32} {x2 : Int32} {x3 : Int32} {x4 : Int32} {r' : Unit} (hf : f_SF_predict n0 h0 a0 x1 x2 x3 x4 = some (.inl r', h')) : mMet ln y_SF_predict b_SF_predict 5 none (mR 6 90) [.ref a0, .int x1, .int x2, .int x3, .int x4] h0 none h' := mMet_of (by decide +kernel) (Nat.le_of_ble_eq_true rfl) (fun X ad O hE => cb_SF_predict O r' h' hE n0 h0 a0 x1 x2 x3 x4 hf)
set_option maxHeartbeats 4000000 in
set_option maxRecDepth 100000 in
theorem cbt_SF_predict {X : mX} {ad : Nat → Nat} {ln : Launch} (hln : ln.stackTraces = false) (O : mO X ad R_SF b_SF_predict 5 (mRx 6 1 6 90) ln) (k : Nat) (h' : mH) (hE : mEndT X (mEx k)) (n0 : Nat) (h0 : mH) (a0 : Nat) (x1 : Int32) (x2 : Int32) (x3 : Int32) (x4 : Int32) (hf : f_SF_predict n0 h0 a0 x1 x2 x3 x4 = some (.inr k, h')) : mAR X ad 0 0 0 [(0, .ref a0), (1, .int x1), (2, .int x2), (3, .int x3), (4, .int x4)] [] h0 := by
  unfold f_SF_predict at hf
  refine ar_iload_n O d_SF_predict_0 rfl 1 rfl ?_
  obtain ⟨v2, h3, mh3, hf⟩ := mcl_some hf
  obtain ⟨wh3, uh3⟩ := pu_SF_isPredictor mh3
  rw [wh3] at hf
  refine ar_callS0 (As := [.int x1]) (rest := []) O cw_SF_isPredictor st_SF_isPredictor wd_57 (c_SF_isPredictor uh3) rfl ⟨rfl, rfl⟩ (by decide) (by decide) (Nat.le_of_ble_eq_true rfl) d_SF_predict_1 ?_
  refine ar_if_ne (tgt := 17) O d_SF_predict_4 (by decide) (fun q4 => ?_) (fun q4 => ?_)
  · rw [if_neg q4] at hf
    refine ar_iload_n O d_SF_predict_17 rfl 2 rfl ?_
    refine ar_iconst (v := 1) O d_SF_predict_18 (by decide) ?_
    refine ar_icmp_lt (tgt := 49) O d_SF_predict_19 (by decide) (fun q5 => ?_) (fun q5 => ?_)
    · rw [if_pos q5] at hf
      cases hf
      exact ar_throw (E := "java/lang/IllegalArgumentException") (tx := "no such colours, bits or columns") (names := ["java/lang/RuntimeException", "java/lang/Exception"]) O hE hln wd_51 wd_52 wd_53 (by decide +kernel) (by decide) at_SF_114 ⟨by decide +kernel, by decide +kernel⟩ ⟨by decide, Nat.le_of_ble_eq_true rfl, by decide, by decide⟩ d_SF_predict_49 d_SF_predict_52 d_SF_predict_53 d_SF_predict_55 d_SF_predict_58
    · rw [if_neg q5] at hf
      refine ar_iload_n O d_SF_predict_22 rfl 2 rfl ?_
      refine ar_bipush (v := 8) O d_SF_predict_23 (by decide) ?_
      refine ar_icmp_gt (tgt := 49) O d_SF_predict_25 (by decide) (fun q6 => ?_) (fun q6 => ?_)
      · rw [if_pos q6] at hf
        cases hf
        exact ar_throw (E := "java/lang/IllegalArgumentException") (tx := "no such colours, bits or columns") (names := ["java/lang/RuntimeException", "java/lang/Exception"]) O hE hln wd_51 wd_52 wd_53 (by decide +kernel) (by decide) at_SF_114 ⟨by decide +kernel, by decide +kernel⟩ ⟨by decide, Nat.le_of_ble_eq_true rfl, by decide, by decide⟩ d_SF_predict_49 d_SF_predict_52 d_SF_predict_53 d_SF_predict_55 d_SF_predict_58
      · rw [if_neg q6] at hf
        refine ar_iload_n O d_SF_predict_28 rfl 3 rfl ?_
        obtain ⟨v8, h9, mh9, hf⟩ := mcl_some hf
        obtain ⟨wh9, uh9⟩ := pu_SF_isBits mh9
        rw [wh9] at hf
        refine ar_callS0 (As := [.int x3]) (rest := []) O cw_SF_isBits st_SF_isBits wd_58 (c_SF_isBits uh9) rfl ⟨rfl, rfl⟩ (by decide) (by decide) (Nat.le_of_ble_eq_true rfl) d_SF_predict_29 ?_
        refine ar_if_eq (tgt := 49) O d_SF_predict_32 (by decide) (fun q10 => ?_) (fun q10 => ?_)
        · rw [if_pos q10] at hf
          cases hf
          exact ar_throw (E := "java/lang/IllegalArgumentException") (tx := "no such colours, bits or columns") (names := ["java/lang/RuntimeException", "java/lang/Exception"]) O hE hln wd_51 wd_52 wd_53 (by decide +kernel) (by decide) at_SF_114 ⟨by decide +kernel, by decide +kernel⟩ ⟨by decide, Nat.le_of_ble_eq_true rfl, by decide, by decide⟩ d_SF_predict_49 d_SF_predict_52 d_SF_predict_53 d_SF_predict_55 d_SF_predict_58
        · rw [if_neg q10] at hf
          refine ar_iload O d_SF_predict_35 4 rfl ?_
          refine ar_iconst (v := 1) O d_SF_predict_37 (by decide) ?_
          refine ar_icmp_lt (tgt := 49) O d_SF_predict_38 (by decide) (fun q11 => ?_) (fun q11 => ?_)
          · rw [if_pos q11] at hf
            cases hf
            exact ar_throw (E := "java/lang/IllegalArgumentException") (tx := "no such colours, bits or columns") (names := ["java/lang/RuntimeException", "java/lang/Exception"]) O hE hln wd_51 wd_52 wd_53 (by decide +kernel) (by decide) at_SF_114 ⟨by decide +kernel, by decide +kernel⟩ ⟨by decide, Nat.le_of_ble_eq_true rfl, by decide, by decide⟩ d_SF_predict_49 d_SF_predict_52 d_SF_predict_53 d_SF_predict_55 d_SF_predict_58
          · rw [if_neg q11] at hf
            refine ar_iload O d_SF_predict_41 4 rfl ?_
            refine ar_sipush (v := 4096) O d_SF_predict_43 (by decide) ?_
            refine ar_icmp_le (tgt := 59) O d_SF_predict_46 (by decide) (fun q12 => ?_) (fun q12 => ?_)
            · rw [if_pos q12] at hf
              refine ar_aload_n O d_SF_predict_59 rfl 0 rfl ?_
              obtain ⟨fv13, v13, cv13, kv13, hf⟩ := mgi_some hf
              refine ar_get O fg_SF_24 cv13 kv13 d_SF_predict_60 ?_
              refine ar_iconst (v := 1) O d_SF_predict_63 (by decide) ?_
              refine ar_icmp_lt (tgt := 79) O d_SF_predict_64 (by decide) (fun q14 => ?_) (fun q14 => ?_)
              · rw [if_pos q14] at hf
                cases hf
                exact ar_throw (E := "java/lang/IllegalStateException") (tx := "there is no filter") (names := ["java/lang/RuntimeException", "java/lang/Exception"]) O hE hln wd_54 wd_55 wd_56 (by decide +kernel) (by decide) at_SF_139 ⟨by decide +kernel, by decide +kernel⟩ ⟨by decide, Nat.le_of_ble_eq_true rfl, by decide, by decide⟩ d_SF_predict_79 d_SF_predict_82 d_SF_predict_83 d_SF_predict_85 d_SF_predict_88
              · rw [if_neg q14] at hf
                refine ar_aload_n O d_SF_predict_67 rfl 0 rfl ?_
                obtain ⟨fv15, v15, cv15, kv15, hf⟩ := mgi_some hf
                refine ar_get O fg_SF_24 cv15 kv15 d_SF_predict_68 ?_
                refine ar_aload_n O d_SF_predict_71 rfl 0 rfl ?_
                obtain ⟨fr16, r16, cr16, kr16, hf⟩ := mgr_some hf
                refine ar_get O fg_SF_20 cr16 kr16 d_SF_predict_72 ?_
                obtain ⟨xv17, v17, cv17, kv17, hf⟩ := mln_some hf
                refine ar_alen O (by decide) cv17 kv17 d_SF_predict_75 ?_
                refine ar_icmp_le (tgt := 89) O d_SF_predict_76 (by decide) (fun q18 => ?_) (fun q18 => ?_)
                · rw [if_pos q18] at hf
                  skip
                  obtain ⟨fr19, r19, cr19, kr19, hf⟩ := mgr_some hf
                  obtain ⟨fv20, v20, cv20, kv20, hf⟩ := mgi_some hf
                  obtain ⟨nr21, fr21, r21, cr21, ir21, kr21, hf⟩ := mar_some hf
                  obtain ⟨fh24, ch24, hf⟩ := mis_some hf
                  obtain ⟨u25, h24, mh24, hf⟩ := mcl_some hf
                  cases hf
                · rw [if_neg q18] at hf
                  cases hf
                  exact ar_throw (E := "java/lang/IllegalStateException") (tx := "there is no filter") (names := ["java/lang/RuntimeException", "java/lang/Exception"]) O hE hln wd_54 wd_55 wd_56 (by decide +kernel) (by decide) at_SF_139 ⟨by decide +kernel, by decide +kernel⟩ ⟨by decide, Nat.le_of_ble_eq_true rfl, by decide, by decide⟩ d_SF_predict_79 d_SF_predict_82 d_SF_predict_83 d_SF_predict_85 d_SF_predict_88
            · rw [if_neg q12] at hf
              cases hf
              exact ar_throw (E := "java/lang/IllegalArgumentException") (tx := "no such colours, bits or columns") (names := ["java/lang/RuntimeException", "java/lang/Exception"]) O hE hln wd_51 wd_52 wd_53 (by decide +kernel) (by decide) at_SF_114 ⟨by decide +kernel, by decide +kernel⟩ ⟨by decide, Nat.le_of_ble_eq_true rfl, by decide, by decide⟩ d_SF_predict_49 d_SF_predict_52 d_SF_predict_53 d_SF_predict_55 d_SF_predict_58
  · rw [if_pos q4] at hf
    cases hf
    exact ar_throw (E := "java/lang/IllegalArgumentException") (tx := "no such predictor") (names := ["java/lang/RuntimeException", "java/lang/Exception"]) O hE hln wd_51 wd_52 wd_53 (by decide +kernel) (by decide) at_SF_114 ⟨by decide +kernel, by decide +kernel⟩ ⟨by decide, Nat.le_of_ble_eq_true rfl, by decide, by decide⟩ d_SF_predict_7 d_SF_predict_10 d_SF_predict_11 d_SF_predict_13 d_SF_predict_16
theorem ct_SF_predict {ln : Launch} (hln : ln.stackTraces = false) {n0 : Nat} {h0 h' : mH} {a0 : Nat} {x1 : Int32} {x2 : Int32} {x3 : Int32} {x4 : Int32} {k : Nat} (hf : f_SF_predict n0 h0 a0 x1 x2 x3 x4 = some (.inr k, h')) : mMetT ln y_SF_predict b_SF_predict 5 none (mRx 6 1 6 90) [.ref a0, .int x1, .int x2, .int x3, .int x4] h0 (mEx k) := mMetT_of (by decide +kernel) (Nat.le_of_ble_eq_true rfl) (fun X ad O hE => cbt_SF_predict hln O k h' hE n0 h0 a0 x1 x2 x3 x4 hf)
/-! ===== StreamFilters.budget(I)I ===== -/
theorem d_SF_budget_0 : decode b_SF_budget 0 = .ok (.iload_n 1, 1) := by decide +kernel
theorem d_SF_budget_1 : decode b_SF_budget 1 = .ok (.ifCond .lt 9, 3) := by decide +kernel
theorem d_SF_budget_4 : decode b_SF_budget 4 = .ok (.iload_n 1, 1) := by decide +kernel
theorem d_SF_budget_5 : decode b_SF_budget 5 = .ok (.ldc 28, 2) := by decide +kernel
theorem d_SF_budget_7 : decode b_SF_budget 7 = .ok (.if_icmp .le 13, 3) := by decide +kernel
theorem d_SF_budget_10 : decode b_SF_budget 10 = .ok (.new 110, 3) := by decide +kernel
theorem d_SF_budget_13 : decode b_SF_budget 13 = .ok (.dup, 1) := by decide +kernel
theorem d_SF_budget_14 : decode b_SF_budget 14 = .ok (.ldc 160, 2) := by decide +kernel
theorem d_SF_budget_16 : decode b_SF_budget 16 = .ok (.invokespecial 114, 3) := by decide +kernel
theorem d_SF_budget_19 : decode b_SF_budget 19 = .ok (.athrow, 1) := by decide +kernel
theorem d_SF_budget_20 : decode b_SF_budget 20 = .ok (.aload_n 0, 1) := by decide +kernel
theorem d_SF_budget_21 : decode b_SF_budget 21 = .ok (.getfield 29, 3) := by decide +kernel
theorem d_SF_budget_24 : decode b_SF_budget 24 = .ok (.istore_n 2, 1) := by decide +kernel
theorem d_SF_budget_25 : decode b_SF_budget 25 = .ok (.aload_n 0, 1) := by decide +kernel
theorem d_SF_budget_26 : decode b_SF_budget 26 = .ok (.iload_n 1, 1) := by decide +kernel
theorem d_SF_budget_27 : decode b_SF_budget 27 = .ok (.putfield 29, 3) := by decide +kernel
theorem d_SF_budget_30 : decode b_SF_budget 30 = .ok (.iload_n 2, 1) := by decide +kernel
theorem d_SF_budget_31 : decode b_SF_budget 31 = .ok (.ireturn, 1) := by decide +kernel
noncomputable def f_SF_budget  (n0 : Nat) (h0 : mH) (a0 : Nat) (x1 : Int32) : Option ((Int32 ⊕ Nat) × mH) :=
  if x1 < 0 then
    some (.inr 1, h0)
  else
    if x1 ≤ 65536 then
      mgi h0 a0 0 3 fun v3 =>
      mpt h0 a0 0 3 (.int x1) fun h4 =>
      some (.inl v3, h4)
    else
      some (.inr 1, h0)
set_option maxHeartbeats 4000000 in
set_option maxRecDepth 100000 in
theorem cb_SF_budget {X : mX} {ad : Nat → Nat} {ln : Launch} (O : mO X ad R_SF b_SF_budget 3 (mR 6 90) ln) (r' : Int32) (h' : mH) (hE : mEnd X ad (some .int) (some (.int r')) h') (n0 : Nat) (h0 : mH) (a0 : Nat) (x1 : Int32) (hf : f_SF_budget n0 h0 a0 x1 = some (.inl r', h')) : mAW X ad 0 0 0 [(0, .ref a0), (1, .int x1)] [] h0 := by
  unfold f_SF_budget at hf
  refine ax_iload_n O d_SF_budget_0 rfl 1 rfl ?_
  refine ax_if_lt (tgt := 10) O d_SF_budget_1 (by decide) (fun q1 => ?_) (fun q1 => ?_)
  · rw [if_pos q1] at hf
    cases hf
  · rw [if_neg q1] at hf
    refine ax_iload_n O d_SF_budget_4 rfl 1 rfl ?_
    refine ax_ldc (v := 65536) O d_SF_budget_5 wd_46 ?_
    refine ax_icmp_le (tgt := 20) O d_SF_budget_7 (by decide) (fun q2 => ?_) (fun q2 => ?_)
    · rw [if_pos q2] at hf
      refine ax_aload_n O d_SF_budget_20 rfl 0 rfl ?_
      obtain ⟨fv3, v3, cv3, kv3, hf⟩ := mgi_some hf
      refine ax_get O fg_SF_29 cv3 kv3 d_SF_budget_21 ?_
      refine ax_istore_n (lv' := [(2, .int v3), (0, .ref a0), (1, .int x1)]) O d_SF_budget_24 rfl (by decide) rfl ?_
      refine ax_aload_n O d_SF_budget_25 rfl 1 rfl ?_
      refine ax_iload_n O d_SF_budget_26 rfl 2 rfl ?_
      obtain ⟨fh4, h4, ch4, kh4, eh4, hf⟩ := mpt_some hf
      refine ax_put (v := .int x1) O fp_SF_29 ch4 kh4 eh4 rfl rfl d_SF_budget_27 ?_
      refine ax_iload_n O d_SF_budget_30 rfl 0 rfl ?_
      exact ax_retI O hE hf rfl d_SF_budget_31
    · rw [if_neg q2] at hf
      cases hf
theorem c_SF_budget {ln : Launch} {n0 : Nat} {h0 h' : mH} {a0 : Nat} {x1 : Int32} {r' : Int32} (hf : f_SF_budget n0 h0 a0 x1 = some (.inl r', h')) : mMet ln y_SF_budget b_SF_budget 3 (some .int) (mR 6 90) [.ref a0, .int x1] h0 (some (.int r')) h' := mMet_of (by decide +kernel) (Nat.le_of_ble_eq_true rfl) (fun X ad O hE => cb_SF_budget O r' h' hE n0 h0 a0 x1 hf)
set_option maxHeartbeats 4000000 in
set_option maxRecDepth 100000 in
theorem cbt_SF_budget {X : mX} {ad : Nat → Nat} {ln : Launch} (hln : ln.stackTraces = false) (O : mO X ad R_SF b_SF_budget 3 (mRx 6 1 6 90) ln) (k : Nat) (h' : mH) (hE : mEndT X (mEx k)) (n0 : Nat) (h0 : mH) (a0 : Nat) (x1 : Int32) (hf : f_SF_budget n0 h0 a0 x1 = some (.inr k, h')) : mAR X ad 0 0 0 [(0, .ref a0), (1, .int x1)] [] h0 := by
  unfold f_SF_budget at hf
  refine ar_iload_n O d_SF_budget_0 rfl 1 rfl ?_
  refine ar_if_lt (tgt := 10) O d_SF_budget_1 (by decide) (fun q1 => ?_) (fun q1 => ?_)
  · rw [if_pos q1] at hf
    cases hf
    exact ar_throw (E := "java/lang/IllegalArgumentException") (tx := "no such budget") (names := ["java/lang/RuntimeException", "java/lang/Exception"]) O hE hln wd_51 wd_52 wd_53 (by decide +kernel) (by decide) at_SF_114 ⟨by decide +kernel, by decide +kernel⟩ ⟨by decide, Nat.le_of_ble_eq_true rfl, by decide, by decide⟩ d_SF_budget_10 d_SF_budget_13 d_SF_budget_14 d_SF_budget_16 d_SF_budget_19
  · rw [if_neg q1] at hf
    refine ar_iload_n O d_SF_budget_4 rfl 1 rfl ?_
    refine ar_ldc (v := 65536) O d_SF_budget_5 wd_46 ?_
    refine ar_icmp_le (tgt := 20) O d_SF_budget_7 (by decide) (fun q2 => ?_) (fun q2 => ?_)
    · rw [if_pos q2] at hf
      skip
      obtain ⟨fv3, v3, cv3, kv3, hf⟩ := mgi_some hf
      obtain ⟨fh4, h4, ch4, kh4, eh4, hf⟩ := mpt_some hf
      cases hf
    · rw [if_neg q2] at hf
      cases hf
      exact ar_throw (E := "java/lang/IllegalArgumentException") (tx := "no such budget") (names := ["java/lang/RuntimeException", "java/lang/Exception"]) O hE hln wd_51 wd_52 wd_53 (by decide +kernel) (by decide) at_SF_114 ⟨by decide +kernel, by decide +kernel⟩ ⟨by decide, Nat.le_of_ble_eq_true rfl, by decide, by decide⟩ d_SF_budget_10 d_SF_budget_13 d_SF_budget_14 d_SF_budget_16 d_SF_budget_19
theorem ct_SF_budget {ln : Launch} (hln : ln.stackTraces = false) {n0 : Nat} {h0 h' : mH} {a0 : Nat} {x1 : Int32} {k : Nat} (hf : f_SF_budget n0 h0 a0 x1 = some (.inr k, h')) : mMetT ln y_SF_budget b_SF_budget 3 (some .int) (mRx 6 1 6 90) [.ref a0, .int x1] h0 (mEx k) := mMetT_of (by decide +kernel) (Nat.le_of_ble_eq_true rfl) (fun X ad O hE => cbt_SF_budget hln O k h' hE n0 h0 a0 x1 hf)
/-! ===== StreamFilters.keep()I ===== -/
theorem d_SF_keep_0 : decode b_SF_keep 0 = .ok (.aload_n 0, 1) := by decide +kernel
theorem d_SF_keep_1 : decode b_SF_keep 1 = .ok (.getfield 83, 3) := by decide +kernel
theorem d_SF_keep_4 : decode b_SF_keep 4 = .ok (.ifCond .eq 37, 3) := by decide +kernel
theorem d_SF_keep_7 : decode b_SF_keep 7 = .ok (.aload_n 0, 1) := by decide +kernel
theorem d_SF_keep_8 : decode b_SF_keep 8 = .ok (.getfield 80, 3) := by decide +kernel
theorem d_SF_keep_11 : decode b_SF_keep 11 = .ok (.getfield 97, 3) := by decide +kernel
theorem d_SF_keep_14 : decode b_SF_keep 14 = .ok (.sipush 16384, 3) := by decide +kernel
theorem d_SF_keep_17 : decode b_SF_keep 17 = .ok (.if_icmp .le 13, 3) := by decide +kernel
theorem d_SF_keep_20 : decode b_SF_keep 20 = .ok (.new 135, 3) := by decide +kernel
theorem d_SF_keep_23 : decode b_SF_keep 23 = .ok (.dup, 1) := by decide +kernel
theorem d_SF_keep_24 : decode b_SF_keep 24 = .ok (.ldc 202, 2) := by decide +kernel
theorem d_SF_keep_26 : decode b_SF_keep 26 = .ok (.invokespecial 139, 3) := by decide +kernel
theorem d_SF_keep_29 : decode b_SF_keep 29 = .ok (.athrow, 1) := by decide +kernel
theorem d_SF_keep_30 : decode b_SF_keep 30 = .ok (.aload_n 0, 1) := by decide +kernel
theorem d_SF_keep_31 : decode b_SF_keep 31 = .ok (.getfield 14, 3) := by decide +kernel
theorem d_SF_keep_34 : decode b_SF_keep 34 = .ok (.aload_n 0, 1) := by decide +kernel
theorem d_SF_keep_35 : decode b_SF_keep 35 = .ok (.getfield 80, 3) := by decide +kernel
theorem d_SF_keep_38 : decode b_SF_keep 38 = .ok (.invokevirtual 169, 3) := by decide +kernel
theorem d_SF_keep_41 : decode b_SF_keep 41 = .ok (.aload_n 0, 1) := by decide +kernel
theorem d_SF_keep_42 : decode b_SF_keep 42 = .ok (.getfield 14, 3) := by decide +kernel
theorem d_SF_keep_45 : decode b_SF_keep 45 = .ok (.getfield 97, 3) := by decide +kernel
theorem d_SF_keep_48 : decode b_SF_keep 48 = .ok (.ireturn, 1) := by decide +kernel
noncomputable def f_SF_keep  (n0 : Nat) (h0 : mH) (a0 : Nat) : Option ((Int32 ⊕ Nat) × mH) :=
  mgi h0 a0 0 13 fun v1 =>
  if v1 = 0 then
    mgr h0 a0 0 0 fun r3 =>
    mgi h0 r3 1 1 fun v4 =>
    some (.inl v4, h0)
  else
    mgr h0 a0 0 12 fun r5 =>
    mgi h0 r5 1 1 fun v6 =>
    if v6 ≤ 16384 then
      mgr h0 a0 0 0 fun r8 =>
      mgr h0 a0 0 12 fun r9 =>
      mis h0 r8 1 <|
      mcl (f_By_become n0 h0 r8 r9) fun _ h12 =>
      mgr h12 a0 0 0 fun r14 =>
      mgi h12 r14 1 1 fun v15 =>
      some (.inl v15, h12)
    else
      some (.inr 2, h0)
set_option maxHeartbeats 4000000 in
set_option maxRecDepth 100000 in
theorem cb_SF_keep {X : mX} {ad : Nat → Nat} {ln : Launch} (O : mO X ad R_SF b_SF_keep 1 (mR 6 90) ln) (r' : Int32) (h' : mH) (hE : mEnd X ad (some .int) (some (.int r')) h') (n0 : Nat) (h0 : mH) (a0 : Nat) (hf : f_SF_keep n0 h0 a0 = some (.inl r', h')) : mAW X ad 0 0 0 [(0, .ref a0)] [] h0 := by
  unfold f_SF_keep at hf
  refine ax_aload_n O d_SF_keep_0 rfl 0 rfl ?_
  obtain ⟨fv1, v1, cv1, kv1, hf⟩ := mgi_some hf
  refine ax_get O fg_SF_83 cv1 kv1 d_SF_keep_1 ?_
  refine ax_if_eq (tgt := 41) O d_SF_keep_4 (by decide) (fun q2 => ?_) (fun q2 => ?_)
  · rw [if_pos q2] at hf
    refine ax_aload_n O d_SF_keep_41 rfl 0 rfl ?_
    obtain ⟨fr3, r3, cr3, kr3, hf⟩ := mgr_some hf
    refine ax_get O fg_SF_14 cr3 kr3 d_SF_keep_42 ?_
    obtain ⟨fv4, v4, cv4, kv4, hf⟩ := mgi_some hf
    refine ax_get O fg_SF_97 cv4 kv4 d_SF_keep_45 ?_
    exact ax_retI O hE hf rfl d_SF_keep_48
  · rw [if_neg q2] at hf
    refine ax_aload_n O d_SF_keep_7 rfl 0 rfl ?_
    obtain ⟨fr5, r5, cr5, kr5, hf⟩ := mgr_some hf
    refine ax_get O fg_SF_80 cr5 kr5 d_SF_keep_8 ?_
    obtain ⟨fv6, v6, cv6, kv6, hf⟩ := mgi_some hf
    refine ax_get O fg_SF_97 cv6 kv6 d_SF_keep_11 ?_
    refine ax_sipush (v := 16384) O d_SF_keep_14 (by decide) ?_
    refine ax_icmp_le (tgt := 30) O d_SF_keep_17 (by decide) (fun q7 => ?_) (fun q7 => ?_)
    · rw [if_pos q7] at hf
      refine ax_aload_n O d_SF_keep_30 rfl 0 rfl ?_
      obtain ⟨fr8, r8, cr8, kr8, hf⟩ := mgr_some hf
      refine ax_get O fg_SF_14 cr8 kr8 d_SF_keep_31 ?_
      refine ax_aload_n O d_SF_keep_34 rfl 0 rfl ?_
      obtain ⟨fr9, r9, cr9, kr9, hf⟩ := mgr_some hf
      refine ax_get O fg_SF_80 cr9 kr9 d_SF_keep_35 ?_
      obtain ⟨fh12, ch12, hf⟩ := mis_some hf
      obtain ⟨u13, h12, mh12, hf⟩ := mcl_some hf
      refine ax_callV (As := [.ref r9]) (rest := []) O cw_By_become (q := (R_By, T_By, 2)) rfl rfl in_By_become se_By_become lk_SF_169 ch12 (c_By_become mh12) rfl ⟨rfl, rfl⟩ (by decide) (by decide) (Nat.le_of_ble_eq_true rfl) d_SF_keep_38 ?_
      refine ax_aload_n O d_SF_keep_41 rfl 0 rfl ?_
      obtain ⟨fr14, r14, cr14, kr14, hf⟩ := mgr_some hf
      refine ax_get O fg_SF_14 cr14 kr14 d_SF_keep_42 ?_
      obtain ⟨fv15, v15, cv15, kv15, hf⟩ := mgi_some hf
      refine ax_get O fg_SF_97 cv15 kv15 d_SF_keep_45 ?_
      exact ax_retI O hE hf rfl d_SF_keep_48
    · rw [if_neg q7] at hf
      cases hf
theorem c_SF_keep {ln : Launch} {n0 : Nat} {h0 h' : mH} {a0 : Nat} {r' : Int32} (hf : f_SF_keep n0 h0 a0 = some (.inl r', h')) : mMet ln y_SF_keep b_SF_keep 1 (some .int) (mR 6 90) [.ref a0] h0 (some (.int r')) h' := mMet_of (by decide +kernel) (Nat.le_of_ble_eq_true rfl) (fun X ad O hE => cb_SF_keep O r' h' hE n0 h0 a0 hf)
set_option maxHeartbeats 4000000 in
set_option maxRecDepth 100000 in
theorem cbt_SF_keep {X : mX} {ad : Nat → Nat} {ln : Launch} (hln : ln.stackTraces = false) (O : mO X ad R_SF b_SF_keep 1 (mRx 6 1 6 90) ln) (k : Nat) (h' : mH) (hE : mEndT X (mEx k)) (n0 : Nat) (h0 : mH) (a0 : Nat) (hf : f_SF_keep n0 h0 a0 = some (.inr k, h')) : mAR X ad 0 0 0 [(0, .ref a0)] [] h0 := by
  unfold f_SF_keep at hf
  refine ar_aload_n O d_SF_keep_0 rfl 0 rfl ?_
  obtain ⟨fv1, v1, cv1, kv1, hf⟩ := mgi_some hf
  refine ar_get O fg_SF_83 cv1 kv1 d_SF_keep_1 ?_
  refine ar_if_eq (tgt := 41) O d_SF_keep_4 (by decide) (fun q2 => ?_) (fun q2 => ?_)
  · rw [if_pos q2] at hf
    skip
    obtain ⟨fr3, r3, cr3, kr3, hf⟩ := mgr_some hf
    obtain ⟨fv4, v4, cv4, kv4, hf⟩ := mgi_some hf
    cases hf
  · rw [if_neg q2] at hf
    refine ar_aload_n O d_SF_keep_7 rfl 0 rfl ?_
    obtain ⟨fr5, r5, cr5, kr5, hf⟩ := mgr_some hf
    refine ar_get O fg_SF_80 cr5 kr5 d_SF_keep_8 ?_
    obtain ⟨fv6, v6, cv6, kv6, hf⟩ := mgi_some hf
    refine ar_get O fg_SF_97 cv6 kv6 d_SF_keep_11 ?_
    refine ar_sipush (v := 16384) O d_SF_keep_14 (by decide) ?_
    refine ar_icmp_le (tgt := 30) O d_SF_keep_17 (by decide) (fun q7 => ?_) (fun q7 => ?_)
    · rw [if_pos q7] at hf
      skip
      obtain ⟨fr8, r8, cr8, kr8, hf⟩ := mgr_some hf
      obtain ⟨fr9, r9, cr9, kr9, hf⟩ := mgr_some hf
      obtain ⟨fh12, ch12, hf⟩ := mis_some hf
      obtain ⟨u13, h12, mh12, hf⟩ := mcl_some hf
      obtain ⟨fr14, r14, cr14, kr14, hf⟩ := mgr_some hf
      obtain ⟨fv15, v15, cv15, kv15, hf⟩ := mgi_some hf
      cases hf
    · rw [if_neg q7] at hf
      cases hf
      exact ar_throw (E := "java/lang/IllegalStateException") (tx := "the result is longer than a row") (names := ["java/lang/RuntimeException", "java/lang/Exception"]) O hE hln wd_54 wd_55 wd_56 (by decide +kernel) (by decide) at_SF_139 ⟨by decide +kernel, by decide +kernel⟩ ⟨by decide, Nat.le_of_ble_eq_true rfl, by decide, by decide⟩ d_SF_keep_20 d_SF_keep_23 d_SF_keep_24 d_SF_keep_26 d_SF_keep_29
theorem ct_SF_keep {ln : Launch} (hln : ln.stackTraces = false) {n0 : Nat} {h0 h' : mH} {a0 : Nat} {k : Nat} (hf : f_SF_keep n0 h0 a0 = some (.inr k, h')) : mMetT ln y_SF_keep b_SF_keep 1 (some .int) (mRx 6 1 6 90) [.ref a0] h0 (mEx k) := mMetT_of (by decide +kernel) (Nat.le_of_ble_eq_true rfl) (fun X ad O hE => cbt_SF_keep hln O k h' hE n0 h0 a0 hf)
