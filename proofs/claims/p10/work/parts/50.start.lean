theorem wd_74 : Cond.instantiable R_SF 17 ∈ mGood := mg_of (i := 79) (by decide +kernel) rfl
theorem wd_75 : Cond.instantiable R_By 2 ∈ mGood := mg_of (i := 87) (by decide +kernel) rfl
theorem wd_76 : Cond.instantiable R_Co 5 ∈ mGood := mg_of (i := 157) (by decide +kernel) rfl
theorem wd_77 : Cond.instantiable R_Fl 6 ∈ mGood := mg_of (i := 148) (by decide +kernel) rfl
theorem wd_78 : Cond.instantiable R_Hx 0 ∈ mGood := mg_of (i := 248) (by decide +kernel) rfl
theorem wd_79 : Cond.instantiable R_Le 0 ∈ mGood := mg_of (i := 255) (by decide +kernel) rfl
theorem wd_80 : Cond.instantiable R_Li 6 ∈ mGood := mg_of (i := 261) (by decide +kernel) rfl
theorem wd_81 : Cond.instantiable R_Lz 5 ∈ mGood := mg_of (i := 213) (by decide +kernel) rfl
theorem wd_82 : Cond.instantiable R_Pa 7 ∈ mGood := mg_of (i := 113) (by decide +kernel) rfl
theorem wd_83 : Cond.instantiable R_T8 2 ∈ mGood := mg_of (i := 235) (by decide +kernel) rfl
theorem wd_84 : Cond.instantiable R_Mo 31 ∈ mGood := mg_of (i := 808) (by decide +kernel) rfl
theorem wd_85 : Cond.arrayClass .long ∈ mGood := mg_of (i := 1134) (by decide +kernel) rfl
theorem lk_La_37 : mLk R_La 37 y_SF_init := Or.inl (mg_of (i := 80) (by decide +kernel) rfl)
theorem lk_La_40 : mLk R_La 40 y_Mo_init := Or.inl (mg_of (i := 809) (by decide +kernel) rfl)
theorem nc_La_8 : mNc R_La 8 0 [.null, .null, .int 0, .int 0, .null, .null, .null, .null, .null, .null, .null, .null, .null, .int 0, .int 0, .int 0, .int 0] := ⟨R_SF, T_SF, ty_SF, rfl, in_SF, tyok_SF, mg_of (i := 78) (by decide +kernel) rfl, mg_of (i := 79) (by decide +kernel) rfl, mg_of (i := 58) (by decide +kernel) rfl, by decide +kernel, rfl⟩
theorem nc_La_38 : mNc R_La 38 10 [.int 0, .int 0, .null, .int 0, .null, .null, .null, .null, .null, .null, .int 0, .int 0, .null, .int 0, .null, .int 0, .int 0, .int 0, .int 0, .int 0, .null, .null, .null, .null, .null, .int 0, .int 0, .null, .int 0, .int 0, .int 0] := ⟨R_Mo, T_Mo, ty_Mo, rfl, in_Mo, tyok_Mo, mg_of (i := 807) (by decide +kernel) rfl, mg_of (i := 808) (by decide +kernel) rfl, mg_of (i := 70) (by decide +kernel) rfl, by decide +kernel, rfl⟩
set_option maxRecDepth 100000 in
theorem nest_in : ∀ w ∈ mNest, w ∈ lw_tbl := by decide +kernel
set_option maxHeartbeats 4000000 in
set_option maxRecDepth 100000 in
theorem st_K {s : State} {args : Array Value} (hts : ∀ w ∈ lw_tbl, w.before args s = true) : ∃ (D : va_G) (kA : FieldType → ClassId), mK D kA s := by
  have hg : ∀ w ∈ mGood, w.before args s = true := fun w hw => hts w (List.mem_filter.mp hw).1
  obtain ⟨c0, i0, k0⟩ := u_known (C := R_SF) (T := T_SF) (N := 17) (n := 17) hg in_SF (hg _ wd_74)
  obtain ⟨c1, i1, k1⟩ := u_known (C := R_By) (T := T_By) (N := 2) (n := 2) hg in_By (hg _ wd_75)
  obtain ⟨c2, i2, k2⟩ := u_known (C := R_Co) (T := T_Co) (N := 5) (n := 5) hg in_Co (hg _ wd_76)
  obtain ⟨c3, i3, k3⟩ := u_known (C := R_Fl) (T := T_Fl) (N := 6) (n := 6) hg in_Fl (hg _ wd_77)
  obtain ⟨c4, i4, k4⟩ := u_known (C := R_Hx) (T := T_Hx) (N := 0) (n := 0) hg in_Hx (hg _ wd_78)
  obtain ⟨c5, i5, k5⟩ := u_known (C := R_Le) (T := T_Le) (N := 0) (n := 0) hg in_Le (hg _ wd_79)
  obtain ⟨c6, i6, k6⟩ := u_known (C := R_Li) (T := T_Li) (N := 6) (n := 6) hg in_Li (hg _ wd_80)
  obtain ⟨c7, i7, k7⟩ := u_known (C := R_Lz) (T := T_Lz) (N := 5) (n := 5) hg in_Lz (hg _ wd_81)
  obtain ⟨c8, i8, k8⟩ := u_known (C := R_Pa) (T := T_Pa) (N := 7) (n := 7) hg in_Pa (hg _ wd_82)
  obtain ⟨c9, i9, k9⟩ := u_known (C := R_T8) (T := T_T8) (N := 2) (n := 2) hg in_T8 (hg _ wd_83)
  obtain ⟨c10, i10, k10⟩ := u_known (C := R_Mo) (T := T_Mo) (N := 31) (n := 31) hg in_Mo (hg _ wd_84)
  obtain ⟨cb, kb, pb, b1, b2, b3⟩ := Cond.arrayClass_spec (hg _ wd_38)
  obtain ⟨cj, kj, pj, j1, j2, j3⟩ := Cond.arrayClass_spec (hg _ wd_42)
  obtain ⟨cl, kl, pl, l1, l2, l3⟩ := Cond.arrayClass_spec (hg _ wd_85)
  obtain ⟨comp, cq, kq, q1, -, q3, q4, q5⟩ := Cond.arrayOver_spec (hts (Cond.arrayOver (.object "StreamFilters$Link")) (by decide +kernel))
  refine ⟨((fun k => ([c0, c1, c2, c3, c4, c5, c6, c7, c8, c9, c10] : List Nat).getD k 0), (fun k => ([i0, i1, i2, i3, i4, i5, i6, i7, i8, i9, i10] : List (Nat → Nat)).getD k (fun _ => 0))), (fun ty => match ty with | .byte => cb | .int => cj | .long => cl | _ => cq), ?_, ?_, ?_⟩
  · intro k q hq
    match k, hq with
    | 0, hq => cases hq; exact k0
    | 1, hq => cases hq; exact k1
    | 2, hq => cases hq; exact k2
    | 3, hq => cases hq; exact k3
    | 4, hq => cases hq; exact k4
    | 5, hq => cases hq; exact k5
    | 6, hq => cases hq; exact k6
    | 7, hq => cases hq; exact k7
    | 8, hq => cases hq; exact k8
    | 9, hq => cases hq; exact k9
    | 10, hq => cases hq; exact k10
    | k + 11, hq => simp [classes] at hq
  · intro ty hty
    simp only [mTys, List.mem_cons, List.not_mem_nil, or_false] at hty
    rcases hty with rfl | rfl | rfl | rfl
    · exact ⟨fun n z => ⟨fun k h => (by cases h), kb, b2, pb, b3⟩, b1⟩
    · exact ⟨fun n z => ⟨fun k h => (by cases h), kj, j2, pj, j3⟩, j1⟩
    · exact ⟨fun n z => ⟨fun k h => (by cases h), kl, l2, pl, l3⟩, l1⟩
    · exact ⟨fun n z => ⟨fun k h => (by cases h), kq, q3, comp, q4⟩, kq, comp, q3, q4, q1, q5⟩
  · intro w hw
    have hk := mNest_k w hw
    have hb := hts w (nest_in w hw)
    clear hw
    unfold mNk at hk
    split at hk
    · exact va_Nw.of rfl hb
    · exact va_Nw.of rfl hb
    · exact va_Nw.of rfl hb
    · exact va_AO.of hb
    · cases hk
set_option maxRecDepth 100000 in
theorem sx_0 : ∀ j : Nat, j < 19 → Cond.eq (.elem (.static "StreamFilters$Flate" "ORDER" "[I") (.int (Int32.ofNat j))) (.int (mS0 j)) ∈ flatC (Jvm.Cond.and given_1 narrow_1) := by decide +kernel
set_option maxRecDepth 100000 in
theorem sx_1 : ∀ j : Nat, j < 29 → Cond.eq (.elem (.static "StreamFilters$Flate" "LENGTH_STARTS" "[I") (.int (Int32.ofNat j))) (.int (mS1 j)) ∈ flatC (Jvm.Cond.and given_1 narrow_1) := by decide +kernel
set_option maxRecDepth 100000 in
theorem sx_2 : ∀ j : Nat, j < 29 → Cond.eq (.elem (.static "StreamFilters$Flate" "LENGTH_BITS" "[I") (.int (Int32.ofNat j))) (.int (mS2 j)) ∈ flatC (Jvm.Cond.and given_1 narrow_1) := by decide +kernel
set_option maxRecDepth 100000 in
theorem sx_3 : ∀ j : Nat, j < 30 → Cond.eq (.elem (.static "StreamFilters$Flate" "DISTANCE_STARTS" "[I") (.int (Int32.ofNat j))) (.int (mS3 j)) ∈ flatC (Jvm.Cond.and given_1 narrow_1) := by decide +kernel
set_option maxRecDepth 100000 in
theorem sx_4 : ∀ j : Nat, j < 30 → Cond.eq (.elem (.static "StreamFilters$Flate" "DISTANCE_BITS" "[I") (.int (Int32.ofNat j))) (.int (mS4 j)) ∈ flatC (Jvm.Cond.and given_1 narrow_1) := by decide +kernel
set_option maxHeartbeats 4000000 in
set_option maxRecDepth 100000 in
theorem st_T {s : State} {args : Array Value} {A : Nat → Prop} (b : Nat) (hts : ∀ w ∈ lw_tbl, w.before args s = true) (hfl : ∀ w ∈ flatC (Jvm.Cond.and given_1 narrow_1), w.before args s = true) (hA : ∀ a : Nat, a < s.heap.size → ¬ A a) : ∃ ad : Nat → Nat, mT ad A s s.heap ∧ ad 20000 = b := by
  obtain ⟨t0, e0, g0⟩ := va_Tof (tm := .static "StreamFilters$Flate" "ORDER" "[I") (ty := .int) (N := 19) (f := fun j => .int (mS0 j)) (A := A) (by decide) (hfl (Cond.arrayOf (.static "StreamFilters$Flate" "ORDER" "[I") .int) (by decide +kernel)) (va_eqt (hfl (Cond.eq (.length (.static "StreamFilters$Flate" "ORDER" "[I")) (.int 19)) (by decide +kernel))) (fun j hj => va_eqt (hfl _ (sx_0 j hj))) hA
  have z0 := va_Zof (A := A) (hts (Cond.laysStatic "StreamFilters$Flate" "ORDER" "[I") (by decide +kernel)) (hts (Cond.initialized "StreamFilters$Flate") (by decide +kernel)) e0 hA
  obtain ⟨t1, e1, g1⟩ := va_Tof (tm := .static "StreamFilters$Flate" "LENGTH_STARTS" "[I") (ty := .int) (N := 29) (f := fun j => .int (mS1 j)) (A := A) (by decide) (hfl (Cond.arrayOf (.static "StreamFilters$Flate" "LENGTH_STARTS" "[I") .int) (by decide +kernel)) (va_eqt (hfl (Cond.eq (.length (.static "StreamFilters$Flate" "LENGTH_STARTS" "[I")) (.int 29)) (by decide +kernel))) (fun j hj => va_eqt (hfl _ (sx_1 j hj))) hA
  have z1 := va_Zof (A := A) (hts (Cond.laysStatic "StreamFilters$Flate" "LENGTH_STARTS" "[I") (by decide +kernel)) (hts (Cond.initialized "StreamFilters$Flate") (by decide +kernel)) e1 hA
  obtain ⟨t2, e2, g2⟩ := va_Tof (tm := .static "StreamFilters$Flate" "LENGTH_BITS" "[I") (ty := .int) (N := 29) (f := fun j => .int (mS2 j)) (A := A) (by decide) (hfl (Cond.arrayOf (.static "StreamFilters$Flate" "LENGTH_BITS" "[I") .int) (by decide +kernel)) (va_eqt (hfl (Cond.eq (.length (.static "StreamFilters$Flate" "LENGTH_BITS" "[I")) (.int 29)) (by decide +kernel))) (fun j hj => va_eqt (hfl _ (sx_2 j hj))) hA
  have z2 := va_Zof (A := A) (hts (Cond.laysStatic "StreamFilters$Flate" "LENGTH_BITS" "[I") (by decide +kernel)) (hts (Cond.initialized "StreamFilters$Flate") (by decide +kernel)) e2 hA
  obtain ⟨t3, e3, g3⟩ := va_Tof (tm := .static "StreamFilters$Flate" "DISTANCE_STARTS" "[I") (ty := .int) (N := 30) (f := fun j => .int (mS3 j)) (A := A) (by decide) (hfl (Cond.arrayOf (.static "StreamFilters$Flate" "DISTANCE_STARTS" "[I") .int) (by decide +kernel)) (va_eqt (hfl (Cond.eq (.length (.static "StreamFilters$Flate" "DISTANCE_STARTS" "[I")) (.int 30)) (by decide +kernel))) (fun j hj => va_eqt (hfl _ (sx_3 j hj))) hA
  have z3 := va_Zof (A := A) (hts (Cond.laysStatic "StreamFilters$Flate" "DISTANCE_STARTS" "[I") (by decide +kernel)) (hts (Cond.initialized "StreamFilters$Flate") (by decide +kernel)) e3 hA
  obtain ⟨t4, e4, g4⟩ := va_Tof (tm := .static "StreamFilters$Flate" "DISTANCE_BITS" "[I") (ty := .int) (N := 30) (f := fun j => .int (mS4 j)) (A := A) (by decide) (hfl (Cond.arrayOf (.static "StreamFilters$Flate" "DISTANCE_BITS" "[I") .int) (by decide +kernel)) (va_eqt (hfl (Cond.eq (.length (.static "StreamFilters$Flate" "DISTANCE_BITS" "[I")) (.int 30)) (by decide +kernel))) (fun j hj => va_eqt (hfl _ (sx_4 j hj))) hA
  have z4 := va_Zof (A := A) (hts (Cond.laysStatic "StreamFilters$Flate" "DISTANCE_BITS" "[I") (by decide +kernel)) (hts (Cond.initialized "StreamFilters$Flate") (by decide +kernel)) e4 hA
  refine ⟨fun i => if i = 20000 then b else ([t0, t1, t2, t3, t4] : List Nat).getD (i - 10000) 0, ?_, rfl⟩
  intro k q hq
  match k, hq with
  | 0, hq => cases hq; exact ⟨z0, g0⟩
  | 1, hq => cases hq; exact ⟨z1, g1⟩
  | 2, hq => cases hq; exact ⟨z2, g2⟩
  | 3, hq => cases hq; exact ⟨z3, g3⟩
  | 4, hq => cases hq; exact ⟨z4, g4⟩
  | k + 5, hq => simp [mSta] at hq
set_option maxRecDepth 100000 in
theorem sx_str : ∀ q ∈ mStrs, Cond.stringRef q.1 q.2.1 q.2.2 ∈ lw_tbl ∧ q.1 = R_SF := by decide +kernel
set_option maxRecDepth 100000 in
theorem sx_cast : ∀ E ∈ mExs, Cond.castable E E ∈ lw_tbl := by decide +kernel
set_option maxRecDepth 100000 in
theorem sx_not : ∀ q ∈ mNcs, Cond.not (.castable q.1 q.2) ∈ flatC (Jvm.Cond.and given_1 narrow_1) := by decide +kernel
set_option maxHeartbeats 4000000 in
set_option maxRecDepth 100000 in
theorem st_X {s : State} {args : Array Value} {A : Nat → Prop} (hts : ∀ w ∈ lw_tbl, w.before args s = true) (hfl : ∀ w ∈ flatC (Jvm.Cond.and given_1 narrow_1), w.before args s = true) (hA : ∀ a : Nat, a < s.heap.size → ¬ A a) : mTw A s s.heap := by
  have hg : ∀ w ∈ mGood, w.before args s = true := fun w hw => hts w (List.mem_filter.mp hw).1
  obtain ⟨c0, i0, k0⟩ := u_known (C := R_SF) (T := T_SF) (N := 17) (n := 17) hg in_SF (hg _ wd_74)
  have hl1 := hts (Cond.laysStatic Bundle.tN "UNASSIGNED_STACK" Bundle.steD) (by decide +kernel)
  have hl2 := hts (Cond.laysStatic Bundle.tN "SUPPRESSED_SENTINEL" Bundle.listD) (by decide +kernel)
  have hi := hts (Cond.initialized Bundle.tN) (by decide +kernel)
  refine ⟨⟨⟨fun q hq => ?_, fun E hE => va_Nw.of rfl (hts _ (sx_cast E hE))⟩, ⟨va_Zqof hl1 hi (hfl (Cond.isRef (.static Bundle.tN "UNASSIGNED_STACK" Bundle.steD)) (by decide +kernel)) hA, mLs.of hl1 hA⟩, ⟨va_Zqof hl2 hi (hfl (Cond.isRef (.static Bundle.tN "SUPPRESSED_SENTINEL" Bundle.listD)) (by decide +kernel)) hA, mLs.of hl2 hA⟩⟩, fun q hq => va_Nc.of (hfl _ (sx_not q hq))⟩
  obtain ⟨h1, h2⟩ := sx_str q hq
  have hfc : s.vm.findClass q.1 = some c0 := by rw [h2]; exact k0.2.1
  obtain ⟨_, _, _, a, -, -, -, -, -, h3⟩ := Cond.stringRef_spec (args := args) (first := s) (o := none) (idx := []) hfc (hts _ h1)
  exact ⟨a, vk_R.of (A := args) (hts _ h1) h3⟩
