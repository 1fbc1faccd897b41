theorem sb_0 : ∀ j : Nat, j < 19 → 0 ≤ (mS0 j).toInt ∧ (mS0 j).toInt ≤ 18 := by decide
theorem sb_2 : ∀ j : Nat, j < 29 → 0 ≤ (mS2 j).toInt ∧ (mS2 j).toInt ≤ 13 := by decide
theorem sb_4 : ∀ j : Nat, j < 30 → 0 ≤ (mS4 j).toInt ∧ (mS4 j).toInt ≤ 13 := by decide
theorem t_Co_build {F B : mP} {n0 : Nat} (hn0 : big n0) (S : mS) (c : Nat) (x2 x3 : Int32) (hG : G F B S) (hc : isCo c) (q0 : 0 ≤ x2.toInt ∧ x2.toInt ≤ 100000) (q1 : x3.toInt ≤ 100000) : tot (f_Co_build n0 (hp S) c 30 x2 x3) (fun r S => G F B S) := by
  have hd : coD (hp S) c (c + 1) (c + 2) (c + 3) := by
    rcases hc with rfl | rfl | rfl | rfl | rfl <;> exact ⟨⟨Nat.le_of_ble_eq_true rfl, Nat.le_of_ble_eq_true rfl, Nat.le_of_ble_eq_true rfl, Nat.le_of_ble_eq_true rfl⟩, ⟨by decide, by decide, by decide⟩, ⟨by decide, by decide⟩, by decide⟩
  have ha : 30 ≠ c ∧ 30 ≠ c + 1 ∧ 30 ≠ c + 2 ∧ 30 ≠ c + 3 := by
    rcases hc with rfl | rfl | rfl | rfl | rfl <;> decide
  have hb := nC_lt hc
  have hb0 : 4294967296 ≤ n0 := hn0
  obtain ⟨u', l', fc', fp', fs', e⟩ := co_build (n0 := n0) (ns := nC c) (u := S.1 (100 * c + 3)) (l := S.1 (100 * c + 4)) (fc := S.2.1 (c + 1)) (fp := S.2.1 (c + 2)) (fs := S.2.1 (c + 3)) hd ha (hp_30 S) (by decide) (by omega) q0 q1 ⟨by omega, by omega⟩
  rw [co_hp hc, co_hq hc] at e
  rw [e]
  exact tot_end (g_co hc hG)
set_option maxHeartbeats 2000000 in
theorem t_Fl_readHeader_B65 {F B : mP} {n0 : Nat} (hn0 : big n0) (S : mS) (p0 : Int32) (hG : G F B S)  : tot (f_Fl_readHeader_B65 n0 (hp S) 4 p0) (fun r S => G F B S ∧ (r = 0 ∨ r = 1)) := by
  unfold f_Fl_readHeader_B65
  have L0 : (0 : Int32).toInt = 0 := rfl
  have L1 : (1 : Int32).toInt = 1 := rfl
  have L3 : (3 : Int32).toInt = 3 := rfl
  have L8 : (8 : Int32).toInt = 8 := rfl
  have np0 := nt_b p0
  refine ieq_t (fun c1 => ?_) (fun c1 => ?_)
  · have tc1 := congrArg Int32.toInt c1
    refine mis_t (hp_4 _) ?_
    refine mcl_v (t_Pa_fail hn0 _ 3 hG) (fun v12 Sc2 zSc2 => ?_)
    obtain ⟨hGSc2, pv12⟩ := zSc2
    have nv12 := nt_b v12
    refine ieq_t (fun c3 => ?_) (fun c3 => ?_)
    · have tc3 := congrArg Int32.toInt c3
      exact tot_end ⟨hGSc2, Or.inl rfl⟩
    · exact tot_end ⟨hGSc2, Or.inr rfl⟩
  · exact tot_end ⟨hG, Or.inr rfl⟩
set_option maxHeartbeats 2000000 in
theorem t_Fl_readHeader_B64 {F B : mP} {n0 : Nat} (hn0 : big n0) (S : mS)  (hG : G F B S)  : tot (f_Fl_readHeader_B64 n0 (hp S) 4) (fun r S => G F B S ∧ (r = 0 ∨ r = 1)) := by
  unfold f_Fl_readHeader_B64
  have L0 : (0 : Int32).toInt = 0 := rfl
  exact t_Fl_readHeader_B65 hn0 _ 0 hG
set_option maxHeartbeats 2000000 in
theorem t_Fl_readHeader {F B : mP} {n0 : Nat} (hn0 : big n0) (S : mS)  (hG : G F B S)  : tot (f_Fl_readHeader n0 (hp S) 4) (fun r S => G F B S ∧ (r = 0 ∨ r = 1)) := by
  unfold f_Fl_readHeader
  have Lm1 : (-1 : Int32).toInt = -1 := rfl
  have L0 : (0 : Int32).toInt = 0 := rfl
  have L1 : (1 : Int32).toInt = 1 := rfl
  have L7 : (7 : Int32).toInt = 7 := rfl
  have L8 : (8 : Int32).toInt = 8 := rfl
  have L15 : (15 : Int32).toInt = 15 := rfl
  have L16 : (16 : Int32).toInt = 16 := rfl
  have L31 : (31 : Int32).toInt = 31 := rfl
  have L32 : (32 : Int32).toInt = 32 := rfl
  have L256 : (256 : Int32).toInt = 256 := rfl
  refine mis_t (hp_4 _) ?_
  refine mcl_v (t_Pa_nextByte hn0 _ hG) (fun v2 Sc1 zSc1 => ?_)
  have hGSc1 : G F B Sc1 := zSc1
  have nv2 := nt_b v2
  refine mis_t (hp_4 _) ?_
  refine mcl_v (t_Pa_nextByte hn0 _ hGSc1) (fun v5 Sc2 zSc2 => ?_)
  have hGSc2 : G F B Sc2 := zSc2
  have nv5 := nt_b v5
  refine ieq_t (fun c3 => ?_) (fun c3 => ?_)
  · have tc3 := congrArg Int32.toInt c3
    exact tot_end ⟨hGSc2, Or.inl rfl⟩
  · refine ieq_t (fun c4 => ?_) (fun c4 => ?_)
    · have tc4 := congrArg Int32.toInt c4
      exact tot_end ⟨hGSc2, Or.inl rfl⟩
    · refine ilq_t ?_ ?_
      · refine ilq_t ?_ ?_
        · exact t_Fl_readHeader_B64 hn0 _ hGSc2
        · refine ilq_t ?_ ?_
          · refine ilq_t ?_ ?_
            · exact t_Fl_readHeader_B65 hn0 _ 1 hGSc2
            · exact t_Fl_readHeader_B64 hn0 _ hGSc2
          · exact t_Fl_readHeader_B64 hn0 _ hGSc2
      · exact t_Fl_readHeader_B64 hn0 _ hGSc2
set_option maxHeartbeats 2000000 in
theorem t_Fl_readShort {F B : mP} {n0 : Nat} (hn0 : big n0) (S : mS)  (hG : G F B S)  : tot (f_Fl_readShort n0 (hp S) 4) (fun r S => G F B S) := by
  unfold f_Fl_readShort
  have Lm1 : (-1 : Int32).toInt = -1 := rfl
  have L8 : (8 : Int32).toInt = 8 := rfl
  have L256 : (256 : Int32).toInt = 256 := rfl
  refine mis_t (hp_4 _) ?_
  refine mcl_v (t_Pa_nextByte hn0 _ hG) (fun v2 Sc1 zSc1 => ?_)
  have hGSc1 : G F B Sc1 := zSc1
  have nv2 := nt_b v2
  refine mis_t (hp_4 _) ?_
  refine mcl_v (t_Pa_nextByte hn0 _ hGSc1) (fun v5 Sc2 zSc2 => ?_)
  have hGSc2 : G F B Sc2 := zSc2
  have nv5 := nt_b v5
  refine ieq_t (fun c3 => ?_) (fun c3 => ?_)
  · have tc3 := congrArg Int32.toInt c3
    exact tot_end hGSc2
  · refine ieq_t (fun c4 => ?_) (fun c4 => ?_)
    · have tc4 := congrArg Int32.toInt c4
      exact tot_end hGSc2
    · exact tot_end hGSc2
set_option maxHeartbeats 2000000 in
theorem t_Fl_unpackStored {F B : mP} {n0 : Nat} (hn0 : big n0) (S : mS)  (hG : G F B S)  : tot (f_Fl_unpackStored n0 (hp S) 4) (fun r S => G F B S ∧ (r = 0 ∨ r = 1)) := by
  unfold f_Fl_unpackStored
  have Lm1 : (-1 : Int32).toInt = -1 := rfl
  have L0 : (0 : Int32).toInt = 0 := rfl
  have L5 : (5 : Int32).toInt = 5 := rfl
  have L8 : (8 : Int32).toInt = 8 := rfl
  have L65535 : (65535 : Int32).toInt = 65535 := rfl
  refine mcl_v (t_Fl_readShort hn0 _ hG) (fun v2 Sc1 zSc1 => ?_)
  have hGSc1 : G F B Sc1 := zSc1
  have nv2 := nt_b v2
  refine mcl_v (t_Fl_readShort hn0 _ hGSc1) (fun v5 Sc2 zSc2 => ?_)
  have hGSc2 : G F B Sc2 := zSc2
  have nv5 := nt_b v5
  refine ieq_t (fun c3 => ?_) (fun c3 => ?_)
  · have tc3 := congrArg Int32.toInt c3
    exact tot_end ⟨hGSc2, Or.inl rfl⟩
  · refine ieq_t (fun c4 => ?_) (fun c4 => ?_)
    · have tc4 := congrArg Int32.toInt c4
      exact tot_end ⟨hGSc2, Or.inl rfl⟩
    · refine ilq_t ?_ ?_
      · refine mis_t (hp_4 _) ?_
        refine mcl_v (t_Pa_giveAsTheyAre hn0 _ v2 hGSc2) (fun v11 Sc6 zSc6 => ?_)
        obtain ⟨hGSc6, pv11⟩ := zSc6
        have nv11 := nt_b v11
        refine mgd_t (nt_bool (pv11)) ?_
        exact tot_end ⟨hGSc6, pv11⟩
      · refine mis_t (hp_4 _) ?_
        refine mcl_v (t_Pa_fail hn0 _ 5 hGSc2) (fun v15 Sc7 zSc7 => ?_)
        obtain ⟨hGSc7, pv15⟩ := zSc7
        have nv15 := nt_b v15
        refine mgd_t (nt_bool (pv15)) ?_
        exact tot_end ⟨hGSc7, pv15⟩
set_option maxHeartbeats 2000000 in
theorem t_Fl_readDistance_B33 {F B : mP} {n0 : Nat} (hn0 : big n0) (S : mS)  (hG : G F B S)  : tot (f_Fl_readDistance_B33 n0 (hp S) 4) (fun r S => G F B S) := by
  unfold f_Fl_readDistance_B33
  have Lm1 : (-1 : Int32).toInt = -1 := rfl
  have L7 : (7 : Int32).toInt = 7 := rfl
  have L8 : (8 : Int32).toInt = 8 := rfl
  refine mis_t (hp_4 _) ?_
  refine mcl_v (t_Pa_fail hn0 _ 7 hG) (fun v7 Sc1 zSc1 => ?_)
  obtain ⟨hGSc1, pv7⟩ := zSc1
  have nv7 := nt_b v7
  exact tot_end hGSc1
set_option maxHeartbeats 2000000 in
theorem t_Fl_readDistance {F B : mP} {n0 : Nat} (hn0 : big n0) (S : mS) (a1 : Nat) (hG : G F B S) (h_a1 : isCo a1) : tot (f_Fl_readDistance n0 (hp S) 4 a1) (fun r S => G F B S) := by
  unfold f_Fl_readDistance
  have Lm1 : (-1 : Int32).toInt = -1 := rfl
  have L0 : (0 : Int32).toInt = 0 := rfl
  have L2 : (2 : Int32).toInt = 2 := rfl
  have L8 : (8 : Int32).toInt = 8 := rfl
  have L30 : (30 : Int32).toInt = 30 := rfl
  refine mis_t (hp_co h_a1 _) ?_
  refine mcl_v (t_Co_read hn0 _ a1 hG h_a1) (fun v2 Sc1 zSc1 => ?_)
  have hGSc1 : G F B Sc1 := zSc1
  have nv2 := nt_b v2
  refine ieq_t (fun c2 => ?_) (fun c2 => ?_)
  · have tc2 := congrArg Int32.toInt c2
    exact tot_end hGSc1
  · refine ilt_t (fun c3 => ?_) (fun c3 => ?_)
    · exact t_Fl_readDistance_B33 hn0 _ hGSc1
    · have zk5 : (nI 30).toInt = 30 := nI_toInt (by decide)
      refine ile_t (fun c4 => ?_) (fun c4 => ?_)
      · exact t_Fl_readDistance_B33 hn0 _ hGSc1
      · have zk7 : (nI 30).toInt = 30 := nI_toInt (by decide)
        refine ilt_t (fun c6 => ?_) (fun c6 => ?_)
        · refine msl_v (nt_in (by omega) (by omega)) (fun v13 ev13 => ?_)
          have nv13 := nt_b v13
          have bv13 := sb_4 _ (nt_ix (x := v2) (by omega) (by omega))
          rw [← ev13] at bv13
          refine mis_t (hp_4 _) ?_
          refine mcl_v (t_Pa_lowNumber hn0 _ v13 hGSc1 (by omega)) (fun v15 Sc8 zSc8 => ?_)
          obtain ⟨hGSc8, pv15⟩ := zSc8
          have nv15 := nt_b v15
          refine ieq_t (fun c9 => ?_) (fun c9 => ?_)
          · have tc9 := congrArg Int32.toInt c9
            exact tot_end hGSc8
          · refine msl_v (nt_in (by omega) (by omega)) (fun v18 ev18 => ?_)
            have nv18 := nt_b v18
            exact tot_end hGSc8
        · exact t_Fl_readDistance_B33 hn0 _ hGSc1
set_option maxHeartbeats 2000000 in
theorem t_Fl_copy_B28 {F B : mP} {n0 : Nat} (hn0 : big n0) (S : mS)  (hG : G F B S)  : tot (f_Fl_copy_B28 n0 (hp S) 4) (fun r S => G F B S ∧ (r = 0 ∨ r = 1)) := by
  unfold f_Fl_copy_B28
  have L7 : (7 : Int32).toInt = 7 := rfl
  have L8 : (8 : Int32).toInt = 8 := rfl
  refine mis_t (hp_4 _) ?_
  refine mcl_v (t_Pa_fail hn0 _ 7 hG) (fun v4 Sc1 zSc1 => ?_)
  obtain ⟨hGSc1, pv4⟩ := zSc1
  have nv4 := nt_b v4
  refine mgd_t (nt_bool (pv4)) ?_
  exact tot_end ⟨hGSc1, pv4⟩
set_option maxHeartbeats 2000000 in
theorem t_Fl_copy {F B : mP} {n0 : Nat} (hn0 : big n0) (S : mS) (x1 : Int32) (a2 : Nat) (hG : G F B S) (h_a2 : isCo a2) : tot (f_Fl_copy n0 (hp S) 4 x1 a2) (fun r S => G F B S ∧ (r = 0 ∨ r = 1)) := by
  unfold f_Fl_copy
  have Lm1 : (-1 : Int32).toInt = -1 := rfl
  have L0 : (0 : Int32).toInt = 0 := rfl
  have L1 : (1 : Int32).toInt = 1 := rfl
  have L8 : (8 : Int32).toInt = 8 := rfl
  have L29 : (29 : Int32).toInt = 29 := rfl
  have L256 : (256 : Int32).toInt = 256 := rfl
  have nx1 := nt_b x1
  refine mnm_v (fun v1 ev1 => ?_)
  have nv1 := nt_b v1
  refine ilt_t (fun c1 => ?_) (fun c1 => ?_)
  · exact t_Fl_copy_B28 hn0 _ hG
  · have zk3 : (nI 29).toInt = 29 := nI_toInt (by decide)
    refine ile_t (fun c2 => ?_) (fun c2 => ?_)
    · exact t_Fl_copy_B28 hn0 _ hG
    · have zk5 : (nI 29).toInt = 29 := nI_toInt (by decide)
      refine ilt_t (fun c4 => ?_) (fun c4 => ?_)
      · refine msl_v (nt_in (by omega) (by omega)) (fun v11 ev11 => ?_)
        have nv11 := nt_b v11
        have bv11 := sb_2 _ (nt_ix (x := v1) (by omega) (by omega))
        rw [← ev11] at bv11
        refine mis_t (hp_4 _) ?_
        refine mcl_v (t_Pa_lowNumber hn0 _ v11 hG (by omega)) (fun v13 Sc6 zSc6 => ?_)
        obtain ⟨hGSc6, pv13⟩ := zSc6
        have nv13 := nt_b v13
        refine ieq_t (fun c7 => ?_) (fun c7 => ?_)
        · have tc7 := congrArg Int32.toInt c7
          exact tot_end ⟨hGSc6, Or.inl rfl⟩
        · refine mcl_v (t_Fl_readDistance hn0 _ a2 hGSc6 h_a2) (fun v17 Sc8 zSc8 => ?_)
          have hGSc8 : G F B Sc8 := zSc8
          have nv17 := nt_b v17
          refine ieq_t (fun c9 => ?_) (fun c9 => ?_)
          · have tc9 := congrArg Int32.toInt c9
            exact tot_end ⟨hGSc8, Or.inl rfl⟩
          · refine mgr_v (hp_4 _) rfl (fun r20 er20 => ?_)
            have h_r20 : isBy r20 := by rw [er20]; exact hGSc8.2.2.1.2.2
            refine mgi_v (hp_by h_r20 _) rfl (fun v21 ev21 => ?_)
            have nv21 := nt_b v21
            have bv21 := b_by h_r20 hGSc8
            rw [← ev21] at bv21
            have cv21 := nB_lt h_r20
            refine ile_t (fun c10 => ?_) (fun c10 => ?_)
            · refine msl_v (nt_in (by omega) (by omega)) (fun v23 ev23 => ?_)
              have nv23 := nt_b v23
              refine mis_t (hp_4 _) ?_
              refine mcl_v (t_Pa_giveAgain hn0 _ (v21 - v17) (v23 + v13) hGSc8) (fun v25 Sc11 zSc11 => ?_)
              obtain ⟨hGSc11, pv25⟩ := zSc11
              have nv25 := nt_b v25
              refine mgd_t (nt_bool (pv25)) ?_
              exact tot_end ⟨hGSc11, pv25⟩
            · refine mis_t (hp_4 _) ?_
              refine mcl_v (t_Pa_fail hn0 _ 8 hGSc8) (fun v29 Sc12 zSc12 => ?_)
              obtain ⟨hGSc12, pv29⟩ := zSc12
              have nv29 := nt_b v29
              refine mgd_t (nt_bool (pv29)) ?_
              exact tot_end ⟨hGSc12, pv29⟩
      · exact t_Fl_copy_B28 hn0 _ hG
set_option maxHeartbeats 2000000 in
theorem t_Fl_unpackCodes_B57 {F B : mP} {n0 : Nat} (hn0 : big n0) {M : Nat} {K2 : mH → Nat → Nat → Nat → Int32 → Option (Int32 × mH)} (hK2 : ∀ (S : mS) (a1 : Nat) (a2 : Nat) (x3 : Int32), G F B S → isCo a1 → isCo a2 → (1000000 - x3.toInt).toNat < M → tot (K2 (hp S) 4 a1 a2 x3) (fun r S => G F B S ∧ (r = 0 ∨ r = 1))) (S : mS) (a1 : Nat) (a2 : Nat) (x3 : Int32) (p0 : Int32) (hG : G F B S) (h_a1 : isCo a1) (h_a2 : isCo a2) (q0 : x3.toInt < 1000000) (q1 : (1000000 - (x3.toInt + 1)).toNat < M) : tot (f_Fl_unpackCodes_B57 K2 n0 (hp S) 4 a1 a2 x3 p0) (fun r S => G F B S ∧ (r = 0 ∨ r = 1)) := by
  unfold f_Fl_unpackCodes_B57
  have L0 : (0 : Int32).toInt = 0 := rfl
  have L1 : (1 : Int32).toInt = 1 := rfl
  have nx3 := nt_b x3
  have np0 := nt_b p0
  refine ieq_t (fun c1 => ?_) (fun c1 => ?_)
  · have tc1 := congrArg Int32.toInt c1
    exact tot_end ⟨hG, Or.inl rfl⟩
  · refine mnm_v (fun v12 ev12 => ?_)
    have nv12 := nt_b v12
    have kv12 : v12.toInt = x3.toInt + 1 := by rw [ev12]; exact nt_inc (by omega)
    exact hK2 _ a1 a2 v12 hG h_a1 h_a2 (by omega)
set_option maxHeartbeats 2000000 in
theorem t_Fl_unpackCodes_L2 {F B : mP} {n0 : Nat} (hn0 : big n0) : ∀ (n : Nat) (S : mS) (a1 : Nat) (a2 : Nat) (x3 : Int32), G F B S → isCo a1 → isCo a2 → (1000000 - x3.toInt).toNat < n → tot (f_Fl_unpackCodes_L2 n0 n (hp S) 4 a1 a2 x3) (fun r S => G F B S ∧ (r = 0 ∨ r = 1)) := by
  intro n
  induction n with
  | zero =>
    intro S a1 a2 x3 hG h_a1 h_a2 hm
    exact absurd hm (Nat.not_lt_zero _)
  | succ n ih =>
    intro S a1 a2 x3 hG h_a1 h_a2 hm
    rw [f_Fl_unpackCodes_L2.eq_2]
    have Lm1 : (-1 : Int32).toInt = -1 := rfl
    have L0 : (0 : Int32).toInt = 0 := rfl
    have L1 : (1 : Int32).toInt = 1 := rfl
    have L2 : (2 : Int32).toInt = 2 := rfl
    have L8 : (8 : Int32).toInt = 8 := rfl
    have L256 : (256 : Int32).toInt = 256 := rfl
    have L1000000 : (1000000 : Int32).toInt = 1000000 := rfl
    have nx3 := nt_b x3
    refine ile_t (fun c1 => ?_) (fun c1 => ?_)
    · exact tot_end ⟨hG, Or.inl rfl⟩
    · refine mis_t (hp_co h_a1 _) ?_
      refine mcl_v (t_Co_read hn0 _ a1 hG h_a1) (fun v3 Sc2 zSc2 => ?_)
      have hGSc2 : G F B Sc2 := zSc2
      have nv3 := nt_b v3
      refine ieq_t (fun c3 => ?_) (fun c3 => ?_)
      · have tc3 := congrArg Int32.toInt c3
        exact tot_end ⟨hGSc2, Or.inl rfl⟩
      · refine ieq_t (fun c4 => ?_) (fun c4 => ?_)
        · have tc4 := congrArg Int32.toInt c4
          exact tot_end ⟨hGSc2, Or.inr rfl⟩
        · refine ile_t (fun c5 => ?_) (fun c5 => ?_)
          · refine mcl_v (t_Fl_copy hn0 _ v3 a2 hGSc2 h_a2) (fun v9 Sc6 zSc6 => ?_)
            obtain ⟨hGSc6, pv9⟩ := zSc6
            have nv9 := nt_b v9
            exact t_Fl_unpackCodes_B57 hn0 ih _ a1 a2 x3 v9 hGSc6 h_a1 h_a2 (by omega) (by omega)
          · refine mis_t (hp_4 _) ?_
            refine mcl_v (t_Pa_give hn0 _ v3 hGSc2) (fun v14 Sc7 zSc7 => ?_)
            obtain ⟨hGSc7, pv14⟩ := zSc7
            have nv14 := nt_b v14
            exact t_Fl_unpackCodes_B57 hn0 ih _ a1 a2 x3 v14 hGSc7 h_a1 h_a2 (by omega) (by omega)
set_option maxHeartbeats 2000000 in
theorem t_Fl_unpackCodes {F B : mP} {n0 : Nat} (hn0 : big n0) (S : mS) (a1 : Nat) (a2 : Nat) (hG : G F B S) (h_a1 : isCo a1) (h_a2 : isCo a2) : tot (f_Fl_unpackCodes n0 (hp S) 4 a1 a2) (fun r S => G F B S ∧ (r = 0 ∨ r = 1)) := by
  unfold f_Fl_unpackCodes
  have L0 : (0 : Int32).toInt = 0 := rfl
  exact t_Fl_unpackCodes_L2 hn0 n0 _ a1 a2 0 hG h_a1 h_a2 (big_lt hn0 (by omega))
set_option maxHeartbeats 2000000 in
theorem t_Fl_readLengthCodes_B24 {F B : mP} {n0 : Nat} (hn0 : big n0) {M : Nat} {K2 : mH → Nat → Nat → Int32 → Int32 → Option (Int32 × mH)} (hK2 : ∀ (S : mS) (x2 : Int32) (x3 : Int32), G F B S → (0 ≤ x3.toInt) → (19 - x3.toInt).toNat < M → tot (K2 (hp S) 9 4 x2 x3) (fun r S => G F B S ∧ (r = 0 ∨ r = 1))) (S : mS) (x2 : Int32) (x3 : Int32) (p0 : Int32) (hG : G F B S) (q0 : 0 ≤ x3.toInt ∧ x3.toInt < 19) (q1 : (19 - (x3.toInt + 1)).toNat < M) : tot (f_Fl_readLengthCodes_B24 K2 n0 (hp S) 9 4 x2 x3 p0) (fun r S => G F B S ∧ (r = 0 ∨ r = 1)) := by
  unfold f_Fl_readLengthCodes_B24
  have Lm1 : (-1 : Int32).toInt = -1 := rfl
  have L0 : (0 : Int32).toInt = 0 := rfl
  have L1 : (1 : Int32).toInt = 1 := rfl
  have L3 : (3 : Int32).toInt = 3 := rfl
  have L5 : (5 : Int32).toInt = 5 := rfl
  have L19 : (19 : Int32).toInt = 19 := rfl
  have nx2 := nt_b x2
  have nx3 := nt_b x3
  have np0 := nt_b p0
  refine ieq_t (fun c1 => ?_) (fun c1 => ?_)
  · have tc1 := congrArg Int32.toInt c1
    exact tot_end ⟨hG, Or.inl rfl⟩
  · refine mgr_t (v := 30) (hp_9 _) rfl ?_
    refine msl_v (nt_in (by omega) (by omega)) (fun v22 ev22 => ?_)
    have nv22 := nt_b v22
    have bv22 := sb_0 _ (nt_ix (x := x3) (by omega) (by omega))
    rw [← ev22] at bv22
    refine mas_t (hp_30 _) (nt_in (by omega) (by omega)) (ha_30 _ _) ?_
    have hGS2 : G F B (uA S 30 (upd (S.2.1 30) (v22).toNatClampNeg p0)) := G_Ai hG (nb (by decide)) (by decide)
    refine mnm_v (fun v24 ev24 => ?_)
    have nv24 := nt_b v24
    have kv24 : v24.toInt = x3.toInt + 1 := by rw [ev24]; exact nt_inc (by omega)
    exact hK2 _ x2 v24 hGS2 (by omega) (by omega)
set_option maxHeartbeats 2000000 in
theorem t_Fl_readLengthCodes_L2 {F B : mP} {n0 : Nat} (hn0 : big n0) : ∀ (n : Nat) (S : mS) (x2 : Int32) (x3 : Int32), G F B S → (0 ≤ x3.toInt) → (19 - x3.toInt).toNat < n → tot (f_Fl_readLengthCodes_L2 n0 n (hp S) 9 4 x2 x3) (fun r S => G F B S ∧ (r = 0 ∨ r = 1)) := by
  intro n
  induction n with
  | zero =>
    intro S x2 x3 hG q0 hm
    exact absurd hm (Nat.not_lt_zero _)
  | succ n ih =>
    intro S x2 x3 hG q0 hm
    rw [f_Fl_readLengthCodes_L2.eq_2]
    have L0 : (0 : Int32).toInt = 0 := rfl
    have L1 : (1 : Int32).toInt = 1 := rfl
    have L2 : (2 : Int32).toInt = 2 := rfl
    have L3 : (3 : Int32).toInt = 3 := rfl
    have L4 : (4 : Int32).toInt = 4 := rfl
    have L5 : (5 : Int32).toInt = 5 := rfl
    have L6 : (6 : Int32).toInt = 6 := rfl
    have L8 : (8 : Int32).toInt = 8 := rfl
    have L19 : (19 : Int32).toInt = 19 := rfl
    have nx2 := nt_b x2
    have nx3 := nt_b x3
    have zk2 : (nI 19).toInt = 19 := nI_toInt (by decide)
    refine ile_t (fun c1 => ?_) (fun c1 => ?_)
    · refine mgr_t (v := 26) (hp_9 _) rfl ?_
      refine mgr_t (v := 30) (hp_9 _) rfl ?_
      refine mis_t (hp_co co_26 _) ?_
      have zk5 : (nI 19).toInt = 19 := nI_toInt (by decide)
      refine mcl_v (t_Co_build hn0 _ 26 0 (nI 19) hG co_26 (by omega) (by omega)) (fun u4 Sc3 zSc3 => ?_)
      have hGSc3 : G F B Sc3 := zSc3
      refine mgr_t (v := 26) (hp_9 _) rfl ?_
      refine mis_t (hp_co co_26 _) ?_
      refine mcl_v (t_Co_isGood hn0 _ 26 hGSc3 co_26) (fun v12 Sc6 zSc6 => ?_)
      obtain ⟨hGSc6, pv12⟩ := zSc6
      have nv12 := nt_b v12
      refine ieq_t (fun c7 => ?_) (fun c7 => ?_)
      · have tc7 := congrArg Int32.toInt c7
        refine mis_t (hp_4 _) ?_
        refine mcl_v (t_Pa_fail hn0 _ 6 hGSc6) (fun v16 Sc8 zSc8 => ?_)
        obtain ⟨hGSc8, pv16⟩ := zSc8
        have nv16 := nt_b v16
        refine ieq_t (fun c9 => ?_) (fun c9 => ?_)
        · have tc9 := congrArg Int32.toInt c9
          exact tot_end ⟨hGSc8, Or.inl rfl⟩
        · exact tot_end ⟨hGSc8, Or.inr rfl⟩
      · exact tot_end ⟨hGSc6, Or.inr rfl⟩
    · refine ile_t (fun c10 => ?_) (fun c10 => ?_)
      · exact t_Fl_readLengthCodes_B24 hn0 ih _ x2 x3 0 hG (by omega) (by omega)
      · refine mis_t (hp_4 _) ?_
        refine mcl_v (t_Pa_lowNumber hn0 _ 3 hG (by omega)) (fun v26 Sc11 zSc11 => ?_)
        obtain ⟨hGSc11, pv26⟩ := zSc11
        have nv26 := nt_b v26
        exact t_Fl_readLengthCodes_B24 hn0 ih _ x2 x3 v26 hGSc11 (by omega) (by omega)
set_option maxHeartbeats 2000000 in
theorem t_Fl_readLengthCodes {F B : mP} {n0 : Nat} (hn0 : big n0) (S : mS) (x2 : Int32) (hG : G F B S)  : tot (f_Fl_readLengthCodes n0 (hp S) 9 4 x2) (fun r S => G F B S ∧ (r = 0 ∨ r = 1)) := by
  unfold f_Fl_readLengthCodes
  have L0 : (0 : Int32).toInt = 0 := rfl
  have nx2 := nt_b x2
  exact t_Fl_readLengthCodes_L2 hn0 n0 _ x2 0 hG (by omega) (big_lt hn0 (by omega))
set_option maxHeartbeats 2000000 in
theorem t_Fl_readTimes_B31 {F B : mP} {n0 : Nat} (hn0 : big n0) (S : mS) (x1 : Int32) (p0 : Int32) (hG : G F B S) (q0 : p0.toInt ≤ 13) : tot (f_Fl_readTimes_B31 n0 (hp S) x1 p0 4) (fun r S => G F B S ∧ (r.toInt = -1 ∨ (1 ≤ r.toInt ∧ r.toInt ≤ 10000))) := by
  unfold f_Fl_readTimes_B31
  have Lm1 : (-1 : Int32).toInt = -1 := rfl
  have L3 : (3 : Int32).toInt = 3 := rfl
  have L8 : (8 : Int32).toInt = 8 := rfl
  have L11 : (11 : Int32).toInt = 11 := rfl
  have L18 : (18 : Int32).toInt = 18 := rfl
  have nx1 := nt_b x1
  have np0 := nt_b p0
  refine mis_t (hp_4 _) ?_
  refine mcl_v (t_Pa_lowNumber hn0 _ p0 hG (by omega)) (fun v5 Sc1 zSc1 => ?_)
  obtain ⟨hGSc1, pv5⟩ := zSc1
  have nv5 := nt_b v5
  refine ieq_t (fun c2 => ?_) (fun c2 => ?_)
  · have tc2 := congrArg Int32.toInt c2
    exact tot_end ⟨hGSc1, Or.inl rfl⟩
  · refine ieq_t (fun c3 => ?_) (fun c3 => ?_)
    · have tc3 := congrArg Int32.toInt c3
      exact tot_end ⟨hGSc1, Or.inr (by rw [nt_add (by omega) (by omega)]; omega)⟩
    · exact tot_end ⟨hGSc1, Or.inr (by rw [nt_add (by omega) (by omega)]; omega)⟩
set_option maxHeartbeats 2000000 in
theorem t_Fl_readTimes {F B : mP} {n0 : Nat} (hn0 : big n0) (S : mS) (x1 : Int32) (hG : G F B S)  : tot (f_Fl_readTimes n0 (hp S) 4 x1) (fun r S => G F B S ∧ (r.toInt = -1 ∨ (1 ≤ r.toInt ∧ r.toInt ≤ 10000))) := by
  unfold f_Fl_readTimes
  have L1 : (1 : Int32).toInt = 1 := rfl
  have L2 : (2 : Int32).toInt = 2 := rfl
  have L3 : (3 : Int32).toInt = 3 := rfl
  have L7 : (7 : Int32).toInt = 7 := rfl
  have L16 : (16 : Int32).toInt = 16 := rfl
  have L17 : (17 : Int32).toInt = 17 := rfl
  have nx1 := nt_b x1
  refine ile_t (fun c1 => ?_) (fun c1 => ?_)
  · refine ieq_t (fun c2 => ?_) (fun c2 => ?_)
    · have tc2 := congrArg Int32.toInt c2
      exact t_Fl_readTimes_B31 hn0 _ x1 2 hG (by omega)
    · refine ieq_t (fun c3 => ?_) (fun c3 => ?_)
      · have tc3 := congrArg Int32.toInt c3
        exact t_Fl_readTimes_B31 hn0 _ x1 3 hG (by omega)
      · exact t_Fl_readTimes_B31 hn0 _ x1 7 hG (by omega)
  · exact tot_end ⟨hG, Or.inr (by omega)⟩
set_option maxHeartbeats 2000000 in
theorem t_Fl_readLengths_B95 {F B : mP} {n0 : Nat} (hn0 : big n0) (S : mS)  (hG : G F B S)  : tot (f_Fl_readLengths_B95 n0 (hp S) 4) (fun r S => G F B S ∧ (r = 0 ∨ r = 1)) := by
  unfold f_Fl_readLengths_B95
  have L6 : (6 : Int32).toInt = 6 := rfl
  have L8 : (8 : Int32).toInt = 8 := rfl
  refine mis_t (hp_4 _) ?_
  refine mcl_v (t_Pa_fail hn0 _ 6 hG) (fun v15 Sc1 zSc1 => ?_)
  obtain ⟨hGSc1, pv15⟩ := zSc1
  have nv15 := nt_b v15
  refine mgd_t (nt_bool (pv15)) ?_
  exact tot_end ⟨hGSc1, pv15⟩
set_option maxHeartbeats 2000000 in
theorem t_Fl_readLengths_L138 {F B : mP} {n0 : Nat} (hn0 : big n0) {M : Nat} {K5 : mH → Nat → Nat → Int32 → Int32 → Int32 → Option (Int32 × mH)} (hK5 : ∀ (S : mS) (x2 : Int32) (x3 : Int32) (x4 : Int32), G F B S → (0 ≤ x3.toInt ∧ x3.toInt ≤ 1000) → (0 ≤ x4.toInt) → (x2.toInt ≤ 1000) → (x2.toInt - x4.toInt).toNat < M → tot (K5 (hp S) 9 4 x2 x3 x4) (fun r S => G F B S ∧ (r = 0 ∨ r = 1))) : ∀ (n : Nat) (S : mS) (x2 : Int32) (x3 : Int32) (x4 : Int32) (x6 : Int32) (x8 : Int32) (x9 : Int32), G F B S → (0 ≤ x3.toInt ∧ x3.toInt ≤ 1000) → (0 ≤ x4.toInt ∧ x4.toInt < 1000) → (x2.toInt ≤ 1000) → ((x2.toInt - (x4.toInt + 1)).toNat < M) → (1 ≤ x6.toInt ∧ x3.toInt + x6.toInt ≤ 320) → (0 ≤ x9.toInt) → (x6.toInt - x9.toInt).toNat < n → tot (f_Fl_readLengths_L138 K5 n0 n (hp S) 9 4 x2 x3 x4 x6 x8 x9) (fun r S => G F B S ∧ (r = 0 ∨ r = 1)) := by
  intro n
  induction n with
  | zero =>
    intro S x2 x3 x4 x6 x8 x9 hG q0 q1 q2 q3 q4 q5 hm
    exact absurd hm (Nat.not_lt_zero _)
  | succ n ih =>
    intro S x2 x3 x4 x6 x8 x9 hG q0 q1 q2 q3 q4 q5 hm
    rw [f_Fl_readLengths_L138.eq_2]
    have L0 : (0 : Int32).toInt = 0 := rfl
    have L1 : (1 : Int32).toInt = 1 := rfl
    have L3 : (3 : Int32).toInt = 3 := rfl
    have L5 : (5 : Int32).toInt = 5 := rfl
    have nx2 := nt_b x2
    have nx3 := nt_b x3
    have nx4 := nt_b x4
    have nx6 := nt_b x6
    have nx8 := nt_b x8
    have nx9 := nt_b x9
    refine ile_t (fun c1 => ?_) (fun c1 => ?_)
    · refine mnm_v (fun v25 ev25 => ?_)
      have nv25 := nt_b v25
      have kz2 : (x3 + x6 : Int32).toInt = (x3 : Int32).toInt + (x6 : Int32).toInt := nt_add (by omega) (by omega)
      have kv25 : v25.toInt = (x3 + x6).toInt := by rw [ev25]
      refine mnm_v (fun v26 ev26 => ?_)
      have nv26 := nt_b v26
      have kv26 : v26.toInt = x4.toInt + 1 := by rw [ev26]; exact nt_inc (by omega)
      exact hK5 _ x2 v25 v26 hG (by omega) (by omega) (by omega) (by omega)
    · refine mgr_t (v := 30) (hp_9 _) rfl ?_
      have kz3 : (x3 + x9 : Int32).toInt = (x3 : Int32).toInt + (x9 : Int32).toInt := nt_add (by omega) (by omega)
      refine mas_t (hp_30 _) (nt_in (by omega) (by omega)) (ha_30 _ _) ?_
      have hGS4 : G F B (uA S 30 (upd (S.2.1 30) ((x3 + x9)).toNatClampNeg x8)) := G_Ai hG (nb (by decide)) (by decide)
      refine mnm_v (fun v29 ev29 => ?_)
      have nv29 := nt_b v29
      have kv29 : v29.toInt = x9.toInt + 1 := by rw [ev29]; exact nt_inc (by omega)
      exact ih _ x2 x3 x4 x6 x8 v29 hGS4 (by omega) (by omega) (by omega) (by omega) (by omega) (by omega) (by omega)
set_option maxHeartbeats 2000000 in
theorem t_Fl_readLengths_B133 {F B : mP} {n0 : Nat} (hn0 : big n0) {M : Nat} {K5 : mH → Nat → Nat → Int32 → Int32 → Int32 → Option (Int32 × mH)} (hK5 : ∀ (S : mS) (x2 : Int32) (x3 : Int32) (x4 : Int32), G F B S → (0 ≤ x3.toInt ∧ x3.toInt ≤ 1000) → (0 ≤ x4.toInt) → (x2.toInt ≤ 1000) → (x2.toInt - x4.toInt).toNat < M → tot (K5 (hp S) 9 4 x2 x3 x4) (fun r S => G F B S ∧ (r = 0 ∨ r = 1))) (S : mS) (x2 : Int32) (x3 : Int32) (x4 : Int32) (x6 : Int32) (p0 : Int32) (hG : G F B S) (q0 : 0 ≤ x3.toInt ∧ x3.toInt ≤ 1000) (q1 : 0 ≤ x4.toInt ∧ x4.toInt < 1000) (q2 : x2.toInt ≤ 1000) (q3 : (x2.toInt - (x4.toInt + 1)).toNat < M) (q4 : 1 ≤ x6.toInt ∧ x3.toInt + x6.toInt ≤ 320) : tot (f_Fl_readLengths_B133 K5 n0 (hp S) 9 4 x2 x3 x4 x6 p0) (fun r S => G F B S ∧ (r = 0 ∨ r = 1)) := by
  unfold f_Fl_readLengths_B133
  have L0 : (0 : Int32).toInt = 0 := rfl
  have nx2 := nt_b x2
  have nx3 := nt_b x3
  have nx4 := nt_b x4
  have nx6 := nt_b x6
  have np0 := nt_b p0
  exact t_Fl_readLengths_L138 hn0 hK5 n0 _ x2 x3 x4 x6 p0 0 hG (by omega) (by omega) (by omega) (by omega) (by omega) (by omega) (big_lt hn0 (by omega))
set_option maxHeartbeats 2000000 in
theorem t_Fl_readLengths_B68 {F B : mP} {n0 : Nat} (hn0 : big n0) {M : Nat} {K5 : mH → Nat → Nat → Int32 → Int32 → Int32 → Option (Int32 × mH)} (hK5 : ∀ (S : mS) (x2 : Int32) (x3 : Int32) (x4 : Int32), G F B S → (0 ≤ x3.toInt ∧ x3.toInt ≤ 1000) → (0 ≤ x4.toInt) → (x2.toInt ≤ 1000) → (x2.toInt - x4.toInt).toNat < M → tot (K5 (hp S) 9 4 x2 x3 x4) (fun r S => G F B S ∧ (r = 0 ∨ r = 1))) (S : mS) (x2 : Int32) (x3 : Int32) (x4 : Int32) (x5 : Int32) (x6 : Int32) (p0 : Int32) (hG : G F B S) (q0 : 0 ≤ x3.toInt ∧ x3.toInt ≤ 1000) (q1 : 0 ≤ x4.toInt ∧ x4.toInt < 1000) (q2 : x2.toInt ≤ 1000) (q3 : (x2.toInt - (x4.toInt + 1)).toNat < M) (q4 : 1 ≤ x6.toInt ∧ x6.toInt ≤ 10000) (q5 : p0.toInt = 0 → x5.toInt = 16 → 1 ≤ x3.toInt) : tot (f_Fl_readLengths_B68 K5 n0 (hp S) 9 4 x2 x3 x4 x5 x6 p0) (fun r S => G F B S ∧ (r = 0 ∨ r = 1)) := by
  unfold f_Fl_readLengths_B68
  have L0 : (0 : Int32).toInt = 0 := rfl
  have L1 : (1 : Int32).toInt = 1 := rfl
  have L3 : (3 : Int32).toInt = 3 := rfl
  have L5 : (5 : Int32).toInt = 5 := rfl
  have L16 : (16 : Int32).toInt = 16 := rfl
  have nx2 := nt_b x2
  have nx3 := nt_b x3
  have nx4 := nt_b x4
  have nx5 := nt_b x5
  have nx6 := nt_b x6
  have np0 := nt_b p0
  refine ieq_t (fun c1 => ?_) (fun c1 => ?_)
  · have tc1 := congrArg Int32.toInt c1
    have kz3 : (x3 + x6 : Int32).toInt = (x3 : Int32).toInt + (x6 : Int32).toInt := nt_add (by omega) (by omega)
    refine ilt_t (fun c2 => ?_) (fun c2 => ?_)
    · exact t_Fl_readLengths_B95 hn0 _ hG
    · refine mgr_t (v := 30) (hp_9 _) rfl ?_
      refine mln_v (hp_30 _) (fun v20 ev20 => ?_)
      have kv20 : v20.toInt = ((320 : Nat) : Int) := by rw [ev20]; exact nI_toInt (show 320 < 2 ^ 31 by decide)
      have kz5 : (x3 + x6 : Int32).toInt = (x3 : Int32).toInt + (x6 : Int32).toInt := nt_add (by omega) (by omega)
      refine ile_t (fun c4 => ?_) (fun c4 => ?_)
      · refine ile_t (fun c6 => ?_) (fun c6 => ?_)
        · refine ieq_t (fun c7 => ?_) (fun c7 => ?_)
          · have tc7 := congrArg Int32.toInt c7
            refine mgr_t (v := 30) (hp_9 _) rfl ?_
            have kz8 : (x3 - 1 : Int32).toInt = (x3 : Int32).toInt - (1 : Int32).toInt := nt_sub (by omega) (by omega)
            refine mai_v (hp_30 _) (nt_in (by omega) (by omega)) (fun v31 ev31 => ?_)
            have nv31 := nt_b v31
            exact t_Fl_readLengths_B133 hn0 hK5 _ x2 x3 x4 x6 v31 hG (by omega) (by omega) (by omega) (by omega) (by omega)
          · exact t_Fl_readLengths_B133 hn0 hK5 _ x2 x3 x4 x6 0 hG (by omega) (by omega) (by omega) (by omega) (by omega)
        · exact t_Fl_readLengths_B133 hn0 hK5 _ x2 x3 x4 x6 x5 hG (by omega) (by omega) (by omega) (by omega) (by omega)
      · exact t_Fl_readLengths_B95 hn0 _ hG
  · exact t_Fl_readLengths_B95 hn0 _ hG
set_option maxHeartbeats 2000000 in
theorem t_Fl_readLengths_B67 {F B : mP} {n0 : Nat} (hn0 : big n0) {M : Nat} {K5 : mH → Nat → Nat → Int32 → Int32 → Int32 → Option (Int32 × mH)} (hK5 : ∀ (S : mS) (x2 : Int32) (x3 : Int32) (x4 : Int32), G F B S → (0 ≤ x3.toInt ∧ x3.toInt ≤ 1000) → (0 ≤ x4.toInt) → (x2.toInt ≤ 1000) → (x2.toInt - x4.toInt).toNat < M → tot (K5 (hp S) 9 4 x2 x3 x4) (fun r S => G F B S ∧ (r = 0 ∨ r = 1))) (S : mS) (x2 : Int32) (x3 : Int32) (x4 : Int32) (x5 : Int32) (x6 : Int32) (hG : G F B S) (q0 : 0 ≤ x3.toInt ∧ x3.toInt ≤ 1000) (q1 : 0 ≤ x4.toInt ∧ x4.toInt < 1000) (q2 : x2.toInt ≤ 1000) (q3 : (x2.toInt - (x4.toInt + 1)).toNat < M) (q4 : 1 ≤ x6.toInt ∧ x6.toInt ≤ 10000) (q5 : x5.toInt = 16 → 1 ≤ x3.toInt) : tot (f_Fl_readLengths_B67 K5 n0 (hp S) 9 4 x2 x3 x4 x5 x6) (fun r S => G F B S ∧ (r = 0 ∨ r = 1)) := by
  unfold f_Fl_readLengths_B67
  have L0 : (0 : Int32).toInt = 0 := rfl
  have nx2 := nt_b x2
  have nx3 := nt_b x3
  have nx4 := nt_b x4
  have nx5 := nt_b x5
  have nx6 := nt_b x6
  exact t_Fl_readLengths_B68 hn0 hK5 _ x2 x3 x4 x5 x6 0 hG (by omega) (by omega) (by omega) (by omega) (by omega) (by omega)
set_option maxHeartbeats 2000000 in
theorem t_Fl_readLengths_B42 {F B : mP} {n0 : Nat} (hn0 : big n0) {M : Nat} {K5 : mH → Nat → Nat → Int32 → Int32 → Int32 → Option (Int32 × mH)} (hK5 : ∀ (S : mS) (x2 : Int32) (x3 : Int32) (x4 : Int32), G F B S → (0 ≤ x3.toInt ∧ x3.toInt ≤ 1000) → (0 ≤ x4.toInt) → (x2.toInt ≤ 1000) → (x2.toInt - x4.toInt).toNat < M → tot (K5 (hp S) 9 4 x2 x3 x4) (fun r S => G F B S ∧ (r = 0 ∨ r = 1))) (S : mS) (x2 : Int32) (x3 : Int32) (x4 : Int32) (x5 : Int32) (p0 : Int32) (hG : G F B S) (q0 : 0 ≤ x3.toInt ∧ x3.toInt ≤ 1000) (q1 : 0 ≤ x4.toInt ∧ x4.toInt < 1000) (q2 : x2.toInt ≤ 1000) (q3 : (x2.toInt - (x4.toInt + 1)).toNat < M) (q4 : p0.toInt = -1 ∨ (1 ≤ p0.toInt ∧ p0.toInt ≤ 10000)) : tot (f_Fl_readLengths_B42 K5 n0 (hp S) 9 4 x2 x3 x4 x5 p0) (fun r S => G F B S ∧ (r = 0 ∨ r = 1)) := by
  unfold f_Fl_readLengths_B42
  have Lm1 : (-1 : Int32).toInt = -1 := rfl
  have L0 : (0 : Int32).toInt = 0 := rfl
  have L1 : (1 : Int32).toInt = 1 := rfl
  have L16 : (16 : Int32).toInt = 16 := rfl
  have nx2 := nt_b x2
  have nx3 := nt_b x3
  have nx4 := nt_b x4
  have nx5 := nt_b x5
  have np0 := nt_b p0
  refine ieq_t (fun c1 => ?_) (fun c1 => ?_)
  · have tc1 := congrArg Int32.toInt c1
    exact tot_end ⟨hG, Or.inl rfl⟩
  · refine ieq_t (fun c2 => ?_) (fun c2 => ?_)
    · have tc2 := congrArg Int32.toInt c2
      refine ieq_t (fun c3 => ?_) (fun c3 => ?_)
      · have tc3 := congrArg Int32.toInt c3
        exact t_Fl_readLengths_B68 hn0 hK5 _ x2 x3 x4 x5 p0 1 hG (by omega) (by omega) (by omega) (by omega) (by omega) (by omega)
      · exact t_Fl_readLengths_B67 hn0 hK5 _ x2 x3 x4 x5 p0 hG (by omega) (by omega) (by omega) (by omega) (by omega) (by omega)
    · exact t_Fl_readLengths_B67 hn0 hK5 _ x2 x3 x4 x5 p0 hG (by omega) (by omega) (by omega) (by omega) (by omega) (by omega)
set_option maxHeartbeats 2000000 in
theorem t_Fl_readLengths_L5 {F B : mP} {n0 : Nat} (hn0 : big n0) : ∀ (n : Nat) (S : mS) (x2 : Int32) (x3 : Int32) (x4 : Int32), G F B S → (0 ≤ x3.toInt ∧ x3.toInt ≤ 1000) → (0 ≤ x4.toInt) → (x2.toInt ≤ 1000) → (x2.toInt - x4.toInt).toNat < n → tot (f_Fl_readLengths_L5 n0 n (hp S) 9 4 x2 x3 x4) (fun r S => G F B S ∧ (r = 0 ∨ r = 1)) := by
  intro n
  induction n with
  | zero =>
    intro S x2 x3 x4 hG q0 q1 q2 hm
    exact absurd hm (Nat.not_lt_zero _)
  | succ n ih =>
    intro S x2 x3 x4 hG q0 q1 q2 hm
    rw [f_Fl_readLengths_L5.eq_2]
    have Lm1 : (-1 : Int32).toInt = -1 := rfl
    have L0 : (0 : Int32).toInt = 0 := rfl
    have L1 : (1 : Int32).toInt = 1 := rfl
    have L2 : (2 : Int32).toInt = 2 := rfl
    have L3 : (3 : Int32).toInt = 3 := rfl
    have L4 : (4 : Int32).toInt = 4 := rfl
    have nx2 := nt_b x2
    have nx3 := nt_b x3
    have nx4 := nt_b x4
    refine ile_t (fun c1 => ?_) (fun c1 => ?_)
    · exact tot_end ⟨hG, Or.inr rfl⟩
    · refine ile_t (fun c2 => ?_) (fun c2 => ?_)
      · exact tot_end ⟨hG, Or.inr rfl⟩
      · refine mgr_t (v := 26) (hp_9 _) rfl ?_
        refine mis_t (hp_co co_26 _) ?_
        refine mcl_v (t_Co_read hn0 _ 26 hG co_26) (fun v5 Sc3 zSc3 => ?_)
        have hGSc3 : G F B Sc3 := zSc3
        have nv5 := nt_b v5
        refine ieq_t (fun c4 => ?_) (fun c4 => ?_)
        · have tc4 := congrArg Int32.toInt c4
          exact t_Fl_readLengths_B42 hn0 ih _ x2 x3 x4 v5 (-1) hGSc3 (by omega) (by omega) (by omega) (by omega) (by omega)
        · refine mcl_v (t_Fl_readTimes hn0 _ v5 hGSc3) (fun v9 Sc5 zSc5 => ?_)
          obtain ⟨hGSc5, pv9⟩ := zSc5
          have nv9 := nt_b v9
          exact t_Fl_readLengths_B42 hn0 ih _ x2 x3 x4 v5 v9 hGSc5 (by omega) (by omega) (by omega) (by omega) (by omega)
set_option maxHeartbeats 2000000 in
theorem t_Fl_readLengths {F B : mP} {n0 : Nat} (hn0 : big n0) (S : mS) (x2 : Int32) (hG : G F B S) (q0 : x2.toInt ≤ 1000) : tot (f_Fl_readLengths n0 (hp S) 9 4 x2) (fun r S => G F B S ∧ (r = 0 ∨ r = 1)) := by
  unfold f_Fl_readLengths
  have L0 : (0 : Int32).toInt = 0 := rfl
  have nx2 := nt_b x2
  exact t_Fl_readLengths_L5 hn0 n0 _ x2 0 0 hG (by omega) (by omega) (by omega) (big_lt hn0 (by omega))
set_option maxHeartbeats 2000000 in
theorem t_Fl_readCodes_B46 {F B : mP} {n0 : Nat} (hn0 : big n0) (S : mS)  (hG : G F B S)  : tot (f_Fl_readCodes_B46 n0 (hp S) 4) (fun r S => G F B S ∧ (r = 0 ∨ r = 1)) := by
  unfold f_Fl_readCodes_B46
  have L6 : (6 : Int32).toInt = 6 := rfl
  have L8 : (8 : Int32).toInt = 8 := rfl
  refine mis_t (hp_4 _) ?_
  refine mcl_v (t_Pa_fail hn0 _ 6 hG) (fun v15 Sc1 zSc1 => ?_)
  obtain ⟨hGSc1, pv15⟩ := zSc1
  have nv15 := nt_b v15
  refine mgd_t (nt_bool (pv15)) ?_
  exact tot_end ⟨hGSc1, pv15⟩
set_option maxHeartbeats 2000000 in
theorem t_Fl_readCodes_B150 {F B : mP} {n0 : Nat} (hn0 : big n0) (S : mS) (p0 : Int32) (hG : G F B S)  : tot (f_Fl_readCodes_B150 n0 (hp S) 4 p0) (fun r S => G F B S ∧ (r = 0 ∨ r = 1)) := by
  unfold f_Fl_readCodes_B150
  have L0 : (0 : Int32).toInt = 0 := rfl
  have L1 : (1 : Int32).toInt = 1 := rfl
  have L6 : (6 : Int32).toInt = 6 := rfl
  have L8 : (8 : Int32).toInt = 8 := rfl
  have np0 := nt_b p0
  refine ieq_t (fun c1 => ?_) (fun c1 => ?_)
  · have tc1 := congrArg Int32.toInt c1
    refine mis_t (hp_4 _) ?_
    refine mcl_v (t_Pa_fail hn0 _ 6 hG) (fun v46 Sc2 zSc2 => ?_)
    obtain ⟨hGSc2, pv46⟩ := zSc2
    have nv46 := nt_b v46
    refine ieq_t (fun c3 => ?_) (fun c3 => ?_)
    · have tc3 := congrArg Int32.toInt c3
      exact tot_end ⟨hGSc2, Or.inl rfl⟩
    · exact tot_end ⟨hGSc2, Or.inr rfl⟩
  · exact tot_end ⟨hG, Or.inr rfl⟩
set_option maxHeartbeats 2000000 in
theorem t_Fl_readCodes_B149 {F B : mP} {n0 : Nat} (hn0 : big n0) (S : mS)  (hG : G F B S)  : tot (f_Fl_readCodes_B149 n0 (hp S) 4) (fun r S => G F B S ∧ (r = 0 ∨ r = 1)) := by
  unfold f_Fl_readCodes_B149
  have L0 : (0 : Int32).toInt = 0 := rfl
  exact t_Fl_readCodes_B150 hn0 _ 0 hG
set_option maxHeartbeats 2000000 in
theorem t_Fl_readCodes_B145 {F B : mP} {n0 : Nat} (hn0 : big n0) (S : mS)  (hG : G F B S)  : tot (f_Fl_readCodes_B145 n0 (hp S) 4) (fun r S => G F B S ∧ (r = 0 ∨ r = 1)) := by
  unfold f_Fl_readCodes_B145
  have L1 : (1 : Int32).toInt = 1 := rfl
  exact t_Fl_readCodes_B150 hn0 _ 1 hG
set_option maxHeartbeats 2000000 in
theorem t_Fl_readCodes {F B : mP} {n0 : Nat} (hn0 : big n0) (S : mS)  (hG : G F B S)  : tot (f_Fl_readCodes n0 (hp S) 9 4) (fun r S => G F B S ∧ (r = 0 ∨ r = 1)) := by
  unfold f_Fl_readCodes
  have Lm1 : (-1 : Int32).toInt = -1 := rfl
  have L0 : (0 : Int32).toInt = 0 := rfl
  have L1 : (1 : Int32).toInt = 1 := rfl
  have L2 : (2 : Int32).toInt = 2 := rfl
  have L3 : (3 : Int32).toInt = 3 := rfl
  have L4 : (4 : Int32).toInt = 4 := rfl
  have L5 : (5 : Int32).toInt = 5 := rfl
  have L8 : (8 : Int32).toInt = 8 := rfl
  have L30 : (30 : Int32).toInt = 30 := rfl
  have L256 : (256 : Int32).toInt = 256 := rfl
  have L257 : (257 : Int32).toInt = 257 := rfl
  have L286 : (286 : Int32).toInt = 286 := rfl
  refine mis_t (hp_4 _) ?_
  refine mcl_v (t_Pa_lowNumber hn0 _ 5 hG (by omega)) (fun v2 Sc1 zSc1 => ?_)
  obtain ⟨hGSc1, pv2⟩ := zSc1
  have nv2 := nt_b v2
  refine mnm_v (fun v4 ev4 => ?_)
  have nv4 := nt_b v4
  have kz2 : (v2 + 257 : Int32).toInt = (v2 : Int32).toInt + (257 : Int32).toInt := nt_add (by omega) (by omega)
  have kv4 : v4.toInt = (v2 + 257).toInt := by rw [ev4]
  refine mis_t (hp_4 _) ?_
  refine mcl_v (t_Pa_lowNumber hn0 _ 5 hGSc1 (by omega)) (fun v6 Sc3 zSc3 => ?_)
  obtain ⟨hGSc3, pv6⟩ := zSc3
  have nv6 := nt_b v6
  refine mnm_v (fun v8 ev8 => ?_)
  have nv8 := nt_b v8
  have kv8 : v8.toInt = v6.toInt + 1 := by rw [ev8]; exact nt_inc (by omega)
  refine mis_t (hp_4 _) ?_
  refine mcl_v (t_Pa_lowNumber hn0 _ 4 hGSc3 (by omega)) (fun v10 Sc4 zSc4 => ?_)
  obtain ⟨hGSc4, pv10⟩ := zSc4
  have nv10 := nt_b v10
  refine ieq_t (fun c5 => ?_) (fun c5 => ?_)
  · have tc5 := congrArg Int32.toInt c5
    exact tot_end ⟨hGSc4, Or.inl rfl⟩
  · refine ilt_t (fun c6 => ?_) (fun c6 => ?_)
    · exact t_Fl_readCodes_B46 hn0 _ hGSc4
    · refine ile_t (fun c7 => ?_) (fun c7 => ?_)
      · refine mis_t (hp_9 _) ?_
        refine mcl_v (t_Fl_readLengthCodes hn0 _ (v10 + 4) hGSc4) (fun v20 Sc8 zSc8 => ?_)
        obtain ⟨hGSc8, pv20⟩ := zSc8
        have nv20 := nt_b v20
        refine ieq_t (fun c9 => ?_) (fun c9 => ?_)
        · have tc9 := congrArg Int32.toInt c9
          exact tot_end ⟨hGSc8, Or.inl rfl⟩
        · refine mis_t (hp_9 _) ?_
          have kz11 : (v4 + v8 : Int32).toInt = (v4 : Int32).toInt + (v8 : Int32).toInt := nt_add (by omega) (by omega)
          refine mcl_v (t_Fl_readLengths hn0 _ (v4 + v8) hGSc8 (by omega)) (fun v24 Sc10 zSc10 => ?_)
          obtain ⟨hGSc10, pv24⟩ := zSc10
          have nv24 := nt_b v24
          refine ieq_t (fun c12 => ?_) (fun c12 => ?_)
          · have tc12 := congrArg Int32.toInt c12
            exact tot_end ⟨hGSc10, Or.inl rfl⟩
          · refine mgr_t (v := 18) (hp_9 _) rfl ?_
            refine mgr_t (v := 30) (hp_9 _) rfl ?_
            refine mis_t (hp_co co_18 _) ?_
            refine mcl_v (t_Co_build hn0 _ 18 0 v4 hGSc10 co_18 (by omega) (by omega)) (fun u14 Sc13 zSc13 => ?_)
            have hGSc13 : G F B Sc13 := zSc13
            refine mgr_t (v := 22) (hp_9 _) rfl ?_
            refine mgr_t (v := 30) (hp_9 _) rfl ?_
            refine mis_t (hp_co co_22 _) ?_
            refine mcl_v (t_Co_build hn0 _ 22 v4 v8 hGSc13 co_22 (by omega) (by omega)) (fun u16 Sc15 zSc15 => ?_)
            have hGSc15 : G F B Sc15 := zSc15
            refine mgr_t (v := 18) (hp_9 _) rfl ?_
            refine mis_t (hp_co co_18 _) ?_
            refine mcl_v (t_Co_isGood hn0 _ 18 hGSc15 co_18) (fun v41 Sc17 zSc17 => ?_)
            obtain ⟨hGSc17, pv41⟩ := zSc17
            have nv41 := nt_b v41
            refine ieq_t (fun c18 => ?_) (fun c18 => ?_)
            · have tc18 := congrArg Int32.toInt c18
              exact t_Fl_readCodes_B149 hn0 _ hGSc17
            · refine mgr_t (v := 30) (hp_9 _) rfl ?_
              refine mai_v (hp_30 _) (nt_in (by omega) (by omega)) (fun v50 ev50 => ?_)
              have nv50 := nt_b v50
              refine ile_t (fun c19 => ?_) (fun c19 => ?_)
              · exact t_Fl_readCodes_B149 hn0 _ hGSc17
              · refine mgr_t (v := 22) (hp_9 _) rfl ?_
                refine mis_t (hp_co co_22 _) ?_
                refine mcl_v (t_Co_isGood hn0 _ 22 hGSc17 co_22) (fun v54 Sc20 zSc20 => ?_)
                obtain ⟨hGSc20, pv54⟩ := zSc20
                have nv54 := nt_b v54
                refine ieq_t (fun c21 => ?_) (fun c21 => ?_)
                · have tc21 := congrArg Int32.toInt c21
                  refine mgr_t (v := 22) (hp_9 _) rfl ?_
                  refine mis_t (hp_co co_22 _) ?_
                  refine mcl_v (t_Co_isEmpty hn0 _ 22 hGSc20 co_22) (fun v59 Sc22 zSc22 => ?_)
                  obtain ⟨hGSc22, pv59⟩ := zSc22
                  have nv59 := nt_b v59
                  refine ieq_t (fun c23 => ?_) (fun c23 => ?_)
                  · have tc23 := congrArg Int32.toInt c23
                    exact t_Fl_readCodes_B149 hn0 _ hGSc22
                  · exact t_Fl_readCodes_B145 hn0 _ hGSc22
                · exact t_Fl_readCodes_B145 hn0 _ hGSc20
      · exact t_Fl_readCodes_B46 hn0 _ hGSc4
set_option maxHeartbeats 2000000 in
theorem t_Fl_checkOf_L6 {F B : mP} {n0 : Nat} (hn0 : big n0) : ∀ (n : Nat) (S : mS) (a0 : Nat) (x1 : Int32) (x2 : Int32) (x3 : Int32), G F B S → isBy a0 → (65536 - x3.toInt).toNat < n → tot (f_Fl_checkOf_L6 n0 n (hp S) a0 x1 x2 x3) (fun r S => G F B S) := by
  intro n
  induction n with
  | zero =>
    intro S a0 x1 x2 x3 hG h_a0 hm
    exact absurd hm (Nat.not_lt_zero _)
  | succ n ih =>
    intro S a0 x1 x2 x3 hG h_a0 hm
    rw [f_Fl_checkOf_L6.eq_2]
    have L0 : (0 : Int32).toInt = 0 := rfl
    have L1 : (1 : Int32).toInt = 1 := rfl
    have L65521 : (65521 : Int32).toInt = 65521 := rfl
    have L65536 : (65536 : Int32).toInt = 65536 := rfl
    have nx1 := nt_b x1
    have nx2 := nt_b x2
    have nx3 := nt_b x3
    refine mgi_v (hp_by h_a0 _) rfl (fun v1 ev1 => ?_)
    have nv1 := nt_b v1
    have bv1 := b_by h_a0 hG
    rw [← ev1] at bv1
    have cv1 := nB_lt h_a0
    refine ile_t (fun c1 => ?_) (fun c1 => ?_)
    · exact tot_end hG
    · refine mis_t (hp_by h_a0 _) ?_
      refine mcl_v (t_By_byteAt hn0 _ a0 x3 hG h_a0) (fun v4 Sc2 zSc2 => ?_)
      subst zSc2
      have nv4 := nt_b v4
      refine mnm_v (fun v6 ev6 => ?_)
      have nv6 := nt_b v6
      refine mnm_v (fun v7 ev7 => ?_)
      have nv7 := nt_b v7
      refine mnm_v (fun v8 ev8 => ?_)
      have nv8 := nt_b v8
      have kv8 : v8.toInt = x3.toInt + 1 := by rw [ev8]; exact nt_inc (by omega)
      exact ih _ a0 v6 v7 v8 hG h_a0 (by omega)
set_option maxHeartbeats 2000000 in
theorem t_Fl_checkOf {F B : mP} {n0 : Nat} (hn0 : big n0) (S : mS) (a0 : Nat) (hG : G F B S) (h_a0 : isBy a0) : tot (f_Fl_checkOf n0 (hp S) a0) (fun r S => G F B S) := by
  unfold f_Fl_checkOf
  have L0 : (0 : Int32).toInt = 0 := rfl
  have L1 : (1 : Int32).toInt = 1 := rfl
  exact t_Fl_checkOf_L6 hn0 n0 _ a0 1 0 0 hG h_a0 (big_lt hn0 (by omega))
set_option maxHeartbeats 2000000 in
theorem t_Fl_compareCheck_L4 {F B : mP} {n0 : Nat} (hn0 : big n0) : ∀ (n : Nat) (S : mS) (y1 : Int64) (x3 : Int32), G F B S → (4 - x3.toInt).toNat < n → tot (f_Fl_compareCheck_L4 n0 n (hp S) 4 y1 x3) (fun r S => G F B S) := by
  intro n
  induction n with
  | zero =>
    intro S y1 x3 hG hm
    exact absurd hm (Nat.not_lt_zero _)
  | succ n ih =>
    intro S y1 x3 hG hm
    rw [f_Fl_compareCheck_L4.eq_2]
    have Lm1 : (-1 : Int32).toInt = -1 := rfl
    have L0 : (0 : Int32).toInt = 0 := rfl
    have L1 : (1 : Int32).toInt = 1 := rfl
    have L4 : (4 : Int32).toInt = 4 := rfl
    have L8 : (8 : Int32).toInt = 8 := rfl
    have L9 : (9 : Int32).toInt = 9 := rfl
    have L256 : (256 : Int32).toInt = 256 := rfl
    have nx3 := nt_b x3
    refine ile_t (fun c1 => ?_) (fun c1 => ?_)
    · refine mgr_v (hp_4 _) rfl (fun r2 er2 => ?_)
      have h_r2 : isBy r2 := by rw [er2]; exact hG.2.2.1.2.2
      refine mcl_v (t_Fl_checkOf hn0 _ r2 hG h_r2) (fun w3 Sc2 zSc2 => ?_)
      have hGSc2 : G F B Sc2 := zSc2
      refine ilq_t ?_ ?_
      · exact tot_end hGSc2
      · refine mis_t (hp_4 _) ?_
        refine mcl_v (t_Pa_fail hn0 _ 9 hGSc2) (fun v8 Sc4 zSc4 => ?_)
        obtain ⟨hGSc4, pv8⟩ := zSc4
        have nv8 := nt_b v8
        exact tot_end hGSc4
    · refine mis_t (hp_4 _) ?_
      refine mcl_v (t_Pa_nextByte hn0 _ hG) (fun v11 Sc5 zSc5 => ?_)
      have hGSc5 : G F B Sc5 := zSc5
      have nv11 := nt_b v11
      refine ieq_t (fun c6 => ?_) (fun c6 => ?_)
      · have tc6 := congrArg Int32.toInt c6
        exact tot_end hGSc5
      · refine mnm_v (fun v14 ev14 => ?_)
        skip
        refine mnm_v (fun v15 ev15 => ?_)
        have nv15 := nt_b v15
        have kv15 : v15.toInt = x3.toInt + 1 := by rw [ev15]; exact nt_inc (by omega)
        exact ih _ v14 v15 hGSc5 (by omega)
set_option maxHeartbeats 2000000 in
theorem t_Fl_compareCheck {F B : mP} {n0 : Nat} (hn0 : big n0) (S : mS)  (hG : G F B S)  : tot (f_Fl_compareCheck n0 (hp S) 4) (fun r S => G F B S) := by
  unfold f_Fl_compareCheck
  have L0 : (0 : Int32).toInt = 0 := rfl
  exact t_Fl_compareCheck_L4 hn0 n0 _ 0 0 hG (big_lt hn0 (by omega))
set_option maxHeartbeats 2000000 in
theorem t_Fl_unpack_B156 {F B : mP} {n0 : Nat} (hn0 : big n0) (S : mS) (x3 : Int32) (hG : G F B S)  : tot (f_Fl_unpack_B156 n0 (hp S) 4 x3) (fun r S => G F B S) := by
  unfold f_Fl_unpack_B156
  have L0 : (0 : Int32).toInt = 0 := rfl
  have nx3 := nt_b x3
  refine ieq_t (fun c1 => ?_) (fun c1 => ?_)
  · have tc1 := congrArg Int32.toInt c1
    exact tot_end hG
  · refine mcl_v (t_Fl_compareCheck hn0 _ hG) (fun u3 Sc2 zSc2 => ?_)
    have hGSc2 : G F B Sc2 := zSc2
    exact tot_end hGSc2
set_option maxHeartbeats 2000000 in
theorem t_Fl_unpack_B139 {F B : mP} {n0 : Nat} (hn0 : big n0) {M : Nat} {K11 : mH → Nat → Nat → Int32 → Int32 → Int32 → Option (Unit × mH)} (hK11 : ∀ (S : mS) (x3 : Int32) (x4 : Int32) (x5 : Int32), G F B S → (1000000 - x5.toInt).toNat < M → tot (K11 (hp S) 9 4 x3 x4 x5) (fun r S => G F B S)) (S : mS) (x4 : Int32) (x5 : Int32) (hG : G F B S) (q0 : x5.toInt < 1000000) (q1 : (1000000 - (x5.toInt + 1)).toNat < M) : tot (f_Fl_unpack_B139 K11 n0 (hp S) 9 4 x4 x5) (fun r S => G F B S) := by
  unfold f_Fl_unpack_B139
  have L0 : (0 : Int32).toInt = 0 := rfl
  have L1 : (1 : Int32).toInt = 1 := rfl
  have nx4 := nt_b x4
  have nx5 := nt_b x5
  refine mnm_v (fun v35 ev35 => ?_)
  have nv35 := nt_b v35
  have kv35 : v35.toInt = x5.toInt + 1 := by rw [ev35]; exact nt_inc (by omega)
  exact hK11 _ 0 x4 v35 hG (by omega)
set_option maxHeartbeats 2000000 in
theorem t_Fl_unpack_B54 {F B : mP} {n0 : Nat} (hn0 : big n0) {M : Nat} {K11 : mH → Nat → Nat → Int32 → Int32 → Int32 → Option (Unit × mH)} (hK11 : ∀ (S : mS) (x3 : Int32) (x4 : Int32) (x5 : Int32), G F B S → (1000000 - x5.toInt).toNat < M → tot (K11 (hp S) 9 4 x3 x4 x5) (fun r S => G F B S)) (S : mS) (x5 : Int32) (x6 : Int32) (p0 : Int32) (hG : G F B S) (q0 : x5.toInt < 1000000) (q1 : (1000000 - (x5.toInt + 1)).toNat < M) : tot (f_Fl_unpack_B54 K11 n0 (hp S) 9 4 x5 x6 p0) (fun r S => G F B S) := by
  unfold f_Fl_unpack_B54
  have L0 : (0 : Int32).toInt = 0 := rfl
  have L1 : (1 : Int32).toInt = 1 := rfl
  have L2 : (2 : Int32).toInt = 2 := rfl
  have L3 : (3 : Int32).toInt = 3 := rfl
  have L4 : (4 : Int32).toInt = 4 := rfl
  have L8 : (8 : Int32).toInt = 8 := rfl
  have L31 : (31 : Int32).toInt = 31 := rfl
  have nx5 := nt_b x5
  have nx6 := nt_b x6
  have np0 := nt_b p0
  refine mnm_v (fun v17 ev17 => ?_)
  have nv17 := nt_b v17
  refine ieq_t (fun c1 => ?_) (fun c1 => ?_)
  · have tc1 := congrArg Int32.toInt c1
    refine mcl_v (t_Fl_unpackStored hn0 _ hG) (fun v20 Sc2 zSc2 => ?_)
    obtain ⟨hGSc2, pv20⟩ := zSc2
    have nv20 := nt_b v20
    refine mnm_v (fun v22 ev22 => ?_)
    have nv22 := nt_b v22
    have kv22 : v22.toInt = x5.toInt + 1 := by rw [ev22]; exact nt_inc (by omega)
    exact hK11 _ v20 p0 v22 hGSc2 (by omega)
  · refine ieq_t (fun c3 => ?_) (fun c3 => ?_)
    · have tc3 := congrArg Int32.toInt c3
      refine mgr_t (v := 10) (hp_9 _) rfl ?_
      refine mgr_t (v := 14) (hp_9 _) rfl ?_
      refine mcl_v (t_Fl_unpackCodes hn0 _ 10 14 hG co_10 co_14) (fun v27 Sc4 zSc4 => ?_)
      obtain ⟨hGSc4, pv27⟩ := zSc4
      have nv27 := nt_b v27
      refine mnm_v (fun v29 ev29 => ?_)
      have nv29 := nt_b v29
      have kv29 : v29.toInt = x5.toInt + 1 := by rw [ev29]; exact nt_inc (by omega)
      exact hK11 _ v27 p0 v29 hGSc4 (by omega)
    · refine ieq_t (fun c5 => ?_) (fun c5 => ?_)
      · have tc5 := congrArg Int32.toInt c5
        refine mis_t (hp_9 _) ?_
        refine mcl_v (t_Fl_readCodes hn0 _ hG) (fun v32 Sc6 zSc6 => ?_)
        obtain ⟨hGSc6, pv32⟩ := zSc6
        have nv32 := nt_b v32
        refine ieq_t (fun c7 => ?_) (fun c7 => ?_)
        · have tc7 := congrArg Int32.toInt c7
          exact t_Fl_unpack_B139 hn0 hK11 _ p0 x5 hGSc6 (by omega) (by omega)
        · refine mgr_t (v := 18) (hp_9 _) rfl ?_
          refine mgr_t (v := 22) (hp_9 _) rfl ?_
          refine mcl_v (t_Fl_unpackCodes hn0 _ 18 22 hGSc6 co_18 co_22) (fun v39 Sc8 zSc8 => ?_)
          obtain ⟨hGSc8, pv39⟩ := zSc8
          have nv39 := nt_b v39
          refine ieq_t (fun c9 => ?_) (fun c9 => ?_)
          · have tc9 := congrArg Int32.toInt c9
            exact t_Fl_unpack_B139 hn0 hK11 _ p0 x5 hGSc8 (by omega) (by omega)
          · refine mnm_v (fun v42 ev42 => ?_)
            have nv42 := nt_b v42
            have kv42 : v42.toInt = x5.toInt + 1 := by rw [ev42]; exact nt_inc (by omega)
            exact hK11 _ 1 p0 v42 hGSc8 (by omega)
      · refine mis_t (hp_4 _) ?_
        refine mcl_v (t_Pa_fail hn0 _ 4 hG) (fun v44 Sc10 zSc10 => ?_)
        obtain ⟨hGSc10, pv44⟩ := zSc10
        have nv44 := nt_b v44
        refine mnm_v (fun v46 ev46 => ?_)
        have nv46 := nt_b v46
        have kv46 : v46.toInt = x5.toInt + 1 := by rw [ev46]; exact nt_inc (by omega)
        exact hK11 _ v44 p0 v46 hGSc10 (by omega)
set_option maxHeartbeats 2000000 in
theorem t_Fl_unpack_L11 {F B : mP} {n0 : Nat} (hn0 : big n0) : ∀ (n : Nat) (S : mS) (x3 : Int32) (x4 : Int32) (x5 : Int32), G F B S → (1000000 - x5.toInt).toNat < n → tot (f_Fl_unpack_L11 n0 n (hp S) 9 4 x3 x4 x5) (fun r S => G F B S) := by
  intro n
  induction n with
  | zero =>
    intro S x3 x4 x5 hG hm
    exact absurd hm (Nat.not_lt_zero _)
  | succ n ih =>
    intro S x3 x4 x5 hG hm
    rw [f_Fl_unpack_L11.eq_2]
    have Lm1 : (-1 : Int32).toInt = -1 := rfl
    have L0 : (0 : Int32).toInt = 0 := rfl
    have L1 : (1 : Int32).toInt = 1 := rfl
    have L3 : (3 : Int32).toInt = 3 := rfl
    have L8 : (8 : Int32).toInt = 8 := rfl
    have L1000000 : (1000000 : Int32).toInt = 1000000 := rfl
    have nx3 := nt_b x3
    have nx4 := nt_b x4
    have nx5 := nt_b x5
    refine ile_t (fun c1 => ?_) (fun c1 => ?_)
    · exact t_Fl_unpack_B156 hn0 _ x3 hG
    · refine ieq_t (fun c2 => ?_) (fun c2 => ?_)
      · have tc2 := congrArg Int32.toInt c2
        exact t_Fl_unpack_B156 hn0 _ x3 hG
      · refine ieq_t (fun c3 => ?_) (fun c3 => ?_)
        · have tc3 := congrArg Int32.toInt c3
          refine mis_t (hp_4 _) ?_
          refine mcl_v (t_Pa_lowNumber hn0 _ 3 hG (by omega)) (fun v13 Sc4 zSc4 => ?_)
          obtain ⟨hGSc4, pv13⟩ := zSc4
          have nv13 := nt_b v13
          refine ieq_t (fun c5 => ?_) (fun c5 => ?_)
          · have tc5 := congrArg Int32.toInt c5
            exact tot_end hGSc4
          · refine ilq_t ?_ ?_
            · exact t_Fl_unpack_B54 hn0 ih _ x5 v13 1 hGSc4 (by omega) (by omega)
            · exact t_Fl_unpack_B54 hn0 ih _ x5 v13 0 hGSc4 (by omega) (by omega)
        · exact t_Fl_unpack_B156 hn0 _ x3 hG
set_option maxHeartbeats 2000000 in
theorem t_Fl_unpack {F B : mP} {n0 : Nat} (hn0 : big n0) (S : mS) (x2 : Int32) (hG : G F B S)  : tot (f_Fl_unpack n0 (hp S) 9 4 x2) (fun r S => G F B S) := by
  unfold f_Fl_unpack
  have L0 : (0 : Int32).toInt = 0 := rfl
  have nx2 := nt_b x2
  refine mcl_v (t_Fl_readHeader hn0 _ hG) (fun v2 Sc1 zSc1 => ?_)
  obtain ⟨hGSc1, pv2⟩ := zSc1
  have nv2 := nt_b v2
  exact t_Fl_unpack_L11 hn0 n0 _ v2 0 0 hGSc1 (big_lt hn0 (by omega))
