set_option maxHeartbeats 2000000 in
theorem t_Lz_clear {F B : mP} {n0 : Nat} (hn0 : big n0) (S : mS)  (hG : G F B S)  : tot (f_Lz_clear n0 (hp S) 32) (fun r S => G F B S) := by
  unfold f_Lz_clear
  have L0 : (0 : Int32).toInt = 0 := rfl
  have L2 : (2 : Int32).toInt = 2 := rfl
  have L4 : (4 : Int32).toInt = 4 := rfl
  have L7 : (7 : Int32).toInt = 7 := rfl
  have L258 : (258 : Int32).toInt = 258 := rfl
  refine mpt_t (hp_32 _) (Nat.le_of_ble_eq_true rfl) (hs_32_2 _ _) ?_
  have hGS1 : G F B (uV S 3202 (258)) := g_3202 hG (by omega) (by omega)
  refine mpt_t (hp_32 _) (Nat.le_of_ble_eq_true rfl) (hs_32_4 _ _) ?_
  have hGS2 : G F B (uV (uV S 3202 (258)) 3204 (0)) := g_3204 hGS1
  exact tot_end hGS2
set_option maxHeartbeats 2000000 in
theorem t_Lz_widthFor {F B : mP} {n0 : Nat} (hn0 : big n0) (S : mS) (x0 : Int32) (hG : G F B S)  : tot (f_Lz_widthFor n0 (hp S) x0) (fun r S => G F B S) := by
  unfold f_Lz_widthFor
  have L9 : (9 : Int32).toInt = 9 := rfl
  have L10 : (10 : Int32).toInt = 10 := rfl
  have L11 : (11 : Int32).toInt = 11 := rfl
  have L12 : (12 : Int32).toInt = 12 := rfl
  have L512 : (512 : Int32).toInt = 512 := rfl
  have L1024 : (1024 : Int32).toInt = 1024 := rfl
  have L2048 : (2048 : Int32).toInt = 2048 := rfl
  have nx0 := nt_b x0
  refine ilt_t (fun c1 => ?_) (fun c1 => ?_)
  · refine ilt_t (fun c2 => ?_) (fun c2 => ?_)
    · refine ilt_t (fun c3 => ?_) (fun c3 => ?_)
      · exact tot_end hG
      · exact tot_end hG
    · exact tot_end hG
  · exact tot_end hG
set_option maxHeartbeats 2000000 in
theorem t_Lz_sizeOf_B40 {F B : mP} {n0 : Nat} (hn0 : big n0) (S : mS) (x1 : Int32) (hG : G F B S)  : tot (f_Lz_sizeOf_B40 n0 (hp S) 32 x1) (fun r S => G F B S) := by
  unfold f_Lz_sizeOf_B40
  have L0 : (0 : Int32).toInt = 0 := rfl
  have L1 : (1 : Int32).toInt = 1 := rfl
  have L2 : (2 : Int32).toInt = 2 := rfl
  have L4 : (4 : Int32).toInt = 4 := rfl
  have L7 : (7 : Int32).toInt = 7 := rfl
  have nx1 := nt_b x1
  refine mgi_v (hp_32 _) rfl (fun v3 ev3 => ?_)
  have nv3 := nt_b v3
  have bv3 := b_3202 hG
  rw [← ev3] at bv3
  refine ieq_t (fun c1 => ?_) (fun c1 => ?_)
  · have tc1 := congrArg Int32.toInt c1
    refine mgi_v (hp_32 _) rfl (fun v5 ev5 => ?_)
    have nv5 := nt_b v5
    refine ile_t (fun c2 => ?_) (fun c2 => ?_)
    · exact tot_end hG
    · refine mgi_v (hp_32 _) rfl (fun v7 ev7 => ?_)
      have nv7 := nt_b v7
      have fv7 : v7 = v5 := ev7.trans ev5.symm
      have gv7 := congrArg Int32.toInt fv7
      exact tot_end hG
  · exact tot_end hG
set_option maxHeartbeats 2000000 in
theorem t_Lz_sizeOf {F B : mP} {n0 : Nat} (hn0 : big n0) (S : mS) (x1 : Int32) (hG : G F B S)  : tot (f_Lz_sizeOf n0 (hp S) 32 x1) (fun r S => G F B S) := by
  unfold f_Lz_sizeOf
  have L1 : (1 : Int32).toInt = 1 := rfl
  have L2 : (2 : Int32).toInt = 2 := rfl
  have L7 : (7 : Int32).toInt = 7 := rfl
  have L256 : (256 : Int32).toInt = 256 := rfl
  have L258 : (258 : Int32).toInt = 258 := rfl
  have nx1 := nt_b x1
  refine ile_t (fun c1 => ?_) (fun c1 => ?_)
  · refine ilt_t (fun c2 => ?_) (fun c2 => ?_)
    · exact t_Lz_sizeOf_B40 hn0 _ x1 hG
    · refine mgi_v (hp_32 _) rfl (fun v8 ev8 => ?_)
      have nv8 := nt_b v8
      have bv8 := b_3202 hG
      rw [← ev8] at bv8
      refine ile_t (fun c3 => ?_) (fun c3 => ?_)
      · exact t_Lz_sizeOf_B40 hn0 _ x1 hG
      · refine mgr_t (v := 34) (hp_32 _) rfl ?_
        refine mln_v (hp_34 _) (fun v11 ev11 => ?_)
        have kv11 : v11.toInt = ((4096 : Nat) : Int) := by rw [ev11]; exact nI_toInt (show 4096 < 2 ^ 31 by decide)
        refine ile_t (fun c4 => ?_) (fun c4 => ?_)
        · exact t_Lz_sizeOf_B40 hn0 _ x1 hG
        · refine mgr_t (v := 34) (hp_32 _) rfl ?_
          refine mai_v (hp_34 _) (nt_in (by omega) (by omega)) (fun v14 ev14 => ?_)
          have nv14 := nt_b v14
          exact tot_end hG
  · exact tot_end hG
set_option maxHeartbeats 2000000 in
theorem t_Lz_startOf {F B : mP} {n0 : Nat} (hn0 : big n0) (S : mS) (x1 : Int32) (hG : G F B S)  : tot (f_Lz_startOf n0 (hp S) 32 x1) (fun r S => G F B S) := by
  unfold f_Lz_startOf
  have L0 : (0 : Int32).toInt = 0 := rfl
  have L2 : (2 : Int32).toInt = 2 := rfl
  have L3 : (3 : Int32).toInt = 3 := rfl
  have L7 : (7 : Int32).toInt = 7 := rfl
  have nx1 := nt_b x1
  refine ilt_t (fun c1 => ?_) (fun c1 => ?_)
  · refine mgi_v (hp_32 _) rfl (fun v2 ev2 => ?_)
    have nv2 := nt_b v2
    exact tot_end hG
  · refine mgi_v (hp_32 _) rfl (fun v3 ev3 => ?_)
    have nv3 := nt_b v3
    have bv3 := b_3202 hG
    rw [← ev3] at bv3
    refine ile_t (fun c2 => ?_) (fun c2 => ?_)
    · refine mgi_v (hp_32 _) rfl (fun v5 ev5 => ?_)
      have nv5 := nt_b v5
      exact tot_end hG
    · refine mgr_t (v := 33) (hp_32 _) rfl ?_
      refine mln_v (hp_33 _) (fun v7 ev7 => ?_)
      have kv7 : v7.toInt = ((4096 : Nat) : Int) := by rw [ev7]; exact nI_toInt (show 4096 < 2 ^ 31 by decide)
      refine ile_t (fun c3 => ?_) (fun c3 => ?_)
      · refine mgi_v (hp_32 _) rfl (fun v9 ev9 => ?_)
        have nv9 := nt_b v9
        exact tot_end hG
      · refine mgr_t (v := 33) (hp_32 _) rfl ?_
        refine mai_v (hp_33 _) (nt_in (by omega) (by omega)) (fun v11 ev11 => ?_)
        have nv11 := nt_b v11
        exact tot_end hG
set_option maxHeartbeats 2000000 in
theorem t_Lz_makeString {F B : mP} {n0 : Nat} (hn0 : big n0) (S : mS)  (hG : G F B S)  : tot (f_Lz_makeString n0 (hp S) 32) (fun r S => G F B S) := by
  unfold f_Lz_makeString
  have L0 : (0 : Int32).toInt = 0 := rfl
  have L1 : (1 : Int32).toInt = 1 := rfl
  have L2 : (2 : Int32).toInt = 2 := rfl
  have L3 : (3 : Int32).toInt = 3 := rfl
  have L4 : (4 : Int32).toInt = 4 := rfl
  have L7 : (7 : Int32).toInt = 7 := rfl
  refine mgi_v (hp_32 _) rfl (fun v1 ev1 => ?_)
  have nv1 := nt_b v1
  refine ile_t (fun c1 => ?_) (fun c1 => ?_)
  · exact tot_end hG
  · refine mgi_v (hp_32 _) rfl (fun v3 ev3 => ?_)
    have nv3 := nt_b v3
    have bv3 := b_3202 hG
    rw [← ev3] at bv3
    refine mgr_t (v := 33) (hp_32 _) rfl ?_
    refine mln_v (hp_33 _) (fun v5 ev5 => ?_)
    have kv5 : v5.toInt = ((4096 : Nat) : Int) := by rw [ev5]; exact nI_toInt (show 4096 < 2 ^ 31 by decide)
    refine ile_t (fun c2 => ?_) (fun c2 => ?_)
    · exact tot_end hG
    · refine mgi_v (hp_32 _) rfl (fun v7 ev7 => ?_)
      have nv7 := nt_b v7
      have bv7 := b_3202 hG
      rw [← ev7] at bv7
      have fv7 : v7 = v3 := ev7.trans ev3.symm
      have gv7 := congrArg Int32.toInt fv7
      refine mgr_t (v := 34) (hp_32 _) rfl ?_
      refine mln_v (hp_34 _) (fun v9 ev9 => ?_)
      have kv9 : v9.toInt = ((4096 : Nat) : Int) := by rw [ev9]; exact nI_toInt (show 4096 < 2 ^ 31 by decide)
      refine ile_t (fun c3 => ?_) (fun c3 => ?_)
      · exact tot_end hG
      · refine mgr_t (v := 33) (hp_32 _) rfl ?_
        refine mgi_v (hp_32 _) rfl (fun v12 ev12 => ?_)
        have nv12 := nt_b v12
        have bv12 := b_3202 hG
        rw [← ev12] at bv12
        have fv12 : v12 = v3 := ev12.trans ev3.symm
        have gv12 := congrArg Int32.toInt fv12
        refine mgi_v (hp_32 _) rfl (fun v13 ev13 => ?_)
        have nv13 := nt_b v13
        refine mas_t (hp_33 _) (nt_in (by omega) (by omega)) (ha_33 _ _) ?_
        have hGS4 : G F B (uA S 33 (upd (S.2.1 33) (v12).toNatClampNeg v13)) := G_Ai hG (nb (by decide)) (by decide)
        refine mgr_t (v := 34) (hp_32 _) rfl ?_
        refine mgi_v (hp_32 _) rfl (fun v16 ev16 => ?_)
        have nv16 := nt_b v16
        have bv16 := b_3202 hGS4
        rw [← ev16] at bv16
        have fv16 : v16 = v3 := ev16.trans ev3.symm
        have gv16 := congrArg Int32.toInt fv16
        refine mgi_v (hp_32 _) rfl (fun v17 ev17 => ?_)
        have nv17 := nt_b v17
        have fv17 : v17 = v1 := ev17.trans ev1.symm
        have gv17 := congrArg Int32.toInt fv17
        refine mas_t (hp_34 _) (nt_in (by omega) (by omega)) (ha_34 _ _) ?_
        have hGS5 : G F B (uA (uA S 33 (upd (S.2.1 33) (v12).toNatClampNeg v13)) 34 (upd ((uA S 33 (upd (S.2.1 33) (v12).toNatClampNeg v13)).2.1 34) (v16).toNatClampNeg (v17 + 1))) := G_Ai hGS4 (nb (by decide)) (by decide)
        refine mgi_v (hp_32 _) rfl (fun v19 ev19 => ?_)
        have nv19 := nt_b v19
        have bv19 := b_3202 hGS5
        rw [← ev19] at bv19
        have fv19 : v19 = v3 := ev19.trans ev3.symm
        have gv19 := congrArg Int32.toInt fv19
        have kz6 : (v19 + 1 : Int32).toInt = (v19 : Int32).toInt + (1 : Int32).toInt := nt_add (by omega) (by omega)
        refine mpt_t (hp_32 _) (Nat.le_of_ble_eq_true rfl) (hs_32_2 _ _) ?_
        have hGS7 : G F B (uV (uA (uA S 33 (upd (S.2.1 33) (v12).toNatClampNeg v13)) 34 (upd ((uA S 33 (upd (S.2.1 33) (v12).toNatClampNeg v13)).2.1 34) (v16).toNatClampNeg (v17 + 1))) 3202 (v19 + 1)) := g_3202 hGS5 (by omega) (by omega)
        exact tot_end hGS7
set_option maxHeartbeats 2000000 in
theorem t_Lz_giveString_B53 {F B : mP} {n0 : Nat} (hn0 : big n0) (S : mS) (x3 : Int32) (x4 : Int32) (p0 : Int32) (hG : G F B S)  : tot (f_Lz_giveString_B53 n0 (hp S) 32 x3 x4 p0) (fun r S => G F B S ∧ (r = 0 ∨ r = 1)) := by
  unfold f_Lz_giveString_B53
  have L0 : (0 : Int32).toInt = 0 := rfl
  have L1 : (1 : Int32).toInt = 1 := rfl
  have L3 : (3 : Int32).toInt = 3 := rfl
  have L4 : (4 : Int32).toInt = 4 := rfl
  have L7 : (7 : Int32).toInt = 7 := rfl
  have nx3 := nt_b x3
  have nx4 := nt_b x4
  have np0 := nt_b p0
  refine ieq_t (fun c1 => ?_) (fun c1 => ?_)
  · have tc1 := congrArg Int32.toInt c1
    exact tot_end ⟨hG, Or.inl rfl⟩
  · refine mis_t (hp_32 _) ?_
    refine mcl_v (t_Lz_makeString hn0 _ hG) (fun u3 Sc2 zSc2 => ?_)
    have hGSc2 : G F B Sc2 := zSc2
    refine mpt_t (hp_32 _) (Nat.le_of_ble_eq_true rfl) (hs_32_3 _ _) ?_
    have hGS4 : G F B (uV Sc2 3203 (x3)) := g_3203 hGSc2
    refine mpt_t (hp_32 _) (Nat.le_of_ble_eq_true rfl) (hs_32_4 _ _) ?_
    have hGS5 : G F B (uV (uV Sc2 3203 (x3)) 3204 (x4)) := g_3204 hGS4
    exact tot_end ⟨hGS5, Or.inr rfl⟩
set_option maxHeartbeats 2000000 in
theorem t_Lz_giveString {F B : mP} {n0 : Nat} (hn0 : big n0) (S : mS) (x2 : Int32) (hG : G F B S)  : tot (f_Lz_giveString n0 (hp S) 32 4 x2) (fun r S => G F B S ∧ (r = 0 ∨ r = 1)) := by
  unfold f_Lz_giveString
  have L0 : (0 : Int32).toInt = 0 := rfl
  have L1 : (1 : Int32).toInt = 1 := rfl
  have L7 : (7 : Int32).toInt = 7 := rfl
  have L8 : (8 : Int32).toInt = 8 := rfl
  have L10 : (10 : Int32).toInt = 10 := rfl
  have L256 : (256 : Int32).toInt = 256 := rfl
  have nx2 := nt_b x2
  refine mgr_v (hp_4 _) rfl (fun r1 er1 => ?_)
  have h_r1 : isBy r1 := by rw [er1]; exact hG.2.2.1.2.2
  refine mgi_v (hp_by h_r1 _) rfl (fun v2 ev2 => ?_)
  have nv2 := nt_b v2
  have bv2 := b_by h_r1 hG
  rw [← ev2] at bv2
  have cv2 := nB_lt h_r1
  refine mis_t (hp_32 _) ?_
  refine mcl_v (t_Lz_sizeOf hn0 _ x2 hG) (fun v4 Sc1 zSc1 => ?_)
  have hGSc1 : G F B Sc1 := zSc1
  have nv4 := nt_b v4
  refine ieq_t (fun c2 => ?_) (fun c2 => ?_)
  · have tc2 := congrArg Int32.toInt c2
    refine mis_t (hp_4 _) ?_
    refine mcl_v (t_Pa_fail hn0 _ 10 hGSc1) (fun v25 Sc3 zSc3 => ?_)
    obtain ⟨hGSc3, pv25⟩ := zSc3
    have nv25 := nt_b v25
    refine mgd_t (nt_bool (pv25)) ?_
    exact tot_end ⟨hGSc3, pv25⟩
  · refine ile_t (fun c4 => ?_) (fun c4 => ?_)
    · refine mis_t (hp_32 _) ?_
      refine mcl_v (t_Lz_startOf hn0 _ x2 hGSc1) (fun v9 Sc5 zSc5 => ?_)
      have hGSc5 : G F B Sc5 := zSc5
      have nv9 := nt_b v9
      refine mis_t (hp_4 _) ?_
      refine mcl_v (t_Pa_giveAgain hn0 _ v9 v4 hGSc5) (fun v12 Sc6 zSc6 => ?_)
      obtain ⟨hGSc6, pv12⟩ := zSc6
      have nv12 := nt_b v12
      exact t_Lz_giveString_B53 hn0 _ v2 v4 v12 hGSc6
    · refine mis_t (hp_4 _) ?_
      refine mcl_v (t_Pa_give hn0 _ x2 hGSc1) (fun v22 Sc7 zSc7 => ?_)
      obtain ⟨hGSc7, pv22⟩ := zSc7
      have nv22 := nt_b v22
      exact t_Lz_giveString_B53 hn0 _ v2 v4 v22 hGSc7
set_option maxHeartbeats 2000000 in
theorem t_Lz_unpack_L6 {F B : mP} {n0 : Nat} (hn0 : big n0) : ∀ (n : Nat) (S : mS) (x2 : Int32) (x3 : Int32), G F B S → (1000000 - x3.toInt).toNat < n → tot (f_Lz_unpack_L6 n0 n (hp S) 32 4 x2 x3) (fun r S => G F B S) := by
  intro n
  induction n with
  | zero =>
    intro S x2 x3 hG hm
    exact absurd hm (Nat.not_lt_zero _)
  | succ n ih =>
    intro S x2 x3 hG hm
    rw [f_Lz_unpack_L6.eq_2]
    have Lm1 : (-1 : Int32).toInt = -1 := rfl
    have L0 : (0 : Int32).toInt = 0 := rfl
    have L1 : (1 : Int32).toInt = 1 := rfl
    have L2 : (2 : Int32).toInt = 2 := rfl
    have L7 : (7 : Int32).toInt = 7 := rfl
    have L8 : (8 : Int32).toInt = 8 := rfl
    have L256 : (256 : Int32).toInt = 256 := rfl
    have L257 : (257 : Int32).toInt = 257 := rfl
    have L1000000 : (1000000 : Int32).toInt = 1000000 := rfl
    have nx2 := nt_b x2
    have nx3 := nt_b x3
    refine ile_t (fun c1 => ?_) (fun c1 => ?_)
    · exact tot_end hG
    · refine mgi_v (hp_32 _) rfl (fun v6 ev6 => ?_)
      have nv6 := nt_b v6
      have bv6 := b_3202 hG
      rw [← ev6] at bv6
      refine mcl_v (t_Lz_widthFor hn0 _ (v6 + x2) hG) (fun v8 Sc2 zSc2 => ?_)
      have hGSc2 : G F B Sc2 := zSc2
      have nv8 := nt_b v8
      refine mis_t (hp_4 _) ?_
      refine mcl_v (t_Pa_highNumber hn0 _ v8 hGSc2) (fun v11 Sc3 zSc3 => ?_)
      have hGSc3 : G F B Sc3 := zSc3
      have nv11 := nt_b v11
      refine ieq_t (fun c4 => ?_) (fun c4 => ?_)
      · have tc4 := congrArg Int32.toInt c4
        exact tot_end hGSc3
      · refine ieq_t (fun c5 => ?_) (fun c5 => ?_)
        · have tc5 := congrArg Int32.toInt c5
          exact tot_end hGSc3
        · refine ieq_t (fun c6 => ?_) (fun c6 => ?_)
          · have tc6 := congrArg Int32.toInt c6
            refine mis_t (hp_32 _) ?_
            refine mcl_v (t_Lz_clear hn0 _ hGSc3) (fun u8 Sc7 zSc7 => ?_)
            have hGSc7 : G F B Sc7 := zSc7
            refine mnm_v (fun v25 ev25 => ?_)
            have nv25 := nt_b v25
            have kv25 : v25.toInt = x3.toInt + 1 := by rw [ev25]; exact nt_inc (by omega)
            exact ih _ x2 v25 hGSc7 (by omega)
          · refine mis_t (hp_32 _) ?_
            refine mcl_v (t_Lz_giveString hn0 _ v11 hGSc3) (fun v17 Sc9 zSc9 => ?_)
            obtain ⟨hGSc9, pv17⟩ := zSc9
            have nv17 := nt_b v17
            refine ieq_t (fun c10 => ?_) (fun c10 => ?_)
            · have tc10 := congrArg Int32.toInt c10
              exact tot_end hGSc9
            · refine mnm_v (fun v20 ev20 => ?_)
              have nv20 := nt_b v20
              have kv20 : v20.toInt = x3.toInt + 1 := by rw [ev20]; exact nt_inc (by omega)
              exact ih _ x2 v20 hGSc9 (by omega)
set_option maxHeartbeats 2000000 in
theorem t_Lz_unpack {F B : mP} {n0 : Nat} (hn0 : big n0) (S : mS) (x2 : Int32) (hG : G F B S)  : tot (f_Lz_unpack n0 (hp S) 32 4 x2) (fun r S => G F B S) := by
  unfold f_Lz_unpack
  have L0 : (0 : Int32).toInt = 0 := rfl
  have L7 : (7 : Int32).toInt = 7 := rfl
  have nx2 := nt_b x2
  refine mis_t (hp_32 _) ?_
  refine mcl_v (t_Lz_clear hn0 _ hG) (fun u2 Sc1 zSc1 => ?_)
  have hGSc1 : G F B Sc1 := zSc1
  exact t_Lz_unpack_L6 hn0 n0 _ x2 0 hGSc1 (big_lt hn0 (by omega))
set_option maxHeartbeats 2000000 in
theorem t_T8_addDigit {F B : mP} {n0 : Nat} (hn0 : big n0) (S : mS) (x1 : Int32) (hG : G F B S)  : tot (f_T8_addDigit n0 (hp S) 35 x1) (fun r S => G F B S) := by
  unfold f_T8_addDigit
  have L0 : (0 : Int32).toInt = 0 := rfl
  have L1 : (1 : Int32).toInt = 1 := rfl
  have L9 : (9 : Int32).toInt = 9 := rfl
  have L85 : (85 : Int32).toInt = 85 := rfl
  have nx1 := nt_b x1
  refine mgl_v (hp_35 _) rfl (fun w1 ew1 => ?_)
  refine mpt_t (hp_35 _) (Nat.le_of_ble_eq_true rfl) (hs_35_0 _ _) ?_
  have hGS1 : G F B (uW S ((w1 * 85) + (x1.toInt64))) := G_W hG
  refine mgi_v (hp_35 _) rfl (fun v3 ev3 => ?_)
  have nv3 := nt_b v3
  refine mpt_t (hp_35 _) (Nat.le_of_ble_eq_true rfl) (hs_35_1 _ _) ?_
  have hGS2 : G F B (uV (uW S ((w1 * 85) + (x1.toInt64))) 3501 (v3 + 1)) := g_3501 hGS1
  exact tot_end hGS2
set_option maxHeartbeats 2000000 in
theorem t_T8_giveNumber_L20 {F B : mP} {n0 : Nat} (hn0 : big n0) : ∀ (n : Nat) (S : mS) (x2 : Int32) (x3 : Int32), G F B S → (x2.toInt - x3.toInt).toNat < n → tot (f_T8_giveNumber_L20 n0 n (hp S) 35 4 x2 x3) (fun r S => G F B S ∧ (r = 0 ∨ r = 1)) := by
  intro n
  induction n with
  | zero =>
    intro S x2 x3 hG hm
    exact absurd hm (Nat.not_lt_zero _)
  | succ n ih =>
    intro S x2 x3 hG hm
    rw [f_T8_giveNumber_L20.eq_2]
    have L0 : (0 : Int32).toInt = 0 := rfl
    have L1 : (1 : Int32).toInt = 1 := rfl
    have L8 : (8 : Int32).toInt = 8 := rfl
    have L9 : (9 : Int32).toInt = 9 := rfl
    have L24 : (24 : Int32).toInt = 24 := rfl
    have L63 : (63 : Int32).toInt = 63 := rfl
    have L255 : (255 : Int32).toInt = 255 := rfl
    have nx2 := nt_b x2
    have nx3 := nt_b x3
    refine ile_t (fun c1 => ?_) (fun c1 => ?_)
    · refine mpt_t (hp_35 _) (Nat.le_of_ble_eq_true rfl) (hs_35_0 _ _) ?_
      have hGS2 : G F B (uW S (0)) := G_W hG
      refine mpt_t (hp_35 _) (Nat.le_of_ble_eq_true rfl) (hs_35_1 _ _) ?_
      have hGS3 : G F B (uV (uW S (0)) 3501 (0)) := g_3501 hGS2
      exact tot_end ⟨hGS3, Or.inr rfl⟩
    · refine mgl_v (hp_35 _) rfl (fun w6 ew6 => ?_)
      refine mis_t (hp_4 _) ?_
      refine mcl_v (t_Pa_give hn0 _ (((w6 >>> ((24 - (8 * x3)).toInt64 &&& 63)).toInt32) &&& 255) hG) (fun v8 Sc4 zSc4 => ?_)
      obtain ⟨hGSc4, pv8⟩ := zSc4
      have nv8 := nt_b v8
      refine ieq_t (fun c5 => ?_) (fun c5 => ?_)
      · have tc5 := congrArg Int32.toInt c5
        exact tot_end ⟨hGSc4, Or.inl rfl⟩
      · refine mnm_v (fun v11 ev11 => ?_)
        have nv11 := nt_b v11
        have kv11 : v11.toInt = x3.toInt + 1 := by rw [ev11]; exact nt_inc (by omega)
        exact ih _ x2 v11 hGSc4 (by omega)
set_option maxHeartbeats 2000000 in
theorem t_T8_giveNumber {F B : mP} {n0 : Nat} (hn0 : big n0) (S : mS) (x2 : Int32) (hG : G F B S)  : tot (f_T8_giveNumber n0 (hp S) 35 4 x2) (fun r S => G F B S ∧ (r = 0 ∨ r = 1)) := by
  unfold f_T8_giveNumber
  have L0 : (0 : Int32).toInt = 0 := rfl
  have L8 : (8 : Int32).toInt = 8 := rfl
  have L9 : (9 : Int32).toInt = 9 := rfl
  have L11 : (11 : Int32).toInt = 11 := rfl
  have nx2 := nt_b x2
  refine mgl_v (hp_35 _) rfl (fun w1 ew1 => ?_)
  refine ilq_t ?_ ?_
  · exact t_T8_giveNumber_L20 hn0 n0 _ x2 0 hG (big_lt hn0 (by omega))
  · refine mis_t (hp_4 _) ?_
    refine mcl_v (t_Pa_fail hn0 _ 11 hG) (fun v13 Sc2 zSc2 => ?_)
    obtain ⟨hGSc2, pv13⟩ := zSc2
    have nv13 := nt_b v13
    refine mgd_t (nt_bool (pv13)) ?_
    exact tot_end ⟨hGSc2, pv13⟩
set_option maxHeartbeats 2000000 in
theorem t_T8_finish_B25 {F B : mP} {n0 : Nat} (hn0 : big n0) (S : mS)  (hG : G F B S)  : tot (f_T8_finish_B25 n0 (hp S) 4) (fun r S => G F B S) := by
  unfold f_T8_finish_B25
  have L8 : (8 : Int32).toInt = 8 := rfl
  have L12 : (12 : Int32).toInt = 12 := rfl
  refine mis_t (hp_4 _) ?_
  refine mcl_v (t_Pa_fail hn0 _ 12 hG) (fun v7 Sc1 zSc1 => ?_)
  obtain ⟨hGSc1, pv7⟩ := zSc1
  have nv7 := nt_b v7
  exact tot_end hGSc1
set_option maxHeartbeats 2000000 in
theorem t_T8_finish_L52 {F B : mP} {n0 : Nat} (hn0 : big n0) : ∀ (n : Nat) (S : mS) (x3 : Int32) (x4 : Int32), G F B S → (5 - x4.toInt).toNat < n → tot (f_T8_finish_L52 n0 n (hp S) 35 4 x3 x4) (fun r S => G F B S) := by
  intro n
  induction n with
  | zero =>
    intro S x3 x4 hG hm
    exact absurd hm (Nat.not_lt_zero _)
  | succ n ih =>
    intro S x3 x4 hG hm
    rw [f_T8_finish_L52.eq_2]
    have L0 : (0 : Int32).toInt = 0 := rfl
    have L1 : (1 : Int32).toInt = 1 := rfl
    have L5 : (5 : Int32).toInt = 5 := rfl
    have L9 : (9 : Int32).toInt = 9 := rfl
    have L84 : (84 : Int32).toInt = 84 := rfl
    have nx3 := nt_b x3
    have nx4 := nt_b x4
    refine ile_t (fun c1 => ?_) (fun c1 => ?_)
    · refine mis_t (hp_35 _) ?_
      refine mcl_v (t_T8_giveNumber hn0 _ x3 hG) (fun v17 Sc2 zSc2 => ?_)
      obtain ⟨hGSc2, pv17⟩ := zSc2
      have nv17 := nt_b v17
      exact tot_end hGSc2
    · refine mis_t (hp_35 _) ?_
      refine mcl_v (t_T8_addDigit hn0 _ 84 hG) (fun u4 Sc3 zSc3 => ?_)
      have hGSc3 : G F B Sc3 := zSc3
      refine mnm_v (fun v23 ev23 => ?_)
      have nv23 := nt_b v23
      have kv23 : v23.toInt = x4.toInt + 1 := by rw [ev23]; exact nt_inc (by omega)
      exact ih _ x3 v23 hGSc3 (by omega)
set_option maxHeartbeats 2000000 in
theorem t_T8_finish {F B : mP} {n0 : Nat} (hn0 : big n0) (S : mS)  (hG : G F B S)  : tot (f_T8_finish n0 (hp S) 35 4) (fun r S => G F B S) := by
  unfold f_T8_finish
  have Lm1 : (-1 : Int32).toInt = -1 := rfl
  have L1 : (1 : Int32).toInt = 1 := rfl
  have L8 : (8 : Int32).toInt = 8 := rfl
  have L9 : (9 : Int32).toInt = 9 := rfl
  have L62 : (62 : Int32).toInt = 62 := rfl
  refine mis_t (hp_4 _) ?_
  refine mcl_v (t_Pa_nextByte hn0 _ hG) (fun v2 Sc1 zSc1 => ?_)
  have hGSc1 : G F B Sc1 := zSc1
  have nv2 := nt_b v2
  refine ieq_t (fun c2 => ?_) (fun c2 => ?_)
  · have tc2 := congrArg Int32.toInt c2
    exact tot_end hGSc1
  · refine ieq_t (fun c3 => ?_) (fun c3 => ?_)
    · have tc3 := congrArg Int32.toInt c3
      refine mgi_v (hp_35 _) rfl (fun v9 ev9 => ?_)
      have nv9 := nt_b v9
      refine ieq_t (fun c4 => ?_) (fun c4 => ?_)
      · have tc4 := congrArg Int32.toInt c4
        exact t_T8_finish_B25 hn0 _ hGSc1
      · refine mgi_v (hp_35 _) rfl (fun v11 ev11 => ?_)
        have nv11 := nt_b v11
        have fv11 : v11 = v9 := ev11.trans ev9.symm
        have gv11 := congrArg Int32.toInt fv11
        refine mnm_v (fun v12 ev12 => ?_)
        have nv12 := nt_b v12
        refine ile_t (fun c5 => ?_) (fun c5 => ?_)
        · refine mgi_v (hp_35 _) rfl (fun v14 ev14 => ?_)
          have nv14 := nt_b v14
          have fv14 : v14 = v9 := ev14.trans ev9.symm
          have gv14 := congrArg Int32.toInt fv14
          exact t_T8_finish_L52 hn0 n0 _ v12 v14 hGSc1 (big_lt hn0 (by omega))
        · exact tot_end hGSc1
    · exact t_T8_finish_B25 hn0 _ hGSc1
set_option maxHeartbeats 2000000 in
theorem t_T8_unpack_B124 {F B : mP} {n0 : Nat} (hn0 : big n0) {M : Nat} {K15 : mH → Nat → Nat → Int32 → Int32 → Option (Unit × mH)} (hK15 : ∀ (S : mS) (x3 : Int32) (x4 : Int32), G F B S → (1000000 - x4.toInt).toNat < M → tot (K15 (hp S) 35 4 x3 x4) (fun r S => G F B S)) (S : mS) (x4 : Int32) (hG : G F B S) (q0 : x4.toInt < 1000000) (q1 : (1000000 - (x4.toInt + 1)).toNat < M) : tot (f_T8_unpack_B124 K15 n0 (hp S) 35 4 x4) (fun r S => G F B S) := by
  unfold f_T8_unpack_B124
  have L1 : (1 : Int32).toInt = 1 := rfl
  have L8 : (8 : Int32).toInt = 8 := rfl
  have L12 : (12 : Int32).toInt = 12 := rfl
  have nx4 := nt_b x4
  refine mis_t (hp_4 _) ?_
  refine mcl_v (t_Pa_fail hn0 _ 12 hG) (fun v13 Sc1 zSc1 => ?_)
  obtain ⟨hGSc1, pv13⟩ := zSc1
  have nv13 := nt_b v13
  refine mnm_v (fun v15 ev15 => ?_)
  have nv15 := nt_b v15
  have kv15 : v15.toInt = x4.toInt + 1 := by rw [ev15]; exact nt_inc (by omega)
  exact hK15 _ v13 v15 hGSc1 (by omega)
set_option maxHeartbeats 2000000 in
theorem t_T8_unpack_B101 {F B : mP} {n0 : Nat} (hn0 : big n0) {M : Nat} {K15 : mH → Nat → Nat → Int32 → Int32 → Option (Unit × mH)} (hK15 : ∀ (S : mS) (x3 : Int32) (x4 : Int32), G F B S → (1000000 - x4.toInt).toNat < M → tot (K15 (hp S) 35 4 x3 x4) (fun r S => G F B S)) (S : mS) (x4 : Int32) (x5 : Int32) (hG : G F B S) (q0 : x4.toInt < 1000000) (q1 : (1000000 - (x4.toInt + 1)).toNat < M) : tot (f_T8_unpack_B101 K15 n0 (hp S) 35 4 x4 x5) (fun r S => G F B S) := by
  unfold f_T8_unpack_B101
  have L0 : (0 : Int32).toInt = 0 := rfl
  have L1 : (1 : Int32).toInt = 1 := rfl
  have L4 : (4 : Int32).toInt = 4 := rfl
  have L8 : (8 : Int32).toInt = 8 := rfl
  have L9 : (9 : Int32).toInt = 9 := rfl
  have L122 : (122 : Int32).toInt = 122 := rfl
  have nx4 := nt_b x4
  have nx5 := nt_b x5
  refine ieq_t (fun c1 => ?_) (fun c1 => ?_)
  · have tc1 := congrArg Int32.toInt c1
    refine mgi_v (hp_35 _) rfl (fun v16 ev16 => ?_)
    have nv16 := nt_b v16
    refine ieq_t (fun c2 => ?_) (fun c2 => ?_)
    · have tc2 := congrArg Int32.toInt c2
      refine mis_t (hp_4 _) ?_
      refine mcl_v (t_Pa_giveTimes hn0 _ 0 4 hG) (fun v19 Sc3 zSc3 => ?_)
      obtain ⟨hGSc3, pv19⟩ := zSc3
      have nv19 := nt_b v19
      refine mnm_v (fun v21 ev21 => ?_)
      have nv21 := nt_b v21
      have kv21 : v21.toInt = x4.toInt + 1 := by rw [ev21]; exact nt_inc (by omega)
      exact hK15 _ v19 v21 hGSc3 (by omega)
    · exact t_T8_unpack_B124 hn0 hK15 _ x4 hG (by omega) (by omega)
  · exact t_T8_unpack_B124 hn0 hK15 _ x4 hG (by omega) (by omega)
set_option maxHeartbeats 2000000 in
theorem t_T8_unpack_B92 {F B : mP} {n0 : Nat} (hn0 : big n0) {M : Nat} {K15 : mH → Nat → Nat → Int32 → Int32 → Option (Unit × mH)} (hK15 : ∀ (S : mS) (x3 : Int32) (x4 : Int32), G F B S → (1000000 - x4.toInt).toNat < M → tot (K15 (hp S) 35 4 x3 x4) (fun r S => G F B S)) (S : mS) (x4 : Int32) (hG : G F B S) (q0 : x4.toInt < 1000000) (q1 : (1000000 - (x4.toInt + 1)).toNat < M) : tot (f_T8_unpack_B92 K15 n0 (hp S) 35 4 x4) (fun r S => G F B S) := by
  unfold f_T8_unpack_B92
  have L1 : (1 : Int32).toInt = 1 := rfl
  have nx4 := nt_b x4
  refine mnm_v (fun v29 ev29 => ?_)
  have nv29 := nt_b v29
  have kv29 : v29.toInt = x4.toInt + 1 := by rw [ev29]; exact nt_inc (by omega)
  exact hK15 _ 1 v29 hG (by omega)
set_option maxHeartbeats 2000000 in
theorem t_T8_unpack_L15 {F B : mP} {n0 : Nat} (hn0 : big n0) : ∀ (n : Nat) (S : mS) (x3 : Int32) (x4 : Int32), G F B S → (1000000 - x4.toInt).toNat < n → tot (f_T8_unpack_L15 n0 n (hp S) 35 4 x3 x4) (fun r S => G F B S) := by
  intro n
  induction n with
  | zero =>
    intro S x3 x4 hG hm
    exact absurd hm (Nat.not_lt_zero _)
  | succ n ih =>
    intro S x3 x4 hG hm
    rw [f_T8_unpack_L15.eq_2]
    have Lm1 : (-1 : Int32).toInt = -1 := rfl
    have L0 : (0 : Int32).toInt = 0 := rfl
    have L1 : (1 : Int32).toInt = 1 := rfl
    have L4 : (4 : Int32).toInt = 4 := rfl
    have L5 : (5 : Int32).toInt = 5 := rfl
    have L8 : (8 : Int32).toInt = 8 := rfl
    have L9 : (9 : Int32).toInt = 9 := rfl
    have L33 : (33 : Int32).toInt = 33 := rfl
    have L117 : (117 : Int32).toInt = 117 := rfl
    have L126 : (126 : Int32).toInt = 126 := rfl
    have L1000000 : (1000000 : Int32).toInt = 1000000 := rfl
    have nx3 := nt_b x3
    have nx4 := nt_b x4
    refine ile_t (fun c1 => ?_) (fun c1 => ?_)
    · exact tot_end hG
    · refine ieq_t (fun c2 => ?_) (fun c2 => ?_)
      · have tc2 := congrArg Int32.toInt c2
        exact tot_end hG
      · refine mis_t (hp_4 _) ?_
        refine mcl_v (t_Pa_nextSign hn0 _ hG) (fun v6 Sc3 zSc3 => ?_)
        have hGSc3 : G F B Sc3 := zSc3
        have nv6 := nt_b v6
        refine ieq_t (fun c4 => ?_) (fun c4 => ?_)
        · have tc4 := congrArg Int32.toInt c4
          exact tot_end hGSc3
        · refine ieq_t (fun c5 => ?_) (fun c5 => ?_)
          · have tc5 := congrArg Int32.toInt c5
            refine mis_t (hp_35 _) ?_
            refine mcl_v (t_T8_finish hn0 _ hGSc3) (fun u7 Sc6 zSc6 => ?_)
            have hGSc6 : G F B Sc6 := zSc6
            exact tot_end hGSc6
          · refine ilt_t (fun c8 => ?_) (fun c8 => ?_)
            · exact t_T8_unpack_B101 hn0 ih _ x4 v6 hGSc3 (by omega) (by omega)
            · refine ilt_t (fun c9 => ?_) (fun c9 => ?_)
              · exact t_T8_unpack_B101 hn0 ih _ x4 v6 hGSc3 (by omega) (by omega)
              · refine mis_t (hp_35 _) ?_
                refine mcl_v (t_T8_addDigit hn0 _ (v6 - 33) hGSc3) (fun u11 Sc10 zSc10 => ?_)
                have hGSc10 : G F B Sc10 := zSc10
                refine mgi_v (hp_35 _) rfl (fun v27 ev27 => ?_)
                have nv27 := nt_b v27
                refine ilt_t (fun c12 => ?_) (fun c12 => ?_)
                · exact t_T8_unpack_B92 hn0 ih _ x4 hGSc10 (by omega) (by omega)
                · refine mis_t (hp_35 _) ?_
                  refine mcl_v (t_T8_giveNumber hn0 _ 4 hGSc10) (fun v31 Sc13 zSc13 => ?_)
                  obtain ⟨hGSc13, pv31⟩ := zSc13
                  have nv31 := nt_b v31
                  refine ieq_t (fun c14 => ?_) (fun c14 => ?_)
                  · have tc14 := congrArg Int32.toInt c14
                    refine mnm_v (fun v34 ev34 => ?_)
                    have nv34 := nt_b v34
                    have kv34 : v34.toInt = x4.toInt + 1 := by rw [ev34]; exact nt_inc (by omega)
                    exact ih _ 0 v34 hGSc13 (by omega)
                  · exact t_T8_unpack_B92 hn0 ih _ x4 hGSc13 (by omega) (by omega)
set_option maxHeartbeats 2000000 in
theorem t_T8_unpack {F B : mP} {n0 : Nat} (hn0 : big n0) (S : mS) (x2 : Int32) (hG : G F B S)  : tot (f_T8_unpack n0 (hp S) 35 4 x2) (fun r S => G F B S) := by
  unfold f_T8_unpack
  have L0 : (0 : Int32).toInt = 0 := rfl
  have L1 : (1 : Int32).toInt = 1 := rfl
  have L9 : (9 : Int32).toInt = 9 := rfl
  have nx2 := nt_b x2
  refine mpt_t (hp_35 _) (Nat.le_of_ble_eq_true rfl) (hs_35_0 _ _) ?_
  have hGS1 : G F B (uW S (0)) := G_W hG
  refine mpt_t (hp_35 _) (Nat.le_of_ble_eq_true rfl) (hs_35_1 _ _) ?_
  have hGS2 : G F B (uV (uW S (0)) 3501 (0)) := g_3501 hGS1
  exact t_T8_unpack_L15 hn0 n0 _ 1 0 hGS2 (big_lt hn0 (by omega))
