set_option maxHeartbeats 2000000 in
theorem t_By_byteAt {F B : mP} {n0 : Nat} (hn0 : big n0) (S : mS) (a0 : Nat) (x1 : Int32) (hG : G F B S) (h_a0 : isBy a0) : tot (f_By_byteAt n0 (hp S) a0 x1) (fun r S' => S = S') := by
  unfold f_By_byteAt
  have L0 : (0 : Int32).toInt = 0 := rfl
  have L1 : (1 : Int32).toInt = 1 := rfl
  have L255 : (255 : Int32).toInt = 255 := rfl
  have nx1 := nt_b x1
  refine ilt_t (fun c1 => ?_) (fun c1 => ?_)
  · exact tot_end rfl
  · refine mgr_t (v := a0 + 1) (hp_by h_a0 _) rfl ?_
    refine mln_v (hp_ba h_a0 _) (fun v3 ev3 => ?_)
    have cv3 := nB_lt h_a0
    have kv3 : v3.toInt = ((nB a0 : Nat) : Int) := by rw [ev3]; exact nI_toInt (show nB a0 < 2 ^ 31 by omega)
    refine ile_t (fun c2 => ?_) (fun c2 => ?_)
    · exact tot_end rfl
    · refine mgr_t (v := a0 + 1) (hp_by h_a0 _) rfl ?_
      refine mai_v (hp_ba h_a0 _) (nt_in (by omega) (by omega)) (fun v6 ev6 => ?_)
      have nv6 := nt_b v6
      exact tot_end rfl
set_option maxHeartbeats 2000000 in
theorem t_By_change {F B : mP} {n0 : Nat} (hn0 : big n0) (S : mS) (a0 : Nat) (x1 : Int32) (x2 : Int32) (hG : G F B S) (h_a0 : isBy a0) : tot (f_By_change n0 (hp S) a0 x1 x2) (fun r S => G F B S) := by
  unfold f_By_change
  have L0 : (0 : Int32).toInt = 0 := rfl
  have L1 : (1 : Int32).toInt = 1 := rfl
  have nx1 := nt_b x1
  have nx2 := nt_b x2
  refine ilt_t (fun c1 => ?_) (fun c1 => ?_)
  · exact tot_end hG
  · refine mgr_t (v := a0 + 1) (hp_by h_a0 _) rfl ?_
    refine mln_v (hp_ba h_a0 _) (fun v3 ev3 => ?_)
    have cv3 := nB_lt h_a0
    have kv3 : v3.toInt = ((nB a0 : Nat) : Int) := by rw [ev3]; exact nI_toInt (show nB a0 < 2 ^ 31 by omega)
    refine ile_t (fun c2 => ?_) (fun c2 => ?_)
    · exact tot_end hG
    · refine mgr_t (v := a0 + 1) (hp_by h_a0 _) rfl ?_
      refine mas_t (hp_ba h_a0 _) (nt_in (by omega) (by omega)) (ha_by h_a0 _ _) ?_
      have hGS3 : G F B (uA S (a0 + 1) (upd (S.2.1 (a0 + 1)) (x1).toNatClampNeg (x2.toInt8.toInt32).toInt8.toInt32)) := g_ba h_a0 hG (f_up (f_ba h_a0 hG) (nt_byte _))
      exact tot_end hGS3
set_option maxHeartbeats 2000000 in
theorem t_By_add {F B : mP} {n0 : Nat} (hn0 : big n0) (S : mS) (a0 : Nat) (x1 : Int32) (hG : G F B S) (h_a0 : isBy a0) : tot (f_By_add n0 (hp S) a0 x1) (fun r S => G F B S) := by
  unfold f_By_add
  have L0 : (0 : Int32).toInt = 0 := rfl
  have L1 : (1 : Int32).toInt = 1 := rfl
  have nx1 := nt_b x1
  refine mgi_v (hp_by h_a0 _) rfl (fun v1 ev1 => ?_)
  have nv1 := nt_b v1
  have bv1 := b_by h_a0 hG
  rw [← ev1] at bv1
  have cv1 := nB_lt h_a0
  refine mgr_t (v := a0 + 1) (hp_by h_a0 _) rfl ?_
  refine mln_v (hp_ba h_a0 _) (fun v3 ev3 => ?_)
  have cv3 := nB_lt h_a0
  have kv3 : v3.toInt = ((nB a0 : Nat) : Int) := by rw [ev3]; exact nI_toInt (show nB a0 < 2 ^ 31 by omega)
  refine ile_t (fun c1 => ?_) (fun c1 => ?_)
  · exact tot_end hG
  · refine mgr_t (v := a0 + 1) (hp_by h_a0 _) rfl ?_
    refine mgi_v (hp_by h_a0 _) rfl (fun v6 ev6 => ?_)
    have nv6 := nt_b v6
    have bv6 := b_by h_a0 hG
    rw [← ev6] at bv6
    have cv6 := nB_lt h_a0
    have fv6 : v6 = v1 := ev6.trans ev1.symm
    have gv6 := congrArg Int32.toInt fv6
    refine mas_t (hp_ba h_a0 _) (nt_in (by omega) (by omega)) (ha_by h_a0 _ _) ?_
    have hGS2 : G F B (uA S (a0 + 1) (upd (S.2.1 (a0 + 1)) (v6).toNatClampNeg (x1.toInt8.toInt32).toInt8.toInt32)) := g_ba h_a0 hG (f_up (f_ba h_a0 hG) (nt_byte _))
    refine mgi_v (hp_by h_a0 _) rfl (fun v8 ev8 => ?_)
    have nv8 := nt_b v8
    have bv8 := b_by h_a0 hGS2
    rw [← ev8] at bv8
    have cv8 := nB_lt h_a0
    have fv8 : v8 = v1 := ev8.trans ev1.symm
    have gv8 := congrArg Int32.toInt fv8
    have kz3 : (v8 + 1 : Int32).toInt = (v8 : Int32).toInt + (1 : Int32).toInt := nt_add (by omega) (by omega)
    refine mpt_t (hp_by h_a0 _) (Nat.le_of_ble_eq_true rfl) (hs_by h_a0 _ _) ?_
    have hGS4 : G F B (uV (uA S (a0 + 1) (upd (S.2.1 (a0 + 1)) (v6).toNatClampNeg (x1.toInt8.toInt32).toInt8.toInt32)) (100 * a0 + 1) (v8 + 1)) := g_by h_a0 hGS2 (by omega) (by omega)
    generalize uV (uA S (a0 + 1) (upd (S.2.1 (a0 + 1)) (v6).toNatClampNeg (x1.toInt8.toInt32).toInt8.toInt32)) (100 * a0 + 1) (v8 + 1) = S4 at hGS4 ⊢
    exact tot_end hGS4
set_option maxHeartbeats 2000000 in
theorem t_By_addFour_L3 {F B : mP} {n0 : Nat} (hn0 : big n0) : ∀ (n : Nat) (S : mS) (a0 : Nat) (x1 : Int32) (x2 : Int32), G F B S → isBy a0 → (x2.toInt + 8).toNat < n → tot (f_By_addFour_L3 n0 n (hp S) a0 x1 x2) (fun r S => G F B S) := by
  intro n
  induction n with
  | zero =>
    intro S a0 x1 x2 hG h_a0 hm
    exact absurd hm (Nat.not_lt_zero _)
  | succ n ih =>
    intro S a0 x1 x2 hG h_a0 hm
    rw [f_By_addFour_L3.eq_2]
    have Lm8 : (-8 : Int32).toInt = -8 := rfl
    have L0 : (0 : Int32).toInt = 0 := rfl
    have L1 : (1 : Int32).toInt = 1 := rfl
    have L31 : (31 : Int32).toInt = 31 := rfl
    have nx1 := nt_b x1
    have nx2 := nt_b x2
    refine ilt_t (fun c1 => ?_) (fun c1 => ?_)
    · exact tot_end hG
    · refine mis_t (hp_by h_a0 _) ?_
      refine mcl_v (t_By_add hn0 _ a0 ((x1.toUInt32 >>> (x2.toUInt32 &&& Int32.toUInt32 31)).toInt32) hG h_a0) (fun u3 Sc2 zSc2 => ?_)
      have hGSc2 : G F B Sc2 := zSc2
      refine mnm_v (fun v6 ev6 => ?_)
      have nv6 := nt_b v6
      have kz4 : (x2 + (-8) : Int32).toInt = (x2 : Int32).toInt + ((-8) : Int32).toInt := nt_add (by omega) (by omega)
      have kv6 : v6.toInt = (x2 + (-8)).toInt := by rw [ev6]
      exact ih _ a0 x1 v6 hGSc2 h_a0 (by omega)
set_option maxHeartbeats 2000000 in
theorem t_By_addFour {F B : mP} {n0 : Nat} (hn0 : big n0) (S : mS) (a0 : Nat) (x1 : Int32) (hG : G F B S) (h_a0 : isBy a0) : tot (f_By_addFour n0 (hp S) a0 x1) (fun r S => G F B S) := by
  unfold f_By_addFour
  have L24 : (24 : Int32).toInt = 24 := rfl
  have nx1 := nt_b x1
  exact t_By_addFour_L3 hn0 n0 _ a0 x1 24 hG h_a0 (big_lt hn0 (by omega))
set_option maxHeartbeats 2000000 in
theorem t_Pa_begin {F B : mP} {n0 : Nat} (hn0 : big n0) (S : mS) (a1 : Nat) (a2 : Nat) (hG : G F B S) (h_a1 : isBy a1) (h_a2 : isBy a2) : tot (f_Pa_begin n0 (hp S) 4 a1 a2) (fun r S => G F B S) := by
  unfold f_Pa_begin
  have Lm1 : (-1 : Int32).toInt = -1 := rfl
  have L0 : (0 : Int32).toInt = 0 := rfl
  have L1 : (1 : Int32).toInt = 1 := rfl
  have L2 : (2 : Int32).toInt = 2 := rfl
  have L4 : (4 : Int32).toInt = 4 := rfl
  have L5 : (5 : Int32).toInt = 5 := rfl
  have L8 : (8 : Int32).toInt = 8 := rfl
  refine mpt_t (hp_4 _) (Nat.le_of_ble_eq_true rfl) (hs_4_0 _ _) ?_
  have hGS1 : G F B (uR S 400 a1) := G_R hG h_a1
  refine mpt_t (hp_4 _) (Nat.le_of_ble_eq_true rfl) (hs_4_1 _ _) ?_
  have hGS2 : G F B (uR (uR S 400 a1) 401 a2) := G_R hGS1 h_a2
  refine mgr_v (hp_4 _) rfl (fun r3 er3 => ?_)
  have h_r3 : isBy r3 := by rw [er3]; exact hGS2.2.2.1.2.2
  have fr3 : a2 = r3 := er3.symm
  subst fr3
  refine mpt_t (hp_by h_a2 _) (Nat.le_of_ble_eq_true rfl) (hs_by h_a2 _ _) ?_
  have hGS3 : G F B (uV (uR (uR S 400 a1) 401 a2) (100 * a2 + 1) (0)) := g_by h_a2 hGS2 (by omega) (by omega)
  generalize uV (uR (uR S 400 a1) 401 a2) (100 * a2 + 1) (0) = S3 at hGS3 ⊢
  refine mpt_t (hp_4 _) (Nat.le_of_ble_eq_true rfl) (hs_4_2 _ _) ?_
  have hGS4 : G F B (uV S3 402 (0)) := g_402 hGS3 (by omega) (by omega)
  refine mpt_t (hp_4 _) (Nat.le_of_ble_eq_true rfl) (hs_4_4 _ _) ?_
  have hGS5 : G F B (uV (uV S3 402 (0)) 404 (0)) := g_404 hGS4
  refine mpt_t (hp_4 _) (Nat.le_of_ble_eq_true rfl) (hs_4_5 _ _) ?_
  have hGS6 : G F B (uV (uV (uV S3 402 (0)) 404 (0)) 405 (-1)) := g_405 hGS5
  exact tot_end hGS6
set_option maxHeartbeats 2000000 in
theorem t_Pa_fail {F B : mP} {n0 : Nat} (hn0 : big n0) (S : mS) (x1 : Int32) (hG : G F B S)  : tot (f_Pa_fail n0 (hp S) 4 x1) (fun r S => G F B S ∧ (r = 0 ∨ r = 1)) := by
  unfold f_Pa_fail
  have L0 : (0 : Int32).toInt = 0 := rfl
  have L5 : (5 : Int32).toInt = 5 := rfl
  have L8 : (8 : Int32).toInt = 8 := rfl
  have nx1 := nt_b x1
  refine mpt_t (hp_4 _) (Nat.le_of_ble_eq_true rfl) (hs_4_5 _ _) ?_
  have hGS1 : G F B (uV S 405 (x1)) := g_405 hG
  exact tot_end ⟨hGS1, Or.inl rfl⟩
set_option maxHeartbeats 2000000 in
theorem t_Pa_nextByte {F B : mP} {n0 : Nat} (hn0 : big n0) (S : mS)  (hG : G F B S)  : tot (f_Pa_nextByte n0 (hp S) 4) (fun r S => G F B S) := by
  unfold f_Pa_nextByte
  have Lm1 : (-1 : Int32).toInt = -1 := rfl
  have L0 : (0 : Int32).toInt = 0 := rfl
  have L1 : (1 : Int32).toInt = 1 := rfl
  have L2 : (2 : Int32).toInt = 2 := rfl
  have L3 : (3 : Int32).toInt = 3 := rfl
  have L4 : (4 : Int32).toInt = 4 := rfl
  have L5 : (5 : Int32).toInt = 5 := rfl
  have L8 : (8 : Int32).toInt = 8 := rfl
  have L255 : (255 : Int32).toInt = 255 := rfl
  refine mpt_t (hp_4 _) (Nat.le_of_ble_eq_true rfl) (hs_4_4 _ _) ?_
  have hGS1 : G F B (uV S 404 (0)) := g_404 hG
  refine mgi_v (hp_4 _) rfl (fun v2 ev2 => ?_)
  have nv2 := nt_b v2
  have bv2 := b_402 hGS1
  rw [← ev2] at bv2
  refine mgr_v (hp_4 _) rfl (fun r3 er3 => ?_)
  have h_r3 : isBy r3 := by rw [er3]; exact hGS1.2.2.1.2.1
  refine mgi_v (hp_by h_r3 _) rfl (fun v4 ev4 => ?_)
  have nv4 := nt_b v4
  have bv4 := b_by h_r3 hGS1
  rw [← ev4] at bv4
  have cv4 := nB_lt h_r3
  refine ile_t (fun c2 => ?_) (fun c2 => ?_)
  · refine mpt_t (hp_4 _) (Nat.le_of_ble_eq_true rfl) (hs_4_5 _ _) ?_
    have hGS3 : G F B (uV (uV S 404 (0)) 405 (1)) := g_405 hGS1
    exact tot_end hGS3
  · refine mgi_v (hp_4 _) rfl (fun v7 ev7 => ?_)
    have nv7 := nt_b v7
    have bv7 := b_402 hGS1
    rw [← ev7] at bv7
    have fv7 : v7 = v2 := ev7.trans ev2.symm
    have gv7 := congrArg Int32.toInt fv7
    refine mgr_v (hp_4 _) rfl (fun r8 er8 => ?_)
    have h_r8 : isBy r8 := by rw [er8]; exact hGS1.2.2.1.2.1
    have fr8 : r8 = r3 := er8.trans er3.symm
    have gr8 := congrArg nB fr8
    have dr8 : ((nB r8 : Nat) : Int) = ((nB r3 : Nat) : Int) := by rw [fr8]
    refine mgr_t (v := r8 + 1) (hp_by h_r8 _) rfl ?_
    refine mln_v (hp_ba h_r8 _) (fun v10 ev10 => ?_)
    have cv10 := nB_lt h_r8
    have kv10 : v10.toInt = ((nB r8 : Nat) : Int) := by rw [ev10]; exact nI_toInt (show nB r8 < 2 ^ 31 by omega)
    refine ilt_t (fun c4 => ?_) (fun c4 => ?_)
    · refine mgr_v (hp_4 _) rfl (fun r12 er12 => ?_)
      have h_r12 : isBy r12 := by rw [er12]; exact hGS1.2.2.1.2.1
      have fr12 : r12 = r3 := er12.trans er3.symm
      have gr12 := congrArg nB fr12
      have dr12 : ((nB r12 : Nat) : Int) = ((nB r3 : Nat) : Int) := by rw [fr12]
      refine mgr_t (v := r12 + 1) (hp_by h_r12 _) rfl ?_
      refine mgi_v (hp_4 _) rfl (fun v14 ev14 => ?_)
      have nv14 := nt_b v14
      have bv14 := b_402 hGS1
      rw [← ev14] at bv14
      have fv14 : v14 = v2 := ev14.trans ev2.symm
      have gv14 := congrArg Int32.toInt fv14
      refine mai_v (hp_ba h_r12 _) (nt_in (by omega) (by omega)) (fun v15 ev15 => ?_)
      have nv15 := nt_b v15
      refine mpt_t (hp_4 _) (Nat.le_of_ble_eq_true rfl) (hs_4_3 _ _) ?_
      have hGS5 : G F B (uV (uV S 404 (0)) 403 (v15 &&& 255)) := g_403 hGS1
      refine mgi_v (hp_4 _) rfl (fun v17 ev17 => ?_)
      have nv17 := nt_b v17
      have bv17 := b_402 hGS5
      rw [← ev17] at bv17
      have fv17 : v17 = v2 := ev17.trans ev2.symm
      have gv17 := congrArg Int32.toInt fv17
      have kz6 : (v17 + 1 : Int32).toInt = (v17 : Int32).toInt + (1 : Int32).toInt := nt_add (by omega) (by omega)
      refine mpt_t (hp_4 _) (Nat.le_of_ble_eq_true rfl) (hs_4_2 _ _) ?_
      have hGS7 : G F B (uV (uV (uV S 404 (0)) 403 (v15 &&& 255)) 402 (v17 + 1)) := g_402 hGS5 (by omega) (by omega)
      refine mgi_v (hp_4 _) rfl (fun v19 ev19 => ?_)
      have nv19 := nt_b v19
      have fv19 : v19 = v15 &&& 255 := ev19
      have gv19 := congrArg Int32.toInt fv19
      exact tot_end hGS7
    · refine mpt_t (hp_4 _) (Nat.le_of_ble_eq_true rfl) (hs_4_5 _ _) ?_
      have hGS8 : G F B (uV (uV S 404 (0)) 405 (1)) := g_405 hGS1
      exact tot_end hGS8
set_option maxHeartbeats 2000000 in
theorem t_Pa_nextBit_B23 {F B : mP} {n0 : Nat} (hn0 : big n0) (S : mS) (x1 : Int32) (hG : G F B S)  : tot (f_Pa_nextBit_B23 n0 (hp S) 4 x1) (fun r S => G F B S ∧ (r = -1 ∨ r = 0 ∨ r = 1)) := by
  unfold f_Pa_nextBit_B23
  have L0 : (0 : Int32).toInt = 0 := rfl
  have L1 : (1 : Int32).toInt = 1 := rfl
  have L3 : (3 : Int32).toInt = 3 := rfl
  have L4 : (4 : Int32).toInt = 4 := rfl
  have L7 : (7 : Int32).toInt = 7 := rfl
  have L8 : (8 : Int32).toInt = 8 := rfl
  have L31 : (31 : Int32).toInt = 31 := rfl
  have nx1 := nt_b x1
  refine mgi_v (hp_4 _) rfl (fun v3 ev3 => ?_)
  have nv3 := nt_b v3
  refine mpt_t (hp_4 _) (Nat.le_of_ble_eq_true rfl) (hs_4_4 _ _) ?_
  have hGS1 : G F B (uV S 404 (v3 - 1)) := g_404 hG
  refine mgi_v (hp_4 _) rfl (fun v5 ev5 => ?_)
  have nv5 := nt_b v5
  refine ieq_t (fun c2 => ?_) (fun c2 => ?_)
  · have tc2 := congrArg Int32.toInt c2
    refine mgi_v (hp_4 _) rfl (fun v7 ev7 => ?_)
    have nv7 := nt_b v7
    have fv7 : v7 = v3 - 1 := ev7
    have gv7 := congrArg Int32.toInt fv7
    exact tot_end ⟨hGS1, Or.inr (nt_and1 _)⟩
  · refine mgi_v (hp_4 _) rfl (fun v8 ev8 => ?_)
    have nv8 := nt_b v8
    have fv8 : v8 = v3 - 1 := ev8
    have gv8 := congrArg Int32.toInt fv8
    exact tot_end ⟨hGS1, Or.inr (nt_and1 _)⟩
set_option maxHeartbeats 2000000 in
theorem t_Pa_nextBit {F B : mP} {n0 : Nat} (hn0 : big n0) (S : mS) (x1 : Int32) (hG : G F B S)  : tot (f_Pa_nextBit n0 (hp S) 4 x1) (fun r S => G F B S ∧ (r = -1 ∨ r = 0 ∨ r = 1)) := by
  unfold f_Pa_nextBit
  have Lm1 : (-1 : Int32).toInt = -1 := rfl
  have L0 : (0 : Int32).toInt = 0 := rfl
  have L4 : (4 : Int32).toInt = 4 := rfl
  have L8 : (8 : Int32).toInt = 8 := rfl
  have nx1 := nt_b x1
  refine mgi_v (hp_4 _) rfl (fun v1 ev1 => ?_)
  have nv1 := nt_b v1
  refine ieq_t (fun c1 => ?_) (fun c1 => ?_)
  · have tc1 := congrArg Int32.toInt c1
    refine mis_t (hp_4 _) ?_
    refine mcl_v (t_Pa_nextByte hn0 _ hG) (fun v10 Sc2 zSc2 => ?_)
    have hGSc2 : G F B Sc2 := zSc2
    have nv10 := nt_b v10
    refine ieq_t (fun c3 => ?_) (fun c3 => ?_)
    · have tc3 := congrArg Int32.toInt c3
      exact tot_end ⟨hGSc2, Or.inl rfl⟩
    · refine mpt_t (hp_4 _) (Nat.le_of_ble_eq_true rfl) (hs_4_4 _ _) ?_
      have hGS4 : G F B (uV Sc2 404 (8)) := g_404 hGSc2
      exact t_Pa_nextBit_B23 hn0 _ x1 hGS4
  · exact t_Pa_nextBit_B23 hn0 _ x1 hG
set_option maxHeartbeats 2000000 in
theorem t_Pa_give {F B : mP} {n0 : Nat} (hn0 : big n0) (S : mS) (x1 : Int32) (hG : G F B S)  : tot (f_Pa_give n0 (hp S) 4 x1) (fun r S => G F B S ∧ (r = 0 ∨ r = 1)) := by
  unfold f_Pa_give
  have L0 : (0 : Int32).toInt = 0 := rfl
  have L1 : (1 : Int32).toInt = 1 := rfl
  have L2 : (2 : Int32).toInt = 2 := rfl
  have L6 : (6 : Int32).toInt = 6 := rfl
  have L8 : (8 : Int32).toInt = 8 := rfl
  have nx1 := nt_b x1
  refine mgi_v (hp_4 _) rfl (fun v1 ev1 => ?_)
  have nv1 := nt_b v1
  refine ilt_t (fun c1 => ?_) (fun c1 => ?_)
  · refine mgi_v (hp_4 _) rfl (fun v3 ev3 => ?_)
    have nv3 := nt_b v3
    have fv3 : v3 = v1 := ev3.trans ev1.symm
    have gv3 := congrArg Int32.toInt fv3
    refine mpt_t (hp_4 _) (Nat.le_of_ble_eq_true rfl) (hs_4_6 _ _) ?_
    have hGS2 : G F B (uV S 406 (v3 - 1)) := g_406 hG
    refine mgr_v (hp_4 _) rfl (fun r5 er5 => ?_)
    have h_r5 : isBy r5 := by rw [er5]; exact hGS2.2.2.1.2.2
    refine mis_t (hp_by h_r5 _) ?_
    refine mcl_v (t_By_add hn0 _ r5 x1 hGS2 h_r5) (fun u4 Sc3 zSc3 => ?_)
    have hGSc3 : G F B Sc3 := zSc3
    exact tot_end ⟨hGSc3, Or.inr rfl⟩
  · refine mis_t (hp_4 _) ?_
    refine mcl_v (t_Pa_fail hn0 _ 2 hG) (fun v11 Sc5 zSc5 => ?_)
    obtain ⟨hGSc5, pv11⟩ := zSc5
    have nv11 := nt_b v11
    refine mgd_t (nt_bool (pv11)) ?_
    exact tot_end ⟨hGSc5, pv11⟩
set_option maxHeartbeats 2000000 in
theorem t_Pa_giveTimes_L2 {F B : mP} {n0 : Nat} (hn0 : big n0) : ∀ (n : Nat) (S : mS) (x1 : Int32) (x2 : Int32) (x3 : Int32), G F B S → (x2.toInt - x3.toInt).toNat < n → tot (f_Pa_giveTimes_L2 n0 n (hp S) 4 x1 x2 x3) (fun r S => G F B S ∧ (r = 0 ∨ r = 1)) := by
  intro n
  induction n with
  | zero =>
    intro S x1 x2 x3 hG hm
    exact absurd hm (Nat.not_lt_zero _)
  | succ n ih =>
    intro S x1 x2 x3 hG hm
    rw [f_Pa_giveTimes_L2.eq_2]
    have L0 : (0 : Int32).toInt = 0 := rfl
    have L1 : (1 : Int32).toInt = 1 := rfl
    have L8 : (8 : Int32).toInt = 8 := rfl
    have nx1 := nt_b x1
    have nx2 := nt_b x2
    have nx3 := nt_b x3
    refine ile_t (fun c1 => ?_) (fun c1 => ?_)
    · exact tot_end ⟨hG, Or.inr rfl⟩
    · refine mis_t (hp_4 _) ?_
      refine mcl_v (t_Pa_give hn0 _ x1 hG) (fun v3 Sc2 zSc2 => ?_)
      obtain ⟨hGSc2, pv3⟩ := zSc2
      have nv3 := nt_b v3
      refine ieq_t (fun c3 => ?_) (fun c3 => ?_)
      · have tc3 := congrArg Int32.toInt c3
        exact tot_end ⟨hGSc2, Or.inl rfl⟩
      · refine mnm_v (fun v6 ev6 => ?_)
        have nv6 := nt_b v6
        have kv6 : v6.toInt = x3.toInt + 1 := by rw [ev6]; exact nt_inc (by omega)
        exact ih _ x1 x2 v6 hGSc2 (by omega)
set_option maxHeartbeats 2000000 in
theorem t_Pa_giveTimes {F B : mP} {n0 : Nat} (hn0 : big n0) (S : mS) (x1 : Int32) (x2 : Int32) (hG : G F B S)  : tot (f_Pa_giveTimes n0 (hp S) 4 x1 x2) (fun r S => G F B S ∧ (r = 0 ∨ r = 1)) := by
  unfold f_Pa_giveTimes
  have L0 : (0 : Int32).toInt = 0 := rfl
  have nx1 := nt_b x1
  have nx2 := nt_b x2
  exact t_Pa_giveTimes_L2 hn0 n0 _ x1 x2 0 hG (big_lt hn0 (by omega))
set_option maxHeartbeats 2000000 in
theorem t_Pa_giveAgain_L2 {F B : mP} {n0 : Nat} (hn0 : big n0) : ∀ (n : Nat) (S : mS) (x1 : Int32) (x2 : Int32) (x3 : Int32), G F B S → (x2.toInt - x3.toInt).toNat < n → tot (f_Pa_giveAgain_L2 n0 n (hp S) 4 x1 x2 x3) (fun r S => G F B S ∧ (r = 0 ∨ r = 1)) := by
  intro n
  induction n with
  | zero =>
    intro S x1 x2 x3 hG hm
    exact absurd hm (Nat.not_lt_zero _)
  | succ n ih =>
    intro S x1 x2 x3 hG hm
    rw [f_Pa_giveAgain_L2.eq_2]
    have L0 : (0 : Int32).toInt = 0 := rfl
    have L1 : (1 : Int32).toInt = 1 := rfl
    have L8 : (8 : Int32).toInt = 8 := rfl
    have nx1 := nt_b x1
    have nx2 := nt_b x2
    have nx3 := nt_b x3
    refine ile_t (fun c1 => ?_) (fun c1 => ?_)
    · exact tot_end ⟨hG, Or.inr rfl⟩
    · refine mgr_v (hp_4 _) rfl (fun r2 er2 => ?_)
      have h_r2 : isBy r2 := by rw [er2]; exact hG.2.2.1.2.2
      refine mis_t (hp_by h_r2 _) ?_
      refine mcl_v (t_By_byteAt hn0 _ r2 (x1 + x3) hG h_r2) (fun v4 Sc2 zSc2 => ?_)
      subst zSc2
      have nv4 := nt_b v4
      refine mis_t (hp_4 _) ?_
      refine mcl_v (t_Pa_give hn0 _ v4 hG) (fun v7 Sc3 zSc3 => ?_)
      obtain ⟨hGSc3, pv7⟩ := zSc3
      have nv7 := nt_b v7
      refine ieq_t (fun c4 => ?_) (fun c4 => ?_)
      · have tc4 := congrArg Int32.toInt c4
        exact tot_end ⟨hGSc3, Or.inl rfl⟩
      · refine mnm_v (fun v10 ev10 => ?_)
        have nv10 := nt_b v10
        have kv10 : v10.toInt = x3.toInt + 1 := by rw [ev10]; exact nt_inc (by omega)
        exact ih _ x1 x2 v10 hGSc3 (by omega)
set_option maxHeartbeats 2000000 in
theorem t_Pa_giveAgain {F B : mP} {n0 : Nat} (hn0 : big n0) (S : mS) (x1 : Int32) (x2 : Int32) (hG : G F B S)  : tot (f_Pa_giveAgain n0 (hp S) 4 x1 x2) (fun r S => G F B S ∧ (r = 0 ∨ r = 1)) := by
  unfold f_Pa_giveAgain
  have L0 : (0 : Int32).toInt = 0 := rfl
  have nx1 := nt_b x1
  have nx2 := nt_b x2
  exact t_Pa_giveAgain_L2 hn0 n0 _ x1 x2 0 hG (big_lt hn0 (by omega))
set_option maxHeartbeats 2000000 in
theorem t_Pa_giveAsTheyAre_L2 {F B : mP} {n0 : Nat} (hn0 : big n0) : ∀ (n : Nat) (S : mS) (x1 : Int32) (x2 : Int32), G F B S → (x1.toInt - x2.toInt).toNat < n → tot (f_Pa_giveAsTheyAre_L2 n0 n (hp S) 4 x1 x2) (fun r S => G F B S ∧ (r = 0 ∨ r = 1)) := by
  intro n
  induction n with
  | zero =>
    intro S x1 x2 hG hm
    exact absurd hm (Nat.not_lt_zero _)
  | succ n ih =>
    intro S x1 x2 hG hm
    rw [f_Pa_giveAsTheyAre_L2.eq_2]
    have Lm1 : (-1 : Int32).toInt = -1 := rfl
    have L0 : (0 : Int32).toInt = 0 := rfl
    have L1 : (1 : Int32).toInt = 1 := rfl
    have L8 : (8 : Int32).toInt = 8 := rfl
    have nx1 := nt_b x1
    have nx2 := nt_b x2
    refine ile_t (fun c1 => ?_) (fun c1 => ?_)
    · exact tot_end ⟨hG, Or.inr rfl⟩
    · refine mis_t (hp_4 _) ?_
      refine mcl_v (t_Pa_nextByte hn0 _ hG) (fun v3 Sc2 zSc2 => ?_)
      have hGSc2 : G F B Sc2 := zSc2
      have nv3 := nt_b v3
      refine ieq_t (fun c3 => ?_) (fun c3 => ?_)
      · have tc3 := congrArg Int32.toInt c3
        exact tot_end ⟨hGSc2, Or.inl rfl⟩
      · refine mis_t (hp_4 _) ?_
        refine mcl_v (t_Pa_give hn0 _ v3 hGSc2) (fun v7 Sc4 zSc4 => ?_)
        obtain ⟨hGSc4, pv7⟩ := zSc4
        have nv7 := nt_b v7
        refine ieq_t (fun c5 => ?_) (fun c5 => ?_)
        · have tc5 := congrArg Int32.toInt c5
          exact tot_end ⟨hGSc4, Or.inl rfl⟩
        · refine mnm_v (fun v10 ev10 => ?_)
          have nv10 := nt_b v10
          have kv10 : v10.toInt = x2.toInt + 1 := by rw [ev10]; exact nt_inc (by omega)
          exact ih _ x1 v10 hGSc4 (by omega)
set_option maxHeartbeats 2000000 in
theorem t_Pa_giveAsTheyAre {F B : mP} {n0 : Nat} (hn0 : big n0) (S : mS) (x1 : Int32) (hG : G F B S)  : tot (f_Pa_giveAsTheyAre n0 (hp S) 4 x1) (fun r S => G F B S ∧ (r = 0 ∨ r = 1)) := by
  unfold f_Pa_giveAsTheyAre
  have L0 : (0 : Int32).toInt = 0 := rfl
  have nx1 := nt_b x1
  exact t_Pa_giveAsTheyAre_L2 hn0 n0 _ x1 0 hG (big_lt hn0 (by omega))
set_option maxHeartbeats 2000000 in
theorem t_Pa_isBlank {F B : mP} {n0 : Nat} (hn0 : big n0) (S : mS) (x0 : Int32) (hG : G F B S)  : tot (f_Pa_isBlank n0 (hp S) x0) (fun r S => G F B S) := by
  unfold f_Pa_isBlank
  have L0 : (0 : Int32).toInt = 0 := rfl
  have L1 : (1 : Int32).toInt = 1 := rfl
  have L9 : (9 : Int32).toInt = 9 := rfl
  have L10 : (10 : Int32).toInt = 10 := rfl
  have L12 : (12 : Int32).toInt = 12 := rfl
  have L13 : (13 : Int32).toInt = 13 := rfl
  have L32 : (32 : Int32).toInt = 32 := rfl
  have nx0 := nt_b x0
  refine ieq_t (fun c1 => ?_) (fun c1 => ?_)
  · have tc1 := congrArg Int32.toInt c1
    exact tot_end hG
  · refine ieq_t (fun c2 => ?_) (fun c2 => ?_)
    · have tc2 := congrArg Int32.toInt c2
      exact tot_end hG
    · refine ieq_t (fun c3 => ?_) (fun c3 => ?_)
      · have tc3 := congrArg Int32.toInt c3
        exact tot_end hG
      · refine ieq_t (fun c4 => ?_) (fun c4 => ?_)
        · have tc4 := congrArg Int32.toInt c4
          exact tot_end hG
        · refine ieq_t (fun c5 => ?_) (fun c5 => ?_)
          · have tc5 := congrArg Int32.toInt c5
            exact tot_end hG
          · refine ieq_t (fun c6 => ?_) (fun c6 => ?_)
            · have tc6 := congrArg Int32.toInt c6
              exact tot_end hG
            · exact tot_end hG
set_option maxHeartbeats 2000000 in
theorem t_Pa_nextSign_L2 {F B : mP} {n0 : Nat} (hn0 : big n0) : ∀ (n : Nat) (S : mS) (x1 : Int32), G F B S → (1000000 - x1.toInt).toNat < n → tot (f_Pa_nextSign_L2 n0 n (hp S) 4 x1) (fun r S => G F B S) := by
  intro n
  induction n with
  | zero =>
    intro S x1 hG hm
    exact absurd hm (Nat.not_lt_zero _)
  | succ n ih =>
    intro S x1 hG hm
    rw [f_Pa_nextSign_L2.eq_2]
    have Lm1 : (-1 : Int32).toInt = -1 := rfl
    have L0 : (0 : Int32).toInt = 0 := rfl
    have L1 : (1 : Int32).toInt = 1 := rfl
    have L8 : (8 : Int32).toInt = 8 := rfl
    have L1000000 : (1000000 : Int32).toInt = 1000000 := rfl
    have nx1 := nt_b x1
    refine ile_t (fun c1 => ?_) (fun c1 => ?_)
    · exact tot_end hG
    · refine mis_t (hp_4 _) ?_
      refine mcl_v (t_Pa_nextByte hn0 _ hG) (fun v3 Sc2 zSc2 => ?_)
      have hGSc2 : G F B Sc2 := zSc2
      have nv3 := nt_b v3
      refine ieq_t (fun c3 => ?_) (fun c3 => ?_)
      · have tc3 := congrArg Int32.toInt c3
        exact tot_end hGSc2
      · refine mcl_v (t_Pa_isBlank hn0 _ v3 hGSc2) (fun v7 Sc4 zSc4 => ?_)
        have hGSc4 : G F B Sc4 := zSc4
        have nv7 := nt_b v7
        refine ieq_t (fun c5 => ?_) (fun c5 => ?_)
        · have tc5 := congrArg Int32.toInt c5
          exact tot_end hGSc4
        · refine mnm_v (fun v10 ev10 => ?_)
          have nv10 := nt_b v10
          have kv10 : v10.toInt = x1.toInt + 1 := by rw [ev10]; exact nt_inc (by omega)
          exact ih _ v10 hGSc4 (by omega)
set_option maxHeartbeats 2000000 in
theorem t_Pa_nextSign {F B : mP} {n0 : Nat} (hn0 : big n0) (S : mS)  (hG : G F B S)  : tot (f_Pa_nextSign n0 (hp S) 4) (fun r S => G F B S) := by
  unfold f_Pa_nextSign
  have L0 : (0 : Int32).toInt = 0 := rfl
  exact t_Pa_nextSign_L2 hn0 n0 _ 0 hG (big_lt hn0 (by omega))
set_option maxHeartbeats 2000000 in
theorem t_Pa_highNumber_L4 {F B : mP} {n0 : Nat} (hn0 : big n0) : ∀ (n : Nat) (S : mS) (x1 : Int32) (x2 : Int32) (x3 : Int32), G F B S → (x1.toInt - x3.toInt).toNat < n → tot (f_Pa_highNumber_L4 n0 n (hp S) 4 x1 x2 x3) (fun r S => G F B S) := by
  intro n
  induction n with
  | zero =>
    intro S x1 x2 x3 hG hm
    exact absurd hm (Nat.not_lt_zero _)
  | succ n ih =>
    intro S x1 x2 x3 hG hm
    rw [f_Pa_highNumber_L4.eq_2]
    have Lm1 : (-1 : Int32).toInt = -1 := rfl
    have L0 : (0 : Int32).toInt = 0 := rfl
    have L1 : (1 : Int32).toInt = 1 := rfl
    have L2 : (2 : Int32).toInt = 2 := rfl
    have L8 : (8 : Int32).toInt = 8 := rfl
    have nx1 := nt_b x1
    have nx2 := nt_b x2
    have nx3 := nt_b x3
    refine ile_t (fun c1 => ?_) (fun c1 => ?_)
    · exact tot_end hG
    · refine mis_t (hp_4 _) ?_
      refine mcl_v (t_Pa_nextBit hn0 _ 0 hG) (fun v3 Sc2 zSc2 => ?_)
      obtain ⟨hGSc2, pv3⟩ := zSc2
      have nv3 := nt_b v3
      refine ieq_t (fun c3 => ?_) (fun c3 => ?_)
      · have tc3 := congrArg Int32.toInt c3
        exact tot_end hGSc2
      · refine mnm_v (fun v6 ev6 => ?_)
        have nv6 := nt_b v6
        refine mnm_v (fun v7 ev7 => ?_)
        have nv7 := nt_b v7
        have kv7 : v7.toInt = x3.toInt + 1 := by rw [ev7]; exact nt_inc (by omega)
        exact ih _ x1 v6 v7 hGSc2 (by omega)
set_option maxHeartbeats 2000000 in
theorem t_Pa_highNumber {F B : mP} {n0 : Nat} (hn0 : big n0) (S : mS) (x1 : Int32) (hG : G F B S)  : tot (f_Pa_highNumber n0 (hp S) 4 x1) (fun r S => G F B S) := by
  unfold f_Pa_highNumber
  have L0 : (0 : Int32).toInt = 0 := rfl
  have nx1 := nt_b x1
  exact t_Pa_highNumber_L4 hn0 n0 _ x1 0 0 hG (big_lt hn0 (by omega))
