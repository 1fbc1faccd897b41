set_option maxHeartbeats 2000000 in
theorem t_Mo_decode_L176 {F B : mP} {n0 : Nat} (hn0 : big n0) : ∀ (n : Nat) (S : mS) (x1 : Int32), G F B S → (0 ≤ x1.toInt) → (65536 - x1.toInt).toNat < n → tot (f_Mo_decode_L176 n0 n (hp S) 50 x1) (fun r S => G F B S) := by
  intro n
  induction n with
  | zero =>
    intro S x1 hG q0 hm
    exact absurd hm (Nat.not_lt_zero _)
  | succ n ih =>
    intro S x1 hG q0 hm
    rw [f_Mo_decode_L176.eq_2]
    have L0 : (0 : Int32).toInt = 0 := rfl
    have L1 : (1 : Int32).toInt = 1 := rfl
    have L10 : (10 : Int32).toInt = 10 := rfl
    have L13 : (13 : Int32).toInt = 13 := rfl
    have L14 : (14 : Int32).toInt = 14 := rfl
    have L27 : (27 : Int32).toInt = 27 := rfl
    have nx1 := nt_b x1
    refine mgi_v (hp_50 _) rfl (fun v17 ev17 => ?_)
    have nv17 := nt_b v17
    have bv17 := b_5013 hG
    rw [← ev17] at bv17
    refine ile_t (fun c1 => ?_) (fun c1 => ?_)
    · refine mgi_v (hp_50 _) rfl (fun v19 ev19 => ?_)
      have nv19 := nt_b v19
      have bv19 := b_5013 hG
      rw [← ev19] at bv19
      have fv19 : v19 = v17 := ev19.trans ev17.symm
      have gv19 := congrArg Int32.toInt fv19
      exact tot_end hG
    · refine mgr_t (v := 65) (hp_50 _) rfl ?_
      refine mgr_t (v := 59) (hp_50 _) rfl ?_
      refine mai_v (hp_59 _) (nt_in (by omega) (by omega)) (fun v22 ev22 => ?_)
      have nv22 := nt_b v22
      refine mas_t (hp_65 _) (nt_in (by omega) (by omega)) (ha_65 _ _) ?_
      have hGS2 : G F B (uA S 65 (upd (S.2.1 65) (x1).toNatClampNeg v22)) := G_Ai hG (nb (by decide)) (by decide)
      refine mnm_v (fun v24 ev24 => ?_)
      have nv24 := nt_b v24
      have kv24 : v24.toInt = x1.toInt + 1 := by rw [ev24]; exact nt_inc (by omega)
      exact ih _ v24 hGS2 (by omega) (by omega)
set_option maxHeartbeats 2000000 in
theorem t_Mo_decode_B161 {F B : mP} {n0 : Nat} (hn0 : big n0) (S : mS)  (hG : G F B S)  : tot (f_Mo_decode_B161 n0 (hp S) 50) (fun r S => G F B S) := by
  unfold f_Mo_decode_B161
  have L0 : (0 : Int32).toInt = 0 := rfl
  have L1 : (1 : Int32).toInt = 1 := rfl
  have L10 : (10 : Int32).toInt = 10 := rfl
  have L13 : (13 : Int32).toInt = 13 := rfl
  have L25 : (25 : Int32).toInt = 25 := rfl
  have L26 : (26 : Int32).toInt = 26 := rfl
  refine mpt_t (hp_50 _) (Nat.le_of_ble_eq_true rfl) (hs_50_25 _ _) ?_
  have hGS1 : G F B (uV S 5025 (1)) := g_5025 hG
  refine mgi_v (hp_50 _) rfl (fun v15 ev15 => ?_)
  have nv15 := nt_b v15
  have bv15 := b_5013 hGS1
  rw [← ev15] at bv15
  refine mpt_t (hp_50 _) (Nat.le_of_ble_eq_true rfl) (hs_50_26 _ _) ?_
  have hGS2 : G F B (uV (uV S 5025 (1)) 5026 (v15)) := g_5026 hGS1 (by omega) (by omega)
  exact t_Mo_decode_L176 hn0 n0 _ 0 hGS2 (by omega) (big_lt hn0 (by omega))
set_option maxHeartbeats 2000000 in
theorem t_Mo_decode_L96 {F B : mP} {n0 : Nat} (hn0 : big n0) {M : Nat} {K71 : mH → Nat → Int32 → Option (Int32 × mH)} (hK71 : ∀ (S : mS) (x1 : Int32), G F B S → (0 ≤ x1.toInt) → (8 - x1.toInt).toNat < M → tot (K71 (hp S) 50 x1) (fun r S => G F B S)) : ∀ (n : Nat) (S : mS) (x1 : Int32) (x2 : Int32), G F B S → (0 ≤ x1.toInt ∧ x1.toInt < 8) → ((8 - (x1.toInt + 1)).toNat < M) → (0 ≤ x2.toInt) → (65536 - x2.toInt).toNat < n → tot (f_Mo_decode_L96 K71 n0 n (hp S) 50 x1 x2) (fun r S => G F B S) := by
  intro n
  induction n with
  | zero =>
    intro S x1 x2 hG q0 q1 q2 hm
    exact absurd hm (Nat.not_lt_zero _)
  | succ n ih =>
    intro S x1 x2 hG q0 q1 q2 hm
    rw [f_Mo_decode_L96.eq_2]
    have L0 : (0 : Int32).toInt = 0 := rfl
    have L1 : (1 : Int32).toInt = 1 := rfl
    have L10 : (10 : Int32).toInt = 10 := rfl
    have L11 : (11 : Int32).toInt = 11 := rfl
    have L12 : (12 : Int32).toInt = 12 := rfl
    have L14 : (14 : Int32).toInt = 14 := rfl
    have L16 : (16 : Int32).toInt = 16 := rfl
    have L17 : (17 : Int32).toInt = 17 := rfl
    have L28 : (28 : Int32).toInt = 28 := rfl
    have L29 : (29 : Int32).toInt = 29 := rfl
    have L30 : (30 : Int32).toInt = 30 := rfl
    have nx1 := nt_b x1
    have nx2 := nt_b x2
    refine mgi_v (hp_50 _) rfl (fun v31 ev31 => ?_)
    have nv31 := nt_b v31
    have bv31 := b_5011 hG
    rw [← ev31] at bv31
    refine ile_t (fun c1 => ?_) (fun c1 => ?_)
    · refine mis_t (hp_50 _) ?_
      refine mcl_v (t_Mo_run hn0 _ x1 hG (by omega)) (fun u3 Sc2 zSc2 => ?_)
      have hGSc2 : G F B Sc2 := zSc2
      refine mis_t (hp_50 _) ?_
      refine mcl_v (t_Mo_isGood _) (fun v38 Sc4 zSc4 => ?_)
      obtain ⟨eSc4, pv38⟩ := zSc4
      subst eSc4
      have nv38 := nt_b v38
      refine ieq_t (fun c5 => ?_) (fun c5 => ?_)
      · have tc5 := congrArg Int32.toInt c5
        refine mpt_t (hp_50 _) (Nat.le_of_ble_eq_true rfl) (hs_50_28 _ _) ?_
        have hGS6 : G F B (uV Sc2 5028 (x1)) := g_5028 hGSc2
        refine mgi_v (hp_50 _) rfl (fun v43 ev43 => ?_)
        have nv43 := nt_b v43
        have bv43 := b_5017 hGS6
        rw [← ev43] at bv43
        refine mpt_t (hp_50 _) (Nat.le_of_ble_eq_true rfl) (hs_50_29 _ _) ?_
        have hGS7 : G F B (uV (uV Sc2 5028 (x1)) 5029 (v43)) := g_5029 hGS6
        refine mgi_v (hp_50 _) rfl (fun v45 ev45 => ?_)
        have nv45 := nt_b v45
        have bv45 := b_5016 hGS7
        rw [← ev45] at bv45
        refine mpt_t (hp_50 _) (Nat.le_of_ble_eq_true rfl) (hs_50_30 _ _) ?_
        have hGS8 : G F B (uV (uV (uV Sc2 5028 (x1)) 5029 (v43)) 5030 (v45)) := g_5030 hGS7
        refine mnm_v (fun v47 ev47 => ?_)
        have nv47 := nt_b v47
        have kv47 : v47.toInt = x1.toInt + 1 := by rw [ev47]; exact nt_inc (by omega)
        exact hK71 _ v47 hGS8 (by omega) (by omega)
      · refine mnm_v (fun v41 ev41 => ?_)
        have nv41 := nt_b v41
        have kv41 : v41.toInt = x1.toInt + 1 := by rw [ev41]; exact nt_inc (by omega)
        exact hK71 _ v41 hGSc2 (by omega) (by omega)
    · refine mgr_t (v := 58) (hp_50 _) rfl ?_
      refine mgr_t (v := 59) (hp_50 _) rfl ?_
      refine mai_v (hp_59 _) (nt_in (by omega) (by omega)) (fun v50 ev50 => ?_)
      have nv50 := nt_b v50
      refine mas_t (hp_58 _) (nt_in (by omega) (by omega)) (ha_58 _ _) ?_
      have hGS9 : G F B (uA S 58 (upd (S.2.1 58) (x2).toNatClampNeg v50)) := G_Ai hG (nb (by decide)) (by decide)
      refine mnm_v (fun v52 ev52 => ?_)
      have nv52 := nt_b v52
      have kv52 : v52.toInt = x2.toInt + 1 := by rw [ev52]; exact nt_inc (by omega)
      exact ih _ x1 v52 hGS9 (by omega) (by omega) (by omega) (by omega)
set_option maxHeartbeats 2000000 in
theorem t_Mo_decode_L71 {F B : mP} {n0 : Nat} (hn0 : big n0) : ∀ (n : Nat) (S : mS) (x1 : Int32), G F B S → (0 ≤ x1.toInt) → (8 - x1.toInt).toNat < n → tot (f_Mo_decode_L71 n0 n (hp S) 50 x1) (fun r S => G F B S) := by
  intro n
  induction n with
  | zero =>
    intro S x1 hG q0 hm
    exact absurd hm (Nat.not_lt_zero _)
  | succ n ih =>
    intro S x1 hG q0 hm
    rw [f_Mo_decode_L71.eq_2]
    have L0 : (0 : Int32).toInt = 0 := rfl
    have L1 : (1 : Int32).toInt = 1 := rfl
    have L3 : (3 : Int32).toInt = 3 := rfl
    have L10 : (10 : Int32).toInt = 10 := rfl
    have L11 : (11 : Int32).toInt = 11 := rfl
    have L13 : (13 : Int32).toInt = 13 := rfl
    have nx1 := nt_b x1
    refine mgi_v (hp_50 _) rfl (fun v12 ev12 => ?_)
    have nv12 := nt_b v12
    have bv12 := b_5003 hG
    rw [← ev12] at bv12
    refine ile_t (fun c1 => ?_) (fun c1 => ?_)
    · exact t_Mo_decode_B161 hn0 _ hG
    · refine mis_t (hp_50 _) ?_
      refine mcl_v (t_Mo_isGood _) (fun v26 Sc2 zSc2 => ?_)
      obtain ⟨eSc2, pv26⟩ := zSc2
      subst eSc2
      have nv26 := nt_b v26
      refine ieq_t (fun c3 => ?_) (fun c3 => ?_)
      · have tc3 := congrArg Int32.toInt c3
        exact t_Mo_decode_B161 hn0 _ hG
      · refine mgi_v (hp_50 _) rfl (fun v29 ev29 => ?_)
        have nv29 := nt_b v29
        have bv29 := b_5013 hG
        rw [← ev29] at bv29
        refine mpt_t (hp_50 _) (Nat.le_of_ble_eq_true rfl) (hs_50_11 _ _) ?_
        have hGS4 : G F B (uV S 5011 (v29)) := g_5011 hG (by omega) (by omega)
        exact t_Mo_decode_L96 hn0 ih n0 _ x1 0 hGS4 (by omega) (by omega) (by omega) (big_lt hn0 (by omega))
set_option maxHeartbeats 2000000 in
theorem t_Mo_decode_L43 {F B : mP} {n0 : Nat} (hn0 : big n0) : ∀ (n : Nat) (S : mS) (x1 : Int32), G F B S → (0 ≤ x1.toInt) → (16384 - x1.toInt).toNat < n → tot (f_Mo_decode_L43 n0 n (hp S) 50 x1) (fun r S => G F B S) := by
  intro n
  induction n with
  | zero =>
    intro S x1 hG q0 hm
    exact absurd hm (Nat.not_lt_zero _)
  | succ n ih =>
    intro S x1 hG q0 hm
    rw [f_Mo_decode_L43.eq_2]
    have L0 : (0 : Int32).toInt = 0 := rfl
    have L1 : (1 : Int32).toInt = 1 := rfl
    have L2 : (2 : Int32).toInt = 2 := rfl
    have L10 : (10 : Int32).toInt = 10 := rfl
    have L14 : (14 : Int32).toInt = 14 := rfl
    have nx1 := nt_b x1
    refine mgi_v (hp_50 _) rfl (fun v10 ev10 => ?_)
    have nv10 := nt_b v10
    have bv10 := b_5001 hG
    rw [← ev10] at bv10
    refine ile_t (fun c1 => ?_) (fun c1 => ?_)
    · exact t_Mo_decode_L71 hn0 n0 _ 0 hG (by omega) (big_lt hn0 (by omega))
    · refine mgr_t (v := 59) (hp_50 _) rfl ?_
      refine mgr_t (v := 51) (hp_50 _) rfl ?_
      refine mai_v (hp_51 _) (nt_in (by omega) (by omega)) (fun v55 ev55 => ?_)
      have nv55 := nt_b v55
      refine mas_t (hp_59 _) (nt_in (by omega) (by omega)) (ha_59 _ _) ?_
      have hGS2 : G F B (uA S 59 (upd (S.2.1 59) (x1).toNatClampNeg v55)) := G_Ai hG (nb (by decide)) (by decide)
      refine mnm_v (fun v57 ev57 => ?_)
      have nv57 := nt_b v57
      have kv57 : v57.toInt = x1.toInt + 1 := by rw [ev57]; exact nt_inc (by omega)
      exact ih _ v57 hGS2 (by omega) (by omega)
set_option maxHeartbeats 2000000 in
theorem t_Mo_decode {F B : mP} {n0 : Nat} (hn0 : big n0) (S : mS)  (hG : G F B S)  : tot (f_Mo_decode n0 (hp S) 50) (fun r S => G F B S) := by
  unfold f_Mo_decode
  have Lm1 : (-1 : Int32).toInt = -1 := rfl
  have L0 : (0 : Int32).toInt = 0 := rfl
  have L1 : (1 : Int32).toInt = 1 := rfl
  have L10 : (10 : Int32).toInt = 10 := rfl
  have L13 : (13 : Int32).toInt = 13 := rfl
  have L15 : (15 : Int32).toInt = 15 := rfl
  have L17 : (17 : Int32).toInt = 17 := rfl
  have L28 : (28 : Int32).toInt = 28 := rfl
  have L29 : (29 : Int32).toInt = 29 := rfl
  have L30 : (30 : Int32).toInt = 30 := rfl
  refine mpt_t (hp_50 _) (Nat.le_of_ble_eq_true rfl) (hs_50_0 _ _) ?_
  have hGS1 : G F B (uV S 5000 (0)) := g_5000 hG
  refine mgi_v (hp_50 _) rfl (fun v2 ev2 => ?_)
  have nv2 := nt_b v2
  have bv2 := b_5010 hGS1
  rw [← ev2] at bv2
  refine mpt_t (hp_50 _) (Nat.le_of_ble_eq_true rfl) (hs_50_15 _ _) ?_
  have hGS2 : G F B (uV (uV S 5000 (0)) 5015 (v2)) := g_5015 hGS1 (by omega) (by omega)
  refine mpt_t (hp_50 _) (Nat.le_of_ble_eq_true rfl) (hs_50_17 _ _) ?_
  have hGS3 : G F B (uV (uV (uV S 5000 (0)) 5015 (v2)) 5017 (0)) := g_5017 hGS2 (by omega) (by omega)
  refine mpt_t (hp_50 _) (Nat.le_of_ble_eq_true rfl) (hs_50_28 _ _) ?_
  have hGS4 : G F B (uV (uV (uV (uV S 5000 (0)) 5015 (v2)) 5017 (0)) 5028 (-1)) := g_5028 hGS3
  refine mpt_t (hp_50 _) (Nat.le_of_ble_eq_true rfl) (hs_50_29 _ _) ?_
  have hGS5 : G F B (uV (uV (uV (uV (uV S 5000 (0)) 5015 (v2)) 5017 (0)) 5028 (-1)) 5029 (-1)) := g_5029 hGS4
  refine mpt_t (hp_50 _) (Nat.le_of_ble_eq_true rfl) (hs_50_30 _ _) ?_
  have hGS6 : G F B (uV (uV (uV (uV (uV (uV S 5000 (0)) 5015 (v2)) 5017 (0)) 5028 (-1)) 5029 (-1)) 5030 (-1)) := g_5030 hGS5
  refine mgi_v (hp_50 _) rfl (fun v8 ev8 => ?_)
  have nv8 := nt_b v8
  have bv8 := b_5001 hGS6
  rw [← ev8] at bv8
  refine mpt_t (hp_50 _) (Nat.le_of_ble_eq_true rfl) (hs_50_13 _ _) ?_
  have hGS7 : G F B (uV (uV (uV (uV (uV (uV (uV S 5000 (0)) 5015 (v2)) 5017 (0)) 5028 (-1)) 5029 (-1)) 5030 (-1)) 5013 (v8)) := g_5013 hGS6 (by omega) (by omega)
  exact t_Mo_decode_L43 hn0 n0 _ 0 hGS7 (by omega) (big_lt hn0 (by omega))
set_option maxHeartbeats 2000000 in
theorem t_Mo_at {F B : mP} {n0 : Nat} (hn0 : big n0) (S : mS) (x1 : Int32) (hG : G F B S)  : tot (f_Mo_at n0 (hp S) 50 x1) (fun r S => G F B S) := by
  unfold f_Mo_at
  have Lm1 : (-1 : Int32).toInt = -1 := rfl
  have L0 : (0 : Int32).toInt = 0 := rfl
  have L1 : (1 : Int32).toInt = 1 := rfl
  have L10 : (10 : Int32).toInt = 10 := rfl
  have L26 : (26 : Int32).toInt = 26 := rfl
  have L27 : (27 : Int32).toInt = 27 := rfl
  have nx1 := nt_b x1
  refine mpt_t (hp_50 _) (Nat.le_of_ble_eq_true rfl) (hs_50_0 _ _) ?_
  have hGS1 : G F B (uV S 5000 (0)) := g_5000 hG
  refine mgi_v (hp_50 _) rfl (fun v2 ev2 => ?_)
  have nv2 := nt_b v2
  have bv2 := b_5026 hGS1
  rw [← ev2] at bv2
  have kv2 : (v2 - 1 : Int32).toInt = v2.toInt - (1 : Int32).toInt := nt_sub (by omega) (by omega)
  refine mcl_v (t_Mo_isIn hn0 _ x1 0 (v2 - 1) hGS1) (fun v4 Sc2 zSc2 => ?_)
  obtain ⟨eSc2, pv4⟩ := zSc2
  subst eSc2
  have nv4 := nt_b v4
  refine ieq_t (fun c3 => ?_) (fun c3 => ?_)
  · have tc3 := congrArg Int32.toInt c3
    exact tot_end hGS1
  · refine mgr_t (v := 65) (hp_50 _) rfl ?_
    refine mai_v (hp_65 _) (nt_in (by omega) (by omega)) (fun v8 ev8 => ?_)
    have nv8 := nt_b v8
    exact tot_end hGS1
set_option maxHeartbeats 2000000 in
theorem t_Mo_fault {F B : mP} {n0 : Nat} (hn0 : big n0) (S : mS) (x1 : Int32) (hG : G F B S)  : tot (f_Mo_fault n0 (hp S) 50 x1) (fun r S => G F B S) := by
  unfold f_Mo_fault
  have Lm1 : (-1 : Int32).toInt = -1 := rfl
  have L0 : (0 : Int32).toInt = 0 := rfl
  have L1 : (1 : Int32).toInt = 1 := rfl
  have L2 : (2 : Int32).toInt = 2 := rfl
  have L10 : (10 : Int32).toInt = 10 := rfl
  have L28 : (28 : Int32).toInt = 28 := rfl
  have L29 : (29 : Int32).toInt = 29 := rfl
  have L30 : (30 : Int32).toInt = 30 := rfl
  have nx1 := nt_b x1
  refine mpt_t (hp_50 _) (Nat.le_of_ble_eq_true rfl) (hs_50_0 _ _) ?_
  have hGS1 : G F B (uV S 5000 (0)) := g_5000 hG
  refine ieq_t (fun c2 => ?_) (fun c2 => ?_)
  · have tc2 := congrArg Int32.toInt c2
    refine mgi_v (hp_50 _) rfl (fun v7 ev7 => ?_)
    have nv7 := nt_b v7
    exact tot_end hGS1
  · refine ieq_t (fun c3 => ?_) (fun c3 => ?_)
    · have tc3 := congrArg Int32.toInt c3
      refine mgi_v (hp_50 _) rfl (fun v6 ev6 => ?_)
      have nv6 := nt_b v6
      exact tot_end hGS1
    · refine ieq_t (fun c4 => ?_) (fun c4 => ?_)
      · have tc4 := congrArg Int32.toInt c4
        refine mgi_v (hp_50 _) rfl (fun v5 ev5 => ?_)
        have nv5 := nt_b v5
        exact tot_end hGS1
      · exact tot_end hGS1
set_option maxHeartbeats 2000000 in
theorem t_Mo_feed_B76 {F B : mP} {n0 : Nat} (hn0 : big n0) {M : Nat} {K23 : mH → Nat → Int32 → Int32 → Int32 → Int32 → Int32 → Int32 → Option (Int32 × mH)} (hK23 : ∀ (S : mS) (x1 : Int32) (x2 : Int32) (x3 : Int32) (x4 : Int32) (x5 : Int32) (x6 : Int32), G F B S → (0 ≤ x6.toInt) → ((S.1 5001).toInt + 20 - x6.toInt ≤ 16384) → (20 - x6.toInt).toNat < M → tot (K23 (hp S) 50 x1 x2 x3 x4 x5 x6) (fun r S => G F B S)) (S : mS) (x1 : Int32) (x2 : Int32) (x3 : Int32) (x4 : Int32) (x5 : Int32) (x6 : Int32) (p0 : Int32) (hG : G F B S) (q0 : 0 ≤ x6.toInt ∧ x6.toInt < 20) (q1 : (S.1 5001).toInt + 20 - x6.toInt ≤ 16384) (q2 : (20 - (x6.toInt + 1)).toNat < M) : tot (f_Mo_feed_B76 K23 n0 (hp S) 50 x1 x2 x3 x4 x5 x6 p0) (fun r S => G F B S) := by
  unfold f_Mo_feed_B76
  have L1 : (1 : Int32).toInt = 1 := rfl
  have L2 : (2 : Int32).toInt = 2 := rfl
  have L4 : (4 : Int32).toInt = 4 := rfl
  have L8 : (8 : Int32).toInt = 8 := rfl
  have L10 : (10 : Int32).toInt = 10 := rfl
  have L24 : (24 : Int32).toInt = 24 := rfl
  have L31 : (31 : Int32).toInt = 31 := rfl
  have L255 : (255 : Int32).toInt = 255 := rfl
  have nx1 := nt_b x1
  have nx2 := nt_b x2
  have nx3 := nt_b x3
  have nx4 := nt_b x4
  have nx5 := nt_b x5
  have nx6 := nt_b x6
  have np0 := nt_b p0
  refine mgr_t (v := 51) (hp_50 _) rfl ?_
  refine mgi_v (hp_50 _) rfl (fun v11 ev11 => ?_)
  have nv11 := nt_b v11
  have bv11 := b_5001 hG
  rw [← ev11] at bv11
  have dv11 := congrArg Int32.toInt ev11
  refine mas_t (hp_51 _) (nt_in (by omega) (by omega)) (ha_51 _ _) ?_
  have hGS1 : G F B (uA S 51 (upd (S.2.1 51) (v11).toNatClampNeg ((p0 >>> ((24 - (8 * (x6 - x6 / 4 * 4))) &&& 31)) &&& 255))) := G_Ai hG (nb (by decide)) (by decide)
  refine mgi_v (hp_50 _) rfl (fun v13 ev13 => ?_)
  have nv13 := nt_b v13
  have bv13 := b_5001 hGS1
  rw [← ev13] at bv13
  have fv13 : v13 = v11 := ev13.trans ev11.symm
  have gv13 := congrArg Int32.toInt fv13
  have dv13 : v13.toInt = (S.1 5001).toInt := congrArg Int32.toInt ev13
  have kz2 : (v13 + 1 : Int32).toInt = (v13 : Int32).toInt + (1 : Int32).toInt := nt_add (by omega) (by omega)
  refine mpt_t (hp_50 _) (Nat.le_of_ble_eq_true rfl) (hs_50_1 _ _) ?_
  have hGS3 : G F B (uV (uA S 51 (upd (S.2.1 51) (v11).toNatClampNeg ((p0 >>> ((24 - (8 * (x6 - x6 / 4 * 4))) &&& 31)) &&& 255))) 5001 (v13 + 1)) := g_5001 hGS1 (by omega) (by omega)
  have dh14 : ((uV (uA S 51 (upd (S.2.1 51) (v11).toNatClampNeg ((p0 >>> ((24 - (8 * (x6 - x6 / 4 * 4))) &&& 31)) &&& 255))) 5001 (v13 + 1)).1 5001).toInt = v13.toInt + 1 := nt_inc (by omega)
  refine mnm_v (fun v15 ev15 => ?_)
  have nv15 := nt_b v15
  have kv15 : v15.toInt = x6.toInt + 1 := by rw [ev15]; exact nt_inc (by omega)
  exact hK23 _ x1 x2 x3 x4 x5 v15 hGS3 (by omega) (by omega) (by omega)
set_option maxHeartbeats 2000000 in
theorem t_Mo_feed_L23 {F B : mP} {n0 : Nat} (hn0 : big n0) : ∀ (n : Nat) (S : mS) (x1 : Int32) (x2 : Int32) (x3 : Int32) (x4 : Int32) (x5 : Int32) (x6 : Int32), G F B S → (0 ≤ x6.toInt) → ((S.1 5001).toInt + 20 - x6.toInt ≤ 16384) → (20 - x6.toInt).toNat < n → tot (f_Mo_feed_L23 n0 n (hp S) 50 x1 x2 x3 x4 x5 x6) (fun r S => G F B S) := by
  intro n
  induction n with
  | zero =>
    intro S x1 x2 x3 x4 x5 x6 hG q0 q1 hm
    exact absurd hm (Nat.not_lt_zero _)
  | succ n ih =>
    intro S x1 x2 x3 x4 x5 x6 hG q0 q1 hm
    rw [f_Mo_feed_L23.eq_2]
    have L0 : (0 : Int32).toInt = 0 := rfl
    have L1 : (1 : Int32).toInt = 1 := rfl
    have L4 : (4 : Int32).toInt = 4 := rfl
    have L8 : (8 : Int32).toInt = 8 := rfl
    have L10 : (10 : Int32).toInt = 10 := rfl
    have L12 : (12 : Int32).toInt = 12 := rfl
    have L16 : (16 : Int32).toInt = 16 := rfl
    have L20 : (20 : Int32).toInt = 20 := rfl
    have nx1 := nt_b x1
    have nx2 := nt_b x2
    have nx3 := nt_b x3
    have nx4 := nt_b x4
    have nx5 := nt_b x5
    have nx6 := nt_b x6
    refine ile_t (fun c1 => ?_) (fun c1 => ?_)
    · refine mgi_v (hp_50 _) rfl (fun v5 ev5 => ?_)
      have nv5 := nt_b v5
      have bv5 := b_5001 hG
      rw [← ev5] at bv5
      exact tot_end hG
    · refine ile_t (fun c2 => ?_) (fun c2 => ?_)
      · refine ile_t (fun c3 => ?_) (fun c3 => ?_)
        · refine ile_t (fun c4 => ?_) (fun c4 => ?_)
          · refine ile_t (fun c5 => ?_) (fun c5 => ?_)
            · exact t_Mo_feed_B76 hn0 ih _ x1 x2 x3 x4 x5 x6 x5 hG (by omega) (by omega) (by omega)
            · exact t_Mo_feed_B76 hn0 ih _ x1 x2 x3 x4 x5 x6 x4 hG (by omega) (by omega) (by omega)
          · exact t_Mo_feed_B76 hn0 ih _ x1 x2 x3 x4 x5 x6 x3 hG (by omega) (by omega) (by omega)
        · exact t_Mo_feed_B76 hn0 ih _ x1 x2 x3 x4 x5 x6 x2 hG (by omega) (by omega) (by omega)
      · exact t_Mo_feed_B76 hn0 ih _ x1 x2 x3 x4 x5 x6 x1 hG (by omega) (by omega) (by omega)
set_option maxHeartbeats 2000000 in
theorem t_Mo_feed {F B : mP} {n0 : Nat} (hn0 : big n0) (S : mS) (x1 : Int32) (x2 : Int32) (x3 : Int32) (x4 : Int32) (x5 : Int32) (hG : G F B S)  : tot (f_Mo_feed n0 (hp S) 50 x1 x2 x3 x4 x5) (fun r S => G F B S) := by
  unfold f_Mo_feed
  have Lm1 : (-1 : Int32).toInt = -1 := rfl
  have L0 : (0 : Int32).toInt = 0 := rfl
  have L1 : (1 : Int32).toInt = 1 := rfl
  have L10 : (10 : Int32).toInt = 10 := rfl
  have L20 : (20 : Int32).toInt = 20 := rfl
  have L16384 : (16384 : Int32).toInt = 16384 := rfl
  have nx1 := nt_b x1
  have nx2 := nt_b x2
  have nx3 := nt_b x3
  have nx4 := nt_b x4
  have nx5 := nt_b x5
  refine mpt_t (hp_50 _) (Nat.le_of_ble_eq_true rfl) (hs_50_0 _ _) ?_
  have hGS1 : G F B (uV S 5000 (0)) := g_5000 hG
  refine mgi_v (hp_50 _) rfl (fun v2 ev2 => ?_)
  have nv2 := nt_b v2
  have bv2 := b_5001 hGS1
  rw [← ev2] at bv2
  have dv2 : v2.toInt = ((uV S 5000 (0)).1 5001).toInt := congrArg Int32.toInt ev2
  have kz3 : (v2 + 20 : Int32).toInt = (v2 : Int32).toInt + (20 : Int32).toInt := nt_add (by omega) (by omega)
  refine ile_t (fun c2 => ?_) (fun c2 => ?_)
  · exact t_Mo_feed_L23 hn0 n0 _ x1 x2 x3 x4 x5 0 hGS1 (by omega) (by omega) (big_lt hn0 (by omega))
  · exact tot_end hGS1
set_option maxHeartbeats 2000000 in
theorem t_Mo_put_B35 {F B : mP} {n0 : Nat} (hn0 : big n0) (S : mS) (x1 : Int32) (x2 : Int32) (p0 : Int32) (hG : G F B S) (q0 : p0.toInt ≤ 0 → (0 ≤ x1.toInt ∧ x1.toInt ≤ 16383)) : tot (f_Mo_put_B35 n0 (hp S) 50 x1 x2 p0 50) (fun r S => G F B S) := by
  unfold f_Mo_put_B35
  have L0 : (0 : Int32).toInt = 0 := rfl
  have L2 : (2 : Int32).toInt = 2 := rfl
  have L10 : (10 : Int32).toInt = 10 := rfl
  have nx1 := nt_b x1
  have nx2 := nt_b x2
  have np0 := nt_b p0
  refine mis_t (hp_50 _) ?_
  refine mcl_v (t_Mo_refused _ p0 hG) (fun v11 Sc1 zSc1 => ?_)
  obtain ⟨eSc1, pv11⟩ := zSc1
  subst eSc1
  have hGSc1 : G F B (uV S 5000 p0) := g_5000 hG
  have nv11 := nt_b v11
  refine ieq_t (fun c2 => ?_) (fun c2 => ?_)
  · have tc2 := congrArg Int32.toInt c2
    refine mgr_t (v := 51) (hp_50 _) rfl ?_
    refine mai_v (hp_51 _) (nt_in (by omega) (by omega)) (fun v15 ev15 => ?_)
    have nv15 := nt_b v15
    refine mgr_t (v := 51) (hp_50 _) rfl ?_
    refine mas_t (hp_51 _) (nt_in (by omega) (by omega)) (ha_51 _ _) ?_
    have hGS3 : G F B (uA (uV S 5000 p0) 51 (upd ((uV S 5000 p0).2.1 51) (x1).toNatClampNeg x2)) := G_Ai hGSc1 (nb (by decide)) (by decide)
    exact tot_end hGS3
  · exact tot_end hGSc1
set_option maxHeartbeats 2000000 in
theorem t_Mo_put {F B : mP} {n0 : Nat} (hn0 : big n0) (S : mS) (x1 : Int32) (x2 : Int32) (hG : G F B S)  : tot (f_Mo_put n0 (hp S) 50 x1 x2) (fun r S => G F B S) := by
  unfold f_Mo_put
  have L0 : (0 : Int32).toInt = 0 := rfl
  have L1 : (1 : Int32).toInt = 1 := rfl
  have L2 : (2 : Int32).toInt = 2 := rfl
  have L10 : (10 : Int32).toInt = 10 := rfl
  have L255 : (255 : Int32).toInt = 255 := rfl
  have nx1 := nt_b x1
  have nx2 := nt_b x2
  refine mgi_v (hp_50 _) rfl (fun v1 ev1 => ?_)
  have nv1 := nt_b v1
  have bv1 := b_5001 hG
  rw [← ev1] at bv1
  have kv1 : (v1 - 1 : Int32).toInt = v1.toInt - (1 : Int32).toInt := nt_sub (by omega) (by omega)
  refine mcl_v (t_Mo_isIn hn0 _ x1 0 (v1 - 1) hG) (fun v3 Sc1 zSc1 => ?_)
  obtain ⟨eSc1, pv3⟩ := zSc1
  subst eSc1
  have nv3 := nt_b v3
  refine ieq_t (fun c2 => ?_) (fun c2 => ?_)
  · have tc2 := congrArg Int32.toInt c2
    exact t_Mo_put_B35 hn0 _ x1 x2 1 hG (by omega)
  · refine mcl_v (t_Mo_isIn hn0 _ x2 0 255 hG) (fun v7 Sc3 zSc3 => ?_)
    obtain ⟨eSc3, pv7⟩ := zSc3
    subst eSc3
    have nv7 := nt_b v7
    refine ieq_t (fun c4 => ?_) (fun c4 => ?_)
    · have tc4 := congrArg Int32.toInt c4
      exact t_Mo_put_B35 hn0 _ x1 x2 2 hG (by omega)
    · exact t_Mo_put_B35 hn0 _ x1 x2 0 hG (by omega)
set_option maxHeartbeats 2000000 in
theorem t_Mo_cut_B36 {F B : mP} {n0 : Nat} (hn0 : big n0) (S : mS) (p0 : Int32) (hG : G F B S) (q0 : 0 ≤ p0.toInt ∧ p0.toInt ≤ (S.1 5001).toInt) : tot (f_Mo_cut_B36 n0 (hp S) 50 p0) (fun r S => G F B S) := by
  unfold f_Mo_cut_B36
  have L1 : (1 : Int32).toInt = 1 := rfl
  have L10 : (10 : Int32).toInt = 10 := rfl
  have np0 := nt_b p0
  refine mgi_v (hp_50 _) rfl (fun v8 ev8 => ?_)
  have nv8 := nt_b v8
  have bv8 := b_5001 hG
  rw [← ev8] at bv8
  have dv8 := congrArg Int32.toInt ev8
  have kz1 : (v8 - p0 : Int32).toInt = (v8 : Int32).toInt - (p0 : Int32).toInt := nt_sub (by omega) (by omega)
  refine mpt_t (hp_50 _) (Nat.le_of_ble_eq_true rfl) (hs_50_1 _ _) ?_
  have hGS2 : G F B (uV S 5001 (v8 - p0)) := g_5001 hG (by omega) (by omega)
  exact tot_end hGS2
set_option maxHeartbeats 2000000 in
theorem t_Mo_cut_B10 {F B : mP} {n0 : Nat} (hn0 : big n0) (S : mS) (x1 : Int32) (p0 : Int32) (hG : G F B S) (q0 : p0.toInt ≤ 0 → 0 ≤ x1.toInt) : tot (f_Mo_cut_B10 n0 (hp S) 50 x1 p0 50) (fun r S => G F B S) := by
  unfold f_Mo_cut_B10
  have L0 : (0 : Int32).toInt = 0 := rfl
  have L1 : (1 : Int32).toInt = 1 := rfl
  have L10 : (10 : Int32).toInt = 10 := rfl
  have nx1 := nt_b x1
  have np0 := nt_b p0
  refine mis_t (hp_50 _) ?_
  refine mcl_v (t_Mo_refused _ p0 hG) (fun v3 Sc1 zSc1 => ?_)
  obtain ⟨eSc1, pv3⟩ := zSc1
  subst eSc1
  have hGSc1 : G F B (uV S 5000 p0) := g_5000 hG
  have nv3 := nt_b v3
  refine ieq_t (fun c2 => ?_) (fun c2 => ?_)
  · have tc2 := congrArg Int32.toInt c2
    refine mgi_v (hp_50 _) rfl (fun v6 ev6 => ?_)
    have nv6 := nt_b v6
    have bv6 := b_5001 hGSc1
    rw [← ev6] at bv6
    have dv6 : v6.toInt = ((uV S 5000 p0).1 5001).toInt := congrArg Int32.toInt ev6
    refine ile_t (fun c3 => ?_) (fun c3 => ?_)
    · exact t_Mo_cut_B36 hn0 _ 0 hGSc1 (by omega)
    · refine mgi_v (hp_50 _) rfl (fun v10 ev10 => ?_)
      have nv10 := nt_b v10
      have bv10 := b_5001 hGSc1
      rw [← ev10] at bv10
      have fv10 : v10 = v6 := ev10.trans ev6.symm
      have gv10 := congrArg Int32.toInt fv10
      have dv10 : v10.toInt = ((uV S 5000 p0).1 5001).toInt := congrArg Int32.toInt ev10
      have kz4 : (v10 - x1 : Int32).toInt = (v10 : Int32).toInt - (x1 : Int32).toInt := nt_sub (by omega) (by omega)
      exact t_Mo_cut_B36 hn0 _ (v10 - x1) hGSc1 (by omega)
  · exact tot_end hGSc1
set_option maxHeartbeats 2000000 in
theorem t_Mo_cut {F B : mP} {n0 : Nat} (hn0 : big n0) (S : mS) (x1 : Int32) (hG : G F B S)  : tot (f_Mo_cut n0 (hp S) 50 x1) (fun r S => G F B S) := by
  unfold f_Mo_cut
  have L0 : (0 : Int32).toInt = 0 := rfl
  have L1 : (1 : Int32).toInt = 1 := rfl
  have nx1 := nt_b x1
  refine ile_t (fun c1 => ?_) (fun c1 => ?_)
  · exact t_Mo_cut_B10 hn0 _ x1 0 hG (by omega)
  · exact t_Mo_cut_B10 hn0 _ x1 1 hG (by omega)
set_option maxHeartbeats 2000000 in
theorem t_Mo_keep_L46 {F B : mP} {n0 : Nat} (hn0 : big n0) : ∀ (n : Nat) (S : mS) (x1 : Int32), G F B S → (0 ≤ x1.toInt) → (16384 - x1.toInt).toNat < n → tot (f_Mo_keep_L46 n0 n (hp S) 50 x1) (fun r S => G F B S) := by
  intro n
  induction n with
  | zero =>
    intro S x1 hG q0 hm
    exact absurd hm (Nat.not_lt_zero _)
  | succ n ih =>
    intro S x1 hG q0 hm
    rw [f_Mo_keep_L46.eq_2]
    have L0 : (0 : Int32).toInt = 0 := rfl
    have L1 : (1 : Int32).toInt = 1 := rfl
    have L2 : (2 : Int32).toInt = 2 := rfl
    have L10 : (10 : Int32).toInt = 10 := rfl
    have L27 : (27 : Int32).toInt = 27 := rfl
    have nx1 := nt_b x1
    refine mgi_v (hp_50 _) rfl (fun v11 ev11 => ?_)
    have nv11 := nt_b v11
    have bv11 := b_5001 hG
    rw [← ev11] at bv11
    refine ile_t (fun c1 => ?_) (fun c1 => ?_)
    · refine mgi_v (hp_50 _) rfl (fun v13 ev13 => ?_)
      have nv13 := nt_b v13
      have bv13 := b_5001 hG
      rw [← ev13] at bv13
      have fv13 : v13 = v11 := ev13.trans ev11.symm
      have gv13 := congrArg Int32.toInt fv13
      exact tot_end hG
    · refine mgr_t (v := 51) (hp_50 _) rfl ?_
      refine mgr_t (v := 65) (hp_50 _) rfl ?_
      refine mai_v (hp_65 _) (nt_in (by omega) (by omega)) (fun v16 ev16 => ?_)
      have nv16 := nt_b v16
      refine mas_t (hp_51 _) (nt_in (by omega) (by omega)) (ha_51 _ _) ?_
      have hGS2 : G F B (uA S 51 (upd (S.2.1 51) (x1).toNatClampNeg v16)) := G_Ai hG (nb (by decide)) (by decide)
      refine mnm_v (fun v18 ev18 => ?_)
      have nv18 := nt_b v18
      have kv18 : v18.toInt = x1.toInt + 1 := by rw [ev18]; exact nt_inc (by omega)
      exact ih _ v18 hGS2 (by omega) (by omega)
set_option maxHeartbeats 2000000 in
theorem t_Mo_keep_B16 {F B : mP} {n0 : Nat} (hn0 : big n0) (S : mS) (p0 : Int32) (hG : G F B S) (q0 : p0.toInt ≤ 0 → (S.1 5026).toInt ≤ 16384) : tot (f_Mo_keep_B16 n0 (hp S) 50 p0 50) (fun r S => G F B S) := by
  unfold f_Mo_keep_B16
  have L0 : (0 : Int32).toInt = 0 := rfl
  have L1 : (1 : Int32).toInt = 1 := rfl
  have L10 : (10 : Int32).toInt = 10 := rfl
  have L25 : (25 : Int32).toInt = 25 := rfl
  have L26 : (26 : Int32).toInt = 26 := rfl
  have np0 := nt_b p0
  refine mis_t (hp_50 _) ?_
  refine mcl_v (t_Mo_refused _ p0 hG) (fun v4 Sc1 zSc1 => ?_)
  obtain ⟨eSc1, pv4⟩ := zSc1
  subst eSc1
  have hGSc1 : G F B (uV S 5000 p0) := g_5000 hG
  have nv4 := nt_b v4
  refine ieq_t (fun c2 => ?_) (fun c2 => ?_)
  · have tc2 := congrArg Int32.toInt c2
    refine mgi_v (hp_50 _) rfl (fun v7 ev7 => ?_)
    have nv7 := nt_b v7
    refine ieq_t (fun c3 => ?_) (fun c3 => ?_)
    · have tc3 := congrArg Int32.toInt c3
      refine mgi_v (hp_50 _) rfl (fun v19 ev19 => ?_)
      have nv19 := nt_b v19
      have bv19 := b_5001 hGSc1
      rw [← ev19] at bv19
      exact tot_end hGSc1
    · refine mgi_v (hp_50 _) rfl (fun v9 ev9 => ?_)
      have nv9 := nt_b v9
      have bv9 := b_5026 hGSc1
      rw [← ev9] at bv9
      have dv9 : v9.toInt = (S.1 5026).toInt := congrArg Int32.toInt ev9
      refine mpt_t (hp_50 _) (Nat.le_of_ble_eq_true rfl) (hs_50_1 _ _) ?_
      have hGS4 : G F B (uV (uV S 5000 p0) 5001 (v9)) := g_5001 hGSc1 (by omega) (by omega)
      exact t_Mo_keep_L46 hn0 n0 _ 0 hGS4 (by omega) (big_lt hn0 (by omega))
  · exact tot_end hGSc1
set_option maxHeartbeats 2000000 in
theorem t_Mo_keep {F B : mP} {n0 : Nat} (hn0 : big n0) (S : mS)  (hG : G F B S)  : tot (f_Mo_keep n0 (hp S) 50) (fun r S => G F B S) := by
  unfold f_Mo_keep
  have L0 : (0 : Int32).toInt = 0 := rfl
  have L1 : (1 : Int32).toInt = 1 := rfl
  have L10 : (10 : Int32).toInt = 10 := rfl
  have L26 : (26 : Int32).toInt = 26 := rfl
  have L16384 : (16384 : Int32).toInt = 16384 := rfl
  refine mgi_v (hp_50 _) rfl (fun v1 ev1 => ?_)
  have nv1 := nt_b v1
  have bv1 := b_5026 hG
  rw [← ev1] at bv1
  have dv1 := congrArg Int32.toInt ev1
  refine ile_t (fun c1 => ?_) (fun c1 => ?_)
  · exact t_Mo_keep_B16 hn0 _ 0 hG (by omega)
  · exact t_Mo_keep_B16 hn0 _ 1 hG (by omega)
