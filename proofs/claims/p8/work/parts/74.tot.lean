set_option maxHeartbeats 2000000 in
theorem t_Mo_firstOf_L2 {F B : mP} {n0 : Nat} (hn0 : big n0) : ∀ (n : Nat) (S : mS) (x2 : Int32), G F B S → (0 ≤ x2.toInt ∧ x2.toInt ≤ 4095) → (chn S (x2.toInt + 1)) → (x2.toInt).toNat < n → tot (f_Mo_firstOf_L2 n0 n (hp S) 50 x2) (fun r S' => S = S') := by
  intro n
  induction n with
  | zero =>
    intro S x2 hG q0 q1 hm
    exact absurd hm (Nat.not_lt_zero _)
  | succ n ih =>
    intro S x2 hG q0 q1 hm
    rw [f_Mo_firstOf_L2.eq_2]
    have L0 : (0 : Int32).toInt = 0 := rfl
    have L1 : (1 : Int32).toInt = 1 := rfl
    have L10 : (10 : Int32).toInt = 10 := rfl
    have L22 : (22 : Int32).toInt = 22 := rfl
    have L257 : (257 : Int32).toInt = 257 := rfl
    have nx2 := nt_b x2
    refine ile_t (fun c1 => ?_) (fun c1 => ?_)
    · exact tot_end rfl
    · refine mgr_t (v := 62) (hp_50 _) rfl ?_
      refine mai_v (hp_62 _) (nt_in (by omega) (by omega)) (fun v3 ev3 => ?_)
      have nv3 := nt_b v3
      have hv3 := ch_step q1 (by omega) ev3
      exact ih _ v3 hG (by omega) (ch_mono q1 (by omega)) (by omega)
set_option maxHeartbeats 2000000 in
theorem t_Mo_firstOf {F B : mP} {n0 : Nat} (hn0 : big n0) (S : mS) (x1 : Int32) (hG : G F B S) (q0 : 0 ≤ x1.toInt ∧ x1.toInt ≤ 4095) (q1 : chn S (x1.toInt + 1)) : tot (f_Mo_firstOf n0 (hp S) 50 x1) (fun r S' => S = S') := by
  unfold f_Mo_firstOf
  have nx1 := nt_b x1
  exact t_Mo_firstOf_L2 hn0 n0 _ x1 hG (by omega) (ch_mono q1 (by omega)) (big_lt hn0 (by omega))
set_option maxHeartbeats 2000000 in
theorem t_Mo_byteOf_B31 {F B : mP} {n0 : Nat} (hn0 : big n0) (S : mS) (x3 : Int32) (hG : G F B S) (q0 : 0 ≤ x3.toInt ∧ x3.toInt ≤ 4095) : tot (f_Mo_byteOf_B31 n0 (hp S) 50 x3) (fun r S' => S = S') := by
  unfold f_Mo_byteOf_B31
  have L10 : (10 : Int32).toInt = 10 := rfl
  have L23 : (23 : Int32).toInt = 23 := rfl
  have L257 : (257 : Int32).toInt = 257 := rfl
  have nx3 := nt_b x3
  refine ile_t (fun c1 => ?_) (fun c1 => ?_)
  · exact tot_end rfl
  · refine mgr_t (v := 63) (hp_50 _) rfl ?_
    refine mai_v (hp_63 _) (nt_in (by omega) (by omega)) (fun v4 ev4 => ?_)
    have nv4 := nt_b v4
    exact tot_end rfl
set_option maxHeartbeats 2000000 in
theorem t_Mo_byteOf_L2 {F B : mP} {n0 : Nat} (hn0 : big n0) : ∀ (n : Nat) (S : mS) (x2 : Int32) (x3 : Int32), G F B S → (0 ≤ x3.toInt ∧ x3.toInt ≤ 4095) → (chn S (x3.toInt + 1)) → (x3.toInt).toNat < n → tot (f_Mo_byteOf_L2 n0 n (hp S) 50 x2 x3) (fun r S' => S = S') := by
  intro n
  induction n with
  | zero =>
    intro S x2 x3 hG q0 q1 hm
    exact absurd hm (Nat.not_lt_zero _)
  | succ n ih =>
    intro S x2 x3 hG q0 q1 hm
    rw [f_Mo_byteOf_L2.eq_2]
    have L0 : (0 : Int32).toInt = 0 := rfl
    have L1 : (1 : Int32).toInt = 1 := rfl
    have L10 : (10 : Int32).toInt = 10 := rfl
    have L22 : (22 : Int32).toInt = 22 := rfl
    have L24 : (24 : Int32).toInt = 24 := rfl
    have L257 : (257 : Int32).toInt = 257 := rfl
    have nx2 := nt_b x2
    have nx3 := nt_b x3
    refine ile_t (fun c1 => ?_) (fun c1 => ?_)
    · exact t_Mo_byteOf_B31 hn0 _ x3 hG (by omega)
    · refine mgr_t (v := 64) (hp_50 _) rfl ?_
      refine mai_v (hp_64 _) (nt_in (by omega) (by omega)) (fun v6 ev6 => ?_)
      have nv6 := nt_b v6
      refine ilq_t ?_ ?_
      · exact t_Mo_byteOf_B31 hn0 _ x3 hG (by omega)
      · refine mgr_t (v := 62) (hp_50 _) rfl ?_
        refine mai_v (hp_62 _) (nt_in (by omega) (by omega)) (fun v9 ev9 => ?_)
        have nv9 := nt_b v9
        have hv9 := ch_step q1 (by omega) ev9
        exact ih _ x2 v9 hG (by omega) (ch_mono q1 (by omega)) (by omega)
set_option maxHeartbeats 2000000 in
theorem t_Mo_byteOf {F B : mP} {n0 : Nat} (hn0 : big n0) (S : mS) (x1 : Int32) (x2 : Int32) (hG : G F B S) (q0 : 0 ≤ x1.toInt ∧ x1.toInt ≤ 4095) (q1 : chn S (x1.toInt + 1)) : tot (f_Mo_byteOf n0 (hp S) 50 x1 x2) (fun r S' => S = S') := by
  unfold f_Mo_byteOf
  have nx1 := nt_b x1
  have nx2 := nt_b x2
  exact t_Mo_byteOf_L2 hn0 n0 _ x2 x1 hG (by omega) (ch_mono q1 (by omega)) (big_lt hn0 (by omega))
set_option maxHeartbeats 2000000 in
theorem t_Mo_widthOf {F B : mP} {n0 : Nat} (hn0 : big n0) (S : mS) (x0 : Int32) (hG : G F B S)  : tot (f_Mo_widthOf n0 (hp S) x0) (fun r S' => S = S' ∧ (9 ≤ r.toInt ∧ r.toInt ≤ 12)) := by
  unfold f_Mo_widthOf
  have L9 : (9 : Int32).toInt = 9 := rfl
  have L10 : (10 : Int32).toInt = 10 := rfl
  have L11 : (11 : Int32).toInt = 11 := rfl
  have L12 : (12 : Int32).toInt = 12 := rfl
  have L512 : (512 : Int32).toInt = 512 := rfl
  have L1024 : (1024 : Int32).toInt = 1024 := rfl
  have L2048 : (2048 : Int32).toInt = 2048 := rfl
  have nx0 := nt_b x0
  refine ilt_t (fun c1 => ?_) (fun c1 => ?_)
  · refine ilt_t (fun c2 => ?_) (fun c2 => ?_)
    · refine ilt_t (fun c3 => ?_) (fun c3 => ?_)
      · exact tot_end ⟨rfl, by omega⟩
      · exact tot_end ⟨rfl, by omega⟩
    · exact tot_end ⟨rfl, by omega⟩
  · exact tot_end ⟨rfl, by omega⟩
set_option maxHeartbeats 2000000 in
theorem t_Mo_lzw_B48 {F B : mP} {n0 : Nat} (hn0 : big n0) {M : Nat} {K9 : mH → Nat → Int32 → Int32 → Int32 → Int32 → Option (Unit × mH)} (hK9 : ∀ (S : mS) (x1 : Int32) (x2 : Int32) (x3 : Int32) (x4 : Int32), G F B S → Hm S → (258 ≤ x2.toInt ∧ x2.toInt ≤ 4096) → (-1 ≤ x3.toInt ∧ x3.toInt < x2.toInt) → (chn S x2.toInt) → mz S < M → tot (K9 (hp S) 50 x1 x2 x3 x4) (fun r S' => QQ F B (0) S S')) (S : mS) (x1 : Int32) (x2 : Int32) (x3 : Int32) (hG : G F B S) (hH : Hm S) (q0 : 258 ≤ x2.toInt ∧ x2.toInt ≤ 4096) (q1 : -1 ≤ x3.toInt ∧ x3.toInt < x2.toInt) (q2 : chn S x2.toInt) (q3 : mz S < M) : tot (f_Mo_lzw_B48 K9 n0 (hp S) 50 x1 x2 x3) (fun r S' => QQ F B (0) S S') := by
  unfold f_Mo_lzw_B48
  have L0 : (0 : Int32).toInt = 0 := rfl
  have nx1 := nt_b x1
  have nx2 := nt_b x2
  have nx3 := nt_b x3
  have hR0 := Rm_refl S
  have zS0 := mz_le hG
  exact tot_mono (hK9 _ x1 x2 x3 0 hG hH (by omega) (by omega) (ch_mono q2 (by omega)) (by omega)) (fun r S' z => QQ_tq hR0 (by omega) z)
set_option maxHeartbeats 2000000 in
theorem t_Mo_lzw_L221 {F B : mP} {n0 : Nat} (hn0 : big n0) {M : Nat} {K9 : mH → Nat → Int32 → Int32 → Int32 → Int32 → Option (Unit × mH)} (hK9 : ∀ (S : mS) (x1 : Int32) (x2 : Int32) (x3 : Int32) (x4 : Int32), G F B S → Hm S → (258 ≤ x2.toInt ∧ x2.toInt ≤ 4096) → (-1 ≤ x3.toInt ∧ x3.toInt < x2.toInt) → (chn S x2.toInt) → mz S < M → tot (K9 (hp S) 50 x1 x2 x3 x4) (fun r S' => QQ F B (0) S S')) : ∀ (n : Nat) (S : mS) (x1 : Int32) (x2 : Int32) (x4 : Int32) (x5 : Int32) (x8 : Int32) (x9 : Int32), G F B S → Hm S → (258 ≤ x2.toInt ∧ x2.toInt ≤ 4096) → (chn S x2.toInt) → (0 ≤ x5.toInt ∧ x5.toInt < x2.toInt) → (mz S < M) → (x8.toInt - x9.toInt).toNat < n → tot (f_Mo_lzw_L221 K9 n0 n (hp S) 50 x1 x2 x4 x5 x8 x9) (fun r S' => QQ F B (0) S S') := by
  intro n
  induction n with
  | zero =>
    intro S x1 x2 x4 x5 x8 x9 hG hH q0 q1 q2 q3 hm
    exact absurd hm (Nat.not_lt_zero _)
  | succ n ih =>
    intro S x1 x2 x4 x5 x8 x9 hG hH q0 q1 q2 q3 hm
    rw [f_Mo_lzw_L221.eq_2]
    have L0 : (0 : Int32).toInt = 0 := rfl
    have L1 : (1 : Int32).toInt = 1 := rfl
    have L10 : (10 : Int32).toInt = 10 := rfl
    have nx1 := nt_b x1
    have nx2 := nt_b x2
    have nx4 := nt_b x4
    have nx5 := nt_b x5
    have nx8 := nt_b x8
    have nx9 := nt_b x9
    have hR0 := Rm_refl S
    have zS0 := mz_le hG
    refine ile_t (fun c1 => ?_) (fun c1 => ?_)
    · exact tot_mono (hK9 _ x1 x2 x5 x4 hG hH (by omega) (by omega) (ch_mono q1 (by omega)) (by omega)) (fun r S' z => QQ_tq hR0 (by omega) z)
    · refine mis_t (hp_50 _) ?_
      refine mcl_v (t_Mo_isGood _) (fun v25 Sc2 zSc2 => ?_)
      obtain ⟨eSc2, pv25⟩ := zSc2
      subst eSc2
      have nv25 := nt_b v25
      refine ieq_t (fun c3 => ?_) (fun c3 => ?_)
      · have tc3 := congrArg Int32.toInt c3
        exact tot_mono (hK9 _ x1 x2 x5 x4 hG hH (by omega) (by omega) (ch_mono q1 (by omega)) (by omega)) (fun r S' z => QQ_tq hR0 (by omega) z)
      · refine mis_t (hp_50 _) ?_
        refine mcl_v (t_Mo_byteOf hn0 _ x5 x9 hG (by omega) (ch_mono q1 (by omega))) (fun v29 Sc4 zSc4 => ?_)
        subst zSc4
        have nv29 := nt_b v29
        refine mis_t (hp_50 _) ?_
        refine mcl_v (t_Mo_give _ v29 hG hH) (fun u6 Sc5 zSc5 => ?_)
        obtain ⟨⟨hGSc5, hHSc5, rRSc5⟩, pu6⟩ := zSc5
        have hRSc5 := Rm_trans hR0 rRSc5
        have zzSc5 := Rm_mz hGSc5 hHSc5 rRSc5 (by omega)
        have ggSc5 := rRSc5.1
        have chSc5 := ch_eq pu6 q1
        refine mnm_v (fun v35 ev35 => ?_)
        have nv35 := nt_b v35
        have kv35 : v35.toInt = x9.toInt + 1 := by rw [ev35]; exact nt_inc (by omega)
        exact tot_mono (ih _ x1 x2 x4 x5 x8 v35 hGSc5 hHSc5 (by omega) (ch_mono chSc5 (by omega)) (by omega) (by omega) (by omega)) (fun r S' z => QQ_tq hRSc5 (by omega) z)
set_option maxHeartbeats 2000000 in
theorem t_Mo_lzw_B216 {F B : mP} {n0 : Nat} (hn0 : big n0) {M : Nat} {K9 : mH → Nat → Int32 → Int32 → Int32 → Int32 → Option (Unit × mH)} (hK9 : ∀ (S : mS) (x1 : Int32) (x2 : Int32) (x3 : Int32) (x4 : Int32), G F B S → Hm S → (258 ≤ x2.toInt ∧ x2.toInt ≤ 4096) → (-1 ≤ x3.toInt ∧ x3.toInt < x2.toInt) → (chn S x2.toInt) → mz S < M → tot (K9 (hp S) 50 x1 x2 x3 x4) (fun r S' => QQ F B (0) S S')) (S : mS) (x1 : Int32) (x2 : Int32) (x4 : Int32) (x5 : Int32) (p0 : Int32) (hG : G F B S) (hH : Hm S) (q0 : 258 ≤ x2.toInt ∧ x2.toInt ≤ 4096) (q1 : chn S x2.toInt) (q2 : 0 ≤ x5.toInt ∧ x5.toInt < x2.toInt) (q3 : mz S < M) : tot (f_Mo_lzw_B216 K9 n0 (hp S) 50 x1 x2 x4 x5 p0) (fun r S' => QQ F B (0) S S') := by
  unfold f_Mo_lzw_B216
  have L0 : (0 : Int32).toInt = 0 := rfl
  have nx1 := nt_b x1
  have nx2 := nt_b x2
  have nx4 := nt_b x4
  have nx5 := nt_b x5
  have np0 := nt_b p0
  have hR0 := Rm_refl S
  have zS0 := mz_le hG
  exact tot_mono (t_Mo_lzw_L221 hn0 hK9 n0 _ x1 x2 x4 x5 p0 0 hG hH (by omega) (ch_mono q1 (by omega)) (by omega) (by omega) (big_lt hn0 (by omega))) (fun r S' z => QQ_tq hR0 (by omega) z)
set_option maxHeartbeats 2000000 in
theorem t_Mo_lzw_B197 {F B : mP} {n0 : Nat} (hn0 : big n0) {M : Nat} {K9 : mH → Nat → Int32 → Int32 → Int32 → Int32 → Option (Unit × mH)} (hK9 : ∀ (S : mS) (x1 : Int32) (x2 : Int32) (x3 : Int32) (x4 : Int32), G F B S → Hm S → (258 ≤ x2.toInt ∧ x2.toInt ≤ 4096) → (-1 ≤ x3.toInt ∧ x3.toInt < x2.toInt) → (chn S x2.toInt) → mz S < M → tot (K9 (hp S) 50 x1 x2 x3 x4) (fun r S' => QQ F B (0) S S')) (S : mS) (x1 : Int32) (x2 : Int32) (x4 : Int32) (x5 : Int32) (hG : G F B S) (hH : Hm S) (q0 : 258 ≤ x2.toInt ∧ x2.toInt ≤ 4096) (q1 : chn S x2.toInt) (q2 : 0 ≤ x5.toInt ∧ x5.toInt < x2.toInt) (q3 : mz S < M) : tot (f_Mo_lzw_B197 K9 n0 (hp S) 50 x1 x2 x4 x5) (fun r S' => QQ F B (0) S S') := by
  unfold f_Mo_lzw_B197
  have L1 : (1 : Int32).toInt = 1 := rfl
  have L10 : (10 : Int32).toInt = 10 := rfl
  have L24 : (24 : Int32).toInt = 24 := rfl
  have L257 : (257 : Int32).toInt = 257 := rfl
  have nx1 := nt_b x1
  have nx2 := nt_b x2
  have nx4 := nt_b x4
  have nx5 := nt_b x5
  have hR0 := Rm_refl S
  have zS0 := mz_le hG
  refine ile_t (fun c1 => ?_) (fun c1 => ?_)
  · exact tot_mono (t_Mo_lzw_B216 hn0 hK9 _ x1 x2 x4 x5 1 hG hH (by omega) (ch_mono q1 (by omega)) (by omega) (by omega)) (fun r S' z => QQ_tq hR0 (by omega) z)
  · refine mgr_t (v := 64) (hp_50 _) rfl ?_
    refine mai_v (hp_64 _) (nt_in (by omega) (by omega)) (fun v37 ev37 => ?_)
    have nv37 := nt_b v37
    exact tot_mono (t_Mo_lzw_B216 hn0 hK9 _ x1 x2 x4 x5 v37 hG hH (by omega) (ch_mono q1 (by omega)) (by omega) (by omega)) (fun r S' z => QQ_tq hR0 (by omega) z)
set_option maxHeartbeats 2000000 in
theorem t_Mo_lzw_B190 {F B : mP} {n0 : Nat} (hn0 : big n0) {M : Nat} {K9 : mH → Nat → Int32 → Int32 → Int32 → Int32 → Option (Unit × mH)} (hK9 : ∀ (S : mS) (x1 : Int32) (x2 : Int32) (x3 : Int32) (x4 : Int32), G F B S → Hm S → (258 ≤ x2.toInt ∧ x2.toInt ≤ 4096) → (-1 ≤ x3.toInt ∧ x3.toInt < x2.toInt) → (chn S x2.toInt) → mz S < M → tot (K9 (hp S) 50 x1 x2 x3 x4) (fun r S' => QQ F B (0) S S')) (S : mS) (x1 : Int32) (x2 : Int32) (x4 : Int32) (x5 : Int32) (p0 : Int32) (p2 : Int32) (hG : G F B S) (hH : Hm S) (q0 : 258 ≤ x2.toInt ∧ x2.toInt ≤ 4095) (q1 : chn S (x2.toInt + 1)) (q2 : 0 ≤ x5.toInt ∧ x5.toInt ≤ x2.toInt) (q3 : mz S < M) (q4 : 0 ≤ p0.toInt ∧ p0.toInt < x2.toInt) (q5 : 0 ≤ p2.toInt ∧ p2.toInt ≤ 4095) : tot (f_Mo_lzw_B190 K9 n0 (hp S) 50 x1 x2 x4 x5 p0 50 p2 63) (fun r S' => QQ F B (0) S S') := by
  unfold f_Mo_lzw_B190
  have L1 : (1 : Int32).toInt = 1 := rfl
  have L10 : (10 : Int32).toInt = 10 := rfl
  have nx1 := nt_b x1
  have nx2 := nt_b x2
  have nx4 := nt_b x4
  have nx5 := nt_b x5
  have np0 := nt_b p0
  have np2 := nt_b p2
  have hR0 := Rm_refl S
  have zS0 := mz_le hG
  refine mis_t (hp_50 _) ?_
  refine mcl_v (t_Mo_firstOf hn0 _ p0 hG (by omega) (ch_mono q1 (by omega))) (fun v46 Sc1 zSc1 => ?_)
  subst zSc1
  have nv46 := nt_b v46
  refine mas_t (hp_63 _) (nt_in (by omega) (by omega)) (ha_63 _ _) ?_
  have hGS2 : G F B (uA S 63 (upd (S.2.1 63) (p2).toNatClampNeg v46)) := G_Ai hG (nb (by decide)) (by decide)
  have hHS2 : Hm (uA S 63 (upd (S.2.1 63) (p2).toNatClampNeg v46)) := hH
  have hRS2 : Rm _ S (uA S 63 (upd (S.2.1 63) (p2).toNatClampNeg v46)) := hR0
  have zzS2 : mz (uA S 63 (upd (S.2.1 63) (p2).toNatClampNeg v46)) = mz S := rfl
  have chA : chn (uA S 63 (upd (S.2.1 63) (p2).toNatClampNeg v46)) (x2.toInt + 1) := q1
  generalize uA S 63 (upd (S.2.1 63) (p2).toNatClampNeg v46) = S2 at hGS2 hHS2 hRS2 zzS2 chA ⊢
  refine mnm_v (fun v49 ev49 => ?_)
  have nv49 := nt_b v49
  have kv49 : v49.toInt = x2.toInt + 1 := by rw [ev49]; exact nt_inc (by omega)
  exact tot_mono (t_Mo_lzw_B197 hn0 hK9 _ x1 v49 x4 x5 hGS2 hHS2 (by omega) (ch_mono chA (by omega)) (by omega) (by omega)) (fun r S' z => QQ_tq hRS2 (by omega) z)
set_option maxHeartbeats 2000000 in
theorem t_Mo_lzw_B169 {F B : mP} {n0 : Nat} (hn0 : big n0) {M : Nat} {K9 : mH → Nat → Int32 → Int32 → Int32 → Int32 → Option (Unit × mH)} (hK9 : ∀ (S : mS) (x1 : Int32) (x2 : Int32) (x3 : Int32) (x4 : Int32), G F B S → Hm S → (258 ≤ x2.toInt ∧ x2.toInt ≤ 4096) → (-1 ≤ x3.toInt ∧ x3.toInt < x2.toInt) → (chn S x2.toInt) → mz S < M → tot (K9 (hp S) 50 x1 x2 x3 x4) (fun r S' => QQ F B (0) S S')) (S : mS) (x1 : Int32) (x2 : Int32) (x3 : Int32) (x4 : Int32) (x5 : Int32) (p0 : Int32) (p1 : Int32) (hG : G F B S) (hH : Hm S) (q0 : 258 ≤ x2.toInt ∧ x2.toInt ≤ 4095) (q1 : 0 ≤ x3.toInt ∧ x3.toInt < x2.toInt) (q2 : chn S (x2.toInt + 1)) (q3 : 0 ≤ x5.toInt ∧ x5.toInt ≤ x2.toInt) (q4 : mz S < M) (q5 : 0 ≤ p1.toInt ∧ p1.toInt ≤ 4095) : tot (f_Mo_lzw_B169 K9 n0 (hp S) 50 x1 x2 x3 x4 x5 p0 p1 64) (fun r S' => QQ F B (0) S S') := by
  unfold f_Mo_lzw_B169
  have L1 : (1 : Int32).toInt = 1 := rfl
  have L10 : (10 : Int32).toInt = 10 := rfl
  have L23 : (23 : Int32).toInt = 23 := rfl
  have nx1 := nt_b x1
  have nx2 := nt_b x2
  have nx3 := nt_b x3
  have nx4 := nt_b x4
  have nx5 := nt_b x5
  have np0 := nt_b p0
  have np1 := nt_b p1
  have hR0 := Rm_refl S
  have zS0 := mz_le hG
  refine mas_t (hp_64 _) (nt_in (by omega) (by omega)) (ha_64 _ _) ?_
  have hGS1 : G F B (uA S 64 (upd (S.2.1 64) (p1).toNatClampNeg (p0 + 1))) := G_Ai hG (nb (by decide)) (by decide)
  have hHS1 : Hm (uA S 64 (upd (S.2.1 64) (p1).toNatClampNeg (p0 + 1))) := hH
  have hRS1 : Rm _ S (uA S 64 (upd (S.2.1 64) (p1).toNatClampNeg (p0 + 1))) := hR0
  have zzS1 : mz (uA S 64 (upd (S.2.1 64) (p1).toNatClampNeg (p0 + 1))) = mz S := rfl
  have chA : chn (uA S 64 (upd (S.2.1 64) (p1).toNatClampNeg (p0 + 1))) (x2.toInt + 1) := q2
  generalize uA S 64 (upd (S.2.1 64) (p1).toNatClampNeg (p0 + 1)) = S1 at hGS1 hHS1 hRS1 zzS1 chA ⊢
  refine mgr_t (v := 63) (hp_50 _) rfl ?_
  refine ieq_t (fun c2 => ?_) (fun c2 => ?_)
  · have tc2 := congrArg Int32.toInt c2
    exact tot_mono (t_Mo_lzw_B190 hn0 hK9 _ x1 x2 x4 x5 x3 x2 hGS1 hHS1 (by omega) (ch_mono chA (by omega)) (by omega) (by omega) (by omega) (by omega)) (fun r S' z => QQ_tq hRS1 (by omega) z)
  · exact tot_mono (t_Mo_lzw_B190 hn0 hK9 _ x1 x2 x4 x5 x5 x2 hGS1 hHS1 (by omega) (ch_mono chA (by omega)) (by omega) (by omega) (by omega) (by omega)) (fun r S' z => QQ_tq hRS1 (by omega) z)
set_option maxHeartbeats 2000000 in
theorem t_Mo_lzw_B119 {F B : mP} {n0 : Nat} (hn0 : big n0) {M : Nat} {K9 : mH → Nat → Int32 → Int32 → Int32 → Int32 → Option (Unit × mH)} (hK9 : ∀ (S : mS) (x1 : Int32) (x2 : Int32) (x3 : Int32) (x4 : Int32), G F B S → Hm S → (258 ≤ x2.toInt ∧ x2.toInt ≤ 4096) → (-1 ≤ x3.toInt ∧ x3.toInt < x2.toInt) → (chn S x2.toInt) → mz S < M → tot (K9 (hp S) 50 x1 x2 x3 x4) (fun r S' => QQ F B (0) S S')) (S : mS) (x1 : Int32) (x2 : Int32) (x3 : Int32) (x4 : Int32) (x5 : Int32) (x6 : Int32) (p0 : Int32) (hG : G F B S) (hH : Hm S) (q0 : 258 ≤ x2.toInt ∧ x2.toInt ≤ 4096) (q1 : -1 ≤ x3.toInt ∧ x3.toInt < x2.toInt) (q2 : chn S x2.toInt) (q3 : 0 ≤ x5.toInt ∧ x5.toInt ≤ 4095) (q4 : mz S < M) (q5 : x6.toInt = 0 ∨ (0 ≤ x3.toInt ∧ x2.toInt ≤ 4095)) (q6 : p0.toInt = 0 ∨ x5.toInt < x2.toInt ∨ (x5.toInt = x2.toInt ∧ x6.toInt ≠ 0)) : tot (f_Mo_lzw_B119 K9 n0 (hp S) 50 x1 x2 x3 x4 x5 x6 p0) (fun r S' => QQ F B (0) S S') := by
  unfold f_Mo_lzw_B119
  have L0 : (0 : Int32).toInt = 0 := rfl
  have L1 : (1 : Int32).toInt = 1 := rfl
  have L10 : (10 : Int32).toInt = 10 := rfl
  have L22 : (22 : Int32).toInt = 22 := rfl
  have L24 : (24 : Int32).toInt = 24 := rfl
  have L257 : (257 : Int32).toInt = 257 := rfl
  have nx1 := nt_b x1
  have nx2 := nt_b x2
  have nx3 := nt_b x3
  have nx4 := nt_b x4
  have nx5 := nt_b x5
  have nx6 := nt_b x6
  have np0 := nt_b p0
  have hR0 := Rm_refl S
  have zS0 := mz_le hG
  refine ieq_t (fun c1 => ?_) (fun c1 => ?_)
  · have tc1 := congrArg Int32.toInt c1
    refine mis_t (hp_50 _) ?_
    refine mcl_v (t_Mo_fail _ 10 hG hH (by decide)) (fun u3 Sc2 zSc2 => ?_)
    obtain ⟨⟨hGSc2, hHSc2, rRSc2⟩, pu3⟩ := zSc2
    have hRSc2 := Rm_trans hR0 rRSc2
    have zzSc2 := Rm_mz hGSc2 hHSc2 rRSc2 (by omega)
    have ggSc2 := rRSc2.1
    have chSc2 := ch_eq pu3.2 q2
    exact tot_mono (hK9 _ x1 x2 x3 x4 hGSc2 hHSc2 (by omega) (by omega) (ch_mono chSc2 (by omega)) (by omega)) (fun r S' z => QQ_tq hRSc2 (by omega) z)
  · refine ieq_t (fun c4 => ?_) (fun c4 => ?_)
    · have tc4 := congrArg Int32.toInt c4
      exact tot_mono (t_Mo_lzw_B197 hn0 hK9 _ x1 x2 x4 x5 hG hH (by omega) (ch_mono q2 (by omega)) (by omega) (by omega)) (fun r S' z => QQ_tq hR0 (by omega) z)
    · refine mgr_t (v := 62) (hp_50 _) rfl ?_
      refine mas_t (hp_62 _) (nt_in (by omega) (by omega)) (ha_62 _ _) ?_
      have hGS5 : G F B (uA S 62 (upd (S.2.1 62) (x2).toNatClampNeg x3)) := G_Ai hG (nb (by decide)) (by decide)
      have hHS5 : Hm (uA S 62 (upd (S.2.1 62) (x2).toNatClampNeg x3)) := hH
      have hRS5 : Rm _ S (uA S 62 (upd (S.2.1 62) (x2).toNatClampNeg x3)) := hR0
      have zzS5 : mz (uA S 62 (upd (S.2.1 62) (x2).toNatClampNeg x3)) = mz S := rfl
      have chA : chn (uA S 62 (upd (S.2.1 62) (x2).toNatClampNeg x3)) (x2.toInt + 1) := ch_up q2 (by omega) (by omega)
      generalize uA S 62 (upd (S.2.1 62) (x2).toNatClampNeg x3) = S5 at hGS5 hHS5 hRS5 zzS5 chA ⊢
      refine mgr_t (v := 64) (hp_50 _) rfl ?_
      refine ile_t (fun c6 => ?_) (fun c6 => ?_)
      · exact tot_mono (t_Mo_lzw_B169 hn0 hK9 _ x1 x2 x3 x4 x5 1 x2 hGS5 hHS5 (by omega) (by omega) (ch_mono chA (by omega)) (by omega) (by omega) (by omega)) (fun r S' z => QQ_tq hRS5 (by omega) z)
      · refine mgr_t (v := 64) (hp_50 _) rfl ?_
        refine mai_v (hp_64 _) (nt_in (by omega) (by omega)) (fun v51 ev51 => ?_)
        have nv51 := nt_b v51
        exact tot_mono (t_Mo_lzw_B169 hn0 hK9 _ x1 x2 x3 x4 x5 v51 x2 hGS5 hHS5 (by omega) (by omega) (ch_mono chA (by omega)) (by omega) (by omega) (by omega)) (fun r S' z => QQ_tq hRS5 (by omega) z)
set_option maxHeartbeats 2000000 in
theorem t_Mo_lzw_B114 {F B : mP} {n0 : Nat} (hn0 : big n0) {M : Nat} {K9 : mH → Nat → Int32 → Int32 → Int32 → Int32 → Option (Unit × mH)} (hK9 : ∀ (S : mS) (x1 : Int32) (x2 : Int32) (x3 : Int32) (x4 : Int32), G F B S → Hm S → (258 ≤ x2.toInt ∧ x2.toInt ≤ 4096) → (-1 ≤ x3.toInt ∧ x3.toInt < x2.toInt) → (chn S x2.toInt) → mz S < M → tot (K9 (hp S) 50 x1 x2 x3 x4) (fun r S' => QQ F B (0) S S')) (S : mS) (x1 : Int32) (x2 : Int32) (x3 : Int32) (x4 : Int32) (x5 : Int32) (x6 : Int32) (hG : G F B S) (hH : Hm S) (q0 : 258 ≤ x2.toInt ∧ x2.toInt ≤ 4096) (q1 : -1 ≤ x3.toInt ∧ x3.toInt < x2.toInt) (q2 : chn S x2.toInt) (q3 : 0 ≤ x5.toInt ∧ x5.toInt ≤ 4095) (q4 : mz S < M) (q5 : x6.toInt = 0 ∨ (0 ≤ x3.toInt ∧ x2.toInt ≤ 4095)) (q6 : x5.toInt < x2.toInt ∨ (x5.toInt = x2.toInt ∧ x6.toInt ≠ 0)) : tot (f_Mo_lzw_B114 K9 n0 (hp S) 50 x1 x2 x3 x4 x5 x6) (fun r S' => QQ F B (0) S S') := by
  unfold f_Mo_lzw_B114
  have L1 : (1 : Int32).toInt = 1 := rfl
  have nx1 := nt_b x1
  have nx2 := nt_b x2
  have nx3 := nt_b x3
  have nx4 := nt_b x4
  have nx5 := nt_b x5
  have nx6 := nt_b x6
  have hR0 := Rm_refl S
  have zS0 := mz_le hG
  exact tot_mono (t_Mo_lzw_B119 hn0 hK9 _ x1 x2 x3 x4 x5 x6 1 hG hH (by omega) (by omega) (ch_mono q2 (by omega)) (by omega) (by omega) (by omega) (by omega)) (fun r S' z => QQ_tq hR0 (by omega) z)
set_option maxHeartbeats 2000000 in
theorem t_Mo_lzw_B118 {F B : mP} {n0 : Nat} (hn0 : big n0) {M : Nat} {K9 : mH → Nat → Int32 → Int32 → Int32 → Int32 → Option (Unit × mH)} (hK9 : ∀ (S : mS) (x1 : Int32) (x2 : Int32) (x3 : Int32) (x4 : Int32), G F B S → Hm S → (258 ≤ x2.toInt ∧ x2.toInt ≤ 4096) → (-1 ≤ x3.toInt ∧ x3.toInt < x2.toInt) → (chn S x2.toInt) → mz S < M → tot (K9 (hp S) 50 x1 x2 x3 x4) (fun r S' => QQ F B (0) S S')) (S : mS) (x1 : Int32) (x2 : Int32) (x3 : Int32) (x4 : Int32) (x5 : Int32) (x6 : Int32) (hG : G F B S) (hH : Hm S) (q0 : 258 ≤ x2.toInt ∧ x2.toInt ≤ 4096) (q1 : -1 ≤ x3.toInt ∧ x3.toInt < x2.toInt) (q2 : chn S x2.toInt) (q3 : 0 ≤ x5.toInt ∧ x5.toInt ≤ 4095) (q4 : mz S < M) (q5 : x6.toInt = 0 ∨ (0 ≤ x3.toInt ∧ x2.toInt ≤ 4095)) : tot (f_Mo_lzw_B118 K9 n0 (hp S) 50 x1 x2 x3 x4 x5 x6) (fun r S' => QQ F B (0) S S') := by
  unfold f_Mo_lzw_B118
  have L0 : (0 : Int32).toInt = 0 := rfl
  have nx1 := nt_b x1
  have nx2 := nt_b x2
  have nx3 := nt_b x3
  have nx4 := nt_b x4
  have nx5 := nt_b x5
  have nx6 := nt_b x6
  have hR0 := Rm_refl S
  have zS0 := mz_le hG
  exact tot_mono (t_Mo_lzw_B119 hn0 hK9 _ x1 x2 x3 x4 x5 x6 0 hG hH (by omega) (by omega) (ch_mono q2 (by omega)) (by omega) (by omega) (by omega) (by omega)) (fun r S' z => QQ_tq hR0 (by omega) z)
set_option maxHeartbeats 2000000 in
theorem t_Mo_lzw_B87 {F B : mP} {n0 : Nat} (hn0 : big n0) {M : Nat} {K9 : mH → Nat → Int32 → Int32 → Int32 → Int32 → Option (Unit × mH)} (hK9 : ∀ (S : mS) (x1 : Int32) (x2 : Int32) (x3 : Int32) (x4 : Int32), G F B S → Hm S → (258 ≤ x2.toInt ∧ x2.toInt ≤ 4096) → (-1 ≤ x3.toInt ∧ x3.toInt < x2.toInt) → (chn S x2.toInt) → mz S < M → tot (K9 (hp S) 50 x1 x2 x3 x4) (fun r S' => QQ F B (0) S S')) (S : mS) (x1 : Int32) (x2 : Int32) (x3 : Int32) (x4 : Int32) (x5 : Int32) (p0 : Int32) (hG : G F B S) (hH : Hm S) (q0 : 258 ≤ x2.toInt ∧ x2.toInt ≤ 4096) (q1 : -1 ≤ x3.toInt ∧ x3.toInt < x2.toInt) (q2 : chn S x2.toInt) (q3 : 0 ≤ x5.toInt ∧ x5.toInt ≤ 4095) (q4 : mz S < M) (q5 : p0.toInt = 0 ∨ (0 ≤ x3.toInt ∧ x2.toInt ≤ 4095)) : tot (f_Mo_lzw_B87 K9 n0 (hp S) 50 x1 x2 x3 x4 x5 p0) (fun r S' => QQ F B (0) S S') := by
  unfold f_Mo_lzw_B87
  have L0 : (0 : Int32).toInt = 0 := rfl
  have L256 : (256 : Int32).toInt = 256 := rfl
  have nx1 := nt_b x1
  have nx2 := nt_b x2
  have nx3 := nt_b x3
  have nx4 := nt_b x4
  have nx5 := nt_b x5
  have np0 := nt_b p0
  have hR0 := Rm_refl S
  have zS0 := mz_le hG
  refine ilt_t (fun c1 => ?_) (fun c1 => ?_)
  · exact tot_mono (t_Mo_lzw_B114 hn0 hK9 _ x1 x2 x3 x4 x5 p0 hG hH (by omega) (by omega) (ch_mono q2 (by omega)) (by omega) (by omega) (by omega) (by omega)) (fun r S' z => QQ_tq hR0 (by omega) z)
  · refine ilt_t (fun c2 => ?_) (fun c2 => ?_)
    · exact tot_mono (t_Mo_lzw_B114 hn0 hK9 _ x1 x2 x3 x4 x5 p0 hG hH (by omega) (by omega) (ch_mono q2 (by omega)) (by omega) (by omega) (by omega) (by omega)) (fun r S' z => QQ_tq hR0 (by omega) z)
    · refine ieq_t (fun c3 => ?_) (fun c3 => ?_)
      · have tc3 := congrArg Int32.toInt c3
        refine ieq_t (fun c4 => ?_) (fun c4 => ?_)
        · have tc4 := congrArg Int32.toInt c4
          exact tot_mono (t_Mo_lzw_B118 hn0 hK9 _ x1 x2 x3 x4 x5 p0 hG hH (by omega) (by omega) (ch_mono q2 (by omega)) (by omega) (by omega) (by omega)) (fun r S' z => QQ_tq hR0 (by omega) z)
        · exact tot_mono (t_Mo_lzw_B114 hn0 hK9 _ x1 x2 x3 x4 x5 p0 hG hH (by omega) (by omega) (ch_mono q2 (by omega)) (by omega) (by omega) (by omega) (by omega)) (fun r S' z => QQ_tq hR0 (by omega) z)
      · exact tot_mono (t_Mo_lzw_B118 hn0 hK9 _ x1 x2 x3 x4 x5 p0 hG hH (by omega) (by omega) (ch_mono q2 (by omega)) (by omega) (by omega) (by omega)) (fun r S' z => QQ_tq hR0 (by omega) z)
set_option maxHeartbeats 2000000 in
theorem t_Mo_lzw_B86 {F B : mP} {n0 : Nat} (hn0 : big n0) {M : Nat} {K9 : mH → Nat → Int32 → Int32 → Int32 → Int32 → Option (Unit × mH)} (hK9 : ∀ (S : mS) (x1 : Int32) (x2 : Int32) (x3 : Int32) (x4 : Int32), G F B S → Hm S → (258 ≤ x2.toInt ∧ x2.toInt ≤ 4096) → (-1 ≤ x3.toInt ∧ x3.toInt < x2.toInt) → (chn S x2.toInt) → mz S < M → tot (K9 (hp S) 50 x1 x2 x3 x4) (fun r S' => QQ F B (0) S S')) (S : mS) (x1 : Int32) (x2 : Int32) (x3 : Int32) (x4 : Int32) (x5 : Int32) (hG : G F B S) (hH : Hm S) (q0 : 258 ≤ x2.toInt ∧ x2.toInt ≤ 4096) (q1 : -1 ≤ x3.toInt ∧ x3.toInt < x2.toInt) (q2 : chn S x2.toInt) (q3 : 0 ≤ x5.toInt ∧ x5.toInt ≤ 4095) (q4 : mz S < M) : tot (f_Mo_lzw_B86 K9 n0 (hp S) 50 x1 x2 x3 x4 x5) (fun r S' => QQ F B (0) S S') := by
  unfold f_Mo_lzw_B86
  have L0 : (0 : Int32).toInt = 0 := rfl
  have nx1 := nt_b x1
  have nx2 := nt_b x2
  have nx3 := nt_b x3
  have nx4 := nt_b x4
  have nx5 := nt_b x5
  have hR0 := Rm_refl S
  have zS0 := mz_le hG
  exact tot_mono (t_Mo_lzw_B87 hn0 hK9 _ x1 x2 x3 x4 x5 0 hG hH (by omega) (by omega) (ch_mono q2 (by omega)) (by omega) (by omega) (by omega)) (fun r S' z => QQ_tq hR0 (by omega) z)
set_option maxHeartbeats 2000000 in
theorem t_Mo_lzw_L9 {F B : mP} {n0 : Nat} (hn0 : big n0) : ∀ (n : Nat) (S : mS) (x1 : Int32) (x2 : Int32) (x3 : Int32) (x4 : Int32), G F B S → Hm S → (258 ≤ x2.toInt ∧ x2.toInt ≤ 4096) → (-1 ≤ x3.toInt ∧ x3.toInt < x2.toInt) → (chn S x2.toInt) → mz S < n → tot (f_Mo_lzw_L9 n0 n (hp S) 50 x1 x2 x3 x4) (fun r S' => QQ F B (0) S S') := by
  intro n
  induction n with
  | zero =>
    intro S x1 x2 x3 x4 hG hH q0 q1 q2 hm
    exact absurd hm (Nat.not_lt_zero _)
  | succ n ih =>
    intro S x1 x2 x3 x4 hG hH q0 q1 q2 hm
    rw [f_Mo_lzw_L9.eq_2]
    have Lm1 : (-1 : Int32).toInt = -1 := rfl
    have L0 : (0 : Int32).toInt = 0 := rfl
    have L1 : (1 : Int32).toInt = 1 := rfl
    have L10 : (10 : Int32).toInt = 10 := rfl
    have L256 : (256 : Int32).toInt = 256 := rfl
    have L257 : (257 : Int32).toInt = 257 := rfl
    have L258 : (258 : Int32).toInt = 258 := rfl
    have L4095 : (4095 : Int32).toInt = 4095 := rfl
    have nx1 := nt_b x1
    have nx2 := nt_b x2
    have nx3 := nt_b x3
    have nx4 := nt_b x4
    have hR0 := Rm_refl S
    have zS0 := mz_le hG
    refine ieq_t (fun c1 => ?_) (fun c1 => ?_)
    · have tc1 := congrArg Int32.toInt c1
      exact tot_end (QQ_fin hG hH hR0 (by omega))
    · refine mis_t (hp_50 _) ?_
      refine mcl_v (t_Mo_isGood _) (fun v3 Sc2 zSc2 => ?_)
      obtain ⟨eSc2, pv3⟩ := zSc2
      subst eSc2
      have nv3 := nt_b v3
      refine ieq_t (fun c3 => ?_) (fun c3 => ?_)
      · have tc3 := congrArg Int32.toInt c3
        exact tot_end (QQ_fin hG hH hR0 (by omega))
      · refine mcl_v (t_Mo_widthOf hn0 _ (x2 + x1) hG) (fun v7 Sc4 zSc4 => ?_)
        obtain ⟨eSc4, pv7⟩ := zSc4
        subst eSc4
        have nv7 := nt_b v7
        refine mis_t (hp_50 _) ?_
        refine mcl_v (t_Mo_wideCode hn0 _ v7 hG hH (by omega)) (fun v10 Sc5 zSc5 => ?_)
        obtain ⟨⟨hGSc5, hHSc5, rRSc5⟩, pv10⟩ := zSc5
        have hRSc5 := Rm_trans hR0 rRSc5
        have zzSc5 := Rm_mz hGSc5 hHSc5 rRSc5 (by omega)
        have ggSc5 := rRSc5.1
        have chSc5 := ch_eq pv10.2 q2
        have nv10 := nt_b v10
        refine mis_t (hp_50 _) ?_
        refine mcl_v (t_Mo_isGood _) (fun v13 Sc6 zSc6 => ?_)
        obtain ⟨eSc6, pv13⟩ := zSc6
        subst eSc6
        have nv13 := nt_b v13
        refine ieq_t (fun c7 => ?_) (fun c7 => ?_)
        · have tc7 := congrArg Int32.toInt c7
          exact tot_mono (t_Mo_lzw_B48 hn0 ih _ x1 x2 x3 hGSc5 hHSc5 (by omega) (by omega) (ch_mono chSc5 (by omega)) (by omega)) (fun r S' z => QQ_tq hRSc5 (by omega) z)
        · refine ieq_t (fun c8 => ?_) (fun c8 => ?_)
          · have tc8 := congrArg Int32.toInt c8
            exact tot_mono (t_Mo_lzw_B48 hn0 ih _ x1 x2 x3 hGSc5 hHSc5 (by omega) (by omega) (ch_mono chSc5 (by omega)) (by omega)) (fun r S' z => QQ_tq hRSc5 (by omega) z)
          · refine ieq_t (fun c9 => ?_) (fun c9 => ?_)
            · have tc9 := congrArg Int32.toInt c9
              exact tot_mono (ih _ x1 258 (-1) x4 hGSc5 hHSc5 (by omega) (by omega) (ch_mono chSc5 (by omega)) (by omega)) (fun r S' z => QQ_tq hRSc5 (by omega) z)
            · refine ilt_t (fun c10 => ?_) (fun c10 => ?_)
              · exact tot_mono (t_Mo_lzw_B86 hn0 ih _ x1 x2 x3 x4 v10 hGSc5 hHSc5 (by omega) (by omega) (ch_mono chSc5 (by omega)) (by omega) (by omega)) (fun r S' z => QQ_tq hRSc5 (by omega) z)
              · refine ilt_t (fun c11 => ?_) (fun c11 => ?_)
                · exact tot_mono (t_Mo_lzw_B86 hn0 ih _ x1 x2 x3 x4 v10 hGSc5 hHSc5 (by omega) (by omega) (ch_mono chSc5 (by omega)) (by omega) (by omega)) (fun r S' z => QQ_tq hRSc5 (by omega) z)
                · exact tot_mono (t_Mo_lzw_B87 hn0 ih _ x1 x2 x3 x4 v10 1 hGSc5 hHSc5 (by omega) (by omega) (ch_mono chSc5 (by omega)) (by omega) (by omega) (by omega)) (fun r S' z => QQ_tq hRSc5 (by omega) z)
set_option maxHeartbeats 2000000 in
theorem t_Mo_lzw {F B : mP} {n0 : Nat} (hn0 : big n0) (S : mS) (x1 : Int32) (hG : G F B S) (hH : Hm S)  : tot (f_Mo_lzw n0 (hp S) 50 x1) (fun r S' => QQ F B (0) S S') := by
  unfold f_Mo_lzw
  have Lm1 : (-1 : Int32).toInt = -1 := rfl
  have L1 : (1 : Int32).toInt = 1 := rfl
  have L258 : (258 : Int32).toInt = 258 := rfl
  have nx1 := nt_b x1
  have hR0 := Rm_refl S
  have zS0 := mz_le hG
  have ch0 := ch_0 S
  exact tot_mono (t_Mo_lzw_L9 hn0 n0 _ x1 258 (-1) 1 hG hH (by omega) (by omega) (ch_mono ch0 (by omega)) (big_lt hn0 (by omega))) (fun r S' z => QQ_tq hR0 (by omega) z)
set_option maxHeartbeats 2000000 in
theorem t_Mo_giveWord_L18 {F B : mP} {n0 : Nat} (hn0 : big n0) : ∀ (n : Nat) (S : mS) (y1 : Int64) (x3 : Int32) (x4 : Int32), G F B S → Hm S → (x3.toInt - x4.toInt).toNat < n → tot (f_Mo_giveWord_L18 n0 n (hp S) 50 y1 x3 x4) (fun r S' => QQ F B (0) S S') := by
  intro n
  induction n with
  | zero =>
    intro S y1 x3 x4 hG hH hm
    exact absurd hm (Nat.not_lt_zero _)
  | succ n ih =>
    intro S y1 x3 x4 hG hH hm
    rw [f_Mo_giveWord_L18.eq_2]
    have L0 : (0 : Int32).toInt = 0 := rfl
    have L1 : (1 : Int32).toInt = 1 := rfl
    have L8 : (8 : Int32).toInt = 8 := rfl
    have L10 : (10 : Int32).toInt = 10 := rfl
    have L24 : (24 : Int32).toInt = 24 := rfl
    have L63 : (63 : Int32).toInt = 63 := rfl
    have L255 : (255 : Int32).toInt = 255 := rfl
    have nx3 := nt_b x3
    have nx4 := nt_b x4
    have hR0 := Rm_refl S
    have zS0 := mz_le hG
    refine ile_t (fun c1 => ?_) (fun c1 => ?_)
    · exact tot_end (QQ_fin hG hH hR0 (by omega))
    · refine mis_t (hp_50 _) ?_
      refine mcl_v (t_Mo_give _ (((y1 >>> ((24 - (8 * x4)).toInt64 &&& 63)) &&& 255).toInt32) hG hH) (fun u3 Sc2 zSc2 => ?_)
      obtain ⟨⟨hGSc2, hHSc2, rRSc2⟩, pu3⟩ := zSc2
      have hRSc2 := Rm_trans hR0 rRSc2
      have zzSc2 := Rm_mz hGSc2 hHSc2 rRSc2 (by omega)
      have ggSc2 := rRSc2.1
      refine mnm_v (fun v7 ev7 => ?_)
      have nv7 := nt_b v7
      have kv7 : v7.toInt = x4.toInt + 1 := by rw [ev7]; exact nt_inc (by omega)
      exact tot_mono (ih _ y1 x3 v7 hGSc2 hHSc2 (by omega)) (fun r S' z => QQ_tq hRSc2 (by omega) z)
set_option maxHeartbeats 2000000 in
theorem t_Mo_giveWord {F B : mP} {n0 : Nat} (hn0 : big n0) (S : mS) (y1 : Int64) (x3 : Int32) (hG : G F B S) (hH : Hm S)  : tot (f_Mo_giveWord n0 (hp S) 50 y1 x3) (fun r S' => QQ F B (0) S S') := by
  unfold f_Mo_giveWord
  have L0 : (0 : Int32).toInt = 0 := rfl
  have L10 : (10 : Int32).toInt = 10 := rfl
  have L11 : (11 : Int32).toInt = 11 := rfl
  have nx3 := nt_b x3
  have hR0 := Rm_refl S
  have zS0 := mz_le hG
  refine ilq_t ?_ ?_
  · exact tot_mono (t_Mo_giveWord_L18 hn0 n0 _ y1 x3 0 hG hH (big_lt hn0 (by omega))) (fun r S' z => QQ_tq hR0 (by omega) z)
  · refine mis_t (hp_50 _) ?_
    refine mcl_v (t_Mo_fail _ 11 hG hH (by decide)) (fun u3 Sc2 zSc2 => ?_)
    obtain ⟨⟨hGSc2, hHSc2, rRSc2⟩, pu3⟩ := zSc2
    have hRSc2 := Rm_trans hR0 rRSc2
    have zzSc2 := Rm_mz hGSc2 hHSc2 rRSc2 (by omega)
    have ggSc2 := rRSc2.1
    exact tot_end (QQ_fin hGSc2 hHSc2 hRSc2 (by omega))
set_option maxHeartbeats 2000000 in
theorem t_Mo_text85_L178 {F B : mP} {n0 : Nat} (hn0 : big n0) : ∀ (n : Nat) (S : mS) (y1 : Int64) (x3 : Int32) (x5 : Int32), G F B S → Hm S → (5 - x5.toInt).toNat < n → tot (f_Mo_text85_L178 n0 n (hp S) 50 y1 x3 x5) (fun r S' => QQ F B (0) S S') := by
  intro n
  induction n with
  | zero =>
    intro S y1 x3 x5 hG hH hm
    exact absurd hm (Nat.not_lt_zero _)
  | succ n ih =>
    intro S y1 x3 x5 hG hH hm
    rw [f_Mo_text85_L178.eq_2]
    have L0 : (0 : Int32).toInt = 0 := rfl
    have L1 : (1 : Int32).toInt = 1 := rfl
    have L5 : (5 : Int32).toInt = 5 := rfl
    have L10 : (10 : Int32).toInt = 10 := rfl
    have L84 : (84 : Int32).toInt = 84 := rfl
    have L85 : (85 : Int32).toInt = 85 := rfl
    have nx3 := nt_b x3
    have nx5 := nt_b x5
    have hR0 := Rm_refl S
    have zS0 := mz_le hG
    refine ile_t (fun c1 => ?_) (fun c1 => ?_)
    · refine mis_t (hp_50 _) ?_
      refine mcl_v (t_Mo_giveWord hn0 _ y1 (x3 - 1) hG hH) (fun u3 Sc2 zSc2 => ?_)
      obtain ⟨hGSc2, hHSc2, rRSc2⟩ := zSc2
      have hRSc2 := Rm_trans hR0 rRSc2
      have zzSc2 := Rm_mz hGSc2 hHSc2 rRSc2 (by omega)
      have ggSc2 := rRSc2.1
      exact tot_end (QQ_fin hGSc2 hHSc2 hRSc2 (by omega))
    · refine mnm_v (fun v12 ev12 => ?_)
      skip
      refine mnm_v (fun v13 ev13 => ?_)
      have nv13 := nt_b v13
      have kv13 : v13.toInt = x5.toInt + 1 := by rw [ev13]; exact nt_inc (by omega)
      exact tot_mono (ih _ v12 x3 v13 hG hH (by omega)) (fun r S' z => QQ_tq hR0 (by omega) z)
set_option maxHeartbeats 2000000 in
theorem t_Mo_text85_B163 {F B : mP} {n0 : Nat} (hn0 : big n0) (S : mS) (y1 : Int64) (x3 : Int32) (hG : G F B S) (hH : Hm S)  : tot (f_Mo_text85_B163 n0 (hp S) 50 y1 x3) (fun r S' => QQ F B (0) S S') := by
  unfold f_Mo_text85_B163
  have L0 : (0 : Int32).toInt = 0 := rfl
  have L1 : (1 : Int32).toInt = 1 := rfl
  have L10 : (10 : Int32).toInt = 10 := rfl
  have nx3 := nt_b x3
  have hR0 := Rm_refl S
  have zS0 := mz_le hG
  refine mis_t (hp_50 _) ?_
  refine mcl_v (t_Mo_isGood _) (fun v3 Sc1 zSc1 => ?_)
  obtain ⟨eSc1, pv3⟩ := zSc1
  subst eSc1
  have nv3 := nt_b v3
  refine ieq_t (fun c2 => ?_) (fun c2 => ?_)
  · have tc2 := congrArg Int32.toInt c2
    exact tot_end (QQ_fin hG hH hR0 (by omega))
  · refine ile_t (fun c3 => ?_) (fun c3 => ?_)
    · exact tot_end (QQ_fin hG hH hR0 (by omega))
    · exact tot_mono (t_Mo_text85_L178 hn0 n0 _ y1 x3 x3 hG hH (big_lt hn0 (by omega))) (fun r S' z => QQ_tq hR0 (by omega) z)
set_option maxHeartbeats 2000000 in
theorem t_Mo_text85_B148 {F B : mP} {n0 : Nat} (hn0 : big n0) {M : Nat} {K7 : mH → Nat → Int64 → Int32 → Int32 → Option (Unit × mH)} (hK7 : ∀ (S : mS) (y1 : Int64) (x3 : Int32) (x4 : Int32), G F B S → Hm S → (0 ≤ x3.toInt ∧ x3.toInt ≤ 4) → mz S < M → tot (K7 (hp S) 50 y1 x3 x4) (fun r S' => QQ F B (0) S S')) (S : mS) (y1 : Int64) (x3 : Int32) (hG : G F B S) (hH : Hm S) (q0 : 0 ≤ x3.toInt ∧ x3.toInt ≤ 4) (q1 : mz S < M) : tot (f_Mo_text85_B148 K7 n0 (hp S) 50 y1 x3) (fun r S' => QQ F B (0) S S') := by
  unfold f_Mo_text85_B148
  have L0 : (0 : Int32).toInt = 0 := rfl
  have nx3 := nt_b x3
  have hR0 := Rm_refl S
  have zS0 := mz_le hG
  exact tot_mono (hK7 _ y1 x3 0 hG hH (by omega) (by omega)) (fun r S' z => QQ_tq hR0 (by omega) z)
set_option maxHeartbeats 2000000 in
theorem t_Mo_text85_B142 {F B : mP} {n0 : Nat} (hn0 : big n0) {M : Nat} {K7 : mH → Nat → Int64 → Int32 → Int32 → Option (Unit × mH)} (hK7 : ∀ (S : mS) (y1 : Int64) (x3 : Int32) (x4 : Int32), G F B S → Hm S → (0 ≤ x3.toInt ∧ x3.toInt ≤ 4) → mz S < M → tot (K7 (hp S) 50 y1 x3 x4) (fun r S' => QQ F B (0) S S')) (S : mS) (y1 : Int64) (x3 : Int32) (hG : G F B S) (hH : Hm S) (q0 : 0 ≤ x3.toInt ∧ x3.toInt ≤ 4) (q1 : mz S < M) : tot (f_Mo_text85_B142 K7 n0 (hp S) 50 y1 x3) (fun r S' => QQ F B (0) S S') := by
  unfold f_Mo_text85_B142
  have L10 : (10 : Int32).toInt = 10 := rfl
  have L12 : (12 : Int32).toInt = 12 := rfl
  have nx3 := nt_b x3
  have hR0 := Rm_refl S
  have zS0 := mz_le hG
  refine mis_t (hp_50 _) ?_
  refine mcl_v (t_Mo_fail _ 12 hG hH (by decide)) (fun u2 Sc1 zSc1 => ?_)
  obtain ⟨⟨hGSc1, hHSc1, rRSc1⟩, pu2⟩ := zSc1
  have hRSc1 := Rm_trans hR0 rRSc1
  have zzSc1 := Rm_mz hGSc1 hHSc1 rRSc1 (by omega)
  have ggSc1 := rRSc1.1
  exact tot_mono (t_Mo_text85_B148 hn0 hK7 _ y1 x3 hGSc1 hHSc1 (by omega) (by omega)) (fun r S' z => QQ_tq hRSc1 (by omega) z)
set_option maxHeartbeats 2000000 in
theorem t_Mo_text85_B110 {F B : mP} {n0 : Nat} (hn0 : big n0) {M : Nat} {K7 : mH → Nat → Int64 → Int32 → Int32 → Option (Unit × mH)} (hK7 : ∀ (S : mS) (y1 : Int64) (x3 : Int32) (x4 : Int32), G F B S → Hm S → (0 ≤ x3.toInt ∧ x3.toInt ≤ 4) → mz S < M → tot (K7 (hp S) 50 y1 x3 x4) (fun r S' => QQ F B (0) S S')) (S : mS) (y1 : Int64) (x3 : Int32) (x4 : Int32) (x5 : Int32) (hG : G F B S) (hH : Hm S) (q0 : 0 ≤ x3.toInt ∧ x3.toInt ≤ 4) (q1 : mz S < M) : tot (f_Mo_text85_B110 K7 n0 (hp S) 50 y1 x3 x4 x5) (fun r S' => QQ F B (0) S S') := by
  unfold f_Mo_text85_B110
  have L0 : (0 : Int32).toInt = 0 := rfl
  have L1 : (1 : Int32).toInt = 1 := rfl
  have L10 : (10 : Int32).toInt = 10 := rfl
  have L12 : (12 : Int32).toInt = 12 := rfl
  have L62 : (62 : Int32).toInt = 62 := rfl
  have L126 : (126 : Int32).toInt = 126 := rfl
  have nx3 := nt_b x3
  have nx4 := nt_b x4
  have nx5 := nt_b x5
  have hR0 := Rm_refl S
  have zS0 := mz_le hG
  refine ieq_t (fun c1 => ?_) (fun c1 => ?_)
  · have tc1 := congrArg Int32.toInt c1
    refine mis_t (hp_50 _) ?_
    refine mcl_v (t_Mo_next _ hG hH) (fun v40 Sc2 zSc2 => ?_)
    obtain ⟨⟨hGSc2, hHSc2, rRSc2⟩, pv40⟩ := zSc2
    have hRSc2 := Rm_trans hR0 rRSc2
    have zzSc2 := Rm_mz hGSc2 hHSc2 rRSc2 (by omega)
    have ggSc2 := rRSc2.1
    have nv40 := nt_b v40
    refine mis_t (hp_50 _) ?_
    refine mcl_v (t_Mo_isGood _) (fun v43 Sc3 zSc3 => ?_)
    obtain ⟨eSc3, pv43⟩ := zSc3
    subst eSc3
    have nv43 := nt_b v43
    refine ieq_t (fun c4 => ?_) (fun c4 => ?_)
    · have tc4 := congrArg Int32.toInt c4
      exact tot_mono (t_Mo_text85_B148 hn0 hK7 _ y1 x3 hGSc2 hHSc2 (by omega) (by omega)) (fun r S' z => QQ_tq hRSc2 (by omega) z)
    · refine ieq_t (fun c5 => ?_) (fun c5 => ?_)
      · have tc5 := congrArg Int32.toInt c5
        refine ieq_t (fun c6 => ?_) (fun c6 => ?_)
        · have tc6 := congrArg Int32.toInt c6
          exact tot_mono (t_Mo_text85_B142 hn0 hK7 _ y1 x3 hGSc2 hHSc2 (by omega) (by omega)) (fun r S' z => QQ_tq hRSc2 (by omega) z)
        · exact tot_mono (t_Mo_text85_B148 hn0 hK7 _ y1 x3 hGSc2 hHSc2 (by omega) (by omega)) (fun r S' z => QQ_tq hRSc2 (by omega) z)
      · exact tot_mono (t_Mo_text85_B142 hn0 hK7 _ y1 x3 hGSc2 hHSc2 (by omega) (by omega)) (fun r S' z => QQ_tq hRSc2 (by omega) z)
  · refine mis_t (hp_50 _) ?_
    refine mcl_v (t_Mo_fail _ 12 hG hH (by decide)) (fun u8 Sc7 zSc7 => ?_)
    obtain ⟨⟨hGSc7, hHSc7, rRSc7⟩, pu8⟩ := zSc7
    have hRSc7 := Rm_trans hR0 rRSc7
    have zzSc7 := Rm_mz hGSc7 hHSc7 rRSc7 (by omega)
    have ggSc7 := rRSc7.1
    exact tot_mono (hK7 _ y1 x3 x4 hGSc7 hHSc7 (by omega) (by omega)) (fun r S' z => QQ_tq hRSc7 (by omega) z)
set_option maxHeartbeats 2000000 in
theorem t_Mo_text85_L7 {F B : mP} {n0 : Nat} (hn0 : big n0) : ∀ (n : Nat) (S : mS) (y1 : Int64) (x3 : Int32) (x4 : Int32), G F B S → Hm S → (0 ≤ x3.toInt ∧ x3.toInt ≤ 4) → mz S < n → tot (f_Mo_text85_L7 n0 n (hp S) 50 y1 x3 x4) (fun r S' => QQ F B (0) S S') := by
  intro n
  induction n with
  | zero =>
    intro S y1 x3 x4 hG hH q0 hm
    exact absurd hm (Nat.not_lt_zero _)
  | succ n ih =>
    intro S y1 x3 x4 hG hH q0 hm
    rw [f_Mo_text85_L7.eq_2]
    have L0 : (0 : Int32).toInt = 0 := rfl
    have L1 : (1 : Int32).toInt = 1 := rfl
    have L4 : (4 : Int32).toInt = 4 := rfl
    have L5 : (5 : Int32).toInt = 5 := rfl
    have L10 : (10 : Int32).toInt = 10 := rfl
    have L33 : (33 : Int32).toInt = 33 := rfl
    have L85 : (85 : Int32).toInt = 85 := rfl
    have L117 : (117 : Int32).toInt = 117 := rfl
    have L122 : (122 : Int32).toInt = 122 := rfl
    have nx3 := nt_b x3
    have nx4 := nt_b x4
    have hR0 := Rm_refl S
    have zS0 := mz_le hG
    refine ieq_t (fun c1 => ?_) (fun c1 => ?_)
    · have tc1 := congrArg Int32.toInt c1
      exact tot_mono (t_Mo_text85_B163 hn0 _ y1 x3 hG hH) (fun r S' z => QQ_tq hR0 (by omega) z)
    · refine mis_t (hp_50 _) ?_
      refine mcl_v (t_Mo_isGood _) (fun v15 Sc2 zSc2 => ?_)
      obtain ⟨eSc2, pv15⟩ := zSc2
      subst eSc2
      have nv15 := nt_b v15
      refine ieq_t (fun c3 => ?_) (fun c3 => ?_)
      · have tc3 := congrArg Int32.toInt c3
        exact tot_mono (t_Mo_text85_B163 hn0 _ y1 x3 hG hH) (fun r S' z => QQ_tq hR0 (by omega) z)
      · refine mis_t (hp_50 _) ?_
        refine mcl_v (t_Mo_next _ hG hH) (fun v19 Sc4 zSc4 => ?_)
        obtain ⟨⟨hGSc4, hHSc4, rRSc4⟩, pv19⟩ := zSc4
        have hRSc4 := Rm_trans hR0 rRSc4
        have zzSc4 := Rm_mz hGSc4 hHSc4 rRSc4 (by omega)
        have ggSc4 := rRSc4.1
        have nv19 := nt_b v19
        refine mis_t (hp_50 _) ?_
        refine mcl_v (t_Mo_isGood _) (fun v22 Sc5 zSc5 => ?_)
        obtain ⟨eSc5, pv22⟩ := zSc5
        subst eSc5
        have nv22 := nt_b v22
        refine ieq_t (fun c6 => ?_) (fun c6 => ?_)
        · have tc6 := congrArg Int32.toInt c6
          exact tot_mono (ih _ y1 x3 x4 hGSc4 hHSc4 (by omega) (by omega)) (fun r S' z => QQ_tq hRSc4 (by omega) z)
        · refine mcl_v (t_Mo_isWhite hn0 _ v19 hGSc4) (fun v26 Sc7 zSc7 => ?_)
          subst zSc7
          have nv26 := nt_b v26
          refine ieq_t (fun c8 => ?_) (fun c8 => ?_)
          · have tc8 := congrArg Int32.toInt c8
            refine mcl_v (t_Mo_isIn hn0 _ v19 33 117 hGSc4) (fun v30 Sc9 zSc9 => ?_)
            obtain ⟨eSc9, pv30⟩ := zSc9
            subst eSc9
            have nv30 := nt_b v30
            refine ieq_t (fun c10 => ?_) (fun c10 => ?_)
            · have tc10 := congrArg Int32.toInt c10
              refine ieq_t (fun c11 => ?_) (fun c11 => ?_)
              · have tc11 := congrArg Int32.toInt c11
                refine ieq_t (fun c12 => ?_) (fun c12 => ?_)
                · have tc12 := congrArg Int32.toInt c12
                  refine mis_t (hp_50 _) ?_
                  refine mcl_v (t_Mo_giveWord hn0 _ 0 4 hGSc4 hHSc4) (fun u14 Sc13 zSc13 => ?_)
                  obtain ⟨hGSc13, hHSc13, rRSc13⟩ := zSc13
                  have hRSc13 := Rm_trans hRSc4 rRSc13
                  have zzSc13 := Rm_mz hGSc13 hHSc13 rRSc13 (by omega)
                  have ggSc13 := rRSc13.1
                  exact tot_mono (ih _ y1 x3 x4 hGSc13 hHSc13 (by omega) (by omega)) (fun r S' z => QQ_tq hRSc13 (by omega) z)
                · exact tot_mono (t_Mo_text85_B110 hn0 ih _ y1 x3 x4 v19 hGSc4 hHSc4 (by omega) (by omega)) (fun r S' z => QQ_tq hRSc4 (by omega) z)
              · exact tot_mono (t_Mo_text85_B110 hn0 ih _ y1 x3 x4 v19 hGSc4 hHSc4 (by omega) (by omega)) (fun r S' z => QQ_tq hRSc4 (by omega) z)
            · refine mnm_v (fun v57 ev57 => ?_)
              skip
              refine mnm_v (fun v58 ev58 => ?_)
              have nv58 := nt_b v58
              have kv58 : v58.toInt = x3.toInt + 1 := by rw [ev58]; exact nt_inc (by omega)
              refine ieq_t (fun c15 => ?_) (fun c15 => ?_)
              · have tc15 := congrArg Int32.toInt c15
                refine mis_t (hp_50 _) ?_
                refine mcl_v (t_Mo_giveWord hn0 _ v57 4 hGSc4 hHSc4) (fun u17 Sc16 zSc16 => ?_)
                obtain ⟨hGSc16, hHSc16, rRSc16⟩ := zSc16
                have hRSc16 := Rm_trans hRSc4 rRSc16
                have zzSc16 := Rm_mz hGSc16 hHSc16 rRSc16 (by omega)
                have ggSc16 := rRSc16.1
                exact tot_mono (ih _ 0 0 x4 hGSc16 hHSc16 (by omega) (by omega)) (fun r S' z => QQ_tq hRSc16 (by omega) z)
              · exact tot_mono (ih _ v57 v58 x4 hGSc4 hHSc4 (by omega) (by omega)) (fun r S' z => QQ_tq hRSc4 (by omega) z)
          · exact tot_mono (ih _ y1 x3 x4 hGSc4 hHSc4 (by omega) (by omega)) (fun r S' z => QQ_tq hRSc4 (by omega) z)
set_option maxHeartbeats 2000000 in
theorem t_Mo_text85 {F B : mP} {n0 : Nat} (hn0 : big n0) (S : mS)  (hG : G F B S) (hH : Hm S)  : tot (f_Mo_text85 n0 (hp S) 50) (fun r S' => QQ F B (0) S S') := by
  unfold f_Mo_text85
  have L0 : (0 : Int32).toInt = 0 := rfl
  have L1 : (1 : Int32).toInt = 1 := rfl
  have hR0 := Rm_refl S
  have zS0 := mz_le hG
  exact tot_mono (t_Mo_text85_L7 hn0 n0 _ 0 0 1 hG hH (by omega) (big_lt hn0 (by omega))) (fun r S' z => QQ_tq hR0 (by omega) z)
set_option maxHeartbeats 2000000 in
theorem t_Mo_hexadecimal_B94 {F B : mP} {n0 : Nat} (hn0 : big n0) (S : mS) (x1 : Int32) (hG : G F B S) (hH : Hm S)  : tot (f_Mo_hexadecimal_B94 n0 (hp S) 50 x1) (fun r S' => QQ F B (0) S S') := by
  unfold f_Mo_hexadecimal_B94
  have L0 : (0 : Int32).toInt = 0 := rfl
  have L10 : (10 : Int32).toInt = 10 := rfl
  have L16 : (16 : Int32).toInt = 16 := rfl
  have nx1 := nt_b x1
  have hR0 := Rm_refl S
  have zS0 := mz_le hG
  refine mis_t (hp_50 _) ?_
  refine mcl_v (t_Mo_isGood _) (fun v3 Sc1 zSc1 => ?_)
  obtain ⟨eSc1, pv3⟩ := zSc1
  subst eSc1
  have nv3 := nt_b v3
  refine ieq_t (fun c2 => ?_) (fun c2 => ?_)
  · have tc2 := congrArg Int32.toInt c2
    exact tot_end (QQ_fin hG hH hR0 (by omega))
  · refine ilt_t (fun c3 => ?_) (fun c3 => ?_)
    · exact tot_end (QQ_fin hG hH hR0 (by omega))
    · refine mis_t (hp_50 _) ?_
      refine mcl_v (t_Mo_give _ (16 * x1) hG hH) (fun u5 Sc4 zSc4 => ?_)
      obtain ⟨⟨hGSc4, hHSc4, rRSc4⟩, pu5⟩ := zSc4
      have hRSc4 := Rm_trans hR0 rRSc4
      have zzSc4 := Rm_mz hGSc4 hHSc4 rRSc4 (by omega)
      have ggSc4 := rRSc4.1
      exact tot_end (QQ_fin hGSc4 hHSc4 hRSc4 (by omega))
set_option maxHeartbeats 2000000 in
theorem t_Mo_hexadecimal_L4 {F B : mP} {n0 : Nat} (hn0 : big n0) : ∀ (n : Nat) (S : mS) (x1 : Int32) (x2 : Int32), G F B S → Hm S → mz S < n → tot (f_Mo_hexadecimal_L4 n0 n (hp S) 50 x1 x2) (fun r S' => QQ F B (0) S S') := by
  intro n
  induction n with
  | zero =>
    intro S x1 x2 hG hH hm
    exact absurd hm (Nat.not_lt_zero _)
  | succ n ih =>
    intro S x1 x2 hG hH hm
    rw [f_Mo_hexadecimal_L4.eq_2]
    have Lm1 : (-1 : Int32).toInt = -1 := rfl
    have L0 : (0 : Int32).toInt = 0 := rfl
    have L1 : (1 : Int32).toInt = 1 := rfl
    have L10 : (10 : Int32).toInt = 10 := rfl
    have L12 : (12 : Int32).toInt = 12 := rfl
    have L16 : (16 : Int32).toInt = 16 := rfl
    have L62 : (62 : Int32).toInt = 62 := rfl
    have nx1 := nt_b x1
    have nx2 := nt_b x2
    have hR0 := Rm_refl S
    have zS0 := mz_le hG
    refine ieq_t (fun c1 => ?_) (fun c1 => ?_)
    · have tc1 := congrArg Int32.toInt c1
      exact tot_mono (t_Mo_hexadecimal_B94 hn0 _ x1 hG hH) (fun r S' z => QQ_tq hR0 (by omega) z)
    · refine mis_t (hp_50 _) ?_
      refine mcl_v (t_Mo_isGood _) (fun v12 Sc2 zSc2 => ?_)
      obtain ⟨eSc2, pv12⟩ := zSc2
      subst eSc2
      have nv12 := nt_b v12
      refine ieq_t (fun c3 => ?_) (fun c3 => ?_)
      · have tc3 := congrArg Int32.toInt c3
        exact tot_mono (t_Mo_hexadecimal_B94 hn0 _ x1 hG hH) (fun r S' z => QQ_tq hR0 (by omega) z)
      · refine mis_t (hp_50 _) ?_
        refine mcl_v (t_Mo_next _ hG hH) (fun v16 Sc4 zSc4 => ?_)
        obtain ⟨⟨hGSc4, hHSc4, rRSc4⟩, pv16⟩ := zSc4
        have hRSc4 := Rm_trans hR0 rRSc4
        have zzSc4 := Rm_mz hGSc4 hHSc4 rRSc4 (by omega)
        have ggSc4 := rRSc4.1
        have nv16 := nt_b v16
        refine mis_t (hp_50 _) ?_
        refine mcl_v (t_Mo_isGood _) (fun v19 Sc5 zSc5 => ?_)
        obtain ⟨eSc5, pv19⟩ := zSc5
        subst eSc5
        have nv19 := nt_b v19
        refine ieq_t (fun c6 => ?_) (fun c6 => ?_)
        · have tc6 := congrArg Int32.toInt c6
          exact tot_mono (ih _ x1 x2 hGSc4 hHSc4 (by omega)) (fun r S' z => QQ_tq hRSc4 (by omega) z)
        · refine mcl_v (t_Mo_isWhite hn0 _ v16 hGSc4) (fun v23 Sc7 zSc7 => ?_)
          subst zSc7
          have nv23 := nt_b v23
          refine ieq_t (fun c8 => ?_) (fun c8 => ?_)
          · have tc8 := congrArg Int32.toInt c8
            refine ieq_t (fun c9 => ?_) (fun c9 => ?_)
            · have tc9 := congrArg Int32.toInt c9
              exact tot_mono (ih _ x1 0 hGSc4 hHSc4 (by omega)) (fun r S' z => QQ_tq hRSc4 (by omega) z)
            · refine mcl_v (t_Mo_digit hn0 _ v16 hGSc4) (fun v28 Sc10 zSc10 => ?_)
              subst zSc10
              have nv28 := nt_b v28
              refine ile_t (fun c11 => ?_) (fun c11 => ?_)
              · refine ile_t (fun c12 => ?_) (fun c12 => ?_)
                · refine mcl_v (t_Mo_digit hn0 _ v16 hGSc4) (fun v33 Sc13 zSc13 => ?_)
                  subst zSc13
                  have nv33 := nt_b v33
                  refine mis_t (hp_50 _) ?_
                  refine mcl_v (t_Mo_give _ ((16 * x1) + v33) hGSc4 hHSc4) (fun u15 Sc14 zSc14 => ?_)
                  obtain ⟨⟨hGSc14, hHSc14, rRSc14⟩, pu15⟩ := zSc14
                  have hRSc14 := Rm_trans hRSc4 rRSc14
                  have zzSc14 := Rm_mz hGSc14 hHSc14 rRSc14 (by omega)
                  have ggSc14 := rRSc14.1
                  exact tot_mono (ih _ (-1) x2 hGSc14 hHSc14 (by omega)) (fun r S' z => QQ_tq hRSc14 (by omega) z)
                · refine mcl_v (t_Mo_digit hn0 _ v16 hGSc4) (fun v40 Sc16 zSc16 => ?_)
                  subst zSc16
                  have nv40 := nt_b v40
                  exact tot_mono (ih _ v40 x2 hGSc4 hHSc4 (by omega)) (fun r S' z => QQ_tq hRSc4 (by omega) z)
              · refine mis_t (hp_50 _) ?_
                refine mcl_v (t_Mo_fail _ 12 hGSc4 hHSc4 (by decide)) (fun u18 Sc17 zSc17 => ?_)
                obtain ⟨⟨hGSc17, hHSc17, rRSc17⟩, pu18⟩ := zSc17
                have hRSc17 := Rm_trans hRSc4 rRSc17
                have zzSc17 := Rm_mz hGSc17 hHSc17 rRSc17 (by omega)
                have ggSc17 := rRSc17.1
                exact tot_mono (ih _ x1 x2 hGSc17 hHSc17 (by omega)) (fun r S' z => QQ_tq hRSc17 (by omega) z)
          · exact tot_mono (ih _ x1 x2 hGSc4 hHSc4 (by omega)) (fun r S' z => QQ_tq hRSc4 (by omega) z)
set_option maxHeartbeats 2000000 in
theorem t_Mo_hexadecimal {F B : mP} {n0 : Nat} (hn0 : big n0) (S : mS)  (hG : G F B S) (hH : Hm S)  : tot (f_Mo_hexadecimal n0 (hp S) 50) (fun r S' => QQ F B (0) S S') := by
  unfold f_Mo_hexadecimal
  have Lm1 : (-1 : Int32).toInt = -1 := rfl
  have L1 : (1 : Int32).toInt = 1 := rfl
  have hR0 := Rm_refl S
  have zS0 := mz_le hG
  exact tot_mono (t_Mo_hexadecimal_L4 hn0 n0 _ (-1) 1 hG hH (big_lt hn0 (by omega))) (fun r S' z => QQ_tq hR0 (by omega) z)
set_option maxHeartbeats 2000000 in
theorem t_Mo_runs_B110 {F B : mP} {n0 : Nat} (hn0 : big n0) {M2 : Nat} {K2 : mH → Nat → Int32 → Option (Unit × mH)} (hK2 : ∀ (S : mS) (x1 : Int32), G F B S → Hm S → mz S < M2 → tot (K2 (hp S) 50 x1) (fun r S' => QQ F B (0) S S')) {M : Nat} {K81 : mH → Nat → Int32 → Int32 → Int32 → Int32 → Int32 → Option (Unit × mH)} (hK81 : ∀ (S : mS) (x1 : Int32) (x2 : Int32) (x3 : Int32) (x4 : Int32) (x5 : Int32), G F B S → Hm S → (mz S < M2) → (x3.toInt - x5.toInt).toNat < M → tot (K81 (hp S) 50 x1 x2 x3 x4 x5) (fun r S' => QQ F B (0) S S')) (S : mS) (x1 : Int32) (x2 : Int32) (x3 : Int32) (x4 : Int32) (x5 : Int32) (p0 : Int32) (hG : G F B S) (hH : Hm S) (q0 : mz S < M2) (q1 : x5.toInt < x3.toInt) (q2 : (x3.toInt - (x5.toInt + 1)).toNat < M) : tot (f_Mo_runs_B110 K2 K81 n0 (hp S) 50 x1 x2 x3 x4 x5 p0) (fun r S' => QQ F B (0) S S') := by
  unfold f_Mo_runs_B110
  have L1 : (1 : Int32).toInt = 1 := rfl
  have L10 : (10 : Int32).toInt = 10 := rfl
  have nx1 := nt_b x1
  have nx2 := nt_b x2
  have nx3 := nt_b x3
  have nx4 := nt_b x4
  have nx5 := nt_b x5
  have np0 := nt_b p0
  have hR0 := Rm_refl S
  have zS0 := mz_le hG
  refine mis_t (hp_50 _) ?_
  refine mcl_v (t_Mo_give _ p0 hG hH) (fun u2 Sc1 zSc1 => ?_)
  obtain ⟨⟨hGSc1, hHSc1, rRSc1⟩, pu2⟩ := zSc1
  have hRSc1 := Rm_trans hR0 rRSc1
  have zzSc1 := Rm_mz hGSc1 hHSc1 rRSc1 (by omega)
  have ggSc1 := rRSc1.1
  refine mnm_v (fun v23 ev23 => ?_)
  have nv23 := nt_b v23
  have kv23 : v23.toInt = x5.toInt + 1 := by rw [ev23]; exact nt_inc (by omega)
  exact tot_mono (hK81 _ x1 x2 x3 x4 v23 hGSc1 hHSc1 (by omega) (by omega)) (fun r S' z => QQ_tq hRSc1 (by omega) z)
set_option maxHeartbeats 2000000 in
theorem t_Mo_runs_L81 {F B : mP} {n0 : Nat} (hn0 : big n0) {M : Nat} {K2 : mH → Nat → Int32 → Option (Unit × mH)} (hK2 : ∀ (S : mS) (x1 : Int32), G F B S → Hm S → mz S < M → tot (K2 (hp S) 50 x1) (fun r S' => QQ F B (0) S S')) : ∀ (n : Nat) (S : mS) (x1 : Int32) (x2 : Int32) (x3 : Int32) (x4 : Int32) (x5 : Int32), G F B S → Hm S → (mz S < M) → (x3.toInt - x5.toInt).toNat < n → tot (f_Mo_runs_L81 K2 n0 n (hp S) 50 x1 x2 x3 x4 x5) (fun r S' => QQ F B (0) S S') := by
  intro n
  induction n with
  | zero =>
    intro S x1 x2 x3 x4 x5 hG hH q0 hm
    exact absurd hm (Nat.not_lt_zero _)
  | succ n ih =>
    intro S x1 x2 x3 x4 x5 hG hH q0 hm
    rw [f_Mo_runs_L81.eq_2]
    have L0 : (0 : Int32).toInt = 0 := rfl
    have L1 : (1 : Int32).toInt = 1 := rfl
    have L10 : (10 : Int32).toInt = 10 := rfl
    have L128 : (128 : Int32).toInt = 128 := rfl
    have nx1 := nt_b x1
    have nx2 := nt_b x2
    have nx3 := nt_b x3
    have nx4 := nt_b x4
    have nx5 := nt_b x5
    have hR0 := Rm_refl S
    have zS0 := mz_le hG
    refine ile_t (fun c1 => ?_) (fun c1 => ?_)
    · exact tot_mono (hK2 _ x1 hG hH (by omega)) (fun r S' z => QQ_tq hR0 (by omega) z)
    · refine mis_t (hp_50 _) ?_
      refine mcl_v (t_Mo_isGood _) (fun v15 Sc2 zSc2 => ?_)
      obtain ⟨eSc2, pv15⟩ := zSc2
      subst eSc2
      have nv15 := nt_b v15
      refine ieq_t (fun c3 => ?_) (fun c3 => ?_)
      · have tc3 := congrArg Int32.toInt c3
        exact tot_mono (hK2 _ x1 hG hH (by omega)) (fun r S' z => QQ_tq hR0 (by omega) z)
      · refine ile_t (fun c4 => ?_) (fun c4 => ?_)
        · exact tot_mono (t_Mo_runs_B110 hn0 hK2 ih _ x1 x2 x3 x4 x5 x4 hG hH (by omega) (by omega) (by omega)) (fun r S' z => QQ_tq hR0 (by omega) z)
        · refine mis_t (hp_50 _) ?_
          refine mcl_v (t_Mo_next _ hG hH) (fun v25 Sc5 zSc5 => ?_)
          obtain ⟨⟨hGSc5, hHSc5, rRSc5⟩, pv25⟩ := zSc5
          have hRSc5 := Rm_trans hR0 rRSc5
          have zzSc5 := Rm_mz hGSc5 hHSc5 rRSc5 (by omega)
          have ggSc5 := rRSc5.1
          have nv25 := nt_b v25
          exact tot_mono (t_Mo_runs_B110 hn0 hK2 ih _ x1 x2 x3 x4 x5 v25 hGSc5 hHSc5 (by omega) (by omega) (by omega)) (fun r S' z => QQ_tq hRSc5 (by omega) z)
set_option maxHeartbeats 2000000 in
theorem t_Mo_runs_B76 {F B : mP} {n0 : Nat} (hn0 : big n0) {M : Nat} {K2 : mH → Nat → Int32 → Option (Unit × mH)} (hK2 : ∀ (S : mS) (x1 : Int32), G F B S → Hm S → mz S < M → tot (K2 (hp S) 50 x1) (fun r S' => QQ F B (0) S S')) (S : mS) (x1 : Int32) (x2 : Int32) (x3 : Int32) (p0 : Int32) (hG : G F B S) (hH : Hm S) (q0 : mz S < M) : tot (f_Mo_runs_B76 K2 n0 (hp S) 50 x1 x2 x3 p0) (fun r S' => QQ F B (0) S S') := by
  unfold f_Mo_runs_B76
  have L0 : (0 : Int32).toInt = 0 := rfl
  have nx1 := nt_b x1
  have nx2 := nt_b x2
  have nx3 := nt_b x3
  have np0 := nt_b p0
  have hR0 := Rm_refl S
  have zS0 := mz_le hG
  exact tot_mono (t_Mo_runs_L81 hn0 hK2 n0 _ x1 x2 x3 p0 0 hG hH (by omega) (big_lt hn0 (by omega))) (fun r S' z => QQ_tq hR0 (by omega) z)
set_option maxHeartbeats 2000000 in
theorem t_Mo_runs_B60 {F B : mP} {n0 : Nat} (hn0 : big n0) {M : Nat} {K2 : mH → Nat → Int32 → Option (Unit × mH)} (hK2 : ∀ (S : mS) (x1 : Int32), G F B S → Hm S → mz S < M → tot (K2 (hp S) 50 x1) (fun r S' => QQ F B (0) S S')) (S : mS) (x1 : Int32) (x2 : Int32) (p0 : Int32) (hG : G F B S) (hH : Hm S) (q0 : mz S < M) : tot (f_Mo_runs_B60 K2 n0 (hp S) 50 x1 x2 p0) (fun r S' => QQ F B (0) S S') := by
  unfold f_Mo_runs_B60
  have L0 : (0 : Int32).toInt = 0 := rfl
  have L10 : (10 : Int32).toInt = 10 := rfl
  have L128 : (128 : Int32).toInt = 128 := rfl
  have nx1 := nt_b x1
  have nx2 := nt_b x2
  have np0 := nt_b p0
  have hR0 := Rm_refl S
  have zS0 := mz_le hG
  refine ile_t (fun c1 => ?_) (fun c1 => ?_)
  · exact tot_mono (t_Mo_runs_B76 hn0 hK2 _ x1 x2 p0 0 hG hH (by omega)) (fun r S' z => QQ_tq hR0 (by omega) z)
  · refine mis_t (hp_50 _) ?_
    refine mcl_v (t_Mo_next _ hG hH) (fun v28 Sc2 zSc2 => ?_)
    obtain ⟨⟨hGSc2, hHSc2, rRSc2⟩, pv28⟩ := zSc2
    have hRSc2 := Rm_trans hR0 rRSc2
    have zzSc2 := Rm_mz hGSc2 hHSc2 rRSc2 (by omega)
    have ggSc2 := rRSc2.1
    have nv28 := nt_b v28
    exact tot_mono (t_Mo_runs_B76 hn0 hK2 _ x1 x2 p0 v28 hGSc2 hHSc2 (by omega)) (fun r S' z => QQ_tq hRSc2 (by omega) z)
set_option maxHeartbeats 2000000 in
theorem t_Mo_runs_B30 {F B : mP} {n0 : Nat} (hn0 : big n0) {M : Nat} {K2 : mH → Nat → Int32 → Option (Unit × mH)} (hK2 : ∀ (S : mS) (x1 : Int32), G F B S → Hm S → mz S < M → tot (K2 (hp S) 50 x1) (fun r S' => QQ F B (0) S S')) (S : mS) (x2 : Int32) (p0 : Int32) (hG : G F B S) (hH : Hm S) (q0 : mz S < M) : tot (f_Mo_runs_B30 K2 n0 (hp S) 50 x2 p0) (fun r S' => QQ F B (0) S S') := by
  unfold f_Mo_runs_B30
  have L0 : (0 : Int32).toInt = 0 := rfl
  have L1 : (1 : Int32).toInt = 1 := rfl
  have L128 : (128 : Int32).toInt = 128 := rfl
  have L257 : (257 : Int32).toInt = 257 := rfl
  have nx2 := nt_b x2
  have np0 := nt_b p0
  have hR0 := Rm_refl S
  have zS0 := mz_le hG
  refine ile_t (fun c1 => ?_) (fun c1 => ?_)
  · refine ile_t (fun c2 => ?_) (fun c2 => ?_)
    · exact tot_mono (t_Mo_runs_B60 hn0 hK2 _ p0 x2 0 hG hH (by omega)) (fun r S' z => QQ_tq hR0 (by omega) z)
    · exact tot_mono (t_Mo_runs_B60 hn0 hK2 _ p0 x2 (257 - x2) hG hH (by omega)) (fun r S' z => QQ_tq hR0 (by omega) z)
  · exact tot_mono (t_Mo_runs_B60 hn0 hK2 _ p0 x2 (x2 + 1) hG hH (by omega)) (fun r S' z => QQ_tq hR0 (by omega) z)
set_option maxHeartbeats 2000000 in
theorem t_Mo_runs_L2 {F B : mP} {n0 : Nat} (hn0 : big n0) : ∀ (n : Nat) (S : mS) (x1 : Int32), G F B S → Hm S → mz S < n → tot (f_Mo_runs_L2 n0 n (hp S) 50 x1) (fun r S' => QQ F B (0) S S') := by
  intro n
  induction n with
  | zero =>
    intro S x1 hG hH hm
    exact absurd hm (Nat.not_lt_zero _)
  | succ n ih =>
    intro S x1 hG hH hm
    rw [f_Mo_runs_L2.eq_2]
    have L0 : (0 : Int32).toInt = 0 := rfl
    have L1 : (1 : Int32).toInt = 1 := rfl
    have L10 : (10 : Int32).toInt = 10 := rfl
    have L128 : (128 : Int32).toInt = 128 := rfl
    have nx1 := nt_b x1
    have hR0 := Rm_refl S
    have zS0 := mz_le hG
    refine ieq_t (fun c1 => ?_) (fun c1 => ?_)
    · have tc1 := congrArg Int32.toInt c1
      exact tot_end (QQ_fin hG hH hR0 (by omega))
    · refine mis_t (hp_50 _) ?_
      refine mcl_v (t_Mo_isGood _) (fun v3 Sc2 zSc2 => ?_)
      obtain ⟨eSc2, pv3⟩ := zSc2
      subst eSc2
      have nv3 := nt_b v3
      refine ieq_t (fun c3 => ?_) (fun c3 => ?_)
      · have tc3 := congrArg Int32.toInt c3
        exact tot_end (QQ_fin hG hH hR0 (by omega))
      · refine mis_t (hp_50 _) ?_
        refine mcl_v (t_Mo_next _ hG hH) (fun v7 Sc4 zSc4 => ?_)
        obtain ⟨⟨hGSc4, hHSc4, rRSc4⟩, pv7⟩ := zSc4
        have hRSc4 := Rm_trans hR0 rRSc4
        have zzSc4 := Rm_mz hGSc4 hHSc4 rRSc4 (by omega)
        have ggSc4 := rRSc4.1
        have nv7 := nt_b v7
        refine ieq_t (fun c5 => ?_) (fun c5 => ?_)
        · have tc5 := congrArg Int32.toInt c5
          exact tot_mono (t_Mo_runs_B30 hn0 ih _ v7 0 hGSc4 hHSc4 (by omega)) (fun r S' z => QQ_tq hRSc4 (by omega) z)
        · exact tot_mono (t_Mo_runs_B30 hn0 ih _ v7 1 hGSc4 hHSc4 (by omega)) (fun r S' z => QQ_tq hRSc4 (by omega) z)
set_option maxHeartbeats 2000000 in
theorem t_Mo_runs {F B : mP} {n0 : Nat} (hn0 : big n0) (S : mS)  (hG : G F B S) (hH : Hm S)  : tot (f_Mo_runs n0 (hp S) 50) (fun r S' => QQ F B (0) S S') := by
  unfold f_Mo_runs
  have L1 : (1 : Int32).toInt = 1 := rfl
  have hR0 := Rm_refl S
  have zS0 := mz_le hG
  exact tot_mono (t_Mo_runs_L2 hn0 n0 _ 1 hG hH (big_lt hn0 (by omega))) (fun r S' z => QQ_tq hR0 (by omega) z)
