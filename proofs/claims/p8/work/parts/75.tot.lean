/-! THE REFERENCE'S PREDICTORS -/
theorem nt_mul {a b : Int32} (h1 : -2147483648 ≤ a.toInt * b.toInt) (h2 : a.toInt * b.toInt ≤ 2147483647) : (a * b).toInt = a.toInt * b.toInt := by
  rw [Int32.toInt_mul, Int.bmod_def]
  omega
theorem t_Mo_refused {F B : mP} {n0 : Nat} (S : mS) (x1 : Int32) (hG : G F B S) : tot (f_Mo_refused n0 (hp S) 50 x1) (fun r S' => uV S 5000 x1 = S' ∧ ((r.toInt = 0 ∧ x1.toInt ≤ 0) ∨ (r.toInt = 1 ∧ 0 < x1.toInt))) := by
  unfold f_Mo_refused
  have L0 : (0 : Int32).toInt = 0 := rfl
  have L1 : (1 : Int32).toInt = 1 := rfl
  refine mpt_t (hp_50 _) (Nat.le_of_ble_eq_true rfl) (hs_50_0 _ _) ?_
  refine ile_t (fun c => tot_end ⟨rfl, by omega⟩) (fun c => tot_end ⟨rfl, by omega⟩)

set_option maxHeartbeats 2000000 in
theorem t_Mo_bitAt {F B : mP} {n0 : Nat} (hn0 : big n0) (S : mS) (x1 : Int32) (x2 : Int32) (hG : G F B S) (q0 : 0 ≤ x1.toInt ∧ 0 ≤ x2.toInt ∧ 8 * x1.toInt + x2.toInt < 524288) : tot (f_Mo_bitAt n0 (hp S) 50 x1 x2) (fun r S' => S = S') := by
  unfold f_Mo_bitAt
  have L1 : (1 : Int32).toInt = 1 := rfl
  have L7 : (7 : Int32).toInt = 7 := rfl
  have L8 : (8 : Int32).toInt = 8 := rfl
  have L10 : (10 : Int32).toInt = 10 := rfl
  have L14 : (14 : Int32).toInt = 14 := rfl
  have L31 : (31 : Int32).toInt = 31 := rfl
  have nx1 := nt_b x1
  have nx2 := nt_b x2
  have d8 := nt_div (x := x2) (y := 8) (by omega) (by decide)
  rw [L8] at d8
  refine mgr_t (v := 59) (hp_50 _) rfl ?_
  have kz1 : (x1 + (x2 / 8) : Int32).toInt = (x1 : Int32).toInt + ((x2 / 8) : Int32).toInt := nt_add (by omega) (by omega)
  refine mai_v (hp_59 _) (nt_in (by omega) (by omega)) (fun v2 ev2 => ?_)
  have nv2 := nt_b v2
  exact tot_end rfl
set_option maxHeartbeats 2000000 in
theorem t_Mo_numberAt_L6 {F B : mP} {n0 : Nat} (hn0 : big n0) : ∀ (n : Nat) (S : mS) (x1 : Int32) (x2 : Int32) (x3 : Int32) (x4 : Int32) (x5 : Int32), G F B S → (0 ≤ x1.toInt) → (1 ≤ x2.toInt ∧ x2.toInt ≤ 16) → (0 ≤ x2.toInt * x3.toInt ∧ 8 * x1.toInt + x2.toInt * x3.toInt + x2.toInt ≤ 524288) → (0 ≤ x5.toInt) → (x2.toInt - x5.toInt).toNat < n → tot (f_Mo_numberAt_L6 n0 n (hp S) 50 x1 x2 x3 x4 x5) (fun r S' => S = S') := by
  intro n
  induction n with
  | zero =>
    intro S x1 x2 x3 x4 x5 hG q0 q1 q2 q3 hm
    exact absurd hm (Nat.not_lt_zero _)
  | succ n ih =>
    intro S x1 x2 x3 x4 x5 hG q0 q1 q2 q3 hm
    rw [f_Mo_numberAt_L6.eq_2]
    have L0 : (0 : Int32).toInt = 0 := rfl
    have L1 : (1 : Int32).toInt = 1 := rfl
    have L10 : (10 : Int32).toInt = 10 := rfl
    have L31 : (31 : Int32).toInt = 31 := rfl
    have nx1 := nt_b x1
    have nx2 := nt_b x2
    have nx3 := nt_b x3
    have nx4 := nt_b x4
    have nx5 := nt_b x5
    have mx : (x2 * x3 : Int32).toInt = x2.toInt * x3.toInt := nt_mul (by omega) (by omega)
    refine ile_t (fun c1 => ?_) (fun c1 => ?_)
    · exact tot_end rfl
    · refine mis_t (hp_50 _) ?_
      have kz3 : ((x2 * x3) + x5 : Int32).toInt = ((x2 * x3) : Int32).toInt + (x5 : Int32).toInt := nt_add (by omega) (by omega)
      refine mcl_v (t_Mo_bitAt hn0 _ x1 ((x2 * x3) + x5) hG (by omega)) (fun v3 Sc2 zSc2 => ?_)
      subst zSc2
      have nv3 := nt_b v3
      refine mnm_v (fun v5 ev5 => ?_)
      have nv5 := nt_b v5
      refine mnm_v (fun v6 ev6 => ?_)
      have nv6 := nt_b v6
      have kv6 : v6.toInt = x5.toInt + 1 := by rw [ev6]; exact nt_inc (by omega)
      exact ih _ x1 x2 x3 v5 v6 hG (by omega) (by omega) (by omega) (by omega) (by omega)
set_option maxHeartbeats 2000000 in
theorem t_Mo_numberAt {F B : mP} {n0 : Nat} (hn0 : big n0) (S : mS) (x1 : Int32) (x2 : Int32) (x3 : Int32) (hG : G F B S) (q0 : 0 ≤ x1.toInt) (q1 : 1 ≤ x2.toInt ∧ x2.toInt ≤ 16) (q2 : 0 ≤ x2.toInt * x3.toInt ∧ 8 * x1.toInt + x2.toInt * x3.toInt + x2.toInt ≤ 524288) : tot (f_Mo_numberAt n0 (hp S) 50 x1 x2 x3) (fun r S' => S = S') := by
  unfold f_Mo_numberAt
  have L0 : (0 : Int32).toInt = 0 := rfl
  have nx1 := nt_b x1
  have nx2 := nt_b x2
  have nx3 := nt_b x3
  exact t_Mo_numberAt_L6 hn0 n0 _ x1 x2 x3 0 0 hG (by omega) (by omega) (by omega) (by omega) (big_lt hn0 (by omega))
set_option maxHeartbeats 2000000 in
theorem t_Mo_far {F B : mP} {n0 : Nat} (hn0 : big n0) (S : mS) (x0 : Int32) (x1 : Int32) (hG : G F B S)  : tot (f_Mo_far n0 (hp S) x0 x1) (fun r S' => S = S') := by
  unfold f_Mo_far
  have nx0 := nt_b x0
  have nx1 := nt_b x1
  refine ile_t (fun c1 => ?_) (fun c1 => ?_)
  · exact tot_end rfl
  · exact tot_end rfl
set_option maxHeartbeats 2000000 in
theorem t_Mo_nearest_B34 {F B : mP} {n0 : Nat} (hn0 : big n0) (S : mS) (x1 : Int32) (x2 : Int32) (x3 : Int32) (hG : G F B S)  : tot (f_Mo_nearest_B34 n0 (hp S) x1 x2 x3) (fun r S' => S = S') := by
  unfold f_Mo_nearest_B34
  have nx1 := nt_b x1
  have nx2 := nt_b x2
  have nx3 := nt_b x3
  refine mcl_v (t_Mo_far hn0 _ x3 x1 hG) (fun v10 Sc1 zSc1 => ?_)
  subst zSc1
  have nv10 := nt_b v10
  refine mcl_v (t_Mo_far hn0 _ x3 x2 hG) (fun v13 Sc2 zSc2 => ?_)
  subst zSc2
  have nv13 := nt_b v13
  refine ilt_t (fun c3 => ?_) (fun c3 => ?_)
  · exact tot_end rfl
  · exact tot_end rfl
set_option maxHeartbeats 2000000 in
theorem t_Mo_nearest {F B : mP} {n0 : Nat} (hn0 : big n0) (S : mS) (x0 : Int32) (x1 : Int32) (x2 : Int32) (hG : G F B S)  : tot (f_Mo_nearest n0 (hp S) x0 x1 x2) (fun r S' => S = S') := by
  unfold f_Mo_nearest
  have nx0 := nt_b x0
  have nx1 := nt_b x1
  have nx2 := nt_b x2
  refine mnm_v (fun v1 ev1 => ?_)
  have nv1 := nt_b v1
  refine mcl_v (t_Mo_far hn0 _ v1 x0 hG) (fun v3 Sc1 zSc1 => ?_)
  subst zSc1
  have nv3 := nt_b v3
  refine mcl_v (t_Mo_far hn0 _ v1 x1 hG) (fun v6 Sc2 zSc2 => ?_)
  subst zSc2
  have nv6 := nt_b v6
  refine ilt_t (fun c3 => ?_) (fun c3 => ?_)
  · exact t_Mo_nearest_B34 hn0 _ x1 x2 v1 hG
  · refine mcl_v (t_Mo_far hn0 _ v1 x0 hG) (fun v17 Sc4 zSc4 => ?_)
    subst zSc4
    have nv17 := nt_b v17
    refine mcl_v (t_Mo_far hn0 _ v1 x2 hG) (fun v20 Sc5 zSc5 => ?_)
    subst zSc5
    have nv20 := nt_b v20
    refine ilt_t (fun c6 => ?_) (fun c6 => ?_)
    · exact t_Mo_nearest_B34 hn0 _ x1 x2 v1 hG
    · exact tot_end rfl
set_option maxHeartbeats 2000000 in
theorem t_Mo_added {F B : mP} {n0 : Nat} (hn0 : big n0) (S : mS) (x0 : Int32) (x1 : Int32) (x2 : Int32) (x3 : Int32) (hG : G F B S)  : tot (f_Mo_added n0 (hp S) x0 x1 x2 x3) (fun r S' => S = S') := by
  unfold f_Mo_added
  have L0 : (0 : Int32).toInt = 0 := rfl
  have L1 : (1 : Int32).toInt = 1 := rfl
  have L2 : (2 : Int32).toInt = 2 := rfl
  have L3 : (3 : Int32).toInt = 3 := rfl
  have L4 : (4 : Int32).toInt = 4 := rfl
  have nx0 := nt_b x0
  have nx1 := nt_b x1
  have nx2 := nt_b x2
  have nx3 := nt_b x3
  refine ieq_t (fun c1 => ?_) (fun c1 => ?_)
  · have tc1 := congrArg Int32.toInt c1
    exact tot_end rfl
  · refine ieq_t (fun c2 => ?_) (fun c2 => ?_)
    · have tc2 := congrArg Int32.toInt c2
      exact tot_end rfl
    · refine ieq_t (fun c3 => ?_) (fun c3 => ?_)
      · have tc3 := congrArg Int32.toInt c3
        exact tot_end rfl
      · refine ieq_t (fun c4 => ?_) (fun c4 => ?_)
        · have tc4 := congrArg Int32.toInt c4
          refine mcl_v (t_Mo_nearest hn0 _ x1 x2 x3 hG) (fun v6 Sc5 zSc5 => ?_)
          subst zSc5
          have nv6 := nt_b v6
          exact tot_end rfl
        · exact tot_end rfl
def okx (S : mS) (x : Int32) (c b w : Int32) : Prop := S.2.1 55 x.toNatClampNeg = c ∧ S.2.1 56 x.toNatClampNeg = b ∧ S.2.1 57 x.toNatClampNeg = w
def Fr (S S' : mS) : Prop := S'.1 = S.1 ∧ S'.2.1 55 = S.2.1 55 ∧ S'.2.1 56 = S.2.1 56 ∧ S'.2.1 57 = S.2.1 57
theorem Fr_tr {S S' S'' : mS} (h1 : Fr S S') (h2 : Fr S' S'') : Fr S S'' := ⟨h2.1.trans h1.1, h2.2.1.trans h1.2.1, h2.2.2.1.trans h1.2.2.1, h2.2.2.2.trans h1.2.2.2⟩
theorem okx_fr {S S' : mS} {x c b w : Int32} (h : Fr S S') (o : okx S x c b w) : okx S' x c b w := by
  obtain ⟨_, h5, h6, h7⟩ := h
  unfold okx
  rw [h5, h6, h7]
  exact o
theorem wide_ok {c b w : Int32} (o : okp c b w) : ((w * c) * b).toInt = w.toInt * c.toInt * b.toInt ∧ (w * c).toInt = w.toInt * c.toInt ∧ 1 ≤ w.toInt * c.toInt ∧ w.toInt * c.toInt ≤ 32768 ∧ 1 ≤ w.toInt * c.toInt * b.toInt ∧ w.toInt * c.toInt * b.toInt ≤ 524288 := by
  obtain ⟨⟨c1, c2⟩, hb, ⟨w1, w2⟩⟩ := o
  have h1 : 1 ≤ w.toInt * c.toInt := by
    have := Int.mul_le_mul w1 c1 (by omega) (by omega)
    omega
  have h2 : w.toInt * c.toInt ≤ 32768 := by
    have := Int.mul_le_mul w2 c2 (by omega) (by omega)
    omega
  have e1 : (w * c).toInt = w.toInt * c.toInt := nt_mul (by omega) (by omega)
  have h3 : 1 ≤ w.toInt * c.toInt * b.toInt ∧ w.toInt * c.toInt * b.toInt ≤ 524288 := by
    rcases hb with e | e | e | e | e <;> rw [e] <;> omega
  refine ⟨?_, e1, h1, h2, h3.1, h3.2⟩
  rw [nt_mul (by rw [e1]; omega) (by rw [e1]; omega), e1]
theorem t_Mo_rowBytes {F B : mP} {n0 : Nat} (hn0 : big n0) (S : mS) (x1 : Int32) (hG : G F B S) {c b w : Int32} (q0 : 0 ≤ x1.toInt ∧ x1.toInt < 8) (q1 : okx S x1 c b w) (q2 : okp c b w) : tot (f_Mo_rowBytes n0 (hp S) 50 x1) (fun r S' => S = S' ∧ (1 ≤ r.toInt ∧ r.toInt ≤ 65536)) := by
  unfold f_Mo_rowBytes
  have L7 : (7 : Int32).toInt = 7 := rfl
  have L8 : (8 : Int32).toInt = 8 := rfl
  refine mgr_t (v := 57) (hp_50 _) rfl ?_
  refine mai_v (hp_57 _) (nt_in (by omega) (by omega)) (fun v2 ev2 => ?_)
  have e2 : v2 = w := ev2.trans q1.2.2
  refine mgr_t (v := 55) (hp_50 _) rfl ?_
  refine mai_v (hp_55 _) (nt_in (by omega) (by omega)) (fun v4 ev4 => ?_)
  have e4 : v4 = c := ev4.trans q1.1
  refine mgr_t (v := 56) (hp_50 _) rfl ?_
  refine mai_v (hp_56 _) (nt_in (by omega) (by omega)) (fun v6 ev6 => ?_)
  have e6 : v6 = b := ev6.trans q1.2.1
  subst e2 e4 e6
  obtain ⟨h1, h2, h3, h4, h5, h6⟩ := wide_ok q2
  have k7 : (((v2 * v4) * v6) + 7 : Int32).toInt = ((v2 * v4) * v6).toInt + (7 : Int32).toInt := nt_add (by omega) (by omega)
  have k8 := nt_div (x := ((v2 * v4) * v6) + 7) (y := 8) (by omega) (by decide)
  rw [L8] at k8
  exact tot_end ⟨rfl, by omega⟩
set_option maxHeartbeats 1000000 in
theorem t_Mo_setNumber_L3 {F B : mP} {n0 : Nat} : ∀ (n : Nat) (S : mS) (x1 x2 x3 x4 x5 : Int32), G F B S → (0 ≤ x1.toInt) → (1 ≤ x2.toInt ∧ x2.toInt ≤ 16) → (0 ≤ x2.toInt * x3.toInt ∧ 8 * x1.toInt + x2.toInt * x3.toInt + x2.toInt ≤ 524288) → (0 ≤ x5.toInt) → (x2.toInt - x5.toInt).toNat < n → tot (f_Mo_setNumber_L3 n0 n (hp S) 50 x1 x2 x3 x4 x5) (fun r S' => G F B S' ∧ Fr S S') := by
  intro n
  induction n with
  | zero =>
    intro S x1 x2 x3 x4 x5 hG q0 q1 q2 q3 hm
    exact absurd hm (Nat.not_lt_zero _)
  | succ n ih =>
    intro S x1 x2 x3 x4 x5 hG q0 q1 q2 q3 hm
    rw [f_Mo_setNumber_L3.eq_2]
    have L8 : (8 : Int32).toInt = 8 := rfl
    refine ile_t (fun c1 => ?_) (fun c1 => ?_)
    · exact tot_end ⟨hG, rfl, rfl, rfl, rfl⟩
    · have mx : (x2 * x3 : Int32).toInt = x2.toInt * x3.toInt := nt_mul (by omega) (by omega)
      refine mnm_v (fun v2 ev2 => ?_)
      have k2 : v2.toInt = (x2 * x3 : Int32).toInt + x5.toInt := by rw [ev2]; exact nt_add (by omega) (by omega)
      refine mnm_v (fun v3 ev3 => ?_)
      refine mnm_v (fun v4 ev4 => ?_)
      have d8 := nt_div (x := v2) (y := 8) (by omega) (by decide)
      rw [L8] at d8
      have k4 : v4.toInt = x1.toInt + (v2 / 8).toInt := by rw [ev4]; exact nt_add (by omega) (by omega)
      refine mgr_t (v := 59) (hp_50 _) rfl ?_
      refine mgr_t (v := 59) (hp_50 _) rfl ?_
      refine mai_v (hp_59 _) (nt_in (by omega) (by omega)) (fun v7 ev7 => ?_)
      refine mas_t (hp_59 _) (nt_in (by omega) (by omega)) (ha_59 _ _) ?_
      refine mnm_v (fun v9 ev9 => ?_)
      have k9 : v9.toInt = x5.toInt + 1 := by rw [ev9]; exact nt_inc (by omega)
      refine tot_mono (ih _ x1 x2 x3 x4 v9 (G_Ai hG (nb (by decide)) (by decide)) q0 q1 q2 (by omega) (by omega)) (fun r S' z => ⟨z.1, Fr_tr ⟨rfl, rfl, rfl, rfl⟩ z.2⟩)
theorem t_Mo_setNumber {F B : mP} {n0 : Nat} (hn0 : big n0) (S : mS) (x1 x2 x3 x4 : Int32) (hG : G F B S) (q0 : 0 ≤ x1.toInt) (q1 : 1 ≤ x2.toInt ∧ x2.toInt ≤ 16) (q2 : 0 ≤ x2.toInt * x3.toInt ∧ 8 * x1.toInt + x2.toInt * x3.toInt + x2.toInt ≤ 524288) : tot (f_Mo_setNumber n0 (hp S) 50 x1 x2 x3 x4) (fun r S' => G F B S' ∧ Fr S S') := by
  unfold f_Mo_setNumber
  have L0 : (0 : Int32).toInt = 0 := rfl
  exact t_Mo_setNumber_L3 n0 S x1 x2 x3 x4 0 hG q0 q1 q2 (by omega) (big_lt hn0 (by omega))
theorem bk_ok {b k : Int32} {m : Int} (hb : b.toInt = 1 ∨ b.toInt = 2 ∨ b.toInt = 4 ∨ b.toInt = 8 ∨ b.toInt = 16) {x5 : Int32} (h0 : 0 ≤ k.toInt) (h1 : k.toInt < x5.toInt) (h2 : m + b.toInt * x5.toInt ≤ 524288) : 0 ≤ b.toInt * k.toInt ∧ m + b.toInt * k.toInt + b.toInt ≤ 524288 := by
  rcases hb with e | e | e | e | e <;> rw [e] at h2 ⊢ <;> omega
set_option maxHeartbeats 2000000 in
theorem t_Mo_addRows_L91 {F B : mP} {n0 : Nat} (hn0 : big n0) {c b w : Int32} (ho : okp c b w) {M : Nat} {K8 : mH → Nat → Int32 → Int32 → Int32 → Option (Unit × mH)} (hK8 : ∀ (S : mS) (x1 x2 x3 : Int32), G F B S → (0 ≤ x1.toInt ∧ x1.toInt < 8) → okx S x1 c b w → (1 ≤ x2.toInt ∧ x2.toInt ≤ 65536) → (0 ≤ x3.toInt) → (65536 - x3.toInt).toNat < M → tot (K8 (hp S) 50 x1 x2 x3) (fun r S' => G F B S')) : ∀ (n : Nat) (S : mS) (x1 x2 x3 x5 x7 : Int32), G F B S → (0 ≤ x1.toInt ∧ x1.toInt < 8) → okx S x1 c b w → (1 ≤ x2.toInt ∧ x2.toInt ≤ 65536) → (0 ≤ x3.toInt ∧ x3.toInt ≤ 65536) → (65536 - (x3.toInt + x2.toInt)).toNat < M → (8 * x3.toInt + b.toInt * x5.toInt ≤ 524288) → (c.toInt ≤ x7.toInt) → (x5.toInt - x7.toInt).toNat < n → tot (f_Mo_addRows_L91 K8 n0 n (hp S) 50 x1 x2 x3 x5 x7) (fun r S' => G F B S') := by
  intro n
  induction n with
  | zero =>
    intro S x1 x2 x3 x5 x7 hG q0 q1 q2 q3 q4 q5 q6 hm
    exact absurd hm (Nat.not_lt_zero _)
  | succ n ih =>
    intro S x1 x2 x3 x5 x7 hG q0 q1 q2 q3 q4 q5 q6 hm
    rw [f_Mo_addRows_L91.eq_2]
    have hc := ho.1
    have hb := ho.2.1
    have nx7 := nt_b x7
    have nx5 := nt_b x5
    refine ile_t (fun c1 => ?_) (fun c1 => ?_)
    · refine mnm_v (fun v21 ev21 => ?_)
      have k21 : v21.toInt = x3.toInt + x2.toInt := by rw [ev21]; exact nt_add (by omega) (by omega)
      exact hK8 S x1 x2 v21 hG q0 q1 q2 (by omega) (by omega)
    · have hb1 : 1 ≤ b.toInt ∧ b.toInt ≤ 16 := by omega
      refine mgr_t (v := 56) (hp_50 _) rfl ?_
      refine mai_v (hp_56 _) (nt_in (by omega) (by omega)) (fun v23 ev23 => ?_)
      have e23 : v23 = b := ev23.trans q1.2.1
      refine mis_t (hp_50 _) ?_
      subst e23
      have p1 := bk_ok (m := 8 * x3.toInt) hb (k := x7) (by omega) c1 q5
      refine mcl_v (t_Mo_numberAt hn0 S x3 v23 x7 hG q3.1 hb1 p1) (fun v25 Sa za => ?_)
      subst za
      refine mgr_t (v := 56) (hp_50 _) rfl ?_
      refine mai_v (hp_56 _) (nt_in (by omega) (by omega)) (fun v28 ev28 => ?_)
      have e28 : v28 = v23 := ev28.trans q1.2.1
      subst e28
      refine mgr_t (v := 55) (hp_50 _) rfl ?_
      refine mai_v (hp_55 _) (nt_in (by omega) (by omega)) (fun v30 ev30 => ?_)
      have e30 : v30 = c := ev30.trans q1.1
      subst e30
      refine mis_t (hp_50 _) ?_
      have k31 : (x7 - v30 : Int32).toInt = x7.toInt - v30.toInt := nt_sub (by omega) (by omega)
      have p2 := bk_ok (m := 8 * x3.toInt) hb (k := x7 - v30) (by omega) (by omega) q5
      refine mcl_v (t_Mo_numberAt hn0 S x3 v28 (x7 - v30) hG q3.1 hb1 p2) (fun v32 Sb zb => ?_)
      subst zb
      refine mnm_v (fun v34 ev34 => ?_)
      refine mgr_t (v := 56) (hp_50 _) rfl ?_
      refine mai_v (hp_56 _) (nt_in (by omega) (by omega)) (fun v36 ev36 => ?_)
      have e36 : v36 = v28 := ev36.trans q1.2.1
      subst e36
      refine mgr_t (v := 56) (hp_50 _) rfl ?_
      refine mai_v (hp_56 _) (nt_in (by omega) (by omega)) (fun v38 ev38 => ?_)
      refine mis_t (hp_50 _) ?_
      refine mcl_v (t_Mo_setNumber hn0 S x3 v36 x7 _ hG q3.1 hb1 p1) (fun u Sc zc => ?_)
      obtain ⟨hGc, hFc⟩ := zc
      refine mnm_v (fun v43 ev43 => ?_)
      have k43 : v43.toInt = x7.toInt + 1 := by rw [ev43]; exact nt_inc (by omega)
      exact ih Sc x1 x2 x3 x5 v43 hGc q0 (okx_fr hFc q1) q2 q3 q4 q5 (by omega) (by omega)
set_option maxHeartbeats 2000000 in
theorem t_Mo_addRows_B36 {F B : mP} {n0 : Nat} (hn0 : big n0) {c b w : Int32} (ho : okp c b w) {M : Nat} {K8 : mH → Nat → Int32 → Int32 → Int32 → Option (Unit × mH)} (hK8 : ∀ (S : mS) (x1 x2 x3 : Int32), G F B S → (0 ≤ x1.toInt ∧ x1.toInt < 8) → okx S x1 c b w → (1 ≤ x2.toInt ∧ x2.toInt ≤ 65536) → (0 ≤ x3.toInt) → (65536 - x3.toInt).toNat < M → tot (K8 (hp S) 50 x1 x2 x3) (fun r S' => G F B S')) (S : mS) (x1 x2 x3 p0 : Int32) (hG : G F B S) (q0 : 0 ≤ x1.toInt ∧ x1.toInt < 8) (q1 : okx S x1 c b w) (q2 : 1 ≤ x2.toInt ∧ x2.toInt ≤ 65536) (q3 : 0 ≤ x3.toInt ∧ x3.toInt ≤ 65536) (q4 : (65536 - (x3.toInt + x2.toInt)).toNat < M) (q5 : 0 ≤ p0.toInt ∧ x3.toInt + p0.toInt ≤ 65536) : tot (f_Mo_addRows_B36 K8 n0 (hp S) 50 x1 x2 x3 p0) (fun r S' => G F B S') := by
  unfold f_Mo_addRows_B36
  have L0 : (0 : Int32).toInt = 0 := rfl
  have L8 : (8 : Int32).toInt = 8 := rfl
  have hc := ho.1
  have hb := ho.2.1
  have hb1 : 1 ≤ b.toInt ∧ b.toInt ≤ 16 := by omega
  refine mgr_t (v := 56) (hp_50 _) rfl ?_
  refine mai_v (hp_56 _) (nt_in (by omega) (by omega)) (fun v9 ev9 => ?_)
  have e9 : v9 = b := ev9.trans q1.2.1
  subst e9
  refine mgd_t (fun e => by have := congrArg Int32.toInt e; omega) ?_
  refine mnm_v (fun v11 ev11 => ?_)
  have m8 : (8 * p0 : Int32).toInt = (8 : Int32).toInt * p0.toInt := nt_mul (by rw [L8]; omega) (by rw [L8]; omega)
  rw [L8] at m8
  have k11 : v11.toInt = 8 * p0.toInt / v9.toInt := by rw [ev11, nt_div (by omega) (by omega), m8]
  have n11 : v9.toInt * v11.toInt ≤ 8 * p0.toInt ∧ 0 ≤ v11.toInt := by
    rw [k11]
    rcases hb with e | e | e | e | e <;> rw [e] <;> omega
  refine mgr_t (v := 57) (hp_50 _) rfl ?_
  refine mai_v (hp_57 _) (nt_in (by omega) (by omega)) (fun v13 ev13 => ?_)
  refine mgr_t (v := 55) (hp_50 _) rfl ?_
  refine mai_v (hp_55 _) (nt_in (by omega) (by omega)) (fun v15 ev15 => ?_)
  refine mnm_v (fun v16 ev16 => ?_)
  have fin : ∀ p : Int32, v9.toInt * p.toInt ≤ 8 * p0.toInt → tot (f_Mo_addRows_B81 K8 n0 (hp S) 50 x1 x2 x3 p) (fun r S' => G F B S') := by
    intro p hp'
    unfold f_Mo_addRows_B81
    refine mgr_t (v := 55) (hp_50 _) rfl ?_
    refine mai_v (hp_55 _) (nt_in (by omega) (by omega)) (fun v19 ev19 => ?_)
    have e19 : v19 = c := ev19.trans q1.1
    subst e19
    have np := nt_b p
    exact t_Mo_addRows_L91 hn0 ho hK8 n0 S x1 x2 x3 p v19 hG q0 q1 q2 q3 q4 (by omega) (by omega) (big_lt hn0 (by omega))
  refine ile_t (fun c1 => fin v16 ?_) (fun _ => fin v11 n11.1)
  obtain ⟨n1, n2⟩ := n11
  rcases hb with e | e | e | e | e <;> rw [e] at n1 ⊢ <;> omega
set_option maxHeartbeats 2000000 in
theorem t_Mo_addRows_L8 {F B : mP} {n0 : Nat} (hn0 : big n0) {c b w : Int32} (ho : okp c b w) : ∀ (n : Nat) (S : mS) (x1 x2 x3 : Int32), G F B S → (0 ≤ x1.toInt ∧ x1.toInt < 8) → okx S x1 c b w → (1 ≤ x2.toInt ∧ x2.toInt ≤ 65536) → (0 ≤ x3.toInt) → (65536 - x3.toInt).toNat < n → tot (f_Mo_addRows_L8 n0 n (hp S) 50 x1 x2 x3) (fun r S' => G F B S') := by
  intro n
  induction n with
  | zero =>
    intro S x1 x2 x3 hG q0 q1 q2 q3 hm
    exact absurd hm (Nat.not_lt_zero _)
  | succ n ih =>
    intro S x1 x2 x3 hG q0 q1 q2 q3 hm
    rw [f_Mo_addRows_L8.eq_2]
    refine mgi_v (hp_50 _) rfl (fun v4 ev4 => ?_)
    have b4 := b_5013 hG
    rw [← ev4] at b4
    refine ile_t (fun c1 => ?_) (fun c1 => ?_)
    · exact tot_end hG
    · refine mgi_v (hp_50 _) rfl (fun v6 ev6 => ?_)
      have e6 : v6 = v4 := ev6.trans ev4.symm
      subst e6
      have k6 : (v6 - x3 : Int32).toInt = v6.toInt - x3.toInt := nt_sub (by omega) (by omega)
      refine ile_t (fun c2 => ?_) (fun c2 => ?_)
      · exact t_Mo_addRows_B36 hn0 ho ih S x1 x2 x3 x2 hG q0 q1 q2 ⟨q3, by omega⟩ (by omega) ⟨by omega, by omega⟩
      · refine mgi_v (hp_50 _) rfl (fun v44 ev44 => ?_)
        have e44 : v44 = v6 := ev44.trans ev6.symm
        subst e44
        exact t_Mo_addRows_B36 hn0 ho ih S x1 x2 x3 (v44 - x3) hG q0 q1 q2 ⟨q3, by omega⟩ (by omega) ⟨by omega, by omega⟩
theorem t_Mo_addRows {F B : mP} {n0 : Nat} (hn0 : big n0) (S : mS) (x1 : Int32) (hG : G F B S) {c b w : Int32} (q0 : 0 ≤ x1.toInt ∧ x1.toInt < 8) (q1 : okx S x1 c b w) (q2 : okp c b w) : tot (f_Mo_addRows n0 (hp S) 50 x1) (fun r S' => G F B S') := by
  unfold f_Mo_addRows
  have L0 : (0 : Int32).toInt = 0 := rfl
  refine mis_t (hp_50 _) ?_
  refine mcl_v (t_Mo_rowBytes hn0 S x1 hG q0 q1 q2) (fun v2 Sa za => ?_)
  obtain ⟨ea, pv2⟩ := za
  subst ea
  exact t_Mo_addRows_L8 hn0 q2 n0 S x1 v2 0 hG q0 q1 pv2 (by omega) (big_lt hn0 (by omega))

