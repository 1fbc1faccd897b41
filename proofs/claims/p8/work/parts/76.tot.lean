set_option maxHeartbeats 2000000 in
theorem t_Mo_undoRows_L241 {F B : mP} {n0 : Nat} (hn0 : big n0) : ∀ (n : Nat) (S : mS) (x4 : Int32) (x5 : Int32) (x6 : Int32), G F B S → (x5 = 0 ∨ x5 = 1) → (0 ≤ x4.toInt ∧ x4.toInt ≤ 65536) → (0 ≤ x6.toInt) → (x4.toInt - x6.toInt).toNat < n → tot (f_Mo_undoRows_L241 n0 n (hp S) 50 x4 x5 x6) (fun r S => G F B S ∧ (r = 0 ∨ r = 1)) := by
  intro n
  induction n with
  | zero =>
    intro S x4 x5 x6 hG q0 q1 q2 hm
    exact absurd hm (Nat.not_lt_zero _)
  | succ n ih =>
    intro S x4 x5 x6 hG q0 q1 q2 hm
    rw [f_Mo_undoRows_L241.eq_2]
    have L0 : (0 : Int32).toInt = 0 := rfl
    have L1 : (1 : Int32).toInt = 1 := rfl
    have L10 : (10 : Int32).toInt = 10 := rfl
    have L12 : (12 : Int32).toInt = 12 := rfl
    have L13 : (13 : Int32).toInt = 13 := rfl
    have L14 : (14 : Int32).toInt = 14 := rfl
    have nx4 := nt_b x4
    have nx5 := nt_b x5
    have nx6 := nt_b x6
    refine ile_t (fun c1 => ?_) (fun c1 => ?_)
    · refine mpt_t (hp_50 _) (Nat.le_of_ble_eq_true rfl) (hs_50_13 _ _) ?_
      have hGS2 : G F B (uV S 5013 (x4)) := g_5013 hG (by omega) (by omega)
      refine mgd_t (nt_bool (q0)) ?_
      exact tot_end ⟨hGS2, q0⟩
    · refine mgr_t (v := 59) (hp_50 _) rfl ?_
      refine mgr_t (v := 58) (hp_50 _) rfl ?_
      refine mai_v (hp_58 _) (nt_in (by omega) (by omega)) (fun v16 ev16 => ?_)
      have nv16 := nt_b v16
      refine mas_t (hp_59 _) (nt_in (by omega) (by omega)) (ha_59 _ _) ?_
      have hGS3 : G F B (uA S 59 (upd (S.2.1 59) (x6).toNatClampNeg v16)) := G_Ai hG (nb (by decide)) (by decide)
      refine mnm_v (fun v18 ev18 => ?_)
      have nv18 := nt_b v18
      have kv18 : v18.toInt = x6.toInt + 1 := by rw [ev18]; exact nt_inc (by omega)
      exact ih _ x4 x5 v18 hGS3 (by first | assumption | exact Or.inl rfl | exact Or.inr rfl) (by omega) (by omega) (by omega)
set_option maxHeartbeats 2000000 in
theorem t_Mo_undoRows_B238 {F B : mP} {n0 : Nat} (hn0 : big n0) (S : mS) (x4 : Int32) (x5 : Int32) (hG : G F B S) (q0 : x5 = 0 ∨ x5 = 1) (q1 : 0 ≤ x4.toInt ∧ x4.toInt ≤ 65536) : tot (f_Mo_undoRows_B238 n0 (hp S) 50 x4 x5) (fun r S => G F B S ∧ (r = 0 ∨ r = 1)) := by
  unfold f_Mo_undoRows_B238
  have L0 : (0 : Int32).toInt = 0 := rfl
  have nx4 := nt_b x4
  have nx5 := nt_b x5
  exact t_Mo_undoRows_L241 hn0 n0 _ x4 x5 0 hG (by first | assumption | exact Or.inl rfl | exact Or.inr rfl) (by omega) (by omega) (big_lt hn0 (by omega))
set_option maxHeartbeats 2000000 in
theorem t_Mo_undoRows_B227 {F B : mP} {n0 : Nat} (hn0 : big n0) {M : Nat} {K35 : mH → Nat → Int32 → Int32 → Int32 → Int32 → Int32 → Option (Int32 × mH)} (hK35 : ∀ (S : mS) (x2 : Int32) (x3 : Int32) (x4 : Int32) (x5 : Int32) (x6 : Int32), G F B S → (1 ≤ x2.toInt ∧ x2.toInt ≤ 65536) → (0 ≤ x3.toInt ∧ x3.toInt ≤ 100) → (0 ≤ x4.toInt ∧ x4.toInt ≤ 65536) → (x5 = 0 ∨ x5 = 1) → (0 ≤ x6.toInt ∧ x4.toInt ≤ x6.toInt) → (x6.toInt ≤ 0 ∨ x2.toInt ≤ x4.toInt ∨ (S.1 5013).toInt ≤ x6.toInt ∨ x5.toInt = 0) → (65536 - x6.toInt).toNat < M → tot (K35 (hp S) 50 x2 x3 x4 x5 x6) (fun r S => G F B S ∧ (r = 0 ∨ r = 1))) (S : mS) (x2 : Int32) (x3 : Int32) (x4 : Int32) (x5 : Int32) (x6 : Int32) (hG : G F B S) (q0 : 1 ≤ x2.toInt ∧ x2.toInt ≤ 65536) (q1 : 0 ≤ x3.toInt ∧ x3.toInt ≤ 100) (q2 : 0 ≤ x4.toInt ∧ x4.toInt ≤ 65536) (q3 : x5 = 0 ∨ x5 = 1) (q4 : 0 ≤ x6.toInt ∧ x4.toInt ≤ x6.toInt + x2.toInt ∧ x6.toInt ≤ 65536) (q5 : x2.toInt ≤ x4.toInt ∨ (S.1 5013).toInt ≤ x6.toInt + x2.toInt + 1 ∨ x5.toInt = 0) (q6 : (65536 - (x6.toInt + x2.toInt + 1)).toNat < M) : tot (f_Mo_undoRows_B227 K35 n0 (hp S) 50 x2 x3 x4 x5 x6) (fun r S => G F B S ∧ (r = 0 ∨ r = 1)) := by
  unfold f_Mo_undoRows_B227
  have L1 : (1 : Int32).toInt = 1 := rfl
  have nx2 := nt_b x2
  have nx3 := nt_b x3
  have nx4 := nt_b x4
  have nx5 := nt_b x5
  have nx6 := nt_b x6
  refine mnm_v (fun v26 ev26 => ?_)
  have nv26 := nt_b v26
  have kz1 : (x2 + 1 : Int32).toInt = (x2 : Int32).toInt + (1 : Int32).toInt := nt_add (by omega) (by omega)
  have kz2 : (x6 + (x2 + 1) : Int32).toInt = (x6 : Int32).toInt + ((x2 + 1) : Int32).toInt := nt_add (by omega) (by omega)
  have kv26 : v26.toInt = (x6 + (x2 + 1)).toInt := by rw [ev26]
  exact hK35 _ x2 x3 x4 x5 v26 hG (by omega) (by omega) (by omega) (by first | assumption | exact Or.inl rfl | exact Or.inr rfl) (by omega) (by omega) (by omega)
set_option maxHeartbeats 2000000 in
theorem t_Mo_undoRows_B181 {F B : mP} {n0 : Nat} (hn0 : big n0) {M35 : Nat} {K35 : mH → Nat → Int32 → Int32 → Int32 → Int32 → Int32 → Option (Int32 × mH)} (hK35 : ∀ (S : mS) (x2 : Int32) (x3 : Int32) (x4 : Int32) (x5 : Int32) (x6 : Int32), G F B S → (1 ≤ x2.toInt ∧ x2.toInt ≤ 65536) → (0 ≤ x3.toInt ∧ x3.toInt ≤ 100) → (0 ≤ x4.toInt ∧ x4.toInt ≤ 65536) → (x5 = 0 ∨ x5 = 1) → (0 ≤ x6.toInt ∧ x4.toInt ≤ x6.toInt) → (x6.toInt ≤ 0 ∨ x2.toInt ≤ x4.toInt ∨ (S.1 5013).toInt ≤ x6.toInt ∨ x5.toInt = 0) → (65536 - x6.toInt).toNat < M35 → tot (K35 (hp S) 50 x2 x3 x4 x5 x6) (fun r S => G F B S ∧ (r = 0 ∨ r = 1))) {M : Nat} {K102 : mH → Nat → Int32 → Int32 → Int32 → Int32 → Int32 → Int32 → Int32 → Int32 → Option (Int32 × mH)} (hK102 : ∀ (S : mS) (x2 : Int32) (x3 : Int32) (x4 : Int32) (x5 : Int32) (x6 : Int32) (x7 : Int32) (x8 : Int32) (x9 : Int32), G F B S → (1 ≤ x2.toInt ∧ x2.toInt ≤ 65536) → (0 ≤ x3.toInt ∧ x3.toInt ≤ 100) → (x5 = 0 ∨ x5 = 1) → (0 ≤ x6.toInt) → (0 ≤ x8.toInt ∧ x8.toInt ≤ x2.toInt ∧ x6.toInt + 1 + x8.toInt ≤ 65536) → (0 ≤ x9.toInt ∧ x9.toInt ≤ x8.toInt ∧ x9.toInt ≤ x4.toInt ∧ x4.toInt ≤ x6.toInt + x9.toInt) → (x6.toInt ≤ 0 ∨ x2.toInt + x9.toInt ≤ x4.toInt) → (x8.toInt = x2.toInt ∨ (S.1 5013).toInt ≤ x6.toInt + x2.toInt + 1) → ((65536 - (x6.toInt + x2.toInt + 1)).toNat < M35) → (x8.toInt - x9.toInt).toNat < M → tot (K102 (hp S) 50 x2 x3 x4 x5 x6 x7 x8 x9) (fun r S => G F B S ∧ (r = 0 ∨ r = 1))) (S : mS) (x2 : Int32) (x3 : Int32) (x4 : Int32) (x5 : Int32) (x6 : Int32) (x7 : Int32) (x8 : Int32) (x9 : Int32) (x10 : Int32) (x11 : Int32) (p0 : Int32) (hG : G F B S) (q0 : 1 ≤ x2.toInt ∧ x2.toInt ≤ 65536) (q1 : 0 ≤ x3.toInt ∧ x3.toInt ≤ 100) (q2 : x5 = 0 ∨ x5 = 1) (q3 : 0 ≤ x6.toInt) (q4 : 0 ≤ x8.toInt ∧ x8.toInt ≤ x2.toInt ∧ x6.toInt + 1 + x8.toInt ≤ 65536) (q5 : 0 ≤ x9.toInt ∧ x9.toInt ≤ x8.toInt ∧ x9.toInt ≤ x4.toInt ∧ x4.toInt ≤ x6.toInt + x9.toInt) (q6 : x6.toInt ≤ 0 ∨ x2.toInt + x9.toInt ≤ x4.toInt) (q7 : x8.toInt = x2.toInt ∨ (S.1 5013).toInt ≤ x6.toInt + x2.toInt + 1) (q8 : (65536 - (x6.toInt + x2.toInt + 1)).toNat < M35) (q9 : x9.toInt < x8.toInt) (q10 : (x8.toInt - (x9.toInt + 1)).toNat < M) : tot (f_Mo_undoRows_B181 K35 K102 n0 (hp S) 50 x2 x3 x4 x5 x6 x7 x8 x9 x10 x11 p0) (fun r S => G F B S ∧ (r = 0 ∨ r = 1)) := by
  unfold f_Mo_undoRows_B181
  have L1 : (1 : Int32).toInt = 1 := rfl
  have L10 : (10 : Int32).toInt = 10 := rfl
  have L12 : (12 : Int32).toInt = 12 := rfl
  have L14 : (14 : Int32).toInt = 14 := rfl
  have L255 : (255 : Int32).toInt = 255 := rfl
  have nx2 := nt_b x2
  have nx3 := nt_b x3
  have nx4 := nt_b x4
  have nx5 := nt_b x5
  have nx6 := nt_b x6
  have nx7 := nt_b x7
  have nx8 := nt_b x8
  have nx9 := nt_b x9
  have nx10 := nt_b x10
  have nx11 := nt_b x11
  have np0 := nt_b p0
  refine mgr_t (v := 58) (hp_50 _) rfl ?_
  refine mgr_t (v := 59) (hp_50 _) rfl ?_
  have kz1 : (x6 + 1 : Int32).toInt = (x6 : Int32).toInt + (1 : Int32).toInt := nt_add (by omega) (by omega)
  have kz2 : ((x6 + 1) + x9 : Int32).toInt = ((x6 + 1) : Int32).toInt + (x9 : Int32).toInt := nt_add (by omega) (by omega)
  refine mai_v (hp_59 _) (nt_in (by omega) (by omega)) (fun v33 ev33 => ?_)
  have nv33 := nt_b v33
  refine mcl_v (t_Mo_added hn0 _ x7 x10 x11 p0 hG) (fun v35 Sc3 zSc3 => ?_)
  subst zSc3
  have nv35 := nt_b v35
  refine mas_t (hp_58 _) (nt_in (by omega) (by omega)) (ha_58 _ _) ?_
  have hGS4 : G F B (uA S 58 (upd (S.2.1 58) (x4).toNatClampNeg ((v33 + v35) &&& 255))) := G_Ai hG (nb (by decide)) (by decide)
  have dg : ((uA S 58 (upd (S.2.1 58) (x4).toNatClampNeg ((v33 + v35) &&& 255))).1 5013).toInt = (S.1 5013).toInt := rfl
  refine mnm_v (fun v38 ev38 => ?_)
  have nv38 := nt_b v38
  have kv38 : v38.toInt = x4.toInt + 1 := by rw [ev38]; exact nt_inc (by omega)
  refine mnm_v (fun v39 ev39 => ?_)
  have nv39 := nt_b v39
  have kv39 : v39.toInt = x9.toInt + 1 := by rw [ev39]; exact nt_inc (by omega)
  exact hK102 _ x2 x3 v38 x5 x6 x7 x8 v39 hGS4 (by omega) (by omega) (by first | assumption | exact Or.inl rfl | exact Or.inr rfl) (by omega) (by omega) (by omega) (by omega) (by omega) (by omega) (by omega)
set_option maxHeartbeats 2000000 in
theorem t_Mo_undoRows_B180 {F B : mP} {n0 : Nat} (hn0 : big n0) {M35 : Nat} {K35 : mH → Nat → Int32 → Int32 → Int32 → Int32 → Int32 → Option (Int32 × mH)} (hK35 : ∀ (S : mS) (x2 : Int32) (x3 : Int32) (x4 : Int32) (x5 : Int32) (x6 : Int32), G F B S → (1 ≤ x2.toInt ∧ x2.toInt ≤ 65536) → (0 ≤ x3.toInt ∧ x3.toInt ≤ 100) → (0 ≤ x4.toInt ∧ x4.toInt ≤ 65536) → (x5 = 0 ∨ x5 = 1) → (0 ≤ x6.toInt ∧ x4.toInt ≤ x6.toInt) → (x6.toInt ≤ 0 ∨ x2.toInt ≤ x4.toInt ∨ (S.1 5013).toInt ≤ x6.toInt ∨ x5.toInt = 0) → (65536 - x6.toInt).toNat < M35 → tot (K35 (hp S) 50 x2 x3 x4 x5 x6) (fun r S => G F B S ∧ (r = 0 ∨ r = 1))) {M : Nat} {K102 : mH → Nat → Int32 → Int32 → Int32 → Int32 → Int32 → Int32 → Int32 → Int32 → Option (Int32 × mH)} (hK102 : ∀ (S : mS) (x2 : Int32) (x3 : Int32) (x4 : Int32) (x5 : Int32) (x6 : Int32) (x7 : Int32) (x8 : Int32) (x9 : Int32), G F B S → (1 ≤ x2.toInt ∧ x2.toInt ≤ 65536) → (0 ≤ x3.toInt ∧ x3.toInt ≤ 100) → (x5 = 0 ∨ x5 = 1) → (0 ≤ x6.toInt) → (0 ≤ x8.toInt ∧ x8.toInt ≤ x2.toInt ∧ x6.toInt + 1 + x8.toInt ≤ 65536) → (0 ≤ x9.toInt ∧ x9.toInt ≤ x8.toInt ∧ x9.toInt ≤ x4.toInt ∧ x4.toInt ≤ x6.toInt + x9.toInt) → (x6.toInt ≤ 0 ∨ x2.toInt + x9.toInt ≤ x4.toInt) → (x8.toInt = x2.toInt ∨ (S.1 5013).toInt ≤ x6.toInt + x2.toInt + 1) → ((65536 - (x6.toInt + x2.toInt + 1)).toNat < M35) → (x8.toInt - x9.toInt).toNat < M → tot (K102 (hp S) 50 x2 x3 x4 x5 x6 x7 x8 x9) (fun r S => G F B S ∧ (r = 0 ∨ r = 1))) (S : mS) (x2 : Int32) (x3 : Int32) (x4 : Int32) (x5 : Int32) (x6 : Int32) (x7 : Int32) (x8 : Int32) (x9 : Int32) (x10 : Int32) (x11 : Int32) (hG : G F B S) (q0 : 1 ≤ x2.toInt ∧ x2.toInt ≤ 65536) (q1 : 0 ≤ x3.toInt ∧ x3.toInt ≤ 100) (q2 : x5 = 0 ∨ x5 = 1) (q3 : 0 ≤ x6.toInt) (q4 : 0 ≤ x8.toInt ∧ x8.toInt ≤ x2.toInt ∧ x6.toInt + 1 + x8.toInt ≤ 65536) (q5 : 0 ≤ x9.toInt ∧ x9.toInt ≤ x8.toInt ∧ x9.toInt ≤ x4.toInt ∧ x4.toInt ≤ x6.toInt + x9.toInt) (q6 : x6.toInt ≤ 0 ∨ x2.toInt + x9.toInt ≤ x4.toInt) (q7 : x8.toInt = x2.toInt ∨ (S.1 5013).toInt ≤ x6.toInt + x2.toInt + 1) (q8 : (65536 - (x6.toInt + x2.toInt + 1)).toNat < M35) (q9 : x9.toInt < x8.toInt) (q10 : (x8.toInt - (x9.toInt + 1)).toNat < M) : tot (f_Mo_undoRows_B180 K35 K102 n0 (hp S) 50 x2 x3 x4 x5 x6 x7 x8 x9 x10 x11) (fun r S => G F B S ∧ (r = 0 ∨ r = 1)) := by
  unfold f_Mo_undoRows_B180
  have L0 : (0 : Int32).toInt = 0 := rfl
  have nx2 := nt_b x2
  have nx3 := nt_b x3
  have nx4 := nt_b x4
  have nx5 := nt_b x5
  have nx6 := nt_b x6
  have nx7 := nt_b x7
  have nx8 := nt_b x8
  have nx9 := nt_b x9
  have nx10 := nt_b x10
  have nx11 := nt_b x11
  exact t_Mo_undoRows_B181 hn0 hK35 hK102 _ x2 x3 x4 x5 x6 x7 x8 x9 x10 x11 0 hG (by omega) (by omega) (by first | assumption | exact Or.inl rfl | exact Or.inr rfl) (by omega) (by omega) (by omega) (by omega) (by omega) (by omega) (by omega) (by omega)
set_option maxHeartbeats 2000000 in
theorem t_Mo_undoRows_B153 {F B : mP} {n0 : Nat} (hn0 : big n0) {M35 : Nat} {K35 : mH → Nat → Int32 → Int32 → Int32 → Int32 → Int32 → Option (Int32 × mH)} (hK35 : ∀ (S : mS) (x2 : Int32) (x3 : Int32) (x4 : Int32) (x5 : Int32) (x6 : Int32), G F B S → (1 ≤ x2.toInt ∧ x2.toInt ≤ 65536) → (0 ≤ x3.toInt ∧ x3.toInt ≤ 100) → (0 ≤ x4.toInt ∧ x4.toInt ≤ 65536) → (x5 = 0 ∨ x5 = 1) → (0 ≤ x6.toInt ∧ x4.toInt ≤ x6.toInt) → (x6.toInt ≤ 0 ∨ x2.toInt ≤ x4.toInt ∨ (S.1 5013).toInt ≤ x6.toInt ∨ x5.toInt = 0) → (65536 - x6.toInt).toNat < M35 → tot (K35 (hp S) 50 x2 x3 x4 x5 x6) (fun r S => G F B S ∧ (r = 0 ∨ r = 1))) {M : Nat} {K102 : mH → Nat → Int32 → Int32 → Int32 → Int32 → Int32 → Int32 → Int32 → Int32 → Option (Int32 × mH)} (hK102 : ∀ (S : mS) (x2 : Int32) (x3 : Int32) (x4 : Int32) (x5 : Int32) (x6 : Int32) (x7 : Int32) (x8 : Int32) (x9 : Int32), G F B S → (1 ≤ x2.toInt ∧ x2.toInt ≤ 65536) → (0 ≤ x3.toInt ∧ x3.toInt ≤ 100) → (x5 = 0 ∨ x5 = 1) → (0 ≤ x6.toInt) → (0 ≤ x8.toInt ∧ x8.toInt ≤ x2.toInt ∧ x6.toInt + 1 + x8.toInt ≤ 65536) → (0 ≤ x9.toInt ∧ x9.toInt ≤ x8.toInt ∧ x9.toInt ≤ x4.toInt ∧ x4.toInt ≤ x6.toInt + x9.toInt) → (x6.toInt ≤ 0 ∨ x2.toInt + x9.toInt ≤ x4.toInt) → (x8.toInt = x2.toInt ∨ (S.1 5013).toInt ≤ x6.toInt + x2.toInt + 1) → ((65536 - (x6.toInt + x2.toInt + 1)).toNat < M35) → (x8.toInt - x9.toInt).toNat < M → tot (K102 (hp S) 50 x2 x3 x4 x5 x6 x7 x8 x9) (fun r S => G F B S ∧ (r = 0 ∨ r = 1))) (S : mS) (x2 : Int32) (x3 : Int32) (x4 : Int32) (x5 : Int32) (x6 : Int32) (x7 : Int32) (x8 : Int32) (x9 : Int32) (x10 : Int32) (p0 : Int32) (hG : G F B S) (q0 : 1 ≤ x2.toInt ∧ x2.toInt ≤ 65536) (q1 : 0 ≤ x3.toInt ∧ x3.toInt ≤ 100) (q2 : x5 = 0 ∨ x5 = 1) (q3 : 0 ≤ x6.toInt) (q4 : 0 ≤ x8.toInt ∧ x8.toInt ≤ x2.toInt ∧ x6.toInt + 1 + x8.toInt ≤ 65536) (q5 : 0 ≤ x9.toInt ∧ x9.toInt ≤ x8.toInt ∧ x9.toInt ≤ x4.toInt ∧ x4.toInt ≤ x6.toInt + x9.toInt) (q6 : x6.toInt ≤ 0 ∨ x2.toInt + x9.toInt ≤ x4.toInt) (q7 : x8.toInt = x2.toInt ∨ (S.1 5013).toInt ≤ x6.toInt + x2.toInt + 1) (q8 : (65536 - (x6.toInt + x2.toInt + 1)).toNat < M35) (q9 : x9.toInt < x8.toInt) (q10 : (x8.toInt - (x9.toInt + 1)).toNat < M) : tot (f_Mo_undoRows_B153 K35 K102 n0 (hp S) 50 x2 x3 x4 x5 x6 x7 x8 x9 x10 p0) (fun r S => G F B S ∧ (r = 0 ∨ r = 1)) := by
  unfold f_Mo_undoRows_B153
  have L0 : (0 : Int32).toInt = 0 := rfl
  have L10 : (10 : Int32).toInt = 10 := rfl
  have L12 : (12 : Int32).toInt = 12 := rfl
  have nx2 := nt_b x2
  have nx3 := nt_b x3
  have nx4 := nt_b x4
  have nx5 := nt_b x5
  have nx6 := nt_b x6
  have nx7 := nt_b x7
  have nx8 := nt_b x8
  have nx9 := nt_b x9
  have nx10 := nt_b x10
  have np0 := nt_b p0
  refine ile_t (fun c1 => ?_) (fun c1 => ?_)
  · exact t_Mo_undoRows_B180 hn0 hK35 hK102 _ x2 x3 x4 x5 x6 x7 x8 x9 x10 p0 hG (by omega) (by omega) (by first | assumption | exact Or.inl rfl | exact Or.inr rfl) (by omega) (by omega) (by omega) (by omega) (by omega) (by omega) (by omega) (by omega)
  · refine ilt_t (fun c2 => ?_) (fun c2 => ?_)
    · exact t_Mo_undoRows_B180 hn0 hK35 hK102 _ x2 x3 x4 x5 x6 x7 x8 x9 x10 p0 hG (by omega) (by omega) (by first | assumption | exact Or.inl rfl | exact Or.inr rfl) (by omega) (by omega) (by omega) (by omega) (by omega) (by omega) (by omega) (by omega)
    · refine mgr_t (v := 58) (hp_50 _) rfl ?_
      have kz3 : (x4 - x2 : Int32).toInt = (x4 : Int32).toInt - (x2 : Int32).toInt := nt_sub (by omega) (by omega)
      have kz4 : ((x4 - x2) - x3 : Int32).toInt = ((x4 - x2) : Int32).toInt - (x3 : Int32).toInt := nt_sub (by omega) (by omega)
      refine mai_v (hp_58 _) (nt_in (by omega) (by omega)) (fun v42 ev42 => ?_)
      have nv42 := nt_b v42
      exact t_Mo_undoRows_B181 hn0 hK35 hK102 _ x2 x3 x4 x5 x6 x7 x8 x9 x10 p0 v42 hG (by omega) (by omega) (by first | assumption | exact Or.inl rfl | exact Or.inr rfl) (by omega) (by omega) (by omega) (by omega) (by omega) (by omega) (by omega) (by omega)
set_option maxHeartbeats 2000000 in
theorem t_Mo_undoRows_B133 {F B : mP} {n0 : Nat} (hn0 : big n0) {M35 : Nat} {K35 : mH → Nat → Int32 → Int32 → Int32 → Int32 → Int32 → Option (Int32 × mH)} (hK35 : ∀ (S : mS) (x2 : Int32) (x3 : Int32) (x4 : Int32) (x5 : Int32) (x6 : Int32), G F B S → (1 ≤ x2.toInt ∧ x2.toInt ≤ 65536) → (0 ≤ x3.toInt ∧ x3.toInt ≤ 100) → (0 ≤ x4.toInt ∧ x4.toInt ≤ 65536) → (x5 = 0 ∨ x5 = 1) → (0 ≤ x6.toInt ∧ x4.toInt ≤ x6.toInt) → (x6.toInt ≤ 0 ∨ x2.toInt ≤ x4.toInt ∨ (S.1 5013).toInt ≤ x6.toInt ∨ x5.toInt = 0) → (65536 - x6.toInt).toNat < M35 → tot (K35 (hp S) 50 x2 x3 x4 x5 x6) (fun r S => G F B S ∧ (r = 0 ∨ r = 1))) {M : Nat} {K102 : mH → Nat → Int32 → Int32 → Int32 → Int32 → Int32 → Int32 → Int32 → Int32 → Option (Int32 × mH)} (hK102 : ∀ (S : mS) (x2 : Int32) (x3 : Int32) (x4 : Int32) (x5 : Int32) (x6 : Int32) (x7 : Int32) (x8 : Int32) (x9 : Int32), G F B S → (1 ≤ x2.toInt ∧ x2.toInt ≤ 65536) → (0 ≤ x3.toInt ∧ x3.toInt ≤ 100) → (x5 = 0 ∨ x5 = 1) → (0 ≤ x6.toInt) → (0 ≤ x8.toInt ∧ x8.toInt ≤ x2.toInt ∧ x6.toInt + 1 + x8.toInt ≤ 65536) → (0 ≤ x9.toInt ∧ x9.toInt ≤ x8.toInt ∧ x9.toInt ≤ x4.toInt ∧ x4.toInt ≤ x6.toInt + x9.toInt) → (x6.toInt ≤ 0 ∨ x2.toInt + x9.toInt ≤ x4.toInt) → (x8.toInt = x2.toInt ∨ (S.1 5013).toInt ≤ x6.toInt + x2.toInt + 1) → ((65536 - (x6.toInt + x2.toInt + 1)).toNat < M35) → (x8.toInt - x9.toInt).toNat < M → tot (K102 (hp S) 50 x2 x3 x4 x5 x6 x7 x8 x9) (fun r S => G F B S ∧ (r = 0 ∨ r = 1))) (S : mS) (x2 : Int32) (x3 : Int32) (x4 : Int32) (x5 : Int32) (x6 : Int32) (x7 : Int32) (x8 : Int32) (x9 : Int32) (p0 : Int32) (hG : G F B S) (q0 : 1 ≤ x2.toInt ∧ x2.toInt ≤ 65536) (q1 : 0 ≤ x3.toInt ∧ x3.toInt ≤ 100) (q2 : x5 = 0 ∨ x5 = 1) (q3 : 0 ≤ x6.toInt) (q4 : 0 ≤ x8.toInt ∧ x8.toInt ≤ x2.toInt ∧ x6.toInt + 1 + x8.toInt ≤ 65536) (q5 : 0 ≤ x9.toInt ∧ x9.toInt ≤ x8.toInt ∧ x9.toInt ≤ x4.toInt ∧ x4.toInt ≤ x6.toInt + x9.toInt) (q6 : x6.toInt ≤ 0 ∨ x2.toInt + x9.toInt ≤ x4.toInt) (q7 : x8.toInt = x2.toInt ∨ (S.1 5013).toInt ≤ x6.toInt + x2.toInt + 1) (q8 : (65536 - (x6.toInt + x2.toInt + 1)).toNat < M35) (q9 : x9.toInt < x8.toInt) (q10 : (x8.toInt - (x9.toInt + 1)).toNat < M) : tot (f_Mo_undoRows_B133 K35 K102 n0 (hp S) 50 x2 x3 x4 x5 x6 x7 x8 x9 p0) (fun r S => G F B S ∧ (r = 0 ∨ r = 1)) := by
  unfold f_Mo_undoRows_B133
  have L0 : (0 : Int32).toInt = 0 := rfl
  have L10 : (10 : Int32).toInt = 10 := rfl
  have L12 : (12 : Int32).toInt = 12 := rfl
  have nx2 := nt_b x2
  have nx3 := nt_b x3
  have nx4 := nt_b x4
  have nx5 := nt_b x5
  have nx6 := nt_b x6
  have nx7 := nt_b x7
  have nx8 := nt_b x8
  have nx9 := nt_b x9
  have np0 := nt_b p0
  refine ile_t (fun c1 => ?_) (fun c1 => ?_)
  · exact t_Mo_undoRows_B153 hn0 hK35 hK102 _ x2 x3 x4 x5 x6 x7 x8 x9 p0 0 hG (by omega) (by omega) (by first | assumption | exact Or.inl rfl | exact Or.inr rfl) (by omega) (by omega) (by omega) (by omega) (by omega) (by omega) (by omega) (by omega)
  · refine mgr_t (v := 58) (hp_50 _) rfl ?_
    have kz2 : (x4 - x2 : Int32).toInt = (x4 : Int32).toInt - (x2 : Int32).toInt := nt_sub (by omega) (by omega)
    refine mai_v (hp_58 _) (nt_in (by omega) (by omega)) (fun v44 ev44 => ?_)
    have nv44 := nt_b v44
    exact t_Mo_undoRows_B153 hn0 hK35 hK102 _ x2 x3 x4 x5 x6 x7 x8 x9 p0 v44 hG (by omega) (by omega) (by first | assumption | exact Or.inl rfl | exact Or.inr rfl) (by omega) (by omega) (by omega) (by omega) (by omega) (by omega) (by omega) (by omega)
set_option maxHeartbeats 2000000 in
theorem t_Mo_undoRows_L102 {F B : mP} {n0 : Nat} (hn0 : big n0) {M : Nat} {K35 : mH → Nat → Int32 → Int32 → Int32 → Int32 → Int32 → Option (Int32 × mH)} (hK35 : ∀ (S : mS) (x2 : Int32) (x3 : Int32) (x4 : Int32) (x5 : Int32) (x6 : Int32), G F B S → (1 ≤ x2.toInt ∧ x2.toInt ≤ 65536) → (0 ≤ x3.toInt ∧ x3.toInt ≤ 100) → (0 ≤ x4.toInt ∧ x4.toInt ≤ 65536) → (x5 = 0 ∨ x5 = 1) → (0 ≤ x6.toInt ∧ x4.toInt ≤ x6.toInt) → (x6.toInt ≤ 0 ∨ x2.toInt ≤ x4.toInt ∨ (S.1 5013).toInt ≤ x6.toInt ∨ x5.toInt = 0) → (65536 - x6.toInt).toNat < M → tot (K35 (hp S) 50 x2 x3 x4 x5 x6) (fun r S => G F B S ∧ (r = 0 ∨ r = 1))) : ∀ (n : Nat) (S : mS) (x2 : Int32) (x3 : Int32) (x4 : Int32) (x5 : Int32) (x6 : Int32) (x7 : Int32) (x8 : Int32) (x9 : Int32), G F B S → (1 ≤ x2.toInt ∧ x2.toInt ≤ 65536) → (0 ≤ x3.toInt ∧ x3.toInt ≤ 100) → (x5 = 0 ∨ x5 = 1) → (0 ≤ x6.toInt) → (0 ≤ x8.toInt ∧ x8.toInt ≤ x2.toInt ∧ x6.toInt + 1 + x8.toInt ≤ 65536) → (0 ≤ x9.toInt ∧ x9.toInt ≤ x8.toInt ∧ x9.toInt ≤ x4.toInt ∧ x4.toInt ≤ x6.toInt + x9.toInt) → (x6.toInt ≤ 0 ∨ x2.toInt + x9.toInt ≤ x4.toInt) → (x8.toInt = x2.toInt ∨ (S.1 5013).toInt ≤ x6.toInt + x2.toInt + 1) → ((65536 - (x6.toInt + x2.toInt + 1)).toNat < M) → (x8.toInt - x9.toInt).toNat < n → tot (f_Mo_undoRows_L102 K35 n0 n (hp S) 50 x2 x3 x4 x5 x6 x7 x8 x9) (fun r S => G F B S ∧ (r = 0 ∨ r = 1)) := by
  intro n
  induction n with
  | zero =>
    intro S x2 x3 x4 x5 x6 x7 x8 x9 hG q0 q1 q2 q3 q4 q5 q6 q7 q8 hm
    exact absurd hm (Nat.not_lt_zero _)
  | succ n ih =>
    intro S x2 x3 x4 x5 x6 x7 x8 x9 hG q0 q1 q2 q3 q4 q5 q6 q7 q8 hm
    rw [f_Mo_undoRows_L102.eq_2]
    have L0 : (0 : Int32).toInt = 0 := rfl
    have L1 : (1 : Int32).toInt = 1 := rfl
    have L10 : (10 : Int32).toInt = 10 := rfl
    have L12 : (12 : Int32).toInt = 12 := rfl
    have nx2 := nt_b x2
    have nx3 := nt_b x3
    have nx4 := nt_b x4
    have nx5 := nt_b x5
    have nx6 := nt_b x6
    have nx7 := nt_b x7
    have nx8 := nt_b x8
    have nx9 := nt_b x9
    refine ile_t (fun c1 => ?_) (fun c1 => ?_)
    · exact t_Mo_undoRows_B227 hn0 hK35 _ x2 x3 x4 x5 x6 hG (by omega) (by omega) (by omega) (by first | assumption | exact Or.inl rfl | exact Or.inr rfl) (by omega) (by omega) (by omega)
    · refine ieq_t (fun c2 => ?_) (fun c2 => ?_)
      · have tc2 := congrArg Int32.toInt c2
        exact t_Mo_undoRows_B227 hn0 hK35 _ x2 x3 x4 x5 x6 hG (by omega) (by omega) (by omega) (by first | assumption | exact Or.inl rfl | exact Or.inr rfl) (by omega) (by omega) (by omega)
      · refine ilt_t (fun c3 => ?_) (fun c3 => ?_)
        · exact t_Mo_undoRows_B133 hn0 hK35 ih _ x2 x3 x4 x5 x6 x7 x8 x9 0 hG (by omega) (by omega) (by first | assumption | exact Or.inl rfl | exact Or.inr rfl) (by omega) (by omega) (by omega) (by omega) (by omega) (by omega) (by omega) (by omega)
        · refine mgr_t (v := 58) (hp_50 _) rfl ?_
          have kz4 : (x4 - x3 : Int32).toInt = (x4 : Int32).toInt - (x3 : Int32).toInt := nt_sub (by omega) (by omega)
          refine mai_v (hp_58 _) (nt_in (by omega) (by omega)) (fun v46 ev46 => ?_)
          have nv46 := nt_b v46
          exact t_Mo_undoRows_B133 hn0 hK35 ih _ x2 x3 x4 x5 x6 x7 x8 x9 v46 hG (by omega) (by omega) (by first | assumption | exact Or.inl rfl | exact Or.inr rfl) (by omega) (by omega) (by omega) (by omega) (by omega) (by omega) (by omega) (by omega)
set_option maxHeartbeats 2000000 in
theorem t_Mo_undoRows_B97 {F B : mP} {n0 : Nat} (hn0 : big n0) {M : Nat} {K35 : mH → Nat → Int32 → Int32 → Int32 → Int32 → Int32 → Option (Int32 × mH)} (hK35 : ∀ (S : mS) (x2 : Int32) (x3 : Int32) (x4 : Int32) (x5 : Int32) (x6 : Int32), G F B S → (1 ≤ x2.toInt ∧ x2.toInt ≤ 65536) → (0 ≤ x3.toInt ∧ x3.toInt ≤ 100) → (0 ≤ x4.toInt ∧ x4.toInt ≤ 65536) → (x5 = 0 ∨ x5 = 1) → (0 ≤ x6.toInt ∧ x4.toInt ≤ x6.toInt) → (x6.toInt ≤ 0 ∨ x2.toInt ≤ x4.toInt ∨ (S.1 5013).toInt ≤ x6.toInt ∨ x5.toInt = 0) → (65536 - x6.toInt).toNat < M → tot (K35 (hp S) 50 x2 x3 x4 x5 x6) (fun r S => G F B S ∧ (r = 0 ∨ r = 1))) (S : mS) (x2 : Int32) (x3 : Int32) (x4 : Int32) (x5 : Int32) (x6 : Int32) (x7 : Int32) (p0 : Int32) (hG : G F B S) (q0 : 1 ≤ x2.toInt ∧ x2.toInt ≤ 65536) (q1 : 0 ≤ x3.toInt ∧ x3.toInt ≤ 100) (q2 : 0 ≤ x4.toInt ∧ x4.toInt ≤ 65536) (q3 : x5 = 0 ∨ x5 = 1) (q4 : 0 ≤ x6.toInt ∧ x4.toInt ≤ x6.toInt) (q5 : x6.toInt ≤ 0 ∨ x2.toInt ≤ x4.toInt) (q6 : 0 ≤ p0.toInt ∧ p0.toInt ≤ x2.toInt ∧ x6.toInt + 1 + p0.toInt ≤ 65536) (q7 : p0.toInt = x2.toInt ∨ (S.1 5013).toInt ≤ x6.toInt + x2.toInt + 1) (q8 : (65536 - (x6.toInt + x2.toInt + 1)).toNat < M) : tot (f_Mo_undoRows_B97 K35 n0 (hp S) 50 x2 x3 x4 x5 x6 x7 p0) (fun r S => G F B S ∧ (r = 0 ∨ r = 1)) := by
  unfold f_Mo_undoRows_B97
  have L0 : (0 : Int32).toInt = 0 := rfl
  have nx2 := nt_b x2
  have nx3 := nt_b x3
  have nx4 := nt_b x4
  have nx5 := nt_b x5
  have nx6 := nt_b x6
  have nx7 := nt_b x7
  have np0 := nt_b p0
  exact t_Mo_undoRows_L102 hn0 hK35 n0 _ x2 x3 x4 x5 x6 x7 p0 0 hG (by omega) (by omega) (by first | assumption | exact Or.inl rfl | exact Or.inr rfl) (by omega) (by omega) (by omega) (by omega) (by omega) (by omega) (big_lt hn0 (by omega))
set_option maxHeartbeats 2000000 in
theorem t_Mo_undoRows_B69 {F B : mP} {n0 : Nat} (hn0 : big n0) {M : Nat} {K35 : mH → Nat → Int32 → Int32 → Int32 → Int32 → Int32 → Option (Int32 × mH)} (hK35 : ∀ (S : mS) (x2 : Int32) (x3 : Int32) (x4 : Int32) (x5 : Int32) (x6 : Int32), G F B S → (1 ≤ x2.toInt ∧ x2.toInt ≤ 65536) → (0 ≤ x3.toInt ∧ x3.toInt ≤ 100) → (0 ≤ x4.toInt ∧ x4.toInt ≤ 65536) → (x5 = 0 ∨ x5 = 1) → (0 ≤ x6.toInt ∧ x4.toInt ≤ x6.toInt) → (x6.toInt ≤ 0 ∨ x2.toInt ≤ x4.toInt ∨ (S.1 5013).toInt ≤ x6.toInt ∨ x5.toInt = 0) → (65536 - x6.toInt).toNat < M → tot (K35 (hp S) 50 x2 x3 x4 x5 x6) (fun r S => G F B S ∧ (r = 0 ∨ r = 1))) (S : mS) (x2 : Int32) (x3 : Int32) (x4 : Int32) (x6 : Int32) (x7 : Int32) (p0 : Int32) (hG : G F B S) (q0 : 1 ≤ x2.toInt ∧ x2.toInt ≤ 65536) (q1 : 0 ≤ x3.toInt ∧ x3.toInt ≤ 100) (q2 : 0 ≤ x4.toInt ∧ x4.toInt ≤ 65536) (q3 : p0 = 0 ∨ p0 = 1) (q4 : 0 ≤ x6.toInt ∧ x4.toInt ≤ x6.toInt) (q5 : x6.toInt ≤ 0 ∨ x2.toInt ≤ x4.toInt) (q6 : x6.toInt < (S.1 5013).toInt) (q7 : (65536 - (x6.toInt + x2.toInt + 1)).toNat < M) : tot (f_Mo_undoRows_B69 K35 n0 (hp S) 50 x2 x3 x4 x6 x7 p0) (fun r S => G F B S ∧ (r = 0 ∨ r = 1)) := by
  unfold f_Mo_undoRows_B69
  have L1 : (1 : Int32).toInt = 1 := rfl
  have L10 : (10 : Int32).toInt = 10 := rfl
  have L13 : (13 : Int32).toInt = 13 := rfl
  have nx2 := nt_b x2
  have nx3 := nt_b x3
  have nx4 := nt_b x4
  have nx6 := nt_b x6
  have nx7 := nt_b x7
  have np0 := nt_b p0
  refine mgi_v (hp_50 _) rfl (fun v23 ev23 => ?_)
  have nv23 := nt_b v23
  have bv23 := b_5013 hG
  rw [← ev23] at bv23
  have dv23 := congrArg Int32.toInt ev23
  have kz2 : (v23 - x6 : Int32).toInt = (v23 : Int32).toInt - (x6 : Int32).toInt := nt_sub (by omega) (by omega)
  have kz3 : ((v23 - x6) - 1 : Int32).toInt = ((v23 - x6) : Int32).toInt - (1 : Int32).toInt := nt_sub (by omega) (by omega)
  refine ile_t (fun c1 => ?_) (fun c1 => ?_)
  · exact t_Mo_undoRows_B97 hn0 hK35 _ x2 x3 x4 p0 x6 x7 x2 hG (by omega) (by omega) (by omega) (by first | assumption | exact Or.inl rfl | exact Or.inr rfl) (by omega) (by omega) (by omega) (by omega) (by omega)
  · refine mgi_v (hp_50 _) rfl (fun v47 ev47 => ?_)
    have nv47 := nt_b v47
    have bv47 := b_5013 hG
    rw [← ev47] at bv47
    have fv47 : v47 = v23 := ev47.trans ev23.symm
    have gv47 := congrArg Int32.toInt fv47
    have kz4 : (v47 - x6 : Int32).toInt = (v47 : Int32).toInt - (x6 : Int32).toInt := nt_sub (by omega) (by omega)
    have kz5 : ((v47 - x6) - 1 : Int32).toInt = ((v47 - x6) : Int32).toInt - (1 : Int32).toInt := nt_sub (by omega) (by omega)
    exact t_Mo_undoRows_B97 hn0 hK35 _ x2 x3 x4 p0 x6 x7 ((v47 - x6) - 1) hG (by omega) (by omega) (by omega) (by first | assumption | exact Or.inl rfl | exact Or.inr rfl) (by omega) (by omega) (by omega) (by omega) (by omega)
set_option maxHeartbeats 2000000 in
theorem t_Mo_undoRows_L35 {F B : mP} {n0 : Nat} (hn0 : big n0) : ∀ (n : Nat) (S : mS) (x2 : Int32) (x3 : Int32) (x4 : Int32) (x5 : Int32) (x6 : Int32), G F B S → (1 ≤ x2.toInt ∧ x2.toInt ≤ 65536) → (0 ≤ x3.toInt ∧ x3.toInt ≤ 100) → (0 ≤ x4.toInt ∧ x4.toInt ≤ 65536) → (x5 = 0 ∨ x5 = 1) → (0 ≤ x6.toInt ∧ x4.toInt ≤ x6.toInt) → (x6.toInt ≤ 0 ∨ x2.toInt ≤ x4.toInt ∨ (S.1 5013).toInt ≤ x6.toInt ∨ x5.toInt = 0) → (65536 - x6.toInt).toNat < n → tot (f_Mo_undoRows_L35 n0 n (hp S) 50 x2 x3 x4 x5 x6) (fun r S => G F B S ∧ (r = 0 ∨ r = 1)) := by
  intro n
  induction n with
  | zero =>
    intro S x2 x3 x4 x5 x6 hG q0 q1 q2 q3 q4 q5 hm
    exact absurd hm (Nat.not_lt_zero _)
  | succ n ih =>
    intro S x2 x3 x4 x5 x6 hG q0 q1 q2 q3 q4 q5 hm
    rw [f_Mo_undoRows_L35.eq_2]
    have L0 : (0 : Int32).toInt = 0 := rfl
    have L1 : (1 : Int32).toInt = 1 := rfl
    have L4 : (4 : Int32).toInt = 4 := rfl
    have L10 : (10 : Int32).toInt = 10 := rfl
    have L13 : (13 : Int32).toInt = 13 := rfl
    have L14 : (14 : Int32).toInt = 14 := rfl
    have nx2 := nt_b x2
    have nx3 := nt_b x3
    have nx4 := nt_b x4
    have nx5 := nt_b x5
    have nx6 := nt_b x6
    refine mgi_v (hp_50 _) rfl (fun v9 ev9 => ?_)
    have nv9 := nt_b v9
    have bv9 := b_5013 hG
    rw [← ev9] at bv9
    have dv9 := congrArg Int32.toInt ev9
    refine ile_t (fun c1 => ?_) (fun c1 => ?_)
    · exact t_Mo_undoRows_B238 hn0 _ x4 x5 hG (by first | assumption | exact Or.inl rfl | exact Or.inr rfl) (by omega)
    · refine ieq_t (fun c2 => ?_) (fun c2 => ?_)
      · have tc2 := congrArg Int32.toInt c2
        exact t_Mo_undoRows_B238 hn0 _ x4 x5 hG (by first | assumption | exact Or.inl rfl | exact Or.inr rfl) (by omega)
      · refine mgr_t (v := 59) (hp_50 _) rfl ?_
        refine mai_v (hp_59 _) (nt_in (by omega) (by omega)) (fun v21 ev21 => ?_)
        have nv21 := nt_b v21
        refine ilt_t (fun c3 => ?_) (fun c3 => ?_)
        · exact t_Mo_undoRows_B69 hn0 ih _ x2 x3 x4 x6 v21 0 hG (by omega) (by omega) (by omega) (by first | assumption | exact Or.inl rfl | exact Or.inr rfl) (by omega) (by omega) (by omega) (by omega)
        · exact t_Mo_undoRows_B69 hn0 ih _ x2 x3 x4 x6 v21 1 hG (by omega) (by omega) (by omega) (by first | assumption | exact Or.inl rfl | exact Or.inr rfl) (by omega) (by omega) (by omega) (by omega)
theorem t_Mo_undoRows {F B : mP} {n0 : Nat} (hn0 : big n0) (S : mS) (x1 : Int32) (hG : G F B S) {c b w : Int32} (q0 : 0 ≤ x1.toInt ∧ x1.toInt < 8) (q1 : okx S x1 c b w) (q2 : okp c b w) : tot (f_Mo_undoRows n0 (hp S) 50 x1) (fun r S' => G F B S' ∧ (r = 0 ∨ r = 1)) := by
  unfold f_Mo_undoRows
  have L0 : (0 : Int32).toInt = 0 := rfl
  have L7 : (7 : Int32).toInt = 7 := rfl
  have L8 : (8 : Int32).toInt = 8 := rfl
  refine mis_t (hp_50 _) ?_
  refine mcl_v (t_Mo_rowBytes hn0 S x1 hG q0 q1 q2) (fun v2 Sa za => ?_)
  obtain ⟨ea, pv2⟩ := za
  subst ea
  refine mgr_t (v := 55) (hp_50 _) rfl ?_
  refine mai_v (hp_55 _) (nt_in (by omega) (by omega)) (fun v5 ev5 => ?_)
  have e5 : v5 = c := ev5.trans q1.1
  refine mgr_t (v := 56) (hp_50 _) rfl ?_
  refine mai_v (hp_56 _) (nt_in (by omega) (by omega)) (fun v7 ev7 => ?_)
  have e7 : v7 = b := ev7.trans q1.2.1
  subst e5 e7
  refine mnm_v (fun v8 ev8 => ?_)
  obtain ⟨hc, hb, hw⟩ := q2
  have hm : 1 ≤ v5.toInt * v7.toInt ∧ v5.toInt * v7.toInt ≤ 128 := by
    rcases hb with e | e | e | e | e <;> rw [e] <;> omega
  have m5 : (v5 * v7 : Int32).toInt = v5.toInt * v7.toInt := nt_mul (by omega) (by omega)
  have k5 : ((v5 * v7) + 7 : Int32).toInt = (v5 * v7).toInt + (7 : Int32).toInt := nt_add (by omega) (by omega)
  have k8 : v8.toInt = ((v5 * v7) + 7 : Int32).toInt / (8 : Int32).toInt := by rw [ev8]; exact nt_div (by omega) (by decide)
  rw [L8] at k8
  exact t_Mo_undoRows_L35 hn0 n0 S v2 v8 0 1 0 hG pv2 (by omega) (by omega) (Or.inr rfl) (by omega) (Or.inl (by omega)) (big_lt hn0 (by omega))
theorem okx_of {F B : mP} {S : mS} {x1 : Int32} (hG : G F B S) (q0 : 0 ≤ x1.toInt ∧ x1.toInt < 8) (h : 1 < (S.2.1 54 x1.toNatClampNeg).toInt) : okx S x1 (S.2.1 55 x1.toNatClampNeg) (S.2.1 56 x1.toNatClampNeg) (S.2.1 57 x1.toNatClampNeg) ∧ okp (S.2.1 55 x1.toNatClampNeg) (S.2.1 56 x1.toNatClampNeg) (S.2.1 57 x1.toNatClampNeg) := by
  refine ⟨⟨rfl, rfl, rfl⟩, ?_⟩
  rcases hG.2.2.2.2 x1.toNatClampNeg (by rw [nt_cl]; omega) with o | o
  · omega
  · exact o
theorem t_Mo_run_B90 {F B : mP} {n0 : Nat} (hn0 : big n0) (S : mS) (x1 : Int32) (hG : G F B S) (q0 : 0 ≤ x1.toInt ∧ x1.toInt < 8) : tot (f_Mo_run_B90 n0 (hp S) 50 x1) (fun r S' => G F B S') := by
  unfold f_Mo_run_B90
  have L0 : (0 : Int32).toInt = 0 := rfl
  have L2 : (2 : Int32).toInt = 2 := rfl
  have L9 : (9 : Int32).toInt = 9 := rfl
  refine mgr_t (v := 54) (hp_50 _) rfl ?_
  refine mai_v (hp_54 _) (nt_in (by omega) (by omega)) (fun v12 ev12 => ?_)
  refine ieq_t (fun c1 => ?_) (fun c1 => ?_)
  · have t1 := congrArg Int32.toInt (ev12.symm.trans c1)
    obtain ⟨o1, o2⟩ := okx_of hG q0 (by omega)
    refine mis_t (hp_50 _) ?_
    refine mcl_v (t_Mo_addRows hn0 S x1 hG q0 o1 o2) (fun u Sa hGa => ?_)
    exact tot_end hGa
  · refine mgr_t (v := 54) (hp_50 _) rfl ?_
    refine mai_v (hp_54 _) (nt_in (by omega) (by omega)) (fun v15 ev15 => ?_)
    refine ile_t (fun c2 => ?_) (fun c2 => ?_)
    · exact tot_end hG
    · rw [ev15] at c2
      obtain ⟨o1, o2⟩ := okx_of hG q0 (by omega)
      refine mis_t (hp_50 _) ?_
      refine mcl_v (t_Mo_undoRows hn0 S x1 hG q0 o1 o2) (fun v18 Sa za => ?_)
      refine ieq_t (fun c3 => ?_) (fun c3 => ?_)
      · refine mis_t (hp_50 _) ?_
        refine mcl_v (t_Mo_failG Sa 13 za.1 (by decide)) (fun u Sb zb => ?_)
        exact tot_end zb.1
      · exact tot_end za.1
theorem t_Mo_run {F B : mP} {n0 : Nat} (hn0 : big n0) (S : mS) (x1 : Int32) (hG : G F B S) (q0 : 0 ≤ x1.toInt ∧ x1.toInt < 8) : tot (f_Mo_run n0 (hp S) 50 x1) (fun r S' => G F B S') := by
  unfold f_Mo_run
  refine mpt_t (hp_50 _) (Nat.le_of_ble_eq_true rfl) (hs_50_13 _ _) ?_
  refine mpt_t (hp_50 _) (Nat.le_of_ble_eq_true rfl) (hs_50_16 _ _) ?_
  refine mpt_t (hp_50 _) (Nat.le_of_ble_eq_true rfl) (hs_50_19 _ _) ?_
  have L0 : (0 : Int32).toInt = 0 := rfl
  have hG3 : G F B (uV (uV (uV S 5013 0) 5016 0) 5019 0) := g_5019 (g_5016 (g_5013 hG (by decide) (by decide)) (by decide) (by decide)) (by decide) (by decide)
  have hH3 : Hm (uV (uV (uV S 5013 0) 5016 0) 5019 0) := by
    have b1 := b_5011 hG
    have b2 := b_5015 hG
    refine ⟨?_, ?_⟩
    · show (0 : Int32).toInt ≤ (S.1 5011).toInt
      omega
    · show (0 : Int32).toInt + (S.1 5015).toInt ≤ 65536
      omega
  generalize uV (uV (uV S 5013 0) 5016 0) 5019 0 = T at hG3 hH3 ⊢
  refine mgr_t (v := 52) (hp_50 _) rfl ?_
  refine mai_v (hp_52 _) (nt_in (by omega) (by omega)) (fun v5 ev5 => ?_)
  refine ilq_t ?_ (ilq_t ?_ (ilq_t ?_ (ilq_t ?_ ?_)))
  · refine mis_t (hp_50 _) ?_
    exact mcl_v (t_Mo_flate hn0 T hG3 hH3) (fun u Sa za => t_Mo_run_B90 hn0 Sa x1 za.1 q0)
  · refine mgr_t (v := 53) (hp_50 _) rfl ?_
    refine mai_v (hp_53 _) (nt_in (by omega) (by omega)) (fun v31 ev31 => ?_)
    refine mis_t (hp_50 _) ?_
    exact mcl_v (t_Mo_lzw hn0 T v31 hG3 hH3) (fun u Sa za => t_Mo_run_B90 hn0 Sa x1 za.1 q0)
  · refine mis_t (hp_50 _) ?_
    exact mcl_v (t_Mo_text85 hn0 T hG3 hH3) (fun u Sa za => t_Mo_run_B90 hn0 Sa x1 za.1 q0)
  · refine mis_t (hp_50 _) ?_
    exact mcl_v (t_Mo_hexadecimal hn0 T hG3 hH3) (fun u Sa za => t_Mo_run_B90 hn0 Sa x1 za.1 q0)
  · refine mis_t (hp_50 _) ?_
    exact mcl_v (t_Mo_runs hn0 T hG3 hH3) (fun u Sa za => t_Mo_run_B90 hn0 Sa x1 za.1 q0)

