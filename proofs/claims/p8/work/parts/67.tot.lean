theorem mac_t {α : Type} {h h' : mH} {ty : FieldType} {a b n0 n1 : Nat} {sp dp n : Int32} {f g : Nat → Int32} {F : mH → Option (α × mH)} {Φ : α → mS → Prop} (e1 : h[a]? = some (.inl (ty, (n0, .inl f)))) (e2 : h[b]? = some (.inl (ty, (n1, .inl g)))) (hc : ¬ sp < 0 ∧ ¬ dp < 0 ∧ ¬ n < 0 ∧ sp.toNatClampNeg + n.toNatClampNeg ≤ n0 ∧ dp.toNatClampNeg + n.toNatClampNeg ≤ n1 ∧ ∀ i, i < n.toNatClampNeg → fits ty (.int (f (sp.toNatClampNeg + i))) = true) (e : h.set b (.inl (ty, (n1, .inl (va_cpy f g sp.toNatClampNeg dp.toNatClampNeg n.toNatClampNeg)))) = h') (hF : tot (F h') Φ) : tot (mac h ty a sp b dp n F) Φ := by
  unfold mac
  rw [e1, e2]
  refine mgd_t ⟨rfl, rfl, hc⟩ ?_
  rw [e]
  exact hF
set_option maxHeartbeats 2000000 in
theorem t_By_become {F B : mP} {n0 : Nat} (hn0 : big n0) (S : mS) (a0 : Nat) (a1 : Nat) (hG : G F B S) (h_a0 : isBy a0) (h_a1 : isBy a1) : tot (f_By_become n0 (hp S) a0 a1) (fun r S => G F B S) := by
  unfold f_By_become
  have L0 : (0 : Int32).toInt = 0 := rfl
  refine mgi_v (hp_by h_a1 _) rfl (fun v1 ev1 => ?_)
  have bv1 := b_by h_a1 hG
  rw [← ev1] at bv1
  have c1 := nB_lt h_a1
  have c0 := nB_lt h_a0
  refine mgr_t (v := a0 + 1) (hp_by h_a0 _) rfl ?_
  refine mln_v (hp_ba h_a0 _) (fun v3 ev3 => ?_)
  have kv3 : v3.toInt = ((nB a0 : Nat) : Int) := by rw [ev3]; exact nI_toInt (by omega)
  refine mnm_v (fun v4 ev4 => ?_)
  have iv4 := nt_if ev4
  refine mpt_t (hp_by h_a0 _) (Nat.le_of_ble_eq_true rfl) (hs_by h_a0 _ _) ?_
  have hG1 : G F B (uV S (100 * a0 + 1) v4) := g_by h_a0 hG (by omega) (by omega)
  refine mgr_t (v := a1 + 1) (hp_by h_a1 _) rfl ?_
  refine mgr_t (v := a0 + 1) (hp_by h_a0 _) rfl ?_
  refine mgi_v (hp_by h_a0 _) rfl (fun v8 ev8 => ?_)
  have fv8 : v8 = v4 := by
    rw [ev8]
    show upd S.1 (100 * a0 + 1) v4 (100 * a0 + 1) = v4
    simp [upd]
  subst fv8
  have cl : v8.toNatClampNeg = v8.toInt.toNat := nt_cl v8
  have z0 : (0 : Int32).toNatClampNeg = 0 := rfl
  refine mac_t (hp_ba h_a1 _) (hp_ba h_a0 _) ⟨by decide, by decide, fun q => by rw [nt_lt] at q; omega, by rw [z0]; omega, by rw [z0]; omega, fun i _ => f_ba h_a1 hG1 _⟩ (ha_by h_a0 _ _) ?_
  refine tot_end (g_ba h_a0 hG1 (fun j => ?_))
  unfold va_cpy
  split
  · exact f_ba h_a1 hG1 _
  · exact f_ba h_a0 hG1 _
def isUn (u : Nat) : Prop := u = 9 ∨ u = 32 ∨ u = 35 ∨ u = 36 ∨ u = 37
theorem t_Un_unpack {F B : mP} {n0 : Nat} (hn0 : big n0) (S : mS) (a0 : Nat) (x2 : Int32) (hG : G F B S) (h_a0 : isUn a0) : tot (f_Un_unpack n0 (hp S) a0 4 x2) (fun r S => G F B S) := by
  unfold f_Un_unpack
  rcases h_a0 with rfl | rfl | rfl | rfl | rfl
  · rw [if_pos (show mic (hp S) 9 3 = true from rfl)]
    exact t_Fl_unpack hn0 _ x2 hG
  · rw [if_neg (show ¬ mic (hp S) 32 3 = true by simp [mic, hp_32]), if_neg (show ¬ mic (hp S) 32 4 = true by simp [mic, hp_32]), if_neg (show ¬ mic (hp S) 32 5 = true by simp [mic, hp_32]), if_pos (show mic (hp S) 32 7 = true from rfl)]
    exact t_Lz_unpack hn0 _ x2 hG
  · rw [if_neg (show ¬ mic (hp S) 35 3 = true by simp [mic, hp_35]), if_neg (show ¬ mic (hp S) 35 4 = true by simp [mic, hp_35]), if_neg (show ¬ mic (hp S) 35 5 = true by simp [mic, hp_35]), if_neg (show ¬ mic (hp S) 35 7 = true by simp [mic, hp_35]), if_pos (show mic (hp S) 35 9 = true from rfl)]
    exact t_T8_unpack hn0 _ x2 hG
  · rw [if_neg (show ¬ mic (hp S) 36 3 = true by simp [mic, hp_36]), if_pos (show mic (hp S) 36 4 = true from rfl)]
    exact t_Hx_unpack hn0 _ x2 hG
  · rw [if_neg (show ¬ mic (hp S) 37 3 = true by simp [mic, hp_37]), if_neg (show ¬ mic (hp S) 37 4 = true by simp [mic, hp_37]), if_pos (show mic (hp S) 37 5 = true from rfl)]
    exact t_Le_unpack hn0 _ x2 hG
theorem li_at : ∀ j : Nat, j < 8 → ∃ r, qf [(7, 49), (6, 48), (5, 47), (4, 46), (3, 45), (2, 44), (1, 43), (0, 42)] j = some r ∧ isLi r := by
  intro j hj
  rcases (show j = 0 ∨ j = 1 ∨ j = 2 ∨ j = 3 ∨ j = 4 ∨ j = 5 ∨ j = 6 ∨ j = 7 by omega) with rfl | rfl | rfl | rfl | rfl | rfl | rfl | rfl <;> exact ⟨_, rfl, by unfold isLi; decide⟩
set_option maxHeartbeats 2000000 in
theorem t_SF_unpackerOf {F B : mP} {n0 : Nat} (hn0 : big n0) (S : mS) (x1 : Int32) (hG : G F B S)  : tot (f_SF_unpackerOf n0 (hp S) 0 x1) (fun r S => G F B S ∧ isUn r) := by
  unfold f_SF_unpackerOf
  have L0 : (0 : Int32).toInt = 0 := rfl
  have L1 : (1 : Int32).toInt = 1 := rfl
  have L2 : (2 : Int32).toInt = 2 := rfl
  have L3 : (3 : Int32).toInt = 3 := rfl
  have L5 : (5 : Int32).toInt = 5 := rfl
  have L6 : (6 : Int32).toInt = 6 := rfl
  have L7 : (7 : Int32).toInt = 7 := rfl
  have L8 : (8 : Int32).toInt = 8 := rfl
  have L9 : (9 : Int32).toInt = 9 := rfl
  have nx1 := nt_b x1
  refine ieq_t (fun c1 => ?_) (fun c1 => ?_)
  · have tc1 := congrArg Int32.toInt c1
    refine mgr_t (v := 9) (hp_0 _) rfl ?_
    exact tot_end ⟨hG, Or.inl rfl⟩
  · refine ieq_t (fun c2 => ?_) (fun c2 => ?_)
    · have tc2 := congrArg Int32.toInt c2
      refine mgr_t (v := 32) (hp_0 _) rfl ?_
      exact tot_end ⟨hG, Or.inr (Or.inl rfl)⟩
    · refine ieq_t (fun c3 => ?_) (fun c3 => ?_)
      · have tc3 := congrArg Int32.toInt c3
        refine mgr_t (v := 35) (hp_0 _) rfl ?_
        exact tot_end ⟨hG, Or.inr (Or.inr (Or.inl rfl))⟩
      · refine ieq_t (fun c4 => ?_) (fun c4 => ?_)
        · have tc4 := congrArg Int32.toInt c4
          refine mgr_t (v := 36) (hp_0 _) rfl ?_
          exact tot_end ⟨hG, Or.inr (Or.inr (Or.inr (Or.inl rfl)))⟩
        · refine mgr_t (v := 37) (hp_0 _) rfl ?_
          exact tot_end ⟨hG, Or.inr (Or.inr (Or.inr (Or.inr rfl)))⟩
set_option maxHeartbeats 2000000 in
theorem t_SF_decode_B202 {F B : mP} {n0 : Nat} (hn0 : big n0) {M : Nat} {K56 : mH → Nat → Nat → Int32 → Option (Int32 × mH)} (hK56 : ∀ (S : mS) (a1 : Nat) (x2 : Int32), G F B S → isBy a1 → (0 ≤ x2.toInt) → (8 - x2.toInt).toNat < M → tot (K56 (hp S) 0 a1 x2) (fun r S => G F B S)) (S : mS) (x2 : Int32) (hG : G F B S) (q0 : 0 ≤ x2.toInt ∧ x2.toInt < 8) (q1 : (8 - (x2.toInt + 1)).toNat < M) : tot (f_SF_decode_B202 K56 n0 (hp S) 0 x2) (fun r S => G F B S) := by
  unfold f_SF_decode_B202
  have L0 : (0 : Int32).toInt = 0 := rfl
  have L1 : (1 : Int32).toInt = 1 := rfl
  have L12 : (12 : Int32).toInt = 12 := rfl
  have nx2 := nt_b x2
  refine mgr_v (hp_0 _) rfl (fun r56 er56 => ?_)
  have h_r56 : isBy r56 := by rw [er56]; exact hG.2.2.1.1
  refine mnm_v (fun v57 ev57 => ?_)
  have nv57 := nt_b v57
  have kv57 : v57.toInt = x2.toInt + 1 := by rw [ev57]; exact nt_inc (by omega)
  exact hK56 _ r56 v57 hG h_r56 (by omega) (by omega)
set_option maxHeartbeats 2000000 in
theorem t_SF_decode_B106 {F B : mP} {n0 : Nat} (hn0 : big n0) {M : Nat} {K56 : mH → Nat → Nat → Int32 → Option (Int32 × mH)} (hK56 : ∀ (S : mS) (a1 : Nat) (x2 : Int32), G F B S → isBy a1 → (0 ≤ x2.toInt) → (8 - x2.toInt).toNat < M → tot (K56 (hp S) 0 a1 x2) (fun r S => G F B S)) (S : mS) (a1 : Nat) (x2 : Int32) (a3 : Nat) (b0 : Nat) (hG : G F B S) (h_a1 : isBy a1) (h_a3 : isLi a3) (h_b0 : isBy b0) (q0 : 0 ≤ x2.toInt ∧ x2.toInt < 8) (q1 : (8 - (x2.toInt + 1)).toNat < M) : tot (f_SF_decode_B106 K56 n0 (hp S) 0 a1 x2 a3 b0 0) (fun r S => G F B S) := by
  unfold f_SF_decode_B106
  have Lm1 : (-1 : Int32).toInt = -1 := rfl
  have L0 : (0 : Int32).toInt = 0 := rfl
  have L1 : (1 : Int32).toInt = 1 := rfl
  have L2 : (2 : Int32).toInt = 2 := rfl
  have L4 : (4 : Int32).toInt = 4 := rfl
  have L5 : (5 : Int32).toInt = 5 := rfl
  have L6 : (6 : Int32).toInt = 6 := rfl
  have L8 : (8 : Int32).toInt = 8 := rfl
  have L12 : (12 : Int32).toInt = 12 := rfl
  have L13 : (13 : Int32).toInt = 13 := rfl
  have nx2 := nt_b x2
  refine mpt_t (hp_0 _) (Nat.le_of_ble_eq_true rfl) (hs_0_12 _ _) ?_
  have hGS1 : G F B (uR S 12 b0) := G_R hG h_b0
  refine mgr_t (v := 4) (hp_0 _) rfl ?_
  refine mgr_v (hp_0 _) rfl (fun r33 er33 => ?_)
  have h_r33 : isBy r33 := by rw [er33]; exact hGS1.2.2.1.1
  have fr33 : b0 = r33 := er33.symm
  subst fr33
  refine mis_t (hp_4 _) ?_
  refine mcl_v (t_Pa_begin hn0 _ a1 b0 hGS1 h_a1 h_b0) (fun u3 Sc2 zSc2 => ?_)
  have hGSc2 : G F B Sc2 := zSc2
  refine mgi_v (hp_li h_a3 _) rfl (fun v38 ev38 => ?_)
  have nv38 := nt_b v38
  refine mis_t (hp_0 _) ?_
  refine mcl_v (t_SF_unpackerOf hn0 _ v38 hGSc2) (fun r40 Sc4 zSc4 => ?_)
  obtain ⟨hGSc4, pr40⟩ := zSc4
  refine mgr_t (v := 4) (hp_0 _) rfl ?_
  refine mgi_v (hp_li h_a3 _) rfl (fun v43 ev43 => ?_)
  have nv43 := nt_b v43
  refine mcl_v (t_Un_unpack hn0 _ r40 v43 hGSc4 pr40) (fun u6 Sc5 zSc5 => ?_)
  have hGSc5 : G F B Sc5 := zSc5
  refine mgr_v (hp_0 _) rfl (fun r48 er48 => ?_)
  have h_r48 : isBy r48 := by rw [er48]; exact hGSc5.2.2.1.1
  refine mis_t (hp_li h_a3 _) ?_
  refine mcl_v (t_Li_undo hn0 _ a3 r48 hGSc5 h_a3 h_r48) (fun v50 Sc7 zSc7 => ?_)
  obtain ⟨hGSc7, pv50⟩ := zSc7
  have nv50 := nt_b v50
  refine mgr_t (v := 4) (hp_0 _) rfl ?_
  refine mgi_v (hp_4 _) rfl (fun v53 ev53 => ?_)
  have nv53 := nt_b v53
  refine ieq_t (fun c8 => ?_) (fun c8 => ?_)
  · have tc8 := congrArg Int32.toInt c8
    refine ieq_t (fun c9 => ?_) (fun c9 => ?_)
    · have tc9 := congrArg Int32.toInt c9
      refine mgr_t (v := 4) (hp_0 _) rfl ?_
      refine mgi_v (hp_4 _) rfl (fun v59 ev59 => ?_)
      have nv59 := nt_b v59
      have bv59 := b_402 hGSc7
      rw [← ev59] at bv59
      refine mis_t (hp_0 _) ?_
      refine mcl_v (t_SF_noteFault hn0 _ x2 13 v59 hGSc7) (fun u11 Sc10 zSc10 => ?_)
      have hGSc10 : G F B Sc10 := zSc10
      exact t_SF_decode_B202 hn0 hK56 _ x2 hGSc10 (by omega) (by omega)
    · exact t_SF_decode_B202 hn0 hK56 _ x2 hGSc7 (by omega) (by omega)
  · refine mgr_t (v := 4) (hp_0 _) rfl ?_
    refine mgi_v (hp_4 _) rfl (fun v65 ev65 => ?_)
    have nv65 := nt_b v65
    have fv65 : v65 = v53 := ev65.trans ev53.symm
    have gv65 := congrArg Int32.toInt fv65
    refine mgr_t (v := 4) (hp_0 _) rfl ?_
    refine mgi_v (hp_4 _) rfl (fun v67 ev67 => ?_)
    have nv67 := nt_b v67
    have bv67 := b_402 hGSc7
    rw [← ev67] at bv67
    refine mis_t (hp_0 _) ?_
    refine mcl_v (t_SF_noteFault hn0 _ x2 v65 v67 hGSc7) (fun u13 Sc12 zSc12 => ?_)
    have hGSc12 : G F B Sc12 := zSc12
    exact t_SF_decode_B202 hn0 hK56 _ x2 hGSc12 (by omega) (by omega)
set_option maxHeartbeats 2000000 in
theorem t_SF_decode_L56 {F B : mP} {n0 : Nat} (hn0 : big n0) : ∀ (n : Nat) (S : mS) (a1 : Nat) (x2 : Int32), G F B S → isBy a1 → (0 ≤ x2.toInt) → (8 - x2.toInt).toNat < n → tot (f_SF_decode_L56 n0 n (hp S) 0 a1 x2) (fun r S => G F B S) := by
  intro n
  induction n with
  | zero =>
    intro S a1 x2 hG h_a1 q0 hm
    exact absurd hm (Nat.not_lt_zero _)
  | succ n ih =>
    intro S a1 x2 hG h_a1 q0 hm
    rw [f_SF_decode_L56.eq_2]
    have Lm1 : (-1 : Int32).toInt = -1 := rfl
    have L0 : (0 : Int32).toInt = 0 := rfl
    have L1 : (1 : Int32).toInt = 1 := rfl
    have L2 : (2 : Int32).toInt = 2 := rfl
    have L10 : (10 : Int32).toInt = 10 := rfl
    have L11 : (11 : Int32).toInt = 11 := rfl
    have L12 : (12 : Int32).toInt = 12 := rfl
    have L15 : (15 : Int32).toInt = 15 := rfl
    have nx2 := nt_b x2
    refine mgi_v (hp_0 _) rfl (fun v14 ev14 => ?_)
    have nv14 := nt_b v14
    have bv14 := b_2 hG
    rw [← ev14] at bv14
    refine ile_t (fun c1 => ?_) (fun c1 => ?_)
    · refine mgr_v (hp_0 _) rfl (fun r16 er16 => ?_)
      have h_r16 : isBy r16 := by rw [er16]; exact hG.2.2.1.1
      refine mgi_v (hp_by h_r16 _) rfl (fun v17 ev17 => ?_)
      have nv17 := nt_b v17
      have bv17 := b_by h_r16 hG
      rw [← ev17] at bv17
      have cv17 := nB_lt h_r16
      exact tot_end hG
    · refine mgr_t (v := 3) (hp_0 _) rfl ?_
      refine mln_v (hp_3 _) (fun v19 ev19 => ?_)
      have kv19 : v19.toInt = ((8 : Nat) : Int) := by rw [ev19]; exact nI_toInt (show 8 < 2 ^ 31 by decide)
      refine ile_t (fun c2 => ?_) (fun c2 => ?_)
      · refine mgr_v (hp_0 _) rfl (fun r21 er21 => ?_)
        have h_r21 : isBy r21 := by rw [er21]; exact hG.2.2.1.1
        refine mgi_v (hp_by h_r21 _) rfl (fun v22 ev22 => ?_)
        have nv22 := nt_b v22
        have bv22 := b_by h_r21 hG
        rw [← ev22] at bv22
        have cv22 := nB_lt h_r21
        exact tot_end hG
      · refine mgi_v (hp_0 _) rfl (fun v23 ev23 => ?_)
        have nv23 := nt_b v23
        refine ieq_t (fun c3 => ?_) (fun c3 => ?_)
        · have tc3 := congrArg Int32.toInt c3
          refine mgr_t (v := 3) (hp_0 _) rfl ?_
          obtain ⟨r28, er28, h_r28⟩ := li_at _ (nt_ix (x := x2) (by omega) (by omega))
          refine mar_t (v := r28) (hp_3 _) (nt_in (by omega) (by omega)) er28 ?_
          refine ilq_t ?_ ?_
          · refine mgr_t (v := 38) (hp_0 _) rfl ?_
            exact t_SF_decode_B106 hn0 ih _ a1 x2 r28 38 hG h_a1 h_r28 by_38 (by omega) (by omega)
          · refine mgr_t (v := 40) (hp_0 _) rfl ?_
            exact t_SF_decode_B106 hn0 ih _ a1 x2 r28 40 hG h_a1 h_r28 by_40 (by omega) (by omega)
        · refine mgr_v (hp_0 _) rfl (fun r25 er25 => ?_)
          have h_r25 : isBy r25 := by rw [er25]; exact hG.2.2.1.1
          refine mgi_v (hp_by h_r25 _) rfl (fun v26 ev26 => ?_)
          have nv26 := nt_b v26
          have bv26 := b_by h_r25 hG
          rw [← ev26] at bv26
          have cv26 := nB_lt h_r25
          exact tot_end hG
set_option maxHeartbeats 2000000 in
theorem t_SF_decode_B49 {F B : mP} {n0 : Nat} (hn0 : big n0) (S : mS)  (hG : G F B S)  : tot (f_SF_decode_B49 n0 (hp S) 0) (fun r S => G F B S) := by
  unfold f_SF_decode_B49
  have L0 : (0 : Int32).toInt = 0 := rfl
  refine mgr_t (v := 1) (hp_0 _) rfl ?_
  exact t_SF_decode_L56 hn0 n0 _ 1 0 hG by_1 (by omega) (big_lt hn0 (by omega))
set_option maxHeartbeats 2000000 in
theorem t_SF_decode {F B : mP} {n0 : Nat} (hn0 : big n0) (S : mS)  (hG : G F B S)  : tot (f_SF_decode n0 (hp S) 0) (fun r S => G F B S) := by
  unfold f_SF_decode
  have Lm1 : (-1 : Int32).toInt = -1 := rfl
  have L0 : (0 : Int32).toInt = 0 := rfl
  have L1 : (1 : Int32).toInt = 1 := rfl
  have L2 : (2 : Int32).toInt = 2 := rfl
  have L3 : (3 : Int32).toInt = 3 := rfl
  have L4 : (4 : Int32).toInt = 4 := rfl
  have L6 : (6 : Int32).toInt = 6 := rfl
  have L8 : (8 : Int32).toInt = 8 := rfl
  have L10 : (10 : Int32).toInt = 10 := rfl
  have L12 : (12 : Int32).toInt = 12 := rfl
  have L13 : (13 : Int32).toInt = 13 := rfl
  refine mpt_t (hp_0 _) (Nat.le_of_ble_eq_true rfl) (hs_0_13 _ _) ?_
  have hGS1 : G F B (uV S 13 (1)) := g_13 hG
  refine mis_t (hp_0 _) ?_
  refine mcl_v (t_SF_noteFault hn0 _ (-1) (-1) (-1) hGS1) (fun u3 Sc2 zSc2 => ?_)
  have hGSc2 : G F B Sc2 := zSc2
  refine mgr_t (v := 4) (hp_0 _) rfl ?_
  refine mgi_v (hp_0 _) rfl (fun v7 ev7 => ?_)
  have nv7 := nt_b v7
  refine mpt_t (hp_4 _) (Nat.le_of_ble_eq_true rfl) (hs_4_6 _ _) ?_
  have hGS4 : G F B (uV Sc2 406 (v7)) := g_406 hGSc2
  refine mgr_t (v := 38) (hp_0 _) rfl ?_
  refine mpt_t (hp_0 _) (Nat.le_of_ble_eq_true rfl) (hs_0_12 _ _) ?_
  have hGS5 : G F B (uR (uV Sc2 406 (v7)) 12 38) := G_R hGS4 by_38
  refine mgi_v (hp_0 _) rfl (fun v11 ev11 => ?_)
  have nv11 := nt_b v11
  have bv11 := b_2 hGS5
  rw [← ev11] at bv11
  refine ieq_t (fun c6 => ?_) (fun c6 => ?_)
  · have tc6 := congrArg Int32.toInt c6
    refine mgr_t (v := 38) (hp_0 _) rfl ?_
    refine mgr_t (v := 1) (hp_0 _) rfl ?_
    refine mis_t (hp_by by_38 _) ?_
    refine mcl_v (t_By_become hn0 _ 38 1 hGS5 by_38 by_1) (fun u8 Sc7 zSc7 => ?_)
    have hGSc7 : G F B Sc7 := zSc7
    exact t_SF_decode_B49 hn0 _ hGSc7
  · exact t_SF_decode_B49 hn0 _ hGS5
set_option maxHeartbeats 2000000 in
theorem t_SF_feed {F B : mP} {n0 : Nat} (hn0 : big n0) (S : mS) (x1 : Int32) (x2 : Int32) (x3 : Int32) (x4 : Int32) (x5 : Int32) (hG : G F B S)  : tot (f_SF_feed n0 (hp S) 0 x1 x2 x3 x4 x5) (fun r S => G F B S) := by
  unfold f_SF_feed
  have Lm1 : (-1 : Int32).toInt = -1 := rfl
  have L0 : (0 : Int32).toInt = 0 := rfl
  have L1 : (1 : Int32).toInt = 1 := rfl
  have L20 : (20 : Int32).toInt = 20 := rfl
  have L16384 : (16384 : Int32).toInt = 16384 := rfl
  have nx1 := nt_b x1
  have nx2 := nt_b x2
  have nx3 := nt_b x3
  have nx4 := nt_b x4
  have nx5 := nt_b x5
  refine mgr_t (v := 1) (hp_0 _) rfl ?_
  refine mgi_v (hp_by by_1 _) rfl (fun v2 ev2 => ?_)
  have nv2 := nt_b v2
  have bv2 := b_by by_1 hG
  rw [← ev2] at bv2
  have cv2 := nB_lt by_1
  refine ilq_t ?_ ?_
  · refine mgr_t (v := 1) (hp_0 _) rfl ?_
    refine mis_t (hp_by by_1 _) ?_
    refine mcl_v (t_By_addFour hn0 _ 1 x1 hG by_1) (fun u3 Sc2 zSc2 => ?_)
    have hGSc2 : G F B Sc2 := zSc2
    refine mgr_t (v := 1) (hp_0 _) rfl ?_
    refine mis_t (hp_by by_1 _) ?_
    refine mcl_v (t_By_addFour hn0 _ 1 x2 hGSc2 by_1) (fun u5 Sc4 zSc4 => ?_)
    have hGSc4 : G F B Sc4 := zSc4
    refine mgr_t (v := 1) (hp_0 _) rfl ?_
    refine mis_t (hp_by by_1 _) ?_
    refine mcl_v (t_By_addFour hn0 _ 1 x3 hGSc4 by_1) (fun u7 Sc6 zSc6 => ?_)
    have hGSc6 : G F B Sc6 := zSc6
    refine mgr_t (v := 1) (hp_0 _) rfl ?_
    refine mis_t (hp_by by_1 _) ?_
    refine mcl_v (t_By_addFour hn0 _ 1 x4 hGSc6 by_1) (fun u9 Sc8 zSc8 => ?_)
    have hGSc8 : G F B Sc8 := zSc8
    refine mgr_t (v := 1) (hp_0 _) rfl ?_
    refine mis_t (hp_by by_1 _) ?_
    refine mcl_v (t_By_addFour hn0 _ 1 x5 hGSc8 by_1) (fun u11 Sc10 zSc10 => ?_)
    have hGSc10 : G F B Sc10 := zSc10
    refine mgr_t (v := 1) (hp_0 _) rfl ?_
    refine mgi_v (hp_by by_1 _) rfl (fun v30 ev30 => ?_)
    have nv30 := nt_b v30
    have bv30 := b_by by_1 hGSc10
    rw [← ev30] at bv30
    have cv30 := nB_lt by_1
    exact tot_end hGSc10
  · exact tot_end hG
set_option maxHeartbeats 2000000 in
theorem t_SF_at {F B : mP} {n0 : Nat} (hn0 : big n0) (S : mS) (x1 : Int32) (hG : G F B S)  : tot (f_SF_at n0 (hp S) 0 x1) (fun r S => G F B S) := by
  unfold f_SF_at
  have Lm1 : (-1 : Int32).toInt = -1 := rfl
  have L0 : (0 : Int32).toInt = 0 := rfl
  have L1 : (1 : Int32).toInt = 1 := rfl
  have L12 : (12 : Int32).toInt = 12 := rfl
  have nx1 := nt_b x1
  refine ilt_t (fun c1 => ?_) (fun c1 => ?_)
  · exact tot_end hG
  · refine mgr_v (hp_0 _) rfl (fun r2 er2 => ?_)
    have h_r2 : isBy r2 := by rw [er2]; exact hG.2.2.1.1
    refine mgi_v (hp_by h_r2 _) rfl (fun v3 ev3 => ?_)
    have nv3 := nt_b v3
    have bv3 := b_by h_r2 hG
    rw [← ev3] at bv3
    have cv3 := nB_lt h_r2
    refine ile_t (fun c2 => ?_) (fun c2 => ?_)
    · exact tot_end hG
    · refine mgr_v (hp_0 _) rfl (fun r5 er5 => ?_)
      have h_r5 : isBy r5 := by rw [er5]; exact hG.2.2.1.1
      have fr5 : r5 = r2 := er5.trans er2.symm
      have gr5 := congrArg nB fr5
      have dr5 : ((nB r5 : Nat) : Int) = ((nB r2 : Nat) : Int) := by rw [fr5]
      refine mis_t (hp_by h_r5 _) ?_
      refine mcl_v (t_By_byteAt hn0 _ r5 x1 hG h_r5) (fun v7 Sc3 zSc3 => ?_)
      subst zSc3
      have nv7 := nt_b v7
      exact tot_end hG
set_option maxHeartbeats 2000000 in
theorem t_SF_fault {F B : mP} {n0 : Nat} (hn0 : big n0) (S : mS) (x1 : Int32) (hG : G F B S)  : tot (f_SF_fault n0 (hp S) 0 x1) (fun r S => G F B S) := by
  unfold f_SF_fault
  have Lm1 : (-1 : Int32).toInt = -1 := rfl
  have L0 : (0 : Int32).toInt = 0 := rfl
  have L1 : (1 : Int32).toInt = 1 := rfl
  have L2 : (2 : Int32).toInt = 2 := rfl
  have L14 : (14 : Int32).toInt = 14 := rfl
  have L15 : (15 : Int32).toInt = 15 := rfl
  have L16 : (16 : Int32).toInt = 16 := rfl
  have nx1 := nt_b x1
  refine ieq_t (fun c1 => ?_) (fun c1 => ?_)
  · have tc1 := congrArg Int32.toInt c1
    refine mgi_v (hp_0 _) rfl (fun v2 ev2 => ?_)
    have nv2 := nt_b v2
    exact tot_end hG
  · refine ieq_t (fun c2 => ?_) (fun c2 => ?_)
    · have tc2 := congrArg Int32.toInt c2
      refine mgi_v (hp_0 _) rfl (fun v4 ev4 => ?_)
      have nv4 := nt_b v4
      exact tot_end hG
    · refine ieq_t (fun c3 => ?_) (fun c3 => ?_)
      · have tc3 := congrArg Int32.toInt c3
        refine mgi_v (hp_0 _) rfl (fun v6 ev6 => ?_)
        have nv6 := nt_b v6
        exact tot_end hG
      · exact tot_end hG
