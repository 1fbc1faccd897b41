set_option maxHeartbeats 2000000 in
theorem t_SF_isPredictor {F B : mP} {n0 : Nat} (hn0 : big n0) (S : mS) (x0 : Int32) (hG : G F B S)  : tot (f_SF_isPredictor n0 (hp S) x0) (fun r S' => S = S' ∧ (((1 ≤ x0.toInt ∧ x0.toInt ≤ 2) ∨ (10 ≤ x0.toInt ∧ x0.toInt ≤ 15)) ∧ r.toInt = 1 ∨ ¬ ((1 ≤ x0.toInt ∧ x0.toInt ≤ 2) ∨ (10 ≤ x0.toInt ∧ x0.toInt ≤ 15)) ∧ r.toInt = 0)) := by
  unfold f_SF_isPredictor
  have L0 : (0 : Int32).toInt = 0 := rfl
  have L1 : (1 : Int32).toInt = 1 := rfl
  have L2 : (2 : Int32).toInt = 2 := rfl
  have L10 : (10 : Int32).toInt = 10 := rfl
  have L15 : (15 : Int32).toInt = 15 := rfl
  have nx0 := nt_b x0
  refine ieq_t (fun c1 => ?_) (fun c1 => ?_)
  · have tc1 := congrArg Int32.toInt c1
    exact tot_end ⟨rfl, by omega⟩
  · refine ieq_t (fun c2 => ?_) (fun c2 => ?_)
    · have tc2 := congrArg Int32.toInt c2
      exact tot_end ⟨rfl, by omega⟩
    · refine ilt_t (fun c3 => ?_) (fun c3 => ?_)
      · exact tot_end ⟨rfl, by omega⟩
      · refine ilt_t (fun c4 => ?_) (fun c4 => ?_)
        · exact tot_end ⟨rfl, by omega⟩
        · exact tot_end ⟨rfl, by omega⟩
set_option maxHeartbeats 2000000 in
theorem t_SF_isBits {F B : mP} {n0 : Nat} (hn0 : big n0) (S : mS) (x0 : Int32) (hG : G F B S)  : tot (f_SF_isBits n0 (hp S) x0) (fun r S' => S = S' ∧ ((x0.toInt = 1 ∨ x0.toInt = 2 ∨ x0.toInt = 4 ∨ x0.toInt = 8 ∨ x0.toInt = 16) ∧ r.toInt = 1 ∨ ¬ (x0.toInt = 1 ∨ x0.toInt = 2 ∨ x0.toInt = 4 ∨ x0.toInt = 8 ∨ x0.toInt = 16) ∧ r.toInt = 0)) := by
  unfold f_SF_isBits
  have L0 : (0 : Int32).toInt = 0 := rfl
  have L1 : (1 : Int32).toInt = 1 := rfl
  have L2 : (2 : Int32).toInt = 2 := rfl
  have L4 : (4 : Int32).toInt = 4 := rfl
  have L8 : (8 : Int32).toInt = 8 := rfl
  have L16 : (16 : Int32).toInt = 16 := rfl
  have nx0 := nt_b x0
  refine ieq_t (fun c1 => ?_) (fun c1 => ?_)
  · have tc1 := congrArg Int32.toInt c1
    exact tot_end ⟨rfl, by omega⟩
  · refine ieq_t (fun c2 => ?_) (fun c2 => ?_)
    · have tc2 := congrArg Int32.toInt c2
      exact tot_end ⟨rfl, by omega⟩
    · refine ieq_t (fun c3 => ?_) (fun c3 => ?_)
      · have tc3 := congrArg Int32.toInt c3
        exact tot_end ⟨rfl, by omega⟩
      · refine ieq_t (fun c4 => ?_) (fun c4 => ?_)
        · have tc4 := congrArg Int32.toInt c4
          exact tot_end ⟨rfl, by omega⟩
        · refine ieq_t (fun c5 => ?_) (fun c5 => ?_)
          · have tc5 := congrArg Int32.toInt c5
            exact tot_end ⟨rfl, by omega⟩
          · exact tot_end ⟨rfl, by omega⟩
set_option maxHeartbeats 2000000 in
theorem t_SF_put {F B : mP} {n0 : Nat} (hn0 : big n0) (S : mS) (x1 : Int32) (x2 : Int32) (hG : G F B S)  : tot (f_SF_put n0 (hp S) 0 x1 x2) (fun r S => G F B S ∧ ((∃ v, r = .inl v) ∨ r = .inr 0 ∨ r = .inr 1)) := by
  unfold f_SF_put
  have L0 : (0 : Int32).toInt = 0 := rfl
  have L1 : (1 : Int32).toInt = 1 := rfl
  have L255 : (255 : Int32).toInt = 255 := rfl
  have nx1 := nt_b x1
  have nx2 := nt_b x2
  refine ilt_t (fun c1 => ?_) (fun c1 => ?_)
  · exact tot_end ⟨hG, Or.inr (Or.inl rfl)⟩
  · refine mgr_t (v := 1) (hp_0 _) rfl ?_
    refine mgi_v (hp_by by_1 _) rfl (fun v3 ev3 => ?_)
    have nv3 := nt_b v3
    have bv3 := b_by by_1 hG
    rw [← ev3] at bv3
    have cv3 := nB_lt by_1
    refine ilt_t (fun c2 => ?_) (fun c2 => ?_)
    · refine ilt_t (fun c3 => ?_) (fun c3 => ?_)
      · exact tot_end ⟨hG, Or.inr (Or.inr rfl)⟩
      · refine ile_t (fun c4 => ?_) (fun c4 => ?_)
        · refine mgr_t (v := 1) (hp_0 _) rfl ?_
          refine mis_t (hp_by by_1 _) ?_
          refine mcl_v (t_By_byteAt hn0 _ 1 x1 hG by_1) (fun v9 Sc5 zSc5 => ?_)
          subst zSc5
          have nv9 := nt_b v9
          refine mgr_t (v := 1) (hp_0 _) rfl ?_
          refine mis_t (hp_by by_1 _) ?_
          refine mcl_v (t_By_change hn0 _ 1 x1 x2 hG by_1) (fun u7 Sc6 zSc6 => ?_)
          have hGSc6 : G F B Sc6 := zSc6
          exact tot_end ⟨hGSc6, Or.inl ⟨_, rfl⟩⟩
        · exact tot_end ⟨hG, Or.inr (Or.inr rfl)⟩
    · exact tot_end ⟨hG, Or.inr (Or.inl rfl)⟩
set_option maxHeartbeats 2000000 in
theorem t_SF_cut {F B : mP} {n0 : Nat} (hn0 : big n0) (S : mS) (x1 : Int32) (hG : G F B S)  : tot (f_SF_cut n0 (hp S) 0 x1) (fun r S => G F B S ∧ ((∃ v, r = .inl v) ∨ r = .inr 1)) := by
  unfold f_SF_cut
  have L0 : (0 : Int32).toInt = 0 := rfl
  have L1 : (1 : Int32).toInt = 1 := rfl
  have nx1 := nt_b x1
  refine ile_t (fun c1 => ?_) (fun c1 => ?_)
  · refine mgr_t (v := 1) (hp_0 _) rfl ?_
    refine mgi_v (hp_by by_1 _) rfl (fun v3 ev3 => ?_)
    have nv3 := nt_b v3
    have bv3 := b_by by_1 hG
    rw [← ev3] at bv3
    have cv3 := nB_lt by_1
    refine mnm_v (fun v4 ev4 => ?_)
    have nv4 := nt_b v4
    have kz2 : (v3 - x1 : Int32).toInt = (v3 : Int32).toInt - (x1 : Int32).toInt := nt_sub (by omega) (by omega)
    have iv4 := nt_if ev4
    refine mgr_t (v := 1) (hp_0 _) rfl ?_
    refine mgi_v (hp_by by_1 _) rfl (fun v6 ev6 => ?_)
    have nv6 := nt_b v6
    have bv6 := b_by by_1 hG
    rw [← ev6] at bv6
    have cv6 := nB_lt by_1
    have fv6 : v6 = v3 := ev6.trans ev3.symm
    have gv6 := congrArg Int32.toInt fv6
    have kz3 : (v6 - v4 : Int32).toInt = (v6 : Int32).toInt - (v4 : Int32).toInt := nt_sub (by omega) (by omega)
    refine mpt_t (hp_by by_1 _) (Nat.le_of_ble_eq_true rfl) (hs_by by_1 _ _) ?_
    have hGS4 : G F B (uV S (100 * 1 + 1) (v6 - v4)) := g_by by_1 hG (by omega) (by omega)
    generalize uV S (100 * 1 + 1) (v6 - v4) = S4 at hGS4 ⊢
    exact tot_end ⟨hGS4, Or.inl ⟨_, rfl⟩⟩
  · exact tot_end ⟨hG, Or.inr rfl⟩
set_option maxHeartbeats 2000000 in
theorem t_SF_keep {F B : mP} {n0 : Nat} (hn0 : big n0) (S : mS)  (hG : G F B S)  : tot (f_SF_keep n0 (hp S) 0) (fun r S => G F B S ∧ ((∃ v, r = .inl v) ∨ r = .inr 2)) := by
  unfold f_SF_keep
  have L0 : (0 : Int32).toInt = 0 := rfl
  have L1 : (1 : Int32).toInt = 1 := rfl
  have L2 : (2 : Int32).toInt = 2 := rfl
  have L12 : (12 : Int32).toInt = 12 := rfl
  have L13 : (13 : Int32).toInt = 13 := rfl
  have L16384 : (16384 : Int32).toInt = 16384 := rfl
  refine mgi_v (hp_0 _) rfl (fun v1 ev1 => ?_)
  have nv1 := nt_b v1
  refine ieq_t (fun c1 => ?_) (fun c1 => ?_)
  · have tc1 := congrArg Int32.toInt c1
    refine mgr_t (v := 1) (hp_0 _) rfl ?_
    refine mgi_v (hp_by by_1 _) rfl (fun v4 ev4 => ?_)
    have nv4 := nt_b v4
    have bv4 := b_by by_1 hG
    rw [← ev4] at bv4
    have cv4 := nB_lt by_1
    exact tot_end ⟨hG, Or.inl ⟨_, rfl⟩⟩
  · refine mgr_v (hp_0 _) rfl (fun r5 er5 => ?_)
    have h_r5 : isBy r5 := by rw [er5]; exact hG.2.2.1.1
    refine mgi_v (hp_by h_r5 _) rfl (fun v6 ev6 => ?_)
    have nv6 := nt_b v6
    have bv6 := b_by h_r5 hG
    rw [← ev6] at bv6
    have cv6 := nB_lt h_r5
    refine ile_t (fun c2 => ?_) (fun c2 => ?_)
    · refine mgr_t (v := 1) (hp_0 _) rfl ?_
      refine mgr_v (hp_0 _) rfl (fun r9 er9 => ?_)
      have h_r9 : isBy r9 := by rw [er9]; exact hG.2.2.1.1
      have fr9 : r9 = r5 := er9.trans er5.symm
      have gr9 := congrArg nB fr9
      have dr9 : ((nB r9 : Nat) : Int) = ((nB r5 : Nat) : Int) := by rw [fr9]
      refine mis_t (hp_by by_1 _) ?_
      refine mcl_v (t_By_become hn0 _ 1 r9 hG by_1 h_r9) (fun u4 Sc3 zSc3 => ?_)
      have hGSc3 : G F B Sc3 := zSc3
      refine mgr_t (v := 1) (hp_0 _) rfl ?_
      refine mgi_v (hp_by by_1 _) rfl (fun v15 ev15 => ?_)
      have nv15 := nt_b v15
      have bv15 := b_by by_1 hGSc3
      rw [← ev15] at bv15
      have cv15 := nB_lt by_1
      exact tot_end ⟨hGSc3, Or.inl ⟨_, rfl⟩⟩
    · exact tot_end ⟨hG, Or.inr rfl⟩
/-! THE CLASS'S CALLS THAT CHANGE the chain's length or the budget, with their answers -/
def okf (x1 x2 : Int32) : Prop := (0 ≤ x1.toInt ∧ x1.toInt ≤ 4) ∧ (0 ≤ x2.toInt ∧ x2.toInt ≤ 1)
def okw (x3 : Int32) : Prop := x3.toInt = 1 ∨ x3.toInt = 2 ∨ x3.toInt = 4 ∨ x3.toInt = 8 ∨ x3.toInt = 16
def okd (x1 x2 x3 x4 : Int32) : Prop := ((1 ≤ x1.toInt ∧ x1.toInt ≤ 2) ∨ (10 ≤ x1.toInt ∧ x1.toInt ≤ 15)) ∧ (1 ≤ x2.toInt ∧ x2.toInt ≤ 8) ∧ okw x3 ∧ (1 ≤ x4.toInt ∧ x4.toInt ≤ 4096)
def okb (x1 : Int32) : Prop := 0 ≤ x1.toInt ∧ x1.toInt ≤ 65536
section mC
variable {F B : mP} {S : mS} {x : Int32}
theorem bnd_V {k : Nat} (h1 : ∀ q ∈ bnds, q.2.1 ≤ (S.1 q.1).toInt ∧ (S.1 q.1).toInt ≤ q.2.2) (hb : ∀ q ∈ bnds, q.1 = k → q.2.1 ≤ x.toInt ∧ x.toInt ≤ q.2.2) : ∀ q ∈ bnds, q.2.1 ≤ ((uV S k x).1 q.1).toInt ∧ ((uV S k x).1 q.1).toInt ≤ q.2.2 := by
  intro q hq
  show _ ≤ (upd S.1 k x q.1).toInt ∧ (upd S.1 k x q.1).toInt ≤ _
  unfold upd
  split
  · rename_i e; exact hb q hq e
  · exact h1 q hq
theorem g_2 (hG : G F B S) (h0 : 0 ≤ x.toInt) (h1 : x.toInt ≤ 8) : G (x, F.2) B (uV S 2 x) := by
  obtain ⟨g1, ⟨g2, g3, g4, g5⟩, g6⟩ := hG
  refine ⟨bnd_V g1 (fun q hq e => ?_), ⟨rfl, g3, g4, g5⟩, g6⟩
  simp only [bnds, List.mem_cons, List.not_mem_nil, or_false] at hq
  rcases hq with rfl | rfl | rfl | rfl | rfl | rfl | rfl | rfl | rfl | rfl | rfl | rfl | rfl | rfl | rfl | rfl | rfl | rfl <;> first | exact ⟨h0, h1⟩ | exact absurd e (by decide)
theorem g_5003 (hG : G F B S) (h0 : 0 ≤ x.toInt) (h1 : x.toInt ≤ 8) : G (F.1, x) B (uV S 5003 x) := by
  obtain ⟨g1, ⟨g2, g3, g4, g5⟩, g6⟩ := hG
  refine ⟨bnd_V g1 (fun q hq e => ?_), ⟨g2, rfl, g4, g5⟩, g6⟩
  simp only [bnds, List.mem_cons, List.not_mem_nil, or_false] at hq
  rcases hq with rfl | rfl | rfl | rfl | rfl | rfl | rfl | rfl | rfl | rfl | rfl | rfl | rfl | rfl | rfl | rfl | rfl | rfl <;> first | exact ⟨h0, h1⟩ | exact absurd e (by decide)
theorem g_3 (hG : G F B S) : G F (x, B.2) (uV S 3 x) := by
  obtain ⟨g1, ⟨g2, g3, g4, g5⟩, g6⟩ := hG
  refine ⟨bnd_V g1 (fun q hq e => ?_), ⟨g2, g3, rfl, g5⟩, g6⟩
  simp only [bnds, List.mem_cons, List.not_mem_nil, or_false] at hq
  rcases hq with rfl | rfl | rfl | rfl | rfl | rfl | rfl | rfl | rfl | rfl | rfl | rfl | rfl | rfl | rfl | rfl | rfl | rfl <;> exact absurd e (by decide)
theorem g_5010 (hG : G F B S) (h0 : 0 ≤ x.toInt) (h1 : x.toInt ≤ 65536) : G F (B.1, x) (uV S 5010 x) := by
  obtain ⟨g1, ⟨g2, g3, g4, g5⟩, g6⟩ := hG
  refine ⟨bnd_V g1 (fun q hq e => ?_), ⟨g2, g3, g4, rfl⟩, g6⟩
  simp only [bnds, List.mem_cons, List.not_mem_nil, or_false] at hq
  rcases hq with rfl | rfl | rfl | rfl | rfl | rfl | rfl | rfl | rfl | rfl | rfl | rfl | rfl | rfl | rfl | rfl | rfl | rfl <;> first | exact ⟨h0, h1⟩ | exact absurd e (by decide)
end mC
set_option maxHeartbeats 2000000 in
theorem t_SF_filter {F B : mP} {n0 : Nat} (hn0 : big n0) (S : mS) (x1 x2 : Int32) (hG : G F B S) : tot (f_SF_filter n0 (hp S) 0 x1 x2) (fun r S' => (okf x1 x2 → F.1.toInt < 8 → r = .inl (F.1 + 1) ∧ G (F.1 + 1, F.2) B S') ∧ (¬ okf x1 x2 → r = .inr 1) ∧ (okf x1 x2 → ¬ F.1.toInt < 8 → r = .inr 2)) := by
  unfold f_SF_filter
  have L0 : (0 : Int32).toInt = 0 := rfl
  have L1 : (1 : Int32).toInt = 1 := rfl
  have L4 : (4 : Int32).toInt = 4 := rfl
  have hF : S.1 2 = F.1 := hG.2.1.1
  have bF := b_2 hG
  rw [hF] at bF
  have eo : okf x1 x2 = ((0 ≤ x1.toInt ∧ x1.toInt ≤ 4) ∧ (0 ≤ x2.toInt ∧ x2.toInt ≤ 1)) := rfl
  rw [eo]
  refine ilt_t (fun c1 => ?_) (fun c1 => ?_)
  · exact tot_end ⟨fun o => absurd o (by omega), fun _ => rfl, fun o => absurd o (by omega)⟩
  refine ile_t (fun c2 => ?_) (fun c2 => ?_)
  · refine ilt_t (fun c3 => ?_) (fun c3 => ?_)
    · exact tot_end ⟨fun o => absurd o (by omega), fun _ => rfl, fun o => absurd o (by omega)⟩
    refine ile_t (fun c4 => ?_) (fun c4 => ?_)
    · refine mgi_v (hp_0 _) rfl (fun v5 ev5 => ?_)
      have e5 : v5 = F.1 := ev5.trans hF
      have t5 := congrArg Int32.toInt e5
      refine mgr_t (v := 3) (hp_0 _) rfl ?_
      refine mln_v (hp_3 _) (fun v7 ev7 => ?_)
      have kv7 : v7.toInt = ((8 : Nat) : Int) := by rw [ev7]; exact nI_toInt (show 8 < 2 ^ 31 by decide)
      refine ilt_t (fun c5 => ?_) (fun c5 => ?_)
      · refine mgr_t (v := 3) (hp_0 _) rfl ?_
        refine mgi_v (hp_0 _) rfl (fun v10 ev10 => ?_)
        have e10 : v10 = F.1 := ev10.trans hF
        have t10 := congrArg Int32.toInt e10
        obtain ⟨r11, er11, h_r11⟩ := li_at _ (nt_ix (x := v10) (by omega) (by omega))
        refine mar_t (v := r11) (hp_3 _) (nt_in (by omega) (by omega)) er11 ?_
        refine mis_t (hp_li h_r11 _) ?_
        refine mcl_v (t_Li_begin hn0 _ r11 x1 x2 hG h_r11) (fun u Sc hGc => ?_)
        refine mgi_v (hp_0 _) rfl (fun v16 ev16 => ?_)
        have e16 : v16 = F.1 := ev16.trans hGc.2.1.1
        refine mpt_t (hp_0 _) (Nat.le_of_ble_eq_true rfl) (hs_0_2 _ _) ?_
        refine mgi_v (hp_0 _) rfl (fun v18 ev18 => ?_)
        have e18 : v18 = v16 + 1 := ev18
        subst e16
        have k18 : (F.1 + 1).toInt = F.1.toInt + 1 := nt_inc (by omega)
        exact tot_end ⟨fun _ _ => ⟨by rw [e18], g_2 hGc (by omega) (by omega)⟩, fun o => absurd (by omega) o, fun _ o => absurd (by omega) o⟩
      · exact tot_end ⟨fun _ o => absurd o (by omega), fun o => absurd (by omega) o, fun _ _ => rfl⟩
    · exact tot_end ⟨fun o => absurd o (by omega), fun _ => rfl, fun o => absurd o (by omega)⟩
  · exact tot_end ⟨fun o => absurd o (by omega), fun _ => rfl, fun o => absurd o (by omega)⟩
set_option maxHeartbeats 2000000 in
theorem t_SF_predict {F B : mP} {n0 : Nat} (hn0 : big n0) (S : mS) (x1 x2 x3 x4 : Int32) (hG : G F B S) : tot (f_SF_predict n0 (hp S) 0 x1 x2 x3 x4) (fun r S' => (okd x1 x2 x3 x4 → 1 ≤ F.1.toInt → r = .inl () ∧ G F B S') ∧ (¬ okd x1 x2 x3 x4 → r = .inr 1) ∧ (okd x1 x2 x3 x4 → ¬ 1 ≤ F.1.toInt → r = .inr 2)) := by
  unfold f_SF_predict
  have L0 : (0 : Int32).toInt = 0 := rfl
  have L1 : (1 : Int32).toInt = 1 := rfl
  have L8 : (8 : Int32).toInt = 8 := rfl
  have L4096 : (4096 : Int32).toInt = 4096 := rfl
  have hF : S.1 2 = F.1 := hG.2.1.1
  have bF := b_2 hG
  rw [hF] at bF
  have eo : okd x1 x2 x3 x4 = (((1 ≤ x1.toInt ∧ x1.toInt ≤ 2) ∨ (10 ≤ x1.toInt ∧ x1.toInt ≤ 15)) ∧ (1 ≤ x2.toInt ∧ x2.toInt ≤ 8) ∧ (x3.toInt = 1 ∨ x3.toInt = 2 ∨ x3.toInt = 4 ∨ x3.toInt = 8 ∨ x3.toInt = 16) ∧ (1 ≤ x4.toInt ∧ x4.toInt ≤ 4096)) := rfl
  rw [eo]
  refine mcl_v (t_SF_isPredictor hn0 _ x1 hG) (fun v2 Sa za => ?_)
  obtain ⟨ea, pv2⟩ := za
  subst ea
  refine ieq_t (fun c1 => ?_) (fun c1 => ?_)
  · have tc1 := congrArg Int32.toInt c1
    exact tot_end ⟨fun o => absurd o (by omega), fun _ => rfl, fun o => absurd o (by omega)⟩
  refine ilt_t (fun c2 => ?_) (fun c2 => ?_)
  · exact tot_end ⟨fun o => absurd o (by omega), fun _ => rfl, fun o => absurd o (by omega)⟩
  refine ilt_t (fun c3 => ?_) (fun c3 => ?_)
  · exact tot_end ⟨fun o => absurd o (by omega), fun _ => rfl, fun o => absurd o (by omega)⟩
  refine mcl_v (t_SF_isBits hn0 _ x3 hG) (fun v8 Sb zb => ?_)
  obtain ⟨eb, pv8⟩ := zb
  subst eb
  refine ieq_t (fun c4 => ?_) (fun c4 => ?_)
  · have tc4 := congrArg Int32.toInt c4
    exact tot_end ⟨fun o => absurd o (by omega), fun _ => rfl, fun o => absurd o (by omega)⟩
  refine ilt_t (fun c5 => ?_) (fun c5 => ?_)
  · exact tot_end ⟨fun o => absurd o (by omega), fun _ => rfl, fun o => absurd o (by omega)⟩
  refine ile_t (fun c6 => ?_) (fun c6 => ?_)
  · refine mgi_v (hp_0 _) rfl (fun v13 ev13 => ?_)
    have e13 : v13 = F.1 := ev13.trans hF
    have t13 := congrArg Int32.toInt e13
    refine ilt_t (fun c7 => ?_) (fun c7 => ?_)
    · exact tot_end ⟨fun _ o => absurd o (by omega), fun o => absurd (by omega) o, fun _ _ => rfl⟩
    refine mgi_v (hp_0 _) rfl (fun v15 ev15 => ?_)
    have e15 : v15 = F.1 := ev15.trans hF
    have t15 := congrArg Int32.toInt e15
    refine mgr_t (v := 3) (hp_0 _) rfl ?_
    refine mln_v (hp_3 _) (fun v17 ev17 => ?_)
    have kv17 : v17.toInt = ((8 : Nat) : Int) := by rw [ev17]; exact nI_toInt (show 8 < 2 ^ 31 by decide)
    refine ile_t (fun c8 => ?_) (fun c8 => ?_)
    · refine mgr_t (v := 3) (hp_0 _) rfl ?_
      refine mgi_v (hp_0 _) rfl (fun v20 ev20 => ?_)
      have e20 : v20 = F.1 := ev20.trans hF
      have t20 := congrArg Int32.toInt e20
      have k20 : (v20 - 1).toInt = v20.toInt - (1 : Int32).toInt := nt_sub (by omega) (by omega)
      obtain ⟨r21, er21, h_r21⟩ := li_at _ (nt_ix (x := v20 - 1) (by omega) (by omega))
      refine mar_t (v := r21) (hp_3 _) (nt_in (by omega) (by omega)) er21 ?_
      refine mis_t (hp_li h_r21 _) ?_
      refine mcl_v (t_Li_shape hn0 _ r21 x1 x2 x3 x4 hG h_r21) (fun u Sc hGc => ?_)
      exact tot_end ⟨fun _ _ => ⟨rfl, hGc⟩, fun o => absurd (by omega) o, fun _ o => absurd (by omega) o⟩
    · exact absurd c8 (by omega)
  · exact tot_end ⟨fun o => absurd o (by omega), fun _ => rfl, fun o => absurd o (by omega)⟩
theorem t_SF_drop {F B : mP} {n0 : Nat} (S : mS) (hG : G F B S) : tot (f_SF_drop n0 (hp S) 0) (fun r S' => r = F.1 ∧ G (0, F.2) B S') := by
  unfold f_SF_drop
  refine mgi_v (hp_0 _) rfl (fun v1 ev1 => ?_)
  refine mpt_t (hp_0 _) (Nat.le_of_ble_eq_true rfl) (hs_0_2 _ _) ?_
  exact tot_end ⟨ev1.trans hG.2.1.1, g_2 hG (by decide) (by decide)⟩
theorem t_SF_budget {F B : mP} {n0 : Nat} (S : mS) (x1 : Int32) (hG : G F B S) : tot (f_SF_budget n0 (hp S) 0 x1) (fun r S' => (okb x1 → r = .inl B.1 ∧ G F (x1, B.2) S') ∧ (¬ okb x1 → r = .inr 1)) := by
  unfold f_SF_budget
  have L0 : (0 : Int32).toInt = 0 := rfl
  have L65536 : (65536 : Int32).toInt = 65536 := rfl
  have eo : okb x1 = (0 ≤ x1.toInt ∧ x1.toInt ≤ 65536) := rfl
  rw [eo]
  refine ilt_t (fun c1 => ?_) (fun c1 => ?_)
  · exact tot_end ⟨fun o => absurd o (by omega), fun _ => rfl⟩
  refine ile_t (fun c2 => ?_) (fun c2 => ?_)
  · refine mgi_v (hp_0 _) rfl (fun v3 ev3 => ?_)
    refine mpt_t (hp_0 _) (Nat.le_of_ble_eq_true rfl) (hs_0_3 _ _) ?_
    exact tot_end ⟨fun _ => ⟨congrArg Sum.inl (ev3.trans hG.2.1.2.2.1), g_3 hG⟩, fun o => absurd (by omega) o⟩
  · exact tot_end ⟨fun o => absurd o (by omega), fun _ => rfl⟩

