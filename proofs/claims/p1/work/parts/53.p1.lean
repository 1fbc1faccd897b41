/-! ONE CALL ON A FRESH OBJECT: what the law's cases are worth there -/
theorem mac_go {α : Type} {h h' : mH} {ty : FieldType} {a b n0 n1 : Nat} {sp dp n : Int32} {f g : Nat → Int32} {F : mH → Option α} {r : Option α} (e1 : h[a]? = some (.inl (ty, (n0, .inl f)))) (e2 : h[b]? = some (.inl (ty, (n1, .inl g)))) (hc : ¬ sp < 0 ∧ ¬ dp < 0 ∧ ¬ n < 0 ∧ sp.toNatClampNeg + n.toNatClampNeg ≤ n0 ∧ dp.toNatClampNeg + n.toNatClampNeg ≤ n1 ∧ ∀ i, i < n.toNatClampNeg → fits ty (.int (f (sp.toNatClampNeg + i))) = true) (e : h.set b (.inl (ty, (n1, .inl (va_cpy f g sp.toNatClampNeg dp.toNatClampNeg n.toNatClampNeg)))) = h') (hF : F h' = r) : mac h ty a sp b dp n F = r := by
  unfold mac
  rw [e1, e2]
  refine mgd_go ⟨rfl, rfl, hc⟩ ?_
  rw [e]
  exact hF
theorem mls_go {α : Type} {h h' : mH} {a n : Nat} {j : Int32} {x : Int64} {f : Nat → Int64} {F : mH → Option α} {r : Option α} (hi : h[a]? = some (.inl (.long, (n, .inr (.inl f))))) (hj : vp_in j n) (e : h.set a (.inl (.long, (n, .inr (.inl (vp_updL f j.toNatClampNeg x))))) = h') (hF : F h' = r) : mls h a j x F = r := by
  rw [mls_ev hi hj, e]
  exact hF
theorem mal_go {α : Type} {h : mH} {a n : Nat} {j : Int32} {w : Int64} {f : Nat → Int64} {F : Int64 → Option α} {r : Option α} (hi : h[a]? = some (.inl (.long, (n, .inr (.inl f))))) (hj : vp_in j n) (hv : f j.toNatClampNeg = w) (hF : F w = r) : mal h a j F = r := by
  rw [mal_ev hi hj, hv]
  exact hF
theorem pi_0 {n0 : Nat} {h : mH} {x lo hi : Int32} (hq : x < lo ∨ hi < x) : f_Mo_isIn n0 h x lo hi = some (0, h) := by
  unfold f_Mo_isIn
  by_cases h1 : x < lo
  · rw [if_pos h1]
  · rw [if_neg h1, if_pos (hq.resolve_left h1)]
theorem pi_1 {n0 : Nat} {h : mH} {x lo hi : Int32} (h1 : ¬ x < lo) (h2 : ¬ hi < x) : f_Mo_isIn n0 h x lo hi = some (1, h) := by
  unfold f_Mo_isIn
  rw [if_neg h1, if_neg h2]
section mFresh
variable {xs : Nat → Int32} (u1 l1 : Int32) (fc1 fp1 fs1 : Nat → Int32) (u2 l2 : Int32) (fc2 fp2 fs2 fx : Nat → Int32)
set_option maxHeartbeats 4000000 in
set_option maxRecDepth 100000 in
theorem p_neg {x : Int32} (h : ¬ x < 0) : 0 ≤ x ∧ (0 - 1 : Int32) < x ∧ ¬ 0 < 0 - x := by
  rw [nt_lt] at h
  have e0 : (0 : Int32).toInt = 0 := rfl
  have e1 : (0 - 1 : Int32).toInt = -1 := rfl
  have hx := Int32.toInt_lt x
  have hs : (0 - x).toInt = 0 - x.toInt := by rw [nt_sub (by omega) (by omega)]; rfl
  refine ⟨nt_le.mpr (by omega), nt_lt.mpr (by omega), fun q => ?_⟩
  have := nt_lt.mp q
  omega
set_option maxHeartbeats 4000000 in
set_option maxRecDepth 100000 in
theorem pc_5 : ∃ h', f_La_c5 400 xs 6 (hz u1 l1 fc1 fp1 fs1 u2 l2 fc2 fp2 fs2 fx) 0 66 50 0 = some ((), h') := by
  apply Exists.intro
  unfold f_La_c5
  refine mis_go rfl ?_
  refine mcl_go (v := 0) rfl ?_
  refine mis_go rfl ?_
  refine mcl_go (v := 0) rfl ?_
  rw [if_pos rfl]
set_option maxHeartbeats 4000000 in
set_option maxRecDepth 100000 in
theorem sf_9 (x : Int32) : f_SF_fault 400 (hz u1 l1 fc1 fp1 fs1 u2 l2 fc2 fp2 fs2 fx) 0 x = some (-1, (hz u1 l1 fc1 fp1 fs1 u2 l2 fc2 fp2 fs2 fx)) := by
  unfold f_SF_fault
  by_cases q0 : x = 0
  · rw [if_pos q0]; rfl
  · rw [if_neg q0]
    by_cases q1 : x = 1
    · rw [if_pos q1]; rfl
    · rw [if_neg q1]
      by_cases q2 : x = 2
      · rw [if_pos q2]; rfl
      · rw [if_neg q2]
set_option maxHeartbeats 4000000 in
set_option maxRecDepth 100000 in
theorem mo_9 (x : Int32) : ∃ h', f_Mo_fault 400 (hz u1 l1 fc1 fp1 fs1 u2 l2 fc2 fp2 fs2 fx) 50 x = some (-1, h') := by
  unfold f_Mo_fault
  refine ⟨_, mpt_go rfl (by decide) rfl ?_⟩
  by_cases q0 : x = 0
  · rw [if_pos q0]; rfl
  · rw [if_neg q0]
    by_cases q1 : x = 1
    · rw [if_pos q1]; rfl
    · rw [if_neg q1]
      by_cases q2 : x = 2
      · rw [if_pos q2]; rfl
      · rw [if_neg q2]
set_option maxHeartbeats 4000000 in
set_option maxRecDepth 100000 in
theorem pc_9 : ∃ h', f_La_c9 400 xs 6 (hz u1 l1 fc1 fp1 fs1 u2 l2 fc2 fp2 fs2 fx) 0 66 50 0 = some ((), h') := by
  obtain ⟨h3, e3⟩ := mo_9 u1 l1 fc1 fp1 fs1 u2 l2 fc2 fp2 fs2 fx (xs 1)
  refine ⟨h3, ?_⟩
  unfold f_La_c9
  refine msl_go (v := xs 1) (nt_in (by decide) (by decide)) rfl ?_
  refine mis_go rfl ?_
  refine mcl_go (sf_9 u1 l1 fc1 fp1 fs1 u2 l2 fc2 fp2 fs2 fx (xs 1)) ?_
  refine msl_go (v := xs 1) (nt_in (by decide) (by decide)) rfl ?_
  refine mis_go rfl ?_
  refine mcl_go e3 ?_
  rw [if_pos rfl]
set_option maxHeartbeats 4000000 in
set_option maxRecDepth 100000 in
theorem sf_8 (x : Int32) : f_SF_at 400 (hz u1 l1 fc1 fp1 fs1 u2 l2 fc2 fp2 fs2 fx) 0 x = some (-1, (hz u1 l1 fc1 fp1 fs1 u2 l2 fc2 fp2 fs2 fx)) := by
  unfold f_SF_at
  by_cases q : x < 0
  · rw [if_pos q]
  · rw [if_neg q]
    refine mgr_go rfl rfl ?_
    refine mgi_go rfl rfl ?_
    rw [if_pos (p_neg q).1]
set_option maxHeartbeats 4000000 in
set_option maxRecDepth 100000 in
theorem mo_8 (x : Int32) : ∃ h', f_Mo_at 400 (hz u1 l1 fc1 fp1 fs1 u2 l2 fc2 fp2 fs2 fx) 50 x = some (-1, h') := by
  unfold f_Mo_at
  refine ⟨_, mpt_go rfl (by decide) rfl ?_⟩
  refine mgi_go rfl rfl ?_
  refine mcl_go (pi_0 ?_) ?_
  · by_cases q : x < 0
    · exact Or.inl q
    · exact Or.inr (p_neg q).2.1
  · rw [if_pos rfl]
set_option maxHeartbeats 4000000 in
set_option maxRecDepth 100000 in
theorem pc_8 : ∃ h', f_La_c8 400 xs 6 (hz u1 l1 fc1 fp1 fs1 u2 l2 fc2 fp2 fs2 fx) 0 66 50 0 = some ((), h') := by
  obtain ⟨h3, e3⟩ := mo_8 u1 l1 fc1 fp1 fs1 u2 l2 fc2 fp2 fs2 fx (xs 1)
  refine ⟨h3, ?_⟩
  unfold f_La_c8
  refine msl_go (v := xs 1) (nt_in (by decide) (by decide)) rfl ?_
  refine mis_go rfl ?_
  refine mcl_go (sf_8 u1 l1 fc1 fp1 fs1 u2 l2 fc2 fp2 fs2 fx (xs 1)) ?_
  refine msl_go (v := xs 1) (nt_in (by decide) (by decide)) rfl ?_
  refine mis_go rfl ?_
  refine mcl_go e3 ?_
  rw [if_pos rfl]
set_option maxHeartbeats 4000000 in
set_option maxRecDepth 100000 in
theorem pc_0 : ∃ h', f_La_c0 400 xs 6 (hz u1 l1 fc1 fp1 fs1 u2 l2 fc2 fp2 fs2 fx) 0 66 50 0 = some ((), h') := by
  apply Exists.intro
  unfold f_La_c0
  refine msl_go (v := xs 1) (nt_in (by decide) (by decide)) rfl ?_
  refine msl_go (v := xs 2) (nt_in (by decide) (by decide)) rfl ?_
  refine msl_go (v := xs 3) (nt_in (by decide) (by decide)) rfl ?_
  refine msl_go (v := xs 4) (nt_in (by decide) (by decide)) rfl ?_
  refine msl_go (v := xs 5) (nt_in (by decide) (by decide)) rfl ?_
  refine mis_go rfl ?_
  refine mcl_go (v := 20) rfl ?_
  refine msl_go (v := xs 1) (nt_in (by decide) (by decide)) rfl ?_
  refine msl_go (v := xs 2) (nt_in (by decide) (by decide)) rfl ?_
  refine msl_go (v := xs 3) (nt_in (by decide) (by decide)) rfl ?_
  refine msl_go (v := xs 4) (nt_in (by decide) (by decide)) rfl ?_
  refine msl_go (v := xs 5) (nt_in (by decide) (by decide)) rfl ?_
  refine mis_go rfl ?_
  refine mcl_go (v := 20) rfl ?_
  rw [if_pos rfl]
set_option maxHeartbeats 4000000 in
set_option maxRecDepth 100000 in
theorem pc_10 : ∃ h', f_La_c10 400 xs 6 (hz u1 l1 fc1 fp1 fs1 u2 l2 fc2 fp2 fs2 fx) 0 66 50 0 = some ((), h') := by
  apply Exists.intro
  unfold f_La_c10
  refine mcl_go (v := 0) (by
      unfold f_La_keep
      refine mis_go rfl ?_
      rw [show f_SF_keep 400 (hz u1 l1 fc1 fp1 fs1 u2 l2 fc2 fp2 fs2 fx) 0 = some (.inl 0, (hz u1 l1 fc1 fp1 fs1 u2 l2 fc2 fp2 fs2 fx)) from rfl]
      refine mls_go rfl (nt_in (by decide) (by decide)) rfl ?_
      rfl) ?_
  refine mis_go rfl ?_
  refine mcl_go (v := 0) rfl ?_
  refine mis_go rfl ?_
  refine mcl_go (v := 0) rfl ?_
  rw [if_pos rfl, if_pos rfl]
  refine mal_go rfl (nt_in (by decide) (by decide)) rfl ?_
  rw [if_pos (by decide)]
set_option maxHeartbeats 4000000 in
set_option maxRecDepth 100000 in
theorem pc_7 : ∃ h', f_La_c7 400 xs 6 (hz u1 l1 fc1 fp1 fs1 u2 l2 fc2 fp2 fs2 fx) 0 66 50 0 = some ((), h') := by
  apply Exists.intro
  unfold f_La_c7
  refine mis_go rfl ?_
  refine mcl_go (v := 0) (by
      unfold f_SF_decode
      refine mpt_go rfl (Nat.le_of_ble_eq_true rfl) rfl ?_
      refine mis_go rfl ?_
      refine mcl_go rfl ?_
      refine mgr_go rfl rfl ?_
      refine mgi_go rfl rfl ?_
      refine mpt_go rfl (Nat.le_of_ble_eq_true rfl) rfl ?_
      refine mgr_go rfl rfl ?_
      refine mpt_go rfl (Nat.le_of_ble_eq_true rfl) rfl ?_
      refine mgi_go rfl rfl ?_
      rw [if_pos rfl]
      refine mgr_go rfl rfl ?_
      refine mgr_go rfl rfl ?_
      refine mis_go rfl ?_
      refine mcl_go (by
        unfold f_By_become
        refine mgi_go rfl rfl ?_
        refine mgr_go rfl rfl ?_
        refine mln_go rfl rfl ?_
        refine mnm_goe (y := 0) (by decide) ?_
        refine mpt_go rfl (Nat.le_of_ble_eq_true rfl) rfl ?_
        refine mgr_go rfl rfl ?_
        refine mgr_go rfl rfl ?_
        refine mgi_go rfl rfl ?_
        refine mac_go rfl rfl ⟨by decide, by decide, by decide, by decide, by decide, fun i hi => absurd hi (Nat.not_lt_zero i)⟩ rfl ?_
        rfl) ?_
      rfl) ?_
  refine mis_go rfl ?_
  refine mcl_go (v := 0) rfl ?_
  rw [if_pos rfl]
set_option maxHeartbeats 4000000 in
set_option maxRecDepth 100000 in
theorem sf_1 (x y : Int32) : f_SF_put 400 (hz u1 l1 fc1 fp1 fs1 u2 l2 fc2 fp2 fs2 fx) 0 x y = some (.inr 0, (hz u1 l1 fc1 fp1 fs1 u2 l2 fc2 fp2 fs2 fx)) := by
  unfold f_SF_put
  by_cases q : x < 0
  · rw [if_pos q]
  · rw [if_neg q]
    refine mgr_go rfl rfl ?_
    refine mgi_go rfl rfl ?_
    rw [if_neg q]
set_option maxHeartbeats 4000000 in
set_option maxRecDepth 100000 in
theorem mo_1 (x y : Int32) : ∃ h' fs, f_Mo_put 400 (hz u1 l1 fc1 fp1 fs1 u2 l2 fc2 fp2 fs2 fx) 50 x y = some (0, h') ∧ h'[50]? = some (.inr (10, fs)) ∧ fs[0]? = some (.int 1) := by
  refine ⟨_, _, ?_, rfl, rfl⟩
  unfold f_Mo_put
  refine mgi_go rfl rfl ?_
  refine mcl_go (pi_0 ?_) ?_
  · by_cases q : x < 0
    · exact Or.inl q
    · exact Or.inr (p_neg q).2.1
  · rw [if_pos rfl]; rfl
set_option maxHeartbeats 4000000 in
set_option maxRecDepth 100000 in
theorem la_1 (x y : Int32) : f_La_put 400 (hz u1 l1 fc1 fp1 fs1 u2 l2 fc2 fp2 fs2 fx) 0 x y 66 = some (1, (hz u1 l1 fc1 fp1 fs1 u2 l2 fc2 fp2 fs2 fx)) := by
  unfold f_La_put
  refine mis_go rfl ?_
  rw [sf_1]
set_option maxHeartbeats 4000000 in
set_option maxRecDepth 100000 in
theorem pc_1 : ∃ h', f_La_c1 400 xs 6 (hz u1 l1 fc1 fp1 fs1 u2 l2 fc2 fp2 fs2 fx) 0 66 50 0 = some ((), h') := by
  obtain ⟨h3, fs, e3, e4, e5⟩ := mo_1 u1 l1 fc1 fp1 fs1 u2 l2 fc2 fp2 fs2 fx (xs 1) (xs 2)
  refine ⟨h3, ?_⟩
  unfold f_La_c1
  refine msl_go (v := xs 1) (nt_in (by decide) (by decide)) rfl ?_
  refine msl_go (v := xs 2) (nt_in (by decide) (by decide)) rfl ?_
  refine mcl_go (la_1 u1 l1 fc1 fp1 fs1 u2 l2 fc2 fp2 fs2 fx (xs 1) (xs 2)) ?_
  refine msl_go (v := xs 1) (nt_in (by decide) (by decide)) rfl ?_
  refine msl_go (v := xs 2) (nt_in (by decide) (by decide)) rfl ?_
  refine mis_go rfl ?_
  refine mcl_go e3 ?_
  refine mis_go e4 ?_
  refine mcl_go (mgi_go e4 e5 rfl) ?_
  rw [if_pos rfl, if_neg (by decide)]
set_option maxHeartbeats 4000000 in
set_option maxRecDepth 100000 in
theorem sf_2 (x : Int32) (q : 0 ≤ x) : f_SF_cut 400 (hz u1 l1 fc1 fp1 fs1 u2 l2 fc2 fp2 fs2 fx) 0 x = some (.inl 0, ((hz u1 l1 fc1 fp1 fs1 u2 l2 fc2 fp2 fs2 fx)).set 1 (.inr (1, [.ref 2, .int (0 - 0)]))) := by
  have q1 : ¬ x < 0 := fun h => by rw [nt_lt] at h; rw [nt_le] at q; omega
  unfold f_SF_cut
  rw [if_pos q]
  refine mgr_go rfl rfl ?_
  refine mgi_go rfl rfl ?_
  refine mnm_goe (y := 0) (if_neg (p_neg q1).2.2) ?_
  refine mgr_go rfl rfl ?_
  refine mgi_go rfl rfl ?_
  refine mpt_go rfl (Nat.le_of_ble_eq_true rfl) rfl ?_
  rfl
set_option maxHeartbeats 4000000 in
set_option maxRecDepth 100000 in
theorem pc_2 : ∃ h', f_La_c2 400 xs 6 (hz u1 l1 fc1 fp1 fs1 u2 l2 fc2 fp2 fs2 fx) 0 66 50 0 = some ((), h') := by
  by_cases q : 0 ≤ xs 1
  · apply Exists.intro
    unfold f_La_c2
    refine msl_go (v := xs 1) (nt_in (by decide) (by decide)) rfl ?_
    refine mcl_go (v := 0) (by
        unfold f_La_cut
        refine mis_go rfl ?_
        rw [sf_2 u1 l1 fc1 fp1 fs1 u2 l2 fc2 fp2 fs2 fx (xs 1) q]
        refine mls_go rfl (nt_in (by decide) (by decide)) rfl ?_
        rfl) ?_
    refine msl_go (v := xs 1) (nt_in (by decide) (by decide)) rfl ?_
    refine mis_go rfl ?_
    refine mcl_go (v := 0) (by
        unfold f_Mo_cut
        rw [if_pos q]
        unfold f_Mo_cut_B10
        refine mis_go rfl ?_
        refine mcl_go (v := 0) rfl ?_
        rw [if_pos rfl]
        refine mgi_go rfl rfl ?_
        rw [if_pos q]
        rfl) ?_
    refine mis_go rfl ?_
    refine mcl_go (v := 0) rfl ?_
    rw [if_pos rfl, if_pos rfl]
    refine mal_go (w := (0 : Int32).toInt64) rfl (nt_in (by decide) (by decide)) rfl ?_
    rw [if_pos (by decide)]
  · apply Exists.intro
    unfold f_La_c2
    refine msl_go (v := xs 1) (nt_in (by decide) (by decide)) rfl ?_
    refine mcl_go (v := 1) (by
        unfold f_La_cut
        refine mis_go rfl ?_
        rw [show f_SF_cut 400 (hz u1 l1 fc1 fp1 fs1 u2 l2 fc2 fp2 fs2 fx) 0 (xs 1) = some (.inr 1, (hz u1 l1 fc1 fp1 fs1 u2 l2 fc2 fp2 fs2 fx)) by unfold f_SF_cut; rw [if_neg q]]) ?_
    refine msl_go (v := xs 1) (nt_in (by decide) (by decide)) rfl ?_
    refine mis_go rfl ?_
    refine mcl_go (v := 0) (by
        unfold f_Mo_cut
        rw [if_neg q]
        rfl) ?_
    refine mis_go rfl ?_
    refine mcl_go (v := 1) rfl ?_
    rw [if_pos rfl, if_neg (by decide)]
set_option maxHeartbeats 4000000 in
set_option maxRecDepth 100000 in
theorem pc_6 : ∃ h', f_La_c6 400 xs 6 (hz u1 l1 fc1 fp1 fs1 u2 l2 fc2 fp2 fs2 fx) 0 66 50 0 = some ((), h') := by
  by_cases q1 : xs 1 < 0
  · skip
    apply Exists.intro
    unfold f_La_c6
    refine msl_go (v := xs 1) (nt_in (by decide) (by decide)) rfl ?_
    refine mcl_go (v := 1) (by
        unfold f_La_budget
        refine mis_go rfl ?_
        rw [show f_SF_budget 400 (hz u1 l1 fc1 fp1 fs1 u2 l2 fc2 fp2 fs2 fx) 0 (xs 1) = some (.inr 1, (hz u1 l1 fc1 fp1 fs1 u2 l2 fc2 fp2 fs2 fx)) by unfold f_SF_budget; rw [if_pos q1]]) ?_
    refine msl_go (v := xs 1) (nt_in (by decide) (by decide)) rfl ?_
    refine mis_go rfl ?_
    refine mcl_go (v := 0) (by
        unfold f_Mo_budget
        refine mcl_go (pi_0 (Or.inl q1)) ?_
        rw [if_pos rfl]
        rfl) ?_
    refine mis_go rfl ?_
    refine mcl_go (v := 1) rfl ?_
    rw [if_pos rfl, if_neg (by decide)]
  · by_cases q2 : xs 1 ≤ 65536
    · have q3 : ¬ (65536 : Int32) < xs 1 := fun h => by rw [nt_lt] at h; rw [nt_le] at q2; omega
      apply Exists.intro
      unfold f_La_c6
      refine msl_go (v := xs 1) (nt_in (by decide) (by decide)) rfl ?_
      refine mcl_go (v := 0) (by
          unfold f_La_budget
          refine mis_go rfl ?_
          rw [show f_SF_budget 400 (hz u1 l1 fc1 fp1 fs1 u2 l2 fc2 fp2 fs2 fx) 0 (xs 1) = some (.inl 65536, ((hz u1 l1 fc1 fp1 fs1 u2 l2 fc2 fp2 fs2 fx)).set 0 (.inr (0, [.ref 1, .ref 3, .int 0, .int (xs 1), .ref 4, .ref 9, .ref 32, .ref 35, .ref 36, .ref 37, .ref 38, .ref 40, .ref 38, .int 0, .int (-1), .int (-1), .int (-1)]))) by unfold f_SF_budget; rw [if_neg q1, if_pos q2]; rfl]
          refine mls_go rfl (nt_in (by decide) (by decide)) rfl ?_
          rfl) ?_
      refine msl_go (v := xs 1) (nt_in (by decide) (by decide)) rfl ?_
      refine mis_go rfl ?_
      refine mcl_go (v := 65536) (by
          unfold f_Mo_budget
          refine mcl_go (pi_1 q1 q3) ?_
          rw [if_neg (by decide)]
          rfl) ?_
      refine mis_go rfl ?_
      refine mcl_go (v := 0) rfl ?_
      rw [if_pos rfl, if_pos rfl]
      refine mal_go (w := (65536 : Int32).toInt64) rfl (nt_in (by decide) (by decide)) rfl ?_
      rw [if_pos (by decide)]
    · have q3 : (65536 : Int32) < xs 1 := by rw [nt_lt]; rw [nt_le] at q2; omega
      apply Exists.intro
      unfold f_La_c6
      refine msl_go (v := xs 1) (nt_in (by decide) (by decide)) rfl ?_
      refine mcl_go (v := 1) (by
          unfold f_La_budget
          refine mis_go rfl ?_
          rw [show f_SF_budget 400 (hz u1 l1 fc1 fp1 fs1 u2 l2 fc2 fp2 fs2 fx) 0 (xs 1) = some (.inr 1, (hz u1 l1 fc1 fp1 fs1 u2 l2 fc2 fp2 fs2 fx)) by unfold f_SF_budget; rw [if_neg q1, if_neg q2]]) ?_
      refine msl_go (v := xs 1) (nt_in (by decide) (by decide)) rfl ?_
      refine mis_go rfl ?_
      refine mcl_go (v := 0) (by
          unfold f_Mo_budget
          refine mcl_go (pi_0 (Or.inr q3)) ?_
          rw [if_pos rfl]
          rfl) ?_
      refine mis_go rfl ?_
      refine mcl_go (v := 1) rfl ?_
      rw [if_pos rfl, if_neg (by decide)]
set_option maxHeartbeats 4000000 in
set_option maxRecDepth 100000 in
theorem nl {x y : Int32} : (¬ x ≤ y → y < x) ∧ (x ≤ y → ¬ y < x) := by
  rw [nt_le, nt_lt]
  omega
set_option maxHeartbeats 4000000 in
set_option maxRecDepth 100000 in
theorem sf_3 (x y : Int32) (a : ¬ x < 0) (b : x ≤ 4) (c : ¬ y < 0) (d : y ≤ 1) : ∃ h', f_SF_filter 400 (hz u1 l1 fc1 fp1 fs1 u2 l2 fc2 fp2 fs2 fx) 0 x y = some (.inl 1, h') ∧ h' = (((hz u1 l1 fc1 fp1 fs1 u2 l2 fc2 fp2 fs2 fx)).set 42 (.inr (6, [.int x, .int y, .int 1, .int 1, .int 8, .int 1]))).set 0 (.inr (0, [.ref 1, .ref 3, .int 1, .int 65536, .ref 4, .ref 9, .ref 32, .ref 35, .ref 36, .ref 37, .ref 38, .ref 40, .ref 38, .int 0, .int (-1), .int (-1), .int (-1)])) := by
  refine ⟨_, ?_, rfl⟩
  unfold f_SF_filter
  rw [if_neg a, if_pos b, if_neg c, if_pos d]
  refine mgi_go rfl rfl ?_
  refine mgr_go rfl rfl ?_
  refine mln_go (v := 8) rfl rfl ?_
  rw [if_pos (by decide)]
  refine mgr_go rfl rfl ?_
  refine mgi_go rfl rfl ?_
  refine mar_go (v := 42) rfl (nt_in (by decide) (by decide)) rfl ?_
  refine mis_go rfl ?_
  refine mcl_go rfl ?_
  refine mgi_go rfl rfl ?_
  refine mpt_go rfl (Nat.le_of_ble_eq_true rfl) rfl ?_
  refine mgi_go rfl rfl ?_
  rfl
set_option maxHeartbeats 4000000 in
set_option maxRecDepth 100000 in
theorem pc_3 : ∃ h', f_La_c3 400 xs 6 (hz u1 l1 fc1 fp1 fs1 u2 l2 fc2 fp2 fs2 fx) 0 66 50 0 = some ((), h') := by
  by_cases a : xs 1 < 0
  · skip
    apply Exists.intro
    unfold f_La_c3
    refine msl_go (v := xs 1) (nt_in (by decide) (by decide)) rfl ?_
    refine msl_go (v := xs 2) (nt_in (by decide) (by decide)) rfl ?_
    refine mcl_go (v := 1) (by
        unfold f_La_filter
        refine mis_go rfl ?_
        rw [show f_SF_filter 400 (hz u1 l1 fc1 fp1 fs1 u2 l2 fc2 fp2 fs2 fx) 0 (xs 1) (xs 2) = some (.inr 1, (hz u1 l1 fc1 fp1 fs1 u2 l2 fc2 fp2 fs2 fx)) by unfold f_SF_filter; rw [if_pos a]]) ?_
    refine msl_go (v := xs 1) (nt_in (by decide) (by decide)) rfl ?_
    refine msl_go (v := xs 2) (nt_in (by decide) (by decide)) rfl ?_
    refine mis_go rfl ?_
    refine mcl_go (v := 0) (by
        unfold f_Mo_filter
        refine mcl_go (pi_0 (Or.inl a)) ?_
        rw [if_pos rfl]
        rfl) ?_
    refine mis_go rfl ?_
    refine mcl_go (v := 1) rfl ?_
    rw [if_pos rfl, if_neg (by decide)]
  · by_cases b : xs 1 ≤ 4
    · by_cases c : xs 2 < 0
      · skip
        apply Exists.intro
        unfold f_La_c3
        refine msl_go (v := xs 1) (nt_in (by decide) (by decide)) rfl ?_
        refine msl_go (v := xs 2) (nt_in (by decide) (by decide)) rfl ?_
        refine mcl_go (v := 1) (by
            unfold f_La_filter
            refine mis_go rfl ?_
            rw [show f_SF_filter 400 (hz u1 l1 fc1 fp1 fs1 u2 l2 fc2 fp2 fs2 fx) 0 (xs 1) (xs 2) = some (.inr 1, (hz u1 l1 fc1 fp1 fs1 u2 l2 fc2 fp2 fs2 fx)) by unfold f_SF_filter; rw [if_neg a, if_pos b, if_pos c]]) ?_
        refine msl_go (v := xs 1) (nt_in (by decide) (by decide)) rfl ?_
        refine msl_go (v := xs 2) (nt_in (by decide) (by decide)) rfl ?_
        refine mis_go rfl ?_
        refine mcl_go (v := 0) (by
            unfold f_Mo_filter
            refine mcl_go (pi_1 a (nl.2 b)) ?_
            rw [if_neg (by decide)]
            refine mcl_go (pi_0 (Or.inl c)) ?_
            rw [if_pos rfl]
            rfl) ?_
        refine mis_go rfl ?_
        refine mcl_go (v := 1) rfl ?_
        rw [if_pos rfl, if_neg (by decide)]
      · by_cases d : xs 2 ≤ 1
        · obtain ⟨h3, e3, rfl⟩ := sf_3 u1 l1 fc1 fp1 fs1 u2 l2 fc2 fp2 fs2 fx (xs 1) (xs 2) a b c d
          apply Exists.intro
          unfold f_La_c3
          refine msl_go (v := xs 1) (nt_in (by decide) (by decide)) rfl ?_
          refine msl_go (v := xs 2) (nt_in (by decide) (by decide)) rfl ?_
          refine mcl_go (v := 0) (by
              unfold f_La_filter
              refine mis_go rfl ?_
              rw [e3]
              refine mls_go rfl (nt_in (by decide) (by decide)) rfl ?_
              rfl) ?_
          refine msl_go (v := xs 1) (nt_in (by decide) (by decide)) rfl ?_
          refine msl_go (v := xs 2) (nt_in (by decide) (by decide)) rfl ?_
          refine mis_go rfl ?_
          refine mcl_go (v := 1) (by
              unfold f_Mo_filter
              refine mcl_go (pi_1 a (nl.2 b)) ?_
              rw [if_neg (by decide)]
              refine mcl_go (pi_1 c (nl.2 d)) ?_
              rw [if_neg (by decide)]
              refine mgi_go rfl rfl ?_
              rw [if_neg (by decide)]
              rfl) ?_
          refine mis_go rfl ?_
          refine mcl_go (v := 0) rfl ?_
          rw [if_pos rfl, if_pos rfl]
          refine mal_go (w := (1 : Int32).toInt64) rfl (nt_in (by decide) (by decide)) rfl ?_
          rw [if_pos (by decide)]
        · skip
          apply Exists.intro
          unfold f_La_c3
          refine msl_go (v := xs 1) (nt_in (by decide) (by decide)) rfl ?_
          refine msl_go (v := xs 2) (nt_in (by decide) (by decide)) rfl ?_
          refine mcl_go (v := 1) (by
              unfold f_La_filter
              refine mis_go rfl ?_
              rw [show f_SF_filter 400 (hz u1 l1 fc1 fp1 fs1 u2 l2 fc2 fp2 fs2 fx) 0 (xs 1) (xs 2) = some (.inr 1, (hz u1 l1 fc1 fp1 fs1 u2 l2 fc2 fp2 fs2 fx)) by unfold f_SF_filter; rw [if_neg a, if_pos b, if_neg c, if_neg d]]) ?_
          refine msl_go (v := xs 1) (nt_in (by decide) (by decide)) rfl ?_
          refine msl_go (v := xs 2) (nt_in (by decide) (by decide)) rfl ?_
          refine mis_go rfl ?_
          refine mcl_go (v := 0) (by
              unfold f_Mo_filter
              refine mcl_go (pi_1 a (nl.2 b)) ?_
              rw [if_neg (by decide)]
              refine mcl_go (pi_0 (Or.inr (nl.1 d))) ?_
              rw [if_pos rfl]
              rfl) ?_
          refine mis_go rfl ?_
          refine mcl_go (v := 1) rfl ?_
          rw [if_pos rfl, if_neg (by decide)]
    · skip
      apply Exists.intro
      unfold f_La_c3
      refine msl_go (v := xs 1) (nt_in (by decide) (by decide)) rfl ?_
      refine msl_go (v := xs 2) (nt_in (by decide) (by decide)) rfl ?_
      refine mcl_go (v := 1) (by
          unfold f_La_filter
          refine mis_go rfl ?_
          rw [show f_SF_filter 400 (hz u1 l1 fc1 fp1 fs1 u2 l2 fc2 fp2 fs2 fx) 0 (xs 1) (xs 2) = some (.inr 1, (hz u1 l1 fc1 fp1 fs1 u2 l2 fc2 fp2 fs2 fx)) by unfold f_SF_filter; rw [if_neg a, if_neg b]]) ?_
      refine msl_go (v := xs 1) (nt_in (by decide) (by decide)) rfl ?_
      refine msl_go (v := xs 2) (nt_in (by decide) (by decide)) rfl ?_
      refine mis_go rfl ?_
      refine mcl_go (v := 0) (by
          unfold f_Mo_filter
          refine mcl_go (pi_0 (Or.inr (nl.1 b))) ?_
          rw [if_pos rfl]
          rfl) ?_
      refine mis_go rfl ?_
      refine mcl_go (v := 1) rfl ?_
      rw [if_pos rfl, if_neg (by decide)]
def pK (p : Int32) : Prop := (¬ p < 1 ∧ ¬ 2 < p) ∨ (¬ p < 10 ∧ ¬ 15 < p)
def pB (b : Int32) : Prop := b = 1 ∨ b = 2 ∨ b = 4 ∨ b = 8 ∨ b = 16
theorem pK_12 {p : Int32} : (¬ p < 1 ∧ ¬ 2 < p) ↔ (p = 1 ∨ p = 2) := by
  have e1 : (1 : Int32).toInt = 1 := rfl
  have e2 : (2 : Int32).toInt = 2 := rfl
  rw [nt_lt, nt_lt, ← Int32.toInt_inj, ← Int32.toInt_inj]
  omega
theorem sK_1 {h : mH} {p : Int32} (k : pK p) : f_SF_isPredictor 400 h p = some (1, h) := by
  unfold f_SF_isPredictor
  by_cases q1 : p = 1
  · rw [if_pos q1]
  · rw [if_neg q1]
    by_cases q2 : p = 2
    · rw [if_pos q2]
    · rw [if_neg q2]
      rcases k with k | k
      · exact absurd (pK_12.mp k) (fun h => h.elim q1 q2)
      · rw [if_neg k.1, if_neg k.2]
theorem sK_0 {h : mH} {p : Int32} (k : ¬ pK p) : f_SF_isPredictor 400 h p = some (0, h) := by
  unfold f_SF_isPredictor
  by_cases q1 : p = 1
  · exact absurd (Or.inl (pK_12.mpr (Or.inl q1))) k
  · rw [if_neg q1]
    by_cases q2 : p = 2
    · exact absurd (Or.inl (pK_12.mpr (Or.inr q2))) k
    · rw [if_neg q2]
      by_cases q3 : p < 10
      · rw [if_pos q3]
      · rw [if_neg q3]
        by_cases q4 : 15 < p
        · rw [if_pos q4]
        · exact absurd (Or.inr ⟨q3, q4⟩) k
theorem sB_1 {h : mH} {b : Int32} (k : pB b) : f_SF_isBits 400 h b = some (1, h) := by
  unfold f_SF_isBits
  rcases k with rfl | rfl | rfl | rfl | rfl <;> rfl
theorem sB_0 {h : mH} {b : Int32} (k : ¬ pB b) : f_SF_isBits 400 h b = some (0, h) := by
  unfold f_SF_isBits
  rw [if_neg (fun q => k (Or.inl q)), if_neg (fun q => k (Or.inr (Or.inl q))), if_neg (fun q => k (Or.inr (Or.inr (Or.inl q)))), if_neg (fun q => k (Or.inr (Or.inr (Or.inr (Or.inl q))))), if_neg (fun q => k (Or.inr (Or.inr (Or.inr (Or.inr q)))))]
theorem mK_1 {h : mH} {a0 : Nat} {p c b d : Int32} (k : pK p) : f_Mo_predict 400 h a0 p c b d = f_Mo_predict_B25 400 h a0 p c b d 1 := by
  unfold f_Mo_predict
  by_cases q : ¬ p < 1 ∧ ¬ 2 < p
  · refine mcl_go (pi_1 q.1 q.2) ?_
    rw [if_neg (by decide)]
    rfl
  · have q' : p < 1 ∨ 2 < p := by
      by_cases z : p < 1
      · exact Or.inl z
      · exact Or.inr (Classical.byContradiction fun y => q ⟨z, y⟩)
    refine mcl_go (pi_0 q') ?_
    rw [if_pos rfl]
    have k2 := k.resolve_left q
    refine mcl_go (pi_1 k2.1 k2.2) ?_
    rw [if_neg (by decide)]
    rfl
theorem mK_0 {h : mH} {a0 : Nat} {p c b d : Int32} (k : ¬ pK p) : f_Mo_predict 400 h a0 p c b d = f_Mo_predict_B25 400 h a0 p c b d 0 := by
  unfold f_Mo_predict
  have q' : p < 1 ∨ 2 < p := by
    by_cases z : p < 1
    · exact Or.inl z
    · exact Or.inr (Classical.byContradiction fun y => k (Or.inl ⟨z, y⟩))
  have q2 : p < 10 ∨ 15 < p := by
    by_cases z : p < 10
    · exact Or.inl z
    · exact Or.inr (Classical.byContradiction fun y => k (Or.inr ⟨z, y⟩))
  refine mcl_go (pi_0 q') ?_
  rw [if_pos rfl]
  refine mcl_go (pi_0 q2) ?_
  rw [if_pos rfl]
theorem mB_1 {h : mH} {a0 : Nat} {p c b d j : Int32} (k : pB b) : f_Mo_predict_B25 400 h a0 p c b d j = f_Mo_predict_B59 400 h a0 p c b d j 1 := by
  unfold f_Mo_predict_B25
  rcases k with rfl | rfl | rfl | rfl | rfl <;> rfl
theorem mB_0 {h : mH} {a0 : Nat} {p c b d j : Int32} (k : ¬ pB b) : f_Mo_predict_B25 400 h a0 p c b d j = f_Mo_predict_B59 400 h a0 p c b d j 0 := by
  unfold f_Mo_predict_B25
  rw [if_neg (fun q => k (Or.inl q)), if_neg (fun q => k (Or.inr (Or.inl q))), if_neg (fun q => k (Or.inr (Or.inr (Or.inl q)))), if_neg (fun q => k (Or.inr (Or.inr (Or.inr (Or.inl q))))), if_neg (fun q => k (Or.inr (Or.inr (Or.inr (Or.inr q)))))]
theorem m5_1 {h : mH} {a0 : Nat} {p c b d : Int32} (c1 : ¬ c < 1) (c2 : ¬ 8 < c) (d1 : ¬ d < 1) (d2 : ¬ 4096 < d) : f_Mo_predict_B59 400 h a0 p c b d 1 1 = f_Mo_predict_B98 400 h a0 p c b d 1 := by
  unfold f_Mo_predict_B59
  rw [if_neg (by decide), if_neg (by decide)]
  refine mcl_go (pi_1 c1 c2) ?_
  rw [if_neg (by decide)]
  refine mcl_go (pi_1 d1 d2) ?_
  rw [if_neg (by decide)]
theorem m5_j {h : mH} {a0 : Nat} {p c b d j : Int32} : f_Mo_predict_B59 400 h a0 p c b d 0 j = f_Mo_predict_B98 400 h a0 p c b d 0 := by
  unfold f_Mo_predict_B59
  rw [if_pos rfl]
  rfl
theorem m5_k {h : mH} {a0 : Nat} {p c b d j : Int32} : f_Mo_predict_B59 400 h a0 p c b d j 0 = f_Mo_predict_B98 400 h a0 p c b d 0 := by
  unfold f_Mo_predict_B59
  by_cases q : j = 0
  · rw [if_pos q]; rfl
  · rw [if_neg q, if_pos rfl]; rfl
theorem m5_c {h : mH} {a0 : Nat} {p c b d : Int32} (q : c < 1 ∨ 8 < c) : f_Mo_predict_B59 400 h a0 p c b d 1 1 = f_Mo_predict_B98 400 h a0 p c b d 0 := by
  unfold f_Mo_predict_B59
  rw [if_neg (by decide), if_neg (by decide)]
  refine mcl_go (pi_0 q) ?_
  rw [if_pos rfl]
  rfl
theorem m5_d {h : mH} {a0 : Nat} {p c b d : Int32} (q : d < 1 ∨ 4096 < d) : f_Mo_predict_B59 400 h a0 p c b d 1 1 = f_Mo_predict_B98 400 h a0 p c b d 0 := by
  by_cases qc : c < 1 ∨ 8 < c
  · exact m5_c qc
  · have c1 : ¬ c < 1 := fun z => qc (Or.inl z)
    have c2 : ¬ 8 < c := fun z => qc (Or.inr z)
    unfold f_Mo_predict_B59
    rw [if_neg (by decide), if_neg (by decide)]
    refine mcl_go (pi_1 c1 c2) ?_
    rw [if_neg (by decide)]
    refine mcl_go (pi_0 q) ?_
    rw [if_pos rfl]
    rfl
theorem m_uns {h : mH} {a0 : Nat} {p c b d : Int32} (q : ¬ pK p ∨ ¬ pB b ∨ (c < 1 ∨ 8 < c) ∨ (d < 1 ∨ 4096 < d)) : f_Mo_predict 400 h a0 p c b d = f_Mo_predict_B98 400 h a0 p c b d 0 := by
  by_cases k : pK p
  · rw [mK_1 k]
    by_cases kb : pB b
    · rw [mB_1 kb]
      rcases q with q | q | q | q
      · exact absurd k q
      · exact absurd kb q
      · exact m5_c q
      · exact m5_d q
    · rw [mB_0 kb]
      exact m5_k
  · rw [mK_0 k]
    by_cases kb : pB b
    · rw [mB_1 kb]; exact m5_j
    · rw [mB_0 kb]; exact m5_j
set_option maxHeartbeats 4000000 in
set_option maxRecDepth 100000 in
theorem pc_4 : ∃ h', f_La_c4 400 xs 6 (hz u1 l1 fc1 fp1 fs1 u2 l2 fc2 fp2 fs2 fx) 0 66 50 0 = some ((), h') := by
  by_cases k : pK (xs 1)
  · by_cases c1 : xs 2 < 1
    · skip
      apply Exists.intro
      unfold f_La_c4
      refine msl_go (v := xs 1) (nt_in (by decide) (by decide)) rfl ?_
      refine msl_go (v := xs 2) (nt_in (by decide) (by decide)) rfl ?_
      refine msl_go (v := xs 3) (nt_in (by decide) (by decide)) rfl ?_
      refine msl_go (v := xs 4) (nt_in (by decide) (by decide)) rfl ?_
      refine mcl_go (v := 1) (by
          unfold f_La_predict
          refine mis_go rfl ?_
          rw [show f_SF_predict 400 (hz u1 l1 fc1 fp1 fs1 u2 l2 fc2 fp2 fs2 fx) 0 (xs 1) (xs 2) (xs 3) (xs 4) = some (.inr 1, (hz u1 l1 fc1 fp1 fs1 u2 l2 fc2 fp2 fs2 fx)) by
              unfold f_SF_predict
              refine mcl_go (sK_1 k) ?_
              rw [if_neg (by decide), if_pos c1]]) ?_
      refine msl_go (v := xs 1) (nt_in (by decide) (by decide)) rfl ?_
      refine msl_go (v := xs 2) (nt_in (by decide) (by decide)) rfl ?_
      refine msl_go (v := xs 3) (nt_in (by decide) (by decide)) rfl ?_
      refine msl_go (v := xs 4) (nt_in (by decide) (by decide)) rfl ?_
      refine mis_go rfl ?_
      refine mcl_go (v := ()) (by
          rw [m_uns (Or.inr (Or.inr (Or.inl (Or.inl c1))))]
          rfl) ?_
      refine mis_go rfl ?_
      refine mcl_go (v := 1) rfl ?_
      rw [if_pos rfl]
    · by_cases c2 : 8 < xs 2
      · skip
        apply Exists.intro
        unfold f_La_c4
        refine msl_go (v := xs 1) (nt_in (by decide) (by decide)) rfl ?_
        refine msl_go (v := xs 2) (nt_in (by decide) (by decide)) rfl ?_
        refine msl_go (v := xs 3) (nt_in (by decide) (by decide)) rfl ?_
        refine msl_go (v := xs 4) (nt_in (by decide) (by decide)) rfl ?_
        refine mcl_go (v := 1) (by
            unfold f_La_predict
            refine mis_go rfl ?_
            rw [show f_SF_predict 400 (hz u1 l1 fc1 fp1 fs1 u2 l2 fc2 fp2 fs2 fx) 0 (xs 1) (xs 2) (xs 3) (xs 4) = some (.inr 1, (hz u1 l1 fc1 fp1 fs1 u2 l2 fc2 fp2 fs2 fx)) by
                unfold f_SF_predict
                refine mcl_go (sK_1 k) ?_
                rw [if_neg (by decide), if_neg c1, if_pos c2]]) ?_
        refine msl_go (v := xs 1) (nt_in (by decide) (by decide)) rfl ?_
        refine msl_go (v := xs 2) (nt_in (by decide) (by decide)) rfl ?_
        refine msl_go (v := xs 3) (nt_in (by decide) (by decide)) rfl ?_
        refine msl_go (v := xs 4) (nt_in (by decide) (by decide)) rfl ?_
        refine mis_go rfl ?_
        refine mcl_go (v := ()) (by
            rw [m_uns (Or.inr (Or.inr (Or.inl (Or.inr c2))))]
            rfl) ?_
        refine mis_go rfl ?_
        refine mcl_go (v := 1) rfl ?_
        rw [if_pos rfl]
      · by_cases b : pB (xs 3)
        · by_cases d1 : xs 4 < 1
          · skip
            apply Exists.intro
            unfold f_La_c4
            refine msl_go (v := xs 1) (nt_in (by decide) (by decide)) rfl ?_
            refine msl_go (v := xs 2) (nt_in (by decide) (by decide)) rfl ?_
            refine msl_go (v := xs 3) (nt_in (by decide) (by decide)) rfl ?_
            refine msl_go (v := xs 4) (nt_in (by decide) (by decide)) rfl ?_
            refine mcl_go (v := 1) (by
                unfold f_La_predict
                refine mis_go rfl ?_
                rw [show f_SF_predict 400 (hz u1 l1 fc1 fp1 fs1 u2 l2 fc2 fp2 fs2 fx) 0 (xs 1) (xs 2) (xs 3) (xs 4) = some (.inr 1, (hz u1 l1 fc1 fp1 fs1 u2 l2 fc2 fp2 fs2 fx)) by
                    unfold f_SF_predict
                    refine mcl_go (sK_1 k) ?_
                    rw [if_neg (by decide), if_neg c1, if_neg c2]
                    refine mcl_go (sB_1 b) ?_
                    rw [if_neg (by decide), if_pos d1]]) ?_
            refine msl_go (v := xs 1) (nt_in (by decide) (by decide)) rfl ?_
            refine msl_go (v := xs 2) (nt_in (by decide) (by decide)) rfl ?_
            refine msl_go (v := xs 3) (nt_in (by decide) (by decide)) rfl ?_
            refine msl_go (v := xs 4) (nt_in (by decide) (by decide)) rfl ?_
            refine mis_go rfl ?_
            refine mcl_go (v := ()) (by
                rw [m_uns (Or.inr (Or.inr (Or.inr (Or.inl d1))))]
                rfl) ?_
            refine mis_go rfl ?_
            refine mcl_go (v := 1) rfl ?_
            rw [if_pos rfl]
          · by_cases d2 : xs 4 ≤ 4096
            · skip
              apply Exists.intro
              unfold f_La_c4
              refine msl_go (v := xs 1) (nt_in (by decide) (by decide)) rfl ?_
              refine msl_go (v := xs 2) (nt_in (by decide) (by decide)) rfl ?_
              refine msl_go (v := xs 3) (nt_in (by decide) (by decide)) rfl ?_
              refine msl_go (v := xs 4) (nt_in (by decide) (by decide)) rfl ?_
              refine mcl_go (v := 2) (by
                  unfold f_La_predict
                  refine mis_go rfl ?_
                  rw [show f_SF_predict 400 (hz u1 l1 fc1 fp1 fs1 u2 l2 fc2 fp2 fs2 fx) 0 (xs 1) (xs 2) (xs 3) (xs 4) = some (.inr 2, (hz u1 l1 fc1 fp1 fs1 u2 l2 fc2 fp2 fs2 fx)) by
                      unfold f_SF_predict
                      refine mcl_go (sK_1 k) ?_
                      rw [if_neg (by decide), if_neg c1, if_neg c2]
                      refine mcl_go (sB_1 b) ?_
                      rw [if_neg (by decide), if_neg d1, if_pos d2]
                      refine mgi_go rfl rfl ?_
                      rw [if_pos (by decide)]]) ?_
              refine msl_go (v := xs 1) (nt_in (by decide) (by decide)) rfl ?_
              refine msl_go (v := xs 2) (nt_in (by decide) (by decide)) rfl ?_
              refine msl_go (v := xs 3) (nt_in (by decide) (by decide)) rfl ?_
              refine msl_go (v := xs 4) (nt_in (by decide) (by decide)) rfl ?_
              refine mis_go rfl ?_
              refine mcl_go (v := ()) (by
                  rw [mK_1 k, mB_1 b, m5_1 c1 c2 d1 (nl.2 d2)]
                  rfl) ?_
              refine mis_go rfl ?_
              refine mcl_go (v := 2) rfl ?_
              rw [if_pos rfl]
            · skip
              apply Exists.intro
              unfold f_La_c4
              refine msl_go (v := xs 1) (nt_in (by decide) (by decide)) rfl ?_
              refine msl_go (v := xs 2) (nt_in (by decide) (by decide)) rfl ?_
              refine msl_go (v := xs 3) (nt_in (by decide) (by decide)) rfl ?_
              refine msl_go (v := xs 4) (nt_in (by decide) (by decide)) rfl ?_
              refine mcl_go (v := 1) (by
                  unfold f_La_predict
                  refine mis_go rfl ?_
                  rw [show f_SF_predict 400 (hz u1 l1 fc1 fp1 fs1 u2 l2 fc2 fp2 fs2 fx) 0 (xs 1) (xs 2) (xs 3) (xs 4) = some (.inr 1, (hz u1 l1 fc1 fp1 fs1 u2 l2 fc2 fp2 fs2 fx)) by
                      unfold f_SF_predict
                      refine mcl_go (sK_1 k) ?_
                      rw [if_neg (by decide), if_neg c1, if_neg c2]
                      refine mcl_go (sB_1 b) ?_
                      rw [if_neg (by decide), if_neg d1, if_neg d2]]) ?_
              refine msl_go (v := xs 1) (nt_in (by decide) (by decide)) rfl ?_
              refine msl_go (v := xs 2) (nt_in (by decide) (by decide)) rfl ?_
              refine msl_go (v := xs 3) (nt_in (by decide) (by decide)) rfl ?_
              refine msl_go (v := xs 4) (nt_in (by decide) (by decide)) rfl ?_
              refine mis_go rfl ?_
              refine mcl_go (v := ()) (by
                  rw [m_uns (Or.inr (Or.inr (Or.inr (Or.inr (nl.1 d2)))))]
                  rfl) ?_
              refine mis_go rfl ?_
              refine mcl_go (v := 1) rfl ?_
              rw [if_pos rfl]
        · skip
          apply Exists.intro
          unfold f_La_c4
          refine msl_go (v := xs 1) (nt_in (by decide) (by decide)) rfl ?_
          refine msl_go (v := xs 2) (nt_in (by decide) (by decide)) rfl ?_
          refine msl_go (v := xs 3) (nt_in (by decide) (by decide)) rfl ?_
          refine msl_go (v := xs 4) (nt_in (by decide) (by decide)) rfl ?_
          refine mcl_go (v := 1) (by
              unfold f_La_predict
              refine mis_go rfl ?_
              rw [show f_SF_predict 400 (hz u1 l1 fc1 fp1 fs1 u2 l2 fc2 fp2 fs2 fx) 0 (xs 1) (xs 2) (xs 3) (xs 4) = some (.inr 1, (hz u1 l1 fc1 fp1 fs1 u2 l2 fc2 fp2 fs2 fx)) by
                  unfold f_SF_predict
                  refine mcl_go (sK_1 k) ?_
                  rw [if_neg (by decide), if_neg c1, if_neg c2]
                  refine mcl_go (sB_0 b) ?_
                  rw [if_pos rfl]]) ?_
          refine msl_go (v := xs 1) (nt_in (by decide) (by decide)) rfl ?_
          refine msl_go (v := xs 2) (nt_in (by decide) (by decide)) rfl ?_
          refine msl_go (v := xs 3) (nt_in (by decide) (by decide)) rfl ?_
          refine msl_go (v := xs 4) (nt_in (by decide) (by decide)) rfl ?_
          refine mis_go rfl ?_
          refine mcl_go (v := ()) (by
              rw [m_uns (Or.inr (Or.inl b))]
              rfl) ?_
          refine mis_go rfl ?_
          refine mcl_go (v := 1) rfl ?_
          rw [if_pos rfl]
  · skip
    apply Exists.intro
    unfold f_La_c4
    refine msl_go (v := xs 1) (nt_in (by decide) (by decide)) rfl ?_
    refine msl_go (v := xs 2) (nt_in (by decide) (by decide)) rfl ?_
    refine msl_go (v := xs 3) (nt_in (by decide) (by decide)) rfl ?_
    refine msl_go (v := xs 4) (nt_in (by decide) (by decide)) rfl ?_
    refine mcl_go (v := 1) (by
        unfold f_La_predict
        refine mis_go rfl ?_
        rw [show f_SF_predict 400 (hz u1 l1 fc1 fp1 fs1 u2 l2 fc2 fp2 fs2 fx) 0 (xs 1) (xs 2) (xs 3) (xs 4) = some (.inr 1, (hz u1 l1 fc1 fp1 fs1 u2 l2 fc2 fp2 fs2 fx)) by
            unfold f_SF_predict
            refine mcl_go (sK_0 k) ?_
            rw [if_pos rfl]]) ?_
    refine msl_go (v := xs 1) (nt_in (by decide) (by decide)) rfl ?_
    refine msl_go (v := xs 2) (nt_in (by decide) (by decide)) rfl ?_
    refine msl_go (v := xs 3) (nt_in (by decide) (by decide)) rfl ?_
    refine msl_go (v := xs 4) (nt_in (by decide) (by decide)) rfl ?_
    refine mis_go rfl ?_
    refine mcl_go (v := ()) (by
        rw [m_uns (Or.inl k)]
        rfl) ?_
    refine mis_go rfl ?_
    refine mcl_go (v := 1) rfl ?_
    rw [if_pos rfl]
set_option maxHeartbeats 4000000 in
set_option maxRecDepth 100000 in
theorem pure_step : ∃ h', f_La_step 400 xs 6 (hz u1 l1 fc1 fp1 fs1 u2 l2 fc2 fp2 fs2 fx) 0 66 50 0 = some ((), h') := by
  unfold f_La_step
  rw [msl_ev (nt_in (by decide) (by decide)), mnm_ev]
  by_cases q0 : xs (0 : Int32).toNatClampNeg &&& 15 = 0
  · rw [if_pos q0]; exact pc_0 u1 l1 fc1 fp1 fs1 u2 l2 fc2 fp2 fs2 fx
  · rw [if_neg q0]
    by_cases q1 : xs (0 : Int32).toNatClampNeg &&& 15 = 1
    · rw [if_pos q1]; exact pc_1 u1 l1 fc1 fp1 fs1 u2 l2 fc2 fp2 fs2 fx
    · rw [if_neg q1]
      by_cases q2 : xs (0 : Int32).toNatClampNeg &&& 15 = 2
      · rw [if_pos q2]; exact pc_2 u1 l1 fc1 fp1 fs1 u2 l2 fc2 fp2 fs2 fx
      · rw [if_neg q2]
        by_cases q3 : xs (0 : Int32).toNatClampNeg &&& 15 = 3
        · rw [if_pos q3]; exact pc_3 u1 l1 fc1 fp1 fs1 u2 l2 fc2 fp2 fs2 fx
        · rw [if_neg q3]
          by_cases q4 : xs (0 : Int32).toNatClampNeg &&& 15 = 4
          · rw [if_pos q4]; exact pc_4 u1 l1 fc1 fp1 fs1 u2 l2 fc2 fp2 fs2 fx
          · rw [if_neg q4]
            by_cases q5 : xs (0 : Int32).toNatClampNeg &&& 15 = 5
            · rw [if_pos q5]; exact pc_5 u1 l1 fc1 fp1 fs1 u2 l2 fc2 fp2 fs2 fx
            · rw [if_neg q5]
              by_cases q6 : xs (0 : Int32).toNatClampNeg &&& 15 = 6
              · rw [if_pos q6]; exact pc_6 u1 l1 fc1 fp1 fs1 u2 l2 fc2 fp2 fs2 fx
              · rw [if_neg q6]
                by_cases q7 : xs (0 : Int32).toNatClampNeg &&& 15 = 7
                · rw [if_pos q7]; exact pc_7 u1 l1 fc1 fp1 fs1 u2 l2 fc2 fp2 fs2 fx
                · rw [if_neg q7]
                  by_cases q8 : xs (0 : Int32).toNatClampNeg &&& 15 = 8
                  · rw [if_pos q8]; exact pc_8 u1 l1 fc1 fp1 fs1 u2 l2 fc2 fp2 fs2 fx
                  · rw [if_neg q8]
                    by_cases q9 : xs (0 : Int32).toNatClampNeg &&& 15 = 9
                    · rw [if_pos q9]; exact pc_9 u1 l1 fc1 fp1 fs1 u2 l2 fc2 fp2 fs2 fx
                    · rw [if_neg q9]
                      by_cases q10 : xs (0 : Int32).toNatClampNeg &&& 15 = 10
                      · rw [if_pos q10]; exact pc_10 u1 l1 fc1 fp1 fs1 u2 l2 fc2 fp2 fs2 fx
                      · rw [if_neg q10]
                        exact ⟨_, rfl⟩
set_option maxHeartbeats 4000000 in
set_option maxRecDepth 100000 in
theorem pure_law {L : Nat} (hL : L ≤ 6) : ∃ h', f_La_loop 400 xs L 66 50 0 2 (hz u1 l1 fc1 fp1 fs1 u2 l2 fc2 fp2 fs2 fx) 0 = some ((), h') := by
  rcases (show L = 0 ∨ L = 1 ∨ L = 2 ∨ L = 3 ∨ L = 4 ∨ L = 5 ∨ L = 6 by omega) with rfl | rfl | rfl | rfl | rfl | rfl | rfl
  · exact ⟨_, by rw [f_La_loop.eq_2, if_pos (by decide)]⟩
  · exact ⟨_, by rw [f_La_loop.eq_2, if_pos (by decide)]⟩
  · exact ⟨_, by rw [f_La_loop.eq_2, if_pos (by decide)]⟩
  · exact ⟨_, by rw [f_La_loop.eq_2, if_pos (by decide)]⟩
  · exact ⟨_, by rw [f_La_loop.eq_2, if_pos (by decide)]⟩
  · exact ⟨_, by rw [f_La_loop.eq_2, if_pos (by decide)]⟩
  · obtain ⟨h1, e1⟩ := pure_step (xs := xs) u1 l1 fc1 fp1 fs1 u2 l2 fc2 fp2 fs2 fx
    refine ⟨h1, ?_⟩
    rw [f_La_loop.eq_2, if_neg (by decide)]
    refine mcl_go e1 ?_
    refine mnm_go ?_
    rw [f_La_loop.eq_2, if_pos (by decide)]
end mFresh
