section mFresh
variable {xs : Nat → Int32} (u1 l1 : Int32) (fc1 fp1 fs1 : Nat → Int32) (u2 l2 : Int32) (fc2 fp2 fs2 fx : Nat → Int32)
set_option maxHeartbeats 4000000 in
set_option maxRecDepth 100000 in
theorem nl {x y : Int32} : (¬ x ≤ y → y < x) ∧ (x ≤ y → ¬ y < x) := by
  rw [nt_le, nt_lt]
  omega
set_option maxHeartbeats 4000000 in
set_option maxRecDepth 100000 in
theorem sf_3 (x y : Int32) (a : ¬ x < 0) (b : x ≤ 4) (c : ¬ y < 0) (d : y ≤ 1) : ∃ h', f_SF_filter 400 (hz u1 l1 fc1 fp1 fs1 u2 l2 fc2 fp2 fs2 fx) 0 x y = some (.inl 1, h') ∧ h' = (((hz u1 l1 fc1 fp1 fs1 u2 l2 fc2 fp2 fs2 fx)).set 42 (.inr (6, [.int x, .int y, .int 1, .int 1, .int 8, .int 1]))).set 0 (.inr (0, [.ref 1, .ref 3, .int 1, .int 65536, .ref 4, .ref 9, .ref 32, .ref 35, .ref 36, .ref 37, .ref 38, .ref 40, .ref 38, .int 0, .int (-1), .int (-1), .int (-1)])) := by
  refine ⟨_, ?_, rfl⟩
  unfold f_SF_filter
  rw [if_neg a, if_pos b, if_neg c, if_pos d]
  refine mgi_go rfl rfl ?_
  refine mgr_go rfl rfl ?_
  refine mln_go (v := 8) rfl rfl ?_
  rw [if_pos (by decide)]
  refine mgr_go rfl rfl ?_
  refine mgi_go rfl rfl ?_
  refine mar_go (v := 42) rfl (nt_in (by decide) (by decide)) rfl ?_
  refine mis_go rfl ?_
  refine mcl_go rfl ?_
  refine mgi_go rfl rfl ?_
  refine mpt_go rfl (Nat.le_of_ble_eq_true rfl) rfl ?_
  refine mgi_go rfl rfl ?_
  rfl
set_option maxHeartbeats 4000000 in
set_option maxRecDepth 100000 in
theorem pc_3 : ∃ h', f_La_c3 400 xs 6 (hz u1 l1 fc1 fp1 fs1 u2 l2 fc2 fp2 fs2 fx) 0 66 50 0 = some ((), h') := by
  by_cases a : xs 1 < 0
  · skip
    apply Exists.intro
    unfold f_La_c3
    refine msl_go (v := xs 1) (nt_in (by decide) (by decide)) rfl ?_
    refine msl_go (v := xs 2) (nt_in (by decide) (by decide)) rfl ?_
    refine mcl_go (v := 1) (by
        unfold f_La_filter
        refine mis_go rfl ?_
        rw [show f_SF_filter 400 (hz u1 l1 fc1 fp1 fs1 u2 l2 fc2 fp2 fs2 fx) 0 (xs 1) (xs 2) = some (.inr 1, (hz u1 l1 fc1 fp1 fs1 u2 l2 fc2 fp2 fs2 fx)) by unfold f_SF_filter; rw [if_pos a]]
        rfl) ?_
    refine msl_go (v := xs 1) (nt_in (by decide) (by decide)) rfl ?_
    refine msl_go (v := xs 2) (nt_in (by decide) (by decide)) rfl ?_
    refine mis_go rfl ?_
    refine mcl_go (v := 0) (by
        unfold f_Mo_filter
        refine mcl_go (pi_0 (Or.inl a)) ?_
        rw [if_pos rfl]
        rfl) ?_
    refine mis_go rfl ?_
    refine mcl_go (v := 1) rfl ?_
    rw [if_pos rfl, if_neg (by decide)]
  · by_cases b : xs 1 ≤ 4
    · by_cases c : xs 2 < 0
      · skip
        apply Exists.intro
        unfold f_La_c3
        refine msl_go (v := xs 1) (nt_in (by decide) (by decide)) rfl ?_
        refine msl_go (v := xs 2) (nt_in (by decide) (by decide)) rfl ?_
        refine mcl_go (v := 1) (by
            unfold f_La_filter
            refine mis_go rfl ?_
            rw [show f_SF_filter 400 (hz u1 l1 fc1 fp1 fs1 u2 l2 fc2 fp2 fs2 fx) 0 (xs 1) (xs 2) = some (.inr 1, (hz u1 l1 fc1 fp1 fs1 u2 l2 fc2 fp2 fs2 fx)) by unfold f_SF_filter; rw [if_neg a, if_pos b, if_pos c]]
            rfl) ?_
        refine msl_go (v := xs 1) (nt_in (by decide) (by decide)) rfl ?_
        refine msl_go (v := xs 2) (nt_in (by decide) (by decide)) rfl ?_
        refine mis_go rfl ?_
        refine mcl_go (v := 0) (by
            unfold f_Mo_filter
            refine mcl_go (pi_1 a (nl.2 b)) ?_
            rw [if_neg (by decide)]
            refine mcl_go (pi_0 (Or.inl c)) ?_
            rw [if_pos rfl]
            rfl) ?_
        refine mis_go rfl ?_
        refine mcl_go (v := 1) rfl ?_
        rw [if_pos rfl, if_neg (by decide)]
      · by_cases d : xs 2 ≤ 1
        · obtain ⟨h3, e3, rfl⟩ := sf_3 u1 l1 fc1 fp1 fs1 u2 l2 fc2 fp2 fs2 fx (xs 1) (xs 2) a b c d
          apply Exists.intro
          unfold f_La_c3
          refine msl_go (v := xs 1) (nt_in (by decide) (by decide)) rfl ?_
          refine msl_go (v := xs 2) (nt_in (by decide) (by decide)) rfl ?_
          refine mcl_go (v := 0) (by
              unfold f_La_filter
              refine mis_go rfl ?_
              rw [e3]
              refine mls_go rfl (nt_in (by decide) (by decide)) rfl ?_
              rfl) ?_
          refine msl_go (v := xs 1) (nt_in (by decide) (by decide)) rfl ?_
          refine msl_go (v := xs 2) (nt_in (by decide) (by decide)) rfl ?_
          refine mis_go rfl ?_
          refine mcl_go (v := 1) (by
              unfold f_Mo_filter
              refine mcl_go (pi_1 a (nl.2 b)) ?_
              rw [if_neg (by decide)]
              refine mcl_go (pi_1 c (nl.2 d)) ?_
              rw [if_neg (by decide)]
              refine mgi_go rfl rfl ?_
              rw [if_neg (by decide)]
              rfl) ?_
          refine mis_go rfl ?_
          refine mcl_go (v := 0) rfl ?_
          rw [if_pos rfl, if_pos rfl]
          refine mal_go (w := (1 : Int32).toInt64) rfl (nt_in (by decide) (by decide)) rfl ?_
          rw [if_pos (by decide)]
        · skip
          apply Exists.intro
          unfold f_La_c3
          refine msl_go (v := xs 1) (nt_in (by decide) (by decide)) rfl ?_
          refine msl_go (v := xs 2) (nt_in (by decide) (by decide)) rfl ?_
          refine mcl_go (v := 1) (by
              unfold f_La_filter
              refine mis_go rfl ?_
              rw [show f_SF_filter 400 (hz u1 l1 fc1 fp1 fs1 u2 l2 fc2 fp2 fs2 fx) 0 (xs 1) (xs 2) = some (.inr 1, (hz u1 l1 fc1 fp1 fs1 u2 l2 fc2 fp2 fs2 fx)) by unfold f_SF_filter; rw [if_neg a, if_pos b, if_neg c, if_neg d]]
              rfl) ?_
          refine msl_go (v := xs 1) (nt_in (by decide) (by decide)) rfl ?_
          refine msl_go (v := xs 2) (nt_in (by decide) (by decide)) rfl ?_
          refine mis_go rfl ?_
          refine mcl_go (v := 0) (by
              unfold f_Mo_filter
              refine mcl_go (pi_1 a (nl.2 b)) ?_
              rw [if_neg (by decide)]
              refine mcl_go (pi_0 (Or.inr (nl.1 d))) ?_
              rw [if_pos rfl]
              rfl) ?_
          refine mis_go rfl ?_
          refine mcl_go (v := 1) rfl ?_
          rw [if_pos rfl, if_neg (by decide)]
    · skip
      apply Exists.intro
      unfold f_La_c3
      refine msl_go (v := xs 1) (nt_in (by decide) (by decide)) rfl ?_
      refine msl_go (v := xs 2) (nt_in (by decide) (by decide)) rfl ?_
      refine mcl_go (v := 1) (by
          unfold f_La_filter
          refine mis_go rfl ?_
          rw [show f_SF_filter 400 (hz u1 l1 fc1 fp1 fs1 u2 l2 fc2 fp2 fs2 fx) 0 (xs 1) (xs 2) = some (.inr 1, (hz u1 l1 fc1 fp1 fs1 u2 l2 fc2 fp2 fs2 fx)) by unfold f_SF_filter; rw [if_neg a, if_neg b]]
          rfl) ?_
      refine msl_go (v := xs 1) (nt_in (by decide) (by decide)) rfl ?_
      refine msl_go (v := xs 2) (nt_in (by decide) (by decide)) rfl ?_
      refine mis_go rfl ?_
      refine mcl_go (v := 0) (by
          unfold f_Mo_filter
          refine mcl_go (pi_0 (Or.inr (nl.1 b))) ?_
          rw [if_pos rfl]
          rfl) ?_
      refine mis_go rfl ?_
      refine mcl_go (v := 1) rfl ?_
      rw [if_pos rfl, if_neg (by decide)]
def pK (p : Int32) : Prop := (¬ p < 1 ∧ ¬ 2 < p) ∨ (¬ p < 10 ∧ ¬ 15 < p)
def pB (b : Int32) : Prop := b = 1 ∨ b = 2 ∨ b = 4 ∨ b = 8 ∨ b = 16
theorem pK_12 {p : Int32} : (¬ p < 1 ∧ ¬ 2 < p) ↔ (p = 1 ∨ p = 2) := by
  have e1 : (1 : Int32).toInt = 1 := rfl
  have e2 : (2 : Int32).toInt = 2 := rfl
  rw [nt_lt, nt_lt, ← Int32.toInt_inj, ← Int32.toInt_inj]
  omega
theorem sK_1 {h : mH} {p : Int32} (k : pK p) : f_SF_isPredictor 400 h p = some (1, h) := by
  unfold f_SF_isPredictor
  by_cases q1 : p = 1
  · rw [if_pos q1]
  · rw [if_neg q1]
    by_cases q2 : p = 2
    · rw [if_pos q2]
    · rw [if_neg q2]
      rcases k with k | k
      · exact absurd (pK_12.mp k) (fun h => h.elim q1 q2)
      · rw [if_neg k.1, if_neg k.2]
theorem sK_0 {h : mH} {p : Int32} (k : ¬ pK p) : f_SF_isPredictor 400 h p = some (0, h) := by
  unfold f_SF_isPredictor
  by_cases q1 : p = 1
  · exact absurd (Or.inl (pK_12.mpr (Or.inl q1))) k
  · rw [if_neg q1]
    by_cases q2 : p = 2
    · exact absurd (Or.inl (pK_12.mpr (Or.inr q2))) k
    · rw [if_neg q2]
      by_cases q3 : p < 10
      · rw [if_pos q3]
      · rw [if_neg q3]
        by_cases q4 : 15 < p
        · rw [if_pos q4]
        · exact absurd (Or.inr ⟨q3, q4⟩) k
theorem sB_1 {h : mH} {b : Int32} (k : pB b) : f_SF_isBits 400 h b = some (1, h) := by
  unfold f_SF_isBits
  rcases k with rfl | rfl | rfl | rfl | rfl <;> rfl
theorem sB_0 {h : mH} {b : Int32} (k : ¬ pB b) : f_SF_isBits 400 h b = some (0, h) := by
  unfold f_SF_isBits
  rw [if_neg (fun q => k (Or.inl q)), if_neg (fun q => k (Or.inr (Or.inl q))), if_neg (fun q => k (Or.inr (Or.inr (Or.inl q)))), if_neg (fun q => k (Or.inr (Or.inr (Or.inr (Or.inl q))))), if_neg (fun q => k (Or.inr (Or.inr (Or.inr (Or.inr q)))))]
theorem mK_1 {h : mH} {a0 : Nat} {p c b d : Int32} (k : pK p) : f_Mo_predict 400 h a0 p c b d = f_Mo_predict_B25 400 h a0 p c b d 1 := by
  unfold f_Mo_predict
  by_cases q : ¬ p < 1 ∧ ¬ 2 < p
  · refine mcl_go (pi_1 q.1 q.2) ?_
    rw [if_neg (by decide)]
    rfl
  · have q' : p < 1 ∨ 2 < p := by
      by_cases z : p < 1
      · exact Or.inl z
      · exact Or.inr (Classical.byContradiction fun y => q ⟨z, y⟩)
    refine mcl_go (pi_0 q') ?_
    rw [if_pos rfl]
    have k2 := k.resolve_left q
    refine mcl_go (pi_1 k2.1 k2.2) ?_
    rw [if_neg (by decide)]
    rfl
theorem mK_0 {h : mH} {a0 : Nat} {p c b d : Int32} (k : ¬ pK p) : f_Mo_predict 400 h a0 p c b d = f_Mo_predict_B25 400 h a0 p c b d 0 := by
  unfold f_Mo_predict
  have q' : p < 1 ∨ 2 < p := by
    by_cases z : p < 1
    · exact Or.inl z
    · exact Or.inr (Classical.byContradiction fun y => k (Or.inl ⟨z, y⟩))
  have q2 : p < 10 ∨ 15 < p := by
    by_cases z : p < 10
    · exact Or.inl z
    · exact Or.inr (Classical.byContradiction fun y => k (Or.inr ⟨z, y⟩))
  refine mcl_go (pi_0 q') ?_
  rw [if_pos rfl]
  refine mcl_go (pi_0 q2) ?_
  rw [if_pos rfl]
theorem mB_1 {h : mH} {a0 : Nat} {p c b d j : Int32} (k : pB b) : f_Mo_predict_B25 400 h a0 p c b d j = f_Mo_predict_B59 400 h a0 p c b d j 1 := by
  unfold f_Mo_predict_B25
  rcases k with rfl | rfl | rfl | rfl | rfl <;> rfl
theorem mB_0 {h : mH} {a0 : Nat} {p c b d j : Int32} (k : ¬ pB b) : f_Mo_predict_B25 400 h a0 p c b d j = f_Mo_predict_B59 400 h a0 p c b d j 0 := by
  unfold f_Mo_predict_B25
  rw [if_neg (fun q => k (Or.inl q)), if_neg (fun q => k (Or.inr (Or.inl q))), if_neg (fun q => k (Or.inr (Or.inr (Or.inl q)))), if_neg (fun q => k (Or.inr (Or.inr (Or.inr (Or.inl q))))), if_neg (fun q => k (Or.inr (Or.inr (Or.inr (Or.inr q)))))]
theorem m5_1 {h : mH} {a0 : Nat} {p c b d : Int32} (c1 : ¬ c < 1) (c2 : ¬ 8 < c) (d1 : ¬ d < 1) (d2 : ¬ 4096 < d) : f_Mo_predict_B59 400 h a0 p c b d 1 1 = f_Mo_predict_B98 400 h a0 p c b d 1 := by
  unfold f_Mo_predict_B59
  rw [if_neg (by decide), if_neg (by decide)]
  refine mcl_go (pi_1 c1 c2) ?_
  rw [if_neg (by decide)]
  refine mcl_go (pi_1 d1 d2) ?_
  rw [if_neg (by decide)]
theorem m5_j {h : mH} {a0 : Nat} {p c b d j : Int32} : f_Mo_predict_B59 400 h a0 p c b d 0 j = f_Mo_predict_B98 400 h a0 p c b d 0 := by
  unfold f_Mo_predict_B59
  rw [if_pos rfl]
  rfl
theorem m5_k {h : mH} {a0 : Nat} {p c b d j : Int32} : f_Mo_predict_B59 400 h a0 p c b d j 0 = f_Mo_predict_B98 400 h a0 p c b d 0 := by
  unfold f_Mo_predict_B59
  by_cases q : j = 0
  · rw [if_pos q]; rfl
  · rw [if_neg q, if_pos rfl]; rfl
theorem m5_c {h : mH} {a0 : Nat} {p c b d : Int32} (q : c < 1 ∨ 8 < c) : f_Mo_predict_B59 400 h a0 p c b d 1 1 = f_Mo_predict_B98 400 h a0 p c b d 0 := by
  unfold f_Mo_predict_B59
  rw [if_neg (by decide), if_neg (by decide)]
  refine mcl_go (pi_0 q) ?_
  rw [if_pos rfl]
  rfl
theorem m5_d {h : mH} {a0 : Nat} {p c b d : Int32} (q : d < 1 ∨ 4096 < d) : f_Mo_predict_B59 400 h a0 p c b d 1 1 = f_Mo_predict_B98 400 h a0 p c b d 0 := by
  by_cases qc : c < 1 ∨ 8 < c
  · exact m5_c qc
  · have c1 : ¬ c < 1 := fun z => qc (Or.inl z)
    have c2 : ¬ 8 < c := fun z => qc (Or.inr z)
    unfold f_Mo_predict_B59
    rw [if_neg (by decide), if_neg (by decide)]
    refine mcl_go (pi_1 c1 c2) ?_
    rw [if_neg (by decide)]
    refine mcl_go (pi_0 q) ?_
    rw [if_pos rfl]
    rfl
theorem m_uns {h : mH} {a0 : Nat} {p c b d : Int32} (q : ¬ pK p ∨ ¬ pB b ∨ (c < 1 ∨ 8 < c) ∨ (d < 1 ∨ 4096 < d)) : f_Mo_predict 400 h a0 p c b d = f_Mo_predict_B98 400 h a0 p c b d 0 := by
  by_cases k : pK p
  · rw [mK_1 k]
    by_cases kb : pB b
    · rw [mB_1 kb]
      rcases q with q | q | q | q
      · exact absurd k q
      · exact absurd kb q
      · exact m5_c q
      · exact m5_d q
    · rw [mB_0 kb]
      exact m5_k
  · rw [mK_0 k]
    by_cases kb : pB b
    · rw [mB_1 kb]; exact m5_j
    · rw [mB_0 kb]; exact m5_j
end mFresh
