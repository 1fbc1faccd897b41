section mFresh
variable {xs : Nat → Int32} (u1 l1 : Int32) (fc1 fp1 fs1 : Nat → Int32) (u2 l2 : Int32) (fc2 fp2 fs2 fx : Nat → Int32)
set_option maxHeartbeats 4000000 in
set_option maxRecDepth 100000 in
theorem pc_6 : ∃ h', f_La_c6 400 xs 6 (hz u1 l1 fc1 fp1 fs1 u2 l2 fc2 fp2 fs2 fx) 0 66 50 0 = some ((), h') := by
  by_cases q1 : xs 1 < 0
  · skip
    apply Exists.intro
    unfold f_La_c6
    refine msl_go (v := xs 1) (nt_in (by decide) (by decide)) rfl ?_
    refine mcl_go (v := 1) (by
        unfold f_La_budget
        refine mis_go rfl ?_
        rw [show f_SF_budget 400 (hz u1 l1 fc1 fp1 fs1 u2 l2 fc2 fp2 fs2 fx) 0 (xs 1) = some (.inr 1, (hz u1 l1 fc1 fp1 fs1 u2 l2 fc2 fp2 fs2 fx)) by unfold f_SF_budget; rw [if_pos q1]]
        rfl) ?_
    refine msl_go (v := xs 1) (nt_in (by decide) (by decide)) rfl ?_
    refine mis_go rfl ?_
    refine mcl_go (v := 0) (by
        unfold f_Mo_budget
        refine mcl_go (pi_0 (Or.inl q1)) ?_
        rw [if_pos rfl]
        rfl) ?_
    refine mis_go rfl ?_
    refine mcl_go (v := 1) rfl ?_
    rw [if_pos rfl, if_neg (by decide)]
  · by_cases q2 : xs 1 ≤ 65536
    · have q3 : ¬ (65536 : Int32) < xs 1 := fun h => by rw [nt_lt] at h; rw [nt_le] at q2; omega
      apply Exists.intro
      unfold f_La_c6
      refine msl_go (v := xs 1) (nt_in (by decide) (by decide)) rfl ?_
      refine mcl_go (v := 0) (by
          unfold f_La_budget
          refine mis_go rfl ?_
          rw [show f_SF_budget 400 (hz u1 l1 fc1 fp1 fs1 u2 l2 fc2 fp2 fs2 fx) 0 (xs 1) = some (.inl 65536, ((hz u1 l1 fc1 fp1 fs1 u2 l2 fc2 fp2 fs2 fx)).set 0 (.inr (0, [.ref 1, .ref 3, .int 0, .int (xs 1), .ref 4, .ref 9, .ref 32, .ref 35, .ref 36, .ref 37, .ref 38, .ref 40, .ref 38, .int 0, .int (-1), .int (-1), .int (-1)]))) by unfold f_SF_budget; rw [if_neg q1, if_pos q2]; rfl]
          refine mls_go rfl (nt_in (by decide) (by decide)) rfl ?_
          rfl) ?_
      refine msl_go (v := xs 1) (nt_in (by decide) (by decide)) rfl ?_
      refine mis_go rfl ?_
      refine mcl_go (v := 65536) (by
          unfold f_Mo_budget
          refine mcl_go (pi_1 q1 q3) ?_
          rw [if_neg (by decide)]
          rfl) ?_
      refine mis_go rfl ?_
      refine mcl_go (v := 0) rfl ?_
      rw [if_pos rfl, if_pos rfl]
      refine mal_go (w := (65536 : Int32).toInt64) rfl (nt_in (by decide) (by decide)) rfl ?_
      rw [if_pos (by decide)]
    · have q3 : (65536 : Int32) < xs 1 := by rw [nt_lt]; rw [nt_le] at q2; omega
      apply Exists.intro
      unfold f_La_c6
      refine msl_go (v := xs 1) (nt_in (by decide) (by decide)) rfl ?_
      refine mcl_go (v := 1) (by
          unfold f_La_budget
          refine mis_go rfl ?_
          rw [show f_SF_budget 400 (hz u1 l1 fc1 fp1 fs1 u2 l2 fc2 fp2 fs2 fx) 0 (xs 1) = some (.inr 1, (hz u1 l1 fc1 fp1 fs1 u2 l2 fc2 fp2 fs2 fx)) by unfold f_SF_budget; rw [if_neg q1, if_neg q2]]
          rfl) ?_
      refine msl_go (v := xs 1) (nt_in (by decide) (by decide)) rfl ?_
      refine mis_go rfl ?_
      refine mcl_go (v := 0) (by
          unfold f_Mo_budget
          refine mcl_go (pi_0 (Or.inr q3)) ?_
          rw [if_pos rfl]
          rfl) ?_
      refine mis_go rfl ?_
      refine mcl_go (v := 1) rfl ?_
      rw [if_pos rfl, if_neg (by decide)]
end mFresh
