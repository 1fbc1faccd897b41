section mFresh
variable {xs : Nat → Int32} (u1 l1 : Int32) (fc1 fp1 fs1 : Nat → Int32) (u2 l2 : Int32) (fc2 fp2 fs2 fx : Nat → Int32)
set_option maxHeartbeats 4000000 in
set_option maxRecDepth 100000 in
theorem sf_2 (x : Int32) (q : 0 ≤ x) : f_SF_cut 400 (hz u1 l1 fc1 fp1 fs1 u2 l2 fc2 fp2 fs2 fx) 0 x = some (.inl 0, ((hz u1 l1 fc1 fp1 fs1 u2 l2 fc2 fp2 fs2 fx)).set 1 (.inr (1, [.ref 2, .int (0 - 0)]))) := by
  have q1 : ¬ x < 0 := fun h => by rw [nt_lt] at h; rw [nt_le] at q; omega
  unfold f_SF_cut
  rw [if_pos q]
  refine mgr_go rfl rfl ?_
  refine mgi_go rfl rfl ?_
  refine mnm_goe (y := 0) (if_neg (p_neg q1).2.2) ?_
  refine mgr_go rfl rfl ?_
  refine mgi_go rfl rfl ?_
  refine mpt_go rfl (Nat.le_of_ble_eq_true rfl) rfl ?_
  rfl
set_option maxHeartbeats 4000000 in
set_option maxRecDepth 100000 in
theorem pc_2 : ∃ h', f_La_c2 400 xs 6 (hz u1 l1 fc1 fp1 fs1 u2 l2 fc2 fp2 fs2 fx) 0 66 50 0 = some ((), h') := by
  by_cases q : 0 ≤ xs 1
  · apply Exists.intro
    unfold f_La_c2
    refine msl_go (v := xs 1) (nt_in (by decide) (by decide)) rfl ?_
    refine mcl_go (v := 0) (by
        unfold f_La_cut
        refine mis_go rfl ?_
        rw [sf_2 u1 l1 fc1 fp1 fs1 u2 l2 fc2 fp2 fs2 fx (xs 1) q]
        refine mls_go rfl (nt_in (by decide) (by decide)) rfl ?_
        rfl) ?_
    refine msl_go (v := xs 1) (nt_in (by decide) (by decide)) rfl ?_
    refine mis_go rfl ?_
    refine mcl_go (v := 0) (by
        unfold f_Mo_cut
        rw [if_pos q]
        unfold f_Mo_cut_B10
        refine mis_go rfl ?_
        refine mcl_go (v := 0) rfl ?_
        rw [if_pos rfl]
        refine mgi_go rfl rfl ?_
        rw [if_pos q]
        rfl) ?_
    refine mis_go rfl ?_
    refine mcl_go (v := 0) rfl ?_
    rw [if_pos rfl, if_pos rfl]
    refine mal_go (w := (0 : Int32).toInt64) rfl (nt_in (by decide) (by decide)) rfl ?_
    rw [if_pos (by decide)]
  · apply Exists.intro
    unfold f_La_c2
    refine msl_go (v := xs 1) (nt_in (by decide) (by decide)) rfl ?_
    refine mcl_go (v := 1) (by
        unfold f_La_cut
        refine mis_go rfl ?_
        rw [show f_SF_cut 400 (hz u1 l1 fc1 fp1 fs1 u2 l2 fc2 fp2 fs2 fx) 0 (xs 1) = some (.inr 1, (hz u1 l1 fc1 fp1 fs1 u2 l2 fc2 fp2 fs2 fx)) by unfold f_SF_cut; rw [if_neg q]]
        rfl) ?_
    refine msl_go (v := xs 1) (nt_in (by decide) (by decide)) rfl ?_
    refine mis_go rfl ?_
    refine mcl_go (v := 0) (by
        unfold f_Mo_cut
        rw [if_neg q]
        rfl) ?_
    refine mis_go rfl ?_
    refine mcl_go (v := 1) rfl ?_
    rw [if_pos rfl, if_neg (by decide)]
end mFresh
