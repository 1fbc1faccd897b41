section mFresh
variable {xs : Nat → Int32} (u1 l1 : Int32) (fc1 fp1 fs1 : Nat → Int32) (u2 l2 : Int32) (fc2 fp2 fs2 fx : Nat → Int32)
set_option maxHeartbeats 4000000 in
set_option maxRecDepth 100000 in
theorem sf_1 (x y : Int32) : f_SF_put 400 (hz u1 l1 fc1 fp1 fs1 u2 l2 fc2 fp2 fs2 fx) 0 x y = some (.inr 0, (hz u1 l1 fc1 fp1 fs1 u2 l2 fc2 fp2 fs2 fx)) := by
  unfold f_SF_put
  by_cases q : x < 0
  · rw [if_pos q]
  · rw [if_neg q]
    refine mgr_go rfl rfl ?_
    refine mgi_go rfl rfl ?_
    rw [if_neg q]
set_option maxHeartbeats 4000000 in
set_option maxRecDepth 100000 in
theorem la_1 (x y : Int32) : f_La_put 400 (hz u1 l1 fc1 fp1 fs1 u2 l2 fc2 fp2 fs2 fx) 0 x y 66 = some (1, (hz u1 l1 fc1 fp1 fs1 u2 l2 fc2 fp2 fs2 fx)) := by
  unfold f_La_put
  refine mis_go rfl ?_
  rw [sf_1]
  rfl
set_option maxHeartbeats 4000000 in
set_option maxRecDepth 100000 in
theorem pc_1 : ∃ h', f_La_c1 400 xs 6 (hz u1 l1 fc1 fp1 fs1 u2 l2 fc2 fp2 fs2 fx) 0 66 50 0 = some ((), h') := by
  apply Exists.intro
  unfold f_La_c1
  refine msl_go (v := xs 1) (nt_in (by decide) (by decide)) rfl ?_
  refine msl_go (v := xs 2) (nt_in (by decide) (by decide)) rfl ?_
  refine mcl_go (la_1 u1 l1 fc1 fp1 fs1 u2 l2 fc2 fp2 fs2 fx (xs 1) (xs 2)) ?_
  refine msl_go (v := xs 1) (nt_in (by decide) (by decide)) rfl ?_
  refine msl_go (v := xs 2) (nt_in (by decide) (by decide)) rfl ?_
  refine mis_go rfl ?_
  refine mcl_go (v := 0) (by
      unfold f_Mo_put
      refine mgi_go rfl rfl ?_
      refine mcl_go (pi_0 (p_in (xs 1))) ?_
      rw [if_pos rfl]
      rfl) ?_
  refine mis_go rfl ?_
  refine mcl_go (v := 1) rfl ?_
  rw [if_pos rfl, if_neg (by decide)]
end mFresh
