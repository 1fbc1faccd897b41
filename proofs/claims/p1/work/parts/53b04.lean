section mFresh
variable {xs : Nat → Int32} (u1 l1 : Int32) (fc1 fp1 fs1 : Nat → Int32) (u2 l2 : Int32) (fc2 fp2 fs2 fx : Nat → Int32)
set_option maxHeartbeats 4000000 in
set_option maxRecDepth 100000 in
theorem pc_10 : ∃ h', f_La_c10 400 xs 6 (hz u1 l1 fc1 fp1 fs1 u2 l2 fc2 fp2 fs2 fx) 0 66 50 0 = some ((), h') := by
  apply Exists.intro
  unfold f_La_c10
  refine mcl_go (v := 0) (by
      unfold f_La_keep
      refine mis_go rfl ?_
      rw [show f_SF_keep 400 (hz u1 l1 fc1 fp1 fs1 u2 l2 fc2 fp2 fs2 fx) 0 = some (.inl 0, (hz u1 l1 fc1 fp1 fs1 u2 l2 fc2 fp2 fs2 fx)) from rfl]
      refine mls_go rfl (nt_in (by decide) (by decide)) rfl ?_
      rfl) ?_
  refine mis_go rfl ?_
  refine mcl_go (v := 0) rfl ?_
  refine mis_go rfl ?_
  refine mcl_go (v := 0) rfl ?_
  rw [if_pos rfl, if_pos rfl]
  refine mal_go rfl (nt_in (by decide) (by decide)) rfl ?_
  rw [if_pos (by decide)]
end mFresh
