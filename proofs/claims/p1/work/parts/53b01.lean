section mFresh
variable {xs : Nat → Int32} (u1 l1 : Int32) (fc1 fp1 fs1 : Nat → Int32) (u2 l2 : Int32) (fc2 fp2 fs2 fx : Nat → Int32)
set_option maxHeartbeats 4000000 in
set_option maxRecDepth 100000 in
theorem sf_9 (x : Int32) : f_SF_fault 400 (hz u1 l1 fc1 fp1 fs1 u2 l2 fc2 fp2 fs2 fx) 0 x = some (-1, (hz u1 l1 fc1 fp1 fs1 u2 l2 fc2 fp2 fs2 fx)) := by
  unfold f_SF_fault
  by_cases q0 : x = 0
  · rw [if_pos q0]; rfl
  · rw [if_neg q0]
    by_cases q1 : x = 1
    · rw [if_pos q1]; rfl
    · rw [if_neg q1]
      by_cases q2 : x = 2
      · rw [if_pos q2]; rfl
      · rw [if_neg q2]
set_option maxHeartbeats 4000000 in
set_option maxRecDepth 100000 in
theorem mo_9 (x : Int32) : ∃ h', f_Mo_fault 400 (hz u1 l1 fc1 fp1 fs1 u2 l2 fc2 fp2 fs2 fx) 50 x = some (-1, h') := by
  unfold f_Mo_fault
  apply Exists.intro
  refine mpt_go rfl (Nat.le_of_ble_eq_true rfl) rfl ?_
  by_cases q0 : x = 0
  · rw [if_pos q0]; rfl
  · rw [if_neg q0]
    by_cases q1 : x = 1
    · rw [if_pos q1]; rfl
    · rw [if_neg q1]
      by_cases q2 : x = 2
      · rw [if_pos q2]; rfl
      · rw [if_neg q2]
set_option maxHeartbeats 4000000 in
set_option maxRecDepth 100000 in
theorem pc_9 : ∃ h', f_La_c9 400 xs 6 (hz u1 l1 fc1 fp1 fs1 u2 l2 fc2 fp2 fs2 fx) 0 66 50 0 = some ((), h') := by
  obtain ⟨h3, e3⟩ := mo_9 u1 l1 fc1 fp1 fs1 u2 l2 fc2 fp2 fs2 fx (xs 1)
  refine ⟨h3, ?_⟩
  unfold f_La_c9
  refine msl_go (v := xs 1) (nt_in (by decide) (by decide)) rfl ?_
  refine mis_go rfl ?_
  refine mcl_go (sf_9 u1 l1 fc1 fp1 fs1 u2 l2 fc2 fp2 fs2 fx (xs 1)) ?_
  refine msl_go (v := xs 1) (nt_in (by decide) (by decide)) rfl ?_
  refine mis_go rfl ?_
  refine mcl_go e3 ?_
  rw [if_pos rfl]
end mFresh
