section mFresh
variable {xs : Nat → Int32} (u1 l1 : Int32) (fc1 fp1 fs1 : Nat → Int32) (u2 l2 : Int32) (fc2 fp2 fs2 fx : Nat → Int32)
set_option maxHeartbeats 4000000 in
set_option maxRecDepth 100000 in
theorem pc_7 : ∃ h', f_La_c7 400 xs 6 (hz u1 l1 fc1 fp1 fs1 u2 l2 fc2 fp2 fs2 fx) 0 66 50 0 = some ((), h') := by
  apply Exists.intro
  unfold f_La_c7
  refine mis_go rfl ?_
  refine mcl_go (v := 0) (by
      unfold f_SF_decode
      refine mpt_go rfl (Nat.le_of_ble_eq_true rfl) rfl ?_
      refine mis_go rfl ?_
      refine mcl_go rfl ?_
      refine mgr_go rfl rfl ?_
      refine mgi_go rfl rfl ?_
      refine mpt_go rfl (Nat.le_of_ble_eq_true rfl) rfl ?_
      refine mgr_go rfl rfl ?_
      refine mpt_go rfl (Nat.le_of_ble_eq_true rfl) rfl ?_
      refine mgi_go rfl rfl ?_
      rw [if_pos rfl]
      refine mgr_go rfl rfl ?_
      refine mgr_go rfl rfl ?_
      refine mis_go rfl ?_
      refine mcl_go (by
        unfold f_By_become
        refine mgi_go rfl rfl ?_
        refine mgr_go rfl rfl ?_
        refine mln_go rfl rfl ?_
        refine mnm_goe (y := 0) (by decide) ?_
        refine mpt_go rfl (Nat.le_of_ble_eq_true rfl) rfl ?_
        refine mgr_go rfl rfl ?_
        refine mgr_go rfl rfl ?_
        refine mgi_go rfl rfl ?_
        refine mac_go rfl rfl ⟨by decide, by decide, by decide, by decide, by decide, fun i hi => absurd hi (Nat.not_lt_zero i)⟩ rfl ?_
        rfl) ?_
      rfl) ?_
  refine mis_go rfl ?_
  refine mcl_go (v := 0) rfl ?_
  rw [if_pos rfl]
end mFresh
