section mFresh
variable {xs : Nat → Int32} (u1 l1 : Int32) (fc1 fp1 fs1 : Nat → Int32) (u2 l2 : Int32) (fc2 fp2 fs2 fx : Nat → Int32)
set_option maxHeartbeats 4000000 in
set_option maxRecDepth 100000 in
theorem sf_0 (x1 x2 x3 x4 x5 : Int32) : ∃ f, f_SF_feed 400 (hz u1 l1 fc1 fp1 fs1 u2 l2 fc2 fp2 fs2 fx) 0 x1 x2 x3 x4 x5 = some (20, byH (hz u1 l1 fc1 fp1 fs1 u2 l2 fc2 fp2 fs2 fx) 1 2 16384 20 f) := by
  have e0 : (0 : Int32).toInt = 0 := rfl
  have e20 : (20 : Int32).toInt = 20 := rfl
  obtain ⟨y1, w1, s1, g1⟩ := by_add4 (h := (hz u1 l1 fc1 fp1 fs1 u2 l2 fc2 fp2 fs2 fx)) (a := 1) (r := 2) (n := 16384) (l := 0) (f := (fun _ => 0)) (x := x1) (Nat.le_of_ble_eq_true rfl) (Nat.le_of_ble_eq_true rfl) (by decide) (by decide) (by omega) (by omega)
  obtain ⟨y2, w2, s2, g2⟩ := by_add4 (h := (hz u1 l1 fc1 fp1 fs1 u2 l2 fc2 fp2 fs2 fx)) (a := 1) (r := 2) (n := 16384) (l := y1) (f := w1) (x := x2) (Nat.le_of_ble_eq_true rfl) (Nat.le_of_ble_eq_true rfl) (by decide) (by decide) (by omega) (by omega)
  obtain ⟨y3, w3, s3, g3⟩ := by_add4 (h := (hz u1 l1 fc1 fp1 fs1 u2 l2 fc2 fp2 fs2 fx)) (a := 1) (r := 2) (n := 16384) (l := y2) (f := w2) (x := x3) (Nat.le_of_ble_eq_true rfl) (Nat.le_of_ble_eq_true rfl) (by decide) (by decide) (by omega) (by omega)
  obtain ⟨y4, w4, s4, g4⟩ := by_add4 (h := (hz u1 l1 fc1 fp1 fs1 u2 l2 fc2 fp2 fs2 fx)) (a := 1) (r := 2) (n := 16384) (l := y3) (f := w3) (x := x4) (Nat.le_of_ble_eq_true rfl) (Nat.le_of_ble_eq_true rfl) (by decide) (by decide) (by omega) (by omega)
  obtain ⟨y5, w5, s5, g5⟩ := by_add4 (h := (hz u1 l1 fc1 fp1 fs1 u2 l2 fc2 fp2 fs2 fx)) (a := 1) (r := 2) (n := 16384) (l := y4) (f := w4) (x := x5) (Nat.le_of_ble_eq_true rfl) (Nat.le_of_ble_eq_true rfl) (by decide) (by decide) (by omega) (by omega)
  have hl5 : y5 = 20 := Int32.toInt_inj.mp (by omega)
  subst hl5
  refine ⟨w5, ?_⟩
  unfold f_SF_feed
  refine mgr_go rfl rfl ?_
  refine mgi_go rfl rfl ?_
  rw [if_pos (by decide)]
  refine mgr_go (v := 1) rfl rfl ?_
  refine mis_go rfl ?_
  refine mcl_go g1 ?_
  refine mgr_go (v := 1) rfl rfl ?_
  refine mis_go rfl ?_
  refine mcl_go g2 ?_
  refine mgr_go (v := 1) rfl rfl ?_
  refine mis_go rfl ?_
  refine mcl_go g3 ?_
  refine mgr_go (v := 1) rfl rfl ?_
  refine mis_go rfl ?_
  refine mcl_go g4 ?_
  refine mgr_go (v := 1) rfl rfl ?_
  refine mis_go rfl ?_
  refine mcl_go g5 ?_
  refine mgr_go (v := 1) rfl rfl ?_
  refine mgi_go rfl rfl ?_
  rfl
set_option maxHeartbeats 4000000 in
set_option maxRecDepth 100000 in
theorem pc_0 : ∃ h', f_La_c0 400 xs 6 (hz u1 l1 fc1 fp1 fs1 u2 l2 fc2 fp2 fs2 fx) 0 66 50 0 = some ((), h') := by
  obtain ⟨f, e1⟩ := sf_0 u1 l1 fc1 fp1 fs1 u2 l2 fc2 fp2 fs2 fx (xs 1) (xs 2) (xs 3) (xs 4) (xs 5)
  obtain ⟨h2, e2⟩ := mo_L23 (h := byH (hz u1 l1 fc1 fp1 fs1 u2 l2 fc2 fp2 fs2 fx) 1 2 16384 20 f) (a := xs 1) (b := xs 2) (c := xs 3) (d := xs 4) (e := xs 5) (Nat.le_of_ble_eq_true rfl) 20 400 0 0 (fun _ => 0) rfl (by decide) rfl (by decide)
  refine ⟨h2, ?_⟩
  unfold f_La_c0
  refine msl_go (v := xs 1) (nt_in (by decide) (by decide)) rfl ?_
  refine msl_go (v := xs 2) (nt_in (by decide) (by decide)) rfl ?_
  refine msl_go (v := xs 3) (nt_in (by decide) (by decide)) rfl ?_
  refine msl_go (v := xs 4) (nt_in (by decide) (by decide)) rfl ?_
  refine msl_go (v := xs 5) (nt_in (by decide) (by decide)) rfl ?_
  refine mis_go rfl ?_
  refine mcl_go e1 ?_
  refine msl_go (v := xs 1) (nt_in (by decide) (by decide)) rfl ?_
  refine msl_go (v := xs 2) (nt_in (by decide) (by decide)) rfl ?_
  refine msl_go (v := xs 3) (nt_in (by decide) (by decide)) rfl ?_
  refine msl_go (v := xs 4) (nt_in (by decide) (by decide)) rfl ?_
  refine msl_go (v := xs 5) (nt_in (by decide) (by decide)) rfl ?_
  refine mis_go rfl ?_
  refine mcl_go (v := 20) (by
      unfold f_Mo_feed
      refine mpt_go rfl (Nat.le_of_ble_eq_true rfl) rfl ?_
      refine mgi_go rfl rfl ?_
      rw [if_pos (by decide)]
      exact e2) ?_
  rw [if_pos rfl]
end mFresh
