section mFresh
variable {xs : Nat → Int32} (u1 l1 : Int32) (fc1 fp1 fs1 : Nat → Int32) (u2 l2 : Int32) (fc2 fp2 fs2 fx : Nat → Int32)
set_option maxHeartbeats 4000000 in
set_option maxRecDepth 100000 in
theorem p_neg {x : Int32} (h : ¬ x < 0) : 0 ≤ x ∧ (0 - 1 : Int32) < x ∧ ¬ 0 < 0 - x := by
  rw [nt_lt] at h
  have e0 : (0 : Int32).toInt = 0 := rfl
  have e1 : (0 - 1 : Int32).toInt = -1 := rfl
  have hx := Int32.toInt_lt x
  have hs : (0 - x).toInt = 0 - x.toInt := by rw [nt_sub (by omega) (by omega)]; rfl
  refine ⟨nt_le.mpr (by omega), nt_lt.mpr (by omega), fun q => ?_⟩
  have := nt_lt.mp q
  omega
set_option maxHeartbeats 4000000 in
set_option maxRecDepth 100000 in
theorem p_in (x : Int32) : x < 0 ∨ (0 - 1 : Int32) < x := by
  by_cases q : x < 0
  · exact Or.inl q
  · exact Or.inr (p_neg q).2.1
set_option maxHeartbeats 4000000 in
set_option maxRecDepth 100000 in
theorem pc_5 : ∃ h', f_La_c5 400 xs 6 (hz u1 l1 fc1 fp1 fs1 u2 l2 fc2 fp2 fs2 fx) 0 66 50 0 = some ((), h') := by
  apply Exists.intro
  unfold f_La_c5
  refine mis_go rfl ?_
  refine mcl_go (v := 0) rfl ?_
  refine mis_go rfl ?_
  refine mcl_go (v := 0) rfl ?_
  rw [if_pos rfl]
end mFresh
