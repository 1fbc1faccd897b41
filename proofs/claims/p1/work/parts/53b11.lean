section mFresh
variable {xs : Nat → Int32} (u1 l1 : Int32) (fc1 fp1 fs1 : Nat → Int32) (u2 l2 : Int32) (fc2 fp2 fs2 fx : Nat → Int32)
set_option maxHeartbeats 4000000 in
set_option maxRecDepth 100000 in
theorem pure_step : ∃ h', f_La_step 400 xs 6 (hz u1 l1 fc1 fp1 fs1 u2 l2 fc2 fp2 fs2 fx) 0 66 50 0 = some ((), h') := by
  unfold f_La_step
  rw [msl_ev (nt_in (by decide) (by decide)), mnm_ev]
  by_cases q0 : xs (0 : Int32).toNatClampNeg &&& 15 = 0
  · rw [if_pos q0]; exact pc_0 u1 l1 fc1 fp1 fs1 u2 l2 fc2 fp2 fs2 fx
  · rw [if_neg q0]
    by_cases q1 : xs (0 : Int32).toNatClampNeg &&& 15 = 1
    · rw [if_pos q1]; exact pc_1 u1 l1 fc1 fp1 fs1 u2 l2 fc2 fp2 fs2 fx
    · rw [if_neg q1]
      by_cases q2 : xs (0 : Int32).toNatClampNeg &&& 15 = 2
      · rw [if_pos q2]; exact pc_2 u1 l1 fc1 fp1 fs1 u2 l2 fc2 fp2 fs2 fx
      · rw [if_neg q2]
        by_cases q3 : xs (0 : Int32).toNatClampNeg &&& 15 = 3
        · rw [if_pos q3]; exact pc_3 u1 l1 fc1 fp1 fs1 u2 l2 fc2 fp2 fs2 fx
        · rw [if_neg q3]
          by_cases q4 : xs (0 : Int32).toNatClampNeg &&& 15 = 4
          · rw [if_pos q4]; exact pc_4 u1 l1 fc1 fp1 fs1 u2 l2 fc2 fp2 fs2 fx
          · rw [if_neg q4]
            by_cases q5 : xs (0 : Int32).toNatClampNeg &&& 15 = 5
            · rw [if_pos q5]; exact pc_5 u1 l1 fc1 fp1 fs1 u2 l2 fc2 fp2 fs2 fx
            · rw [if_neg q5]
              by_cases q6 : xs (0 : Int32).toNatClampNeg &&& 15 = 6
              · rw [if_pos q6]; exact pc_6 u1 l1 fc1 fp1 fs1 u2 l2 fc2 fp2 fs2 fx
              · rw [if_neg q6]
                by_cases q7 : xs (0 : Int32).toNatClampNeg &&& 15 = 7
                · rw [if_pos q7]; exact pc_7 u1 l1 fc1 fp1 fs1 u2 l2 fc2 fp2 fs2 fx
                · rw [if_neg q7]
                  by_cases q8 : xs (0 : Int32).toNatClampNeg &&& 15 = 8
                  · rw [if_pos q8]; exact pc_8 u1 l1 fc1 fp1 fs1 u2 l2 fc2 fp2 fs2 fx
                  · rw [if_neg q8]
                    by_cases q9 : xs (0 : Int32).toNatClampNeg &&& 15 = 9
                    · rw [if_pos q9]; exact pc_9 u1 l1 fc1 fp1 fs1 u2 l2 fc2 fp2 fs2 fx
                    · rw [if_neg q9]
                      by_cases q10 : xs (0 : Int32).toNatClampNeg &&& 15 = 10
                      · rw [if_pos q10]; exact pc_10 u1 l1 fc1 fp1 fs1 u2 l2 fc2 fp2 fs2 fx
                      · rw [if_neg q10]
                        exact ⟨_, rfl⟩
set_option maxHeartbeats 4000000 in
set_option maxRecDepth 100000 in
theorem pure_law {L : Nat} (hL : L ≤ 6) : ∃ h', f_La_loop 400 xs L 66 50 0 2 (hz u1 l1 fc1 fp1 fs1 u2 l2 fc2 fp2 fs2 fx) 0 = some ((), h') := by
  rcases (show L = 0 ∨ L = 1 ∨ L = 2 ∨ L = 3 ∨ L = 4 ∨ L = 5 ∨ L = 6 by omega) with rfl | rfl | rfl | rfl | rfl | rfl | rfl
  · exact ⟨_, by rw [f_La_loop.eq_2, if_pos (by decide)]⟩
  · exact ⟨_, by rw [f_La_loop.eq_2, if_pos (by decide)]⟩
  · exact ⟨_, by rw [f_La_loop.eq_2, if_pos (by decide)]⟩
  · exact ⟨_, by rw [f_La_loop.eq_2, if_pos (by decide)]⟩
  · exact ⟨_, by rw [f_La_loop.eq_2, if_pos (by decide)]⟩
  · exact ⟨_, by rw [f_La_loop.eq_2, if_pos (by decide)]⟩
  · obtain ⟨h1, e1⟩ := pure_step (xs := xs) u1 l1 fc1 fp1 fs1 u2 l2 fc2 fp2 fs2 fx
    refine ⟨h1, ?_⟩
    rw [f_La_loop.eq_2, if_neg (by decide)]
    refine mcl_go e1 ?_
    refine mnm_go ?_
    rw [f_La_loop.eq_2, if_pos (by decide)]
end mFresh
