section mFresh
variable {xs : Nat → Int32} (u1 l1 : Int32) (fc1 fp1 fs1 : Nat → Int32) (u2 l2 : Int32) (fc2 fp2 fs2 fx : Nat → Int32)
set_option maxHeartbeats 4000000 in
set_option maxRecDepth 100000 in
theorem pc_4 : ∃ h', f_La_c4 400 xs 6 (hz u1 l1 fc1 fp1 fs1 u2 l2 fc2 fp2 fs2 fx) 0 66 50 0 = some ((), h') := by
  by_cases k : pK (xs 1)
  · by_cases c1 : xs 2 < 1
    · skip
      apply Exists.intro
      unfold f_La_c4
      refine msl_go (v := xs 1) (nt_in (by decide) (by decide)) rfl ?_
      refine msl_go (v := xs 2) (nt_in (by decide) (by decide)) rfl ?_
      refine msl_go (v := xs 3) (nt_in (by decide) (by decide)) rfl ?_
      refine msl_go (v := xs 4) (nt_in (by decide) (by decide)) rfl ?_
      refine mcl_go (v := 1) (by
          unfold f_La_predict
          refine mis_go rfl ?_
          rw [show f_SF_predict 400 (hz u1 l1 fc1 fp1 fs1 u2 l2 fc2 fp2 fs2 fx) 0 (xs 1) (xs 2) (xs 3) (xs 4) = some (.inr 1, (hz u1 l1 fc1 fp1 fs1 u2 l2 fc2 fp2 fs2 fx)) by
              unfold f_SF_predict
              refine mcl_go (sK_1 k) ?_
              rw [if_neg (by decide), if_pos c1]]
          rfl) ?_
      refine msl_go (v := xs 1) (nt_in (by decide) (by decide)) rfl ?_
      refine msl_go (v := xs 2) (nt_in (by decide) (by decide)) rfl ?_
      refine msl_go (v := xs 3) (nt_in (by decide) (by decide)) rfl ?_
      refine msl_go (v := xs 4) (nt_in (by decide) (by decide)) rfl ?_
      refine mis_go rfl ?_
      refine mcl_go (v := ()) (by
          rw [m_uns (Or.inr (Or.inr (Or.inl (Or.inl c1))))]
          rfl) ?_
      refine mis_go rfl ?_
      refine mcl_go (v := 1) rfl ?_
      rw [if_pos rfl]
    · by_cases c2 : 8 < xs 2
      · skip
        apply Exists.intro
        unfold f_La_c4
        refine msl_go (v := xs 1) (nt_in (by decide) (by decide)) rfl ?_
        refine msl_go (v := xs 2) (nt_in (by decide) (by decide)) rfl ?_
        refine msl_go (v := xs 3) (nt_in (by decide) (by decide)) rfl ?_
        refine msl_go (v := xs 4) (nt_in (by decide) (by decide)) rfl ?_
        refine mcl_go (v := 1) (by
            unfold f_La_predict
            refine mis_go rfl ?_
            rw [show f_SF_predict 400 (hz u1 l1 fc1 fp1 fs1 u2 l2 fc2 fp2 fs2 fx) 0 (xs 1) (xs 2) (xs 3) (xs 4) = some (.inr 1, (hz u1 l1 fc1 fp1 fs1 u2 l2 fc2 fp2 fs2 fx)) by
                unfold f_SF_predict
                refine mcl_go (sK_1 k) ?_
                rw [if_neg (by decide), if_neg c1, if_pos c2]]
            rfl) ?_
        refine msl_go (v := xs 1) (nt_in (by decide) (by decide)) rfl ?_
        refine msl_go (v := xs 2) (nt_in (by decide) (by decide)) rfl ?_
        refine msl_go (v := xs 3) (nt_in (by decide) (by decide)) rfl ?_
        refine msl_go (v := xs 4) (nt_in (by decide) (by decide)) rfl ?_
        refine mis_go rfl ?_
        refine mcl_go (v := ()) (by
            rw [m_uns (Or.inr (Or.inr (Or.inl (Or.inr c2))))]
            rfl) ?_
        refine mis_go rfl ?_
        refine mcl_go (v := 1) rfl ?_
        rw [if_pos rfl]
      · by_cases b : pB (xs 3)
        · by_cases d1 : xs 4 < 1
          · skip
            apply Exists.intro
            unfold f_La_c4
            refine msl_go (v := xs 1) (nt_in (by decide) (by decide)) rfl ?_
            refine msl_go (v := xs 2) (nt_in (by decide) (by decide)) rfl ?_
            refine msl_go (v := xs 3) (nt_in (by decide) (by decide)) rfl ?_
            refine msl_go (v := xs 4) (nt_in (by decide) (by decide)) rfl ?_
            refine mcl_go (v := 1) (by
                unfold f_La_predict
                refine mis_go rfl ?_
                rw [show f_SF_predict 400 (hz u1 l1 fc1 fp1 fs1 u2 l2 fc2 fp2 fs2 fx) 0 (xs 1) (xs 2) (xs 3) (xs 4) = some (.inr 1, (hz u1 l1 fc1 fp1 fs1 u2 l2 fc2 fp2 fs2 fx)) by
                    unfold f_SF_predict
                    refine mcl_go (sK_1 k) ?_
                    rw [if_neg (by decide), if_neg c1, if_neg c2]
                    refine mcl_go (sB_1 b) ?_
                    rw [if_neg (by decide), if_pos d1]]
                rfl) ?_
            refine msl_go (v := xs 1) (nt_in (by decide) (by decide)) rfl ?_
            refine msl_go (v := xs 2) (nt_in (by decide) (by decide)) rfl ?_
            refine msl_go (v := xs 3) (nt_in (by decide) (by decide)) rfl ?_
            refine msl_go (v := xs 4) (nt_in (by decide) (by decide)) rfl ?_
            refine mis_go rfl ?_
            refine mcl_go (v := ()) (by
                rw [m_uns (Or.inr (Or.inr (Or.inr (Or.inl d1))))]
                rfl) ?_
            refine mis_go rfl ?_
            refine mcl_go (v := 1) rfl ?_
            rw [if_pos rfl]
          · by_cases d2 : xs 4 ≤ 4096
            · skip
              apply Exists.intro
              unfold f_La_c4
              refine msl_go (v := xs 1) (nt_in (by decide) (by decide)) rfl ?_
              refine msl_go (v := xs 2) (nt_in (by decide) (by decide)) rfl ?_
              refine msl_go (v := xs 3) (nt_in (by decide) (by decide)) rfl ?_
              refine msl_go (v := xs 4) (nt_in (by decide) (by decide)) rfl ?_
              refine mcl_go (v := 2) (by
                  unfold f_La_predict
                  refine mis_go rfl ?_
                  rw [show f_SF_predict 400 (hz u1 l1 fc1 fp1 fs1 u2 l2 fc2 fp2 fs2 fx) 0 (xs 1) (xs 2) (xs 3) (xs 4) = some (.inr 2, (hz u1 l1 fc1 fp1 fs1 u2 l2 fc2 fp2 fs2 fx)) by
                      unfold f_SF_predict
                      refine mcl_go (sK_1 k) ?_
                      rw [if_neg (by decide), if_neg c1, if_neg c2]
                      refine mcl_go (sB_1 b) ?_
                      rw [if_neg (by decide), if_neg d1, if_pos d2]
                      refine mgi_go rfl rfl ?_
                      rw [if_pos (by decide)]]
                  rfl) ?_
              refine msl_go (v := xs 1) (nt_in (by decide) (by decide)) rfl ?_
              refine msl_go (v := xs 2) (nt_in (by decide) (by decide)) rfl ?_
              refine msl_go (v := xs 3) (nt_in (by decide) (by decide)) rfl ?_
              refine msl_go (v := xs 4) (nt_in (by decide) (by decide)) rfl ?_
              refine mis_go rfl ?_
              refine mcl_go (v := ()) (by
                  rw [mK_1 k, mB_1 b, m5_1 c1 c2 d1 (nl.2 d2)]
                  rfl) ?_
              refine mis_go rfl ?_
              refine mcl_go (v := 2) rfl ?_
              rw [if_pos rfl]
            · skip
              apply Exists.intro
              unfold f_La_c4
              refine msl_go (v := xs 1) (nt_in (by decide) (by decide)) rfl ?_
              refine msl_go (v := xs 2) (nt_in (by decide) (by decide)) rfl ?_
              refine msl_go (v := xs 3) (nt_in (by decide) (by decide)) rfl ?_
              refine msl_go (v := xs 4) (nt_in (by decide) (by decide)) rfl ?_
              refine mcl_go (v := 1) (by
                  unfold f_La_predict
                  refine mis_go rfl ?_
                  rw [show f_SF_predict 400 (hz u1 l1 fc1 fp1 fs1 u2 l2 fc2 fp2 fs2 fx) 0 (xs 1) (xs 2) (xs 3) (xs 4) = some (.inr 1, (hz u1 l1 fc1 fp1 fs1 u2 l2 fc2 fp2 fs2 fx)) by
                      unfold f_SF_predict
                      refine mcl_go (sK_1 k) ?_
                      rw [if_neg (by decide), if_neg c1, if_neg c2]
                      refine mcl_go (sB_1 b) ?_
                      rw [if_neg (by decide), if_neg d1, if_neg d2]]
                  rfl) ?_
              refine msl_go (v := xs 1) (nt_in (by decide) (by decide)) rfl ?_
              refine msl_go (v := xs 2) (nt_in (by decide) (by decide)) rfl ?_
              refine msl_go (v := xs 3) (nt_in (by decide) (by decide)) rfl ?_
              refine msl_go (v := xs 4) (nt_in (by decide) (by decide)) rfl ?_
              refine mis_go rfl ?_
              refine mcl_go (v := ()) (by
                  rw [m_uns (Or.inr (Or.inr (Or.inr (Or.inr (nl.1 d2)))))]
                  rfl) ?_
              refine mis_go rfl ?_
              refine mcl_go (v := 1) rfl ?_
              rw [if_pos rfl]
        · skip
          apply Exists.intro
          unfold f_La_c4
          refine msl_go (v := xs 1) (nt_in (by decide) (by decide)) rfl ?_
          refine msl_go (v := xs 2) (nt_in (by decide) (by decide)) rfl ?_
          refine msl_go (v := xs 3) (nt_in (by decide) (by decide)) rfl ?_
          refine msl_go (v := xs 4) (nt_in (by decide) (by decide)) rfl ?_
          refine mcl_go (v := 1) (by
              unfold f_La_predict
              refine mis_go rfl ?_
              rw [show f_SF_predict 400 (hz u1 l1 fc1 fp1 fs1 u2 l2 fc2 fp2 fs2 fx) 0 (xs 1) (xs 2) (xs 3) (xs 4) = some (.inr 1, (hz u1 l1 fc1 fp1 fs1 u2 l2 fc2 fp2 fs2 fx)) by
                  unfold f_SF_predict
                  refine mcl_go (sK_1 k) ?_
                  rw [if_neg (by decide), if_neg c1, if_neg c2]
                  refine mcl_go (sB_0 b) ?_
                  rw [if_pos rfl]]
              rfl) ?_
          refine msl_go (v := xs 1) (nt_in (by decide) (by decide)) rfl ?_
          refine msl_go (v := xs 2) (nt_in (by decide) (by decide)) rfl ?_
          refine msl_go (v := xs 3) (nt_in (by decide) (by decide)) rfl ?_
          refine msl_go (v := xs 4) (nt_in (by decide) (by decide)) rfl ?_
          refine mis_go rfl ?_
          refine mcl_go (v := ()) (by
              rw [m_uns (Or.inr (Or.inl b))]
              rfl) ?_
          refine mis_go rfl ?_
          refine mcl_go (v := 1) rfl ?_
          rw [if_pos rfl]
  · skip
    apply Exists.intro
    unfold f_La_c4
    refine msl_go (v := xs 1) (nt_in (by decide) (by decide)) rfl ?_
    refine msl_go (v := xs 2) (nt_in (by decide) (by decide)) rfl ?_
    refine msl_go (v := xs 3) (nt_in (by decide) (by decide)) rfl ?_
    refine msl_go (v := xs 4) (nt_in (by decide) (by decide)) rfl ?_
    refine mcl_go (v := 1) (by
        unfold f_La_predict
        refine mis_go rfl ?_
        rw [show f_SF_predict 400 (hz u1 l1 fc1 fp1 fs1 u2 l2 fc2 fp2 fs2 fx) 0 (xs 1) (xs 2) (xs 3) (xs 4) = some (.inr 1, (hz u1 l1 fc1 fp1 fs1 u2 l2 fc2 fp2 fs2 fx)) by
            unfold f_SF_predict
            refine mcl_go (sK_0 k) ?_
            rw [if_pos rfl]]
        rfl) ?_
    refine msl_go (v := xs 1) (nt_in (by decide) (by decide)) rfl ?_
    refine msl_go (v := xs 2) (nt_in (by decide) (by decide)) rfl ?_
    refine msl_go (v := xs 3) (nt_in (by decide) (by decide)) rfl ?_
    refine msl_go (v := xs 4) (nt_in (by decide) (by decide)) rfl ?_
    refine mis_go rfl ?_
    refine mcl_go (v := ()) (by
        rw [m_uns (Or.inl k)]
        rfl) ?_
    refine mis_go rfl ?_
    refine mcl_go (v := 1) rfl ?_
    rw [if_pos rfl]
end mFresh
