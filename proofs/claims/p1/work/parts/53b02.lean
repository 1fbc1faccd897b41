section mFresh
variable {xs : Nat → Int32} (u1 l1 : Int32) (fc1 fp1 fs1 : Nat → Int32) (u2 l2 : Int32) (fc2 fp2 fs2 fx : Nat → Int32)
set_option maxHeartbeats 4000000 in
set_option maxRecDepth 100000 in
theorem sf_8 (x : Int32) : f_SF_at 400 (hz u1 l1 fc1 fp1 fs1 u2 l2 fc2 fp2 fs2 fx) 0 x = some (-1, (hz u1 l1 fc1 fp1 fs1 u2 l2 fc2 fp2 fs2 fx)) := by
  unfold f_SF_at
  by_cases q : x < 0
  · rw [if_pos q]
  · rw [if_neg q]
    refine mgr_go rfl rfl ?_
    refine mgi_go rfl rfl ?_
    rw [if_pos (p_neg q).1]
set_option maxHeartbeats 4000000 in
set_option maxRecDepth 100000 in
theorem mo_8 (x : Int32) : ∃ h', f_Mo_at 400 (hz u1 l1 fc1 fp1 fs1 u2 l2 fc2 fp2 fs2 fx) 50 x = some (-1, h') := by
  unfold f_Mo_at
  apply Exists.intro
  refine mpt_go rfl (Nat.le_of_ble_eq_true rfl) rfl ?_
  refine mgi_go rfl rfl ?_
  refine mcl_go (pi_0 ?_) ?_
  · by_cases q : x < 0
    · exact Or.inl q
    · exact Or.inr (p_neg q).2.1
  · rw [if_pos rfl]
set_option maxHeartbeats 4000000 in
set_option maxRecDepth 100000 in
theorem pc_8 : ∃ h', f_La_c8 400 xs 6 (hz u1 l1 fc1 fp1 fs1 u2 l2 fc2 fp2 fs2 fx) 0 66 50 0 = some ((), h') := by
  obtain ⟨h3, e3⟩ := mo_8 u1 l1 fc1 fp1 fs1 u2 l2 fc2 fp2 fs2 fx (xs 1)
  refine ⟨h3, ?_⟩
  unfold f_La_c8
  refine msl_go (v := xs 1) (nt_in (by decide) (by decide)) rfl ?_
  refine mis_go rfl ?_
  refine mcl_go (sf_8 u1 l1 fc1 fp1 fs1 u2 l2 fc2 fp2 fs2 fx (xs 1)) ?_
  refine msl_go (v := xs 1) (nt_in (by decide) (by decide)) rfl ?_
  refine mis_go rfl ?_
  refine mcl_go e3 ?_
  rw [if_pos rfl]
def byH (h : mH) (a r n : Nat) (l : Int32) (f : Nat → Int32) : mH := (h.set a (.inr (1, [.ref r, .int l]))).set r (.inl (.byte, (n, .inl f)))
theorem byH_a {h : mH} {a r n : Nat} {l : Int32} {f : Nat → Int32} (ha : a < h.length) (hne : r ≠ a) : (byH h a r n l f)[a]? = some (.inr (1, [.ref r, .int l])) := by
  simp [byH, List.getElem?_set, ha, hne]
theorem byH_r {h : mH} {a r n : Nat} {l : Int32} {f : Nat → Int32} (hr : r < h.length) : (byH h a r n l f)[r]? = some (.inl (.byte, (n, .inl f))) := by
  simp [byH, List.getElem?_set, hr]
theorem byH_sa {h : mH} {a r n : Nat} {l l' : Int32} {f : Nat → Int32} (hne : r ≠ a) : (byH h a r n l f).set a (.inr (1, [.ref r, .int l'])) = byH h a r n l' f := by
  unfold byH
  rw [List.set_comm _ _ hne, List.set_set]
theorem byH_sr {h : mH} {a r n : Nat} {l : Int32} {f f' : Nat → Int32} : (byH h a r n l f).set r (.inl (.byte, (n, .inl f'))) = byH h a r n l f' := by
  unfold byH
  rw [List.set_set]
theorem by_add {n0 : Nat} {h : mH} {a r n : Nat} {l x : Int32} {f : Nat → Int32} (ha : a < h.length) (hr : r < h.length) (hne : r ≠ a) (hn : n < 2 ^ 31) (h0 : 0 ≤ l.toInt) (h1 : l.toInt < n) : ∃ f', f_By_add n0 (byH h a r n l f) a x = some ((), byH h a r n (l + 1) f') := by
  refine ⟨upd f l.toNatClampNeg (x.toInt8.toInt32).toInt8.toInt32, ?_⟩
  unfold f_By_add
  refine mgi_go (byH_a ha hne) rfl ?_
  refine mgr_go (byH_a ha hne) rfl ?_
  refine mln_go (byH_r hr) rfl ?_
  rw [if_neg (fun q => by rw [nt_le, nI_toInt hn] at q; omega)]
  refine mgr_go (byH_a ha hne) rfl ?_
  refine mgi_go (byH_a ha hne) rfl ?_
  refine mas_go (byH_r hr) (nt_in h0 h1) byH_sr ?_
  refine mgi_go (byH_a ha hne) rfl ?_
  refine mpt_go (byH_a ha hne) (Nat.le_of_ble_eq_true rfl) (byH_sa hne) ?_
  rfl
theorem by_add4 {h : mH} {a r n : Nat} {l x : Int32} {f : Nat → Int32} (ha : a < h.length) (hr : r < h.length) (hne : r ≠ a) (hn : n < 2 ^ 30) (h0 : 0 ≤ l.toInt) (h1 : l.toInt + 4 ≤ n) : ∃ (l' : Int32) (f' : Nat → Int32), l'.toInt = l.toInt + 4 ∧ f_By_addFour 400 (byH h a r n l f) a x = some ((), byH h a r n l' f') := by
  have e1 : (1 : Int32).toInt = 1 := rfl
  have s1 : (l + 1).toInt = l.toInt + 1 := by rw [nt_add (by omega) (by omega)]; omega
  have s2 : (l + 1 + 1).toInt = l.toInt + 2 := by rw [nt_add (by omega) (by omega)]; omega
  have s3 : (l + 1 + 1 + 1).toInt = l.toInt + 3 := by rw [nt_add (by omega) (by omega)]; omega
  have s4 : (l + 1 + 1 + 1 + 1).toInt = l.toInt + 4 := by rw [nt_add (by omega) (by omega)]; omega
  obtain ⟨f1, g1⟩ := by_add (n0 := 400) (n := n) (x := (x.toUInt32 >>> ((24 : Int32).toUInt32 &&& Int32.toUInt32 31)).toInt32) (f := f) ha hr hne (by omega) h0 (by omega)
  obtain ⟨f2, g2⟩ := by_add (n0 := 400) (n := n) (x := (x.toUInt32 >>> ((24 + (-8) : Int32).toUInt32 &&& Int32.toUInt32 31)).toInt32) (l := l + 1) (f := f1) ha hr hne (by omega) (by omega) (by omega)
  obtain ⟨f3, g3⟩ := by_add (n0 := 400) (n := n) (x := (x.toUInt32 >>> ((24 + (-8) + (-8) : Int32).toUInt32 &&& Int32.toUInt32 31)).toInt32) (l := l + 1 + 1) (f := f2) ha hr hne (by omega) (by omega) (by omega)
  obtain ⟨f4, g4⟩ := by_add (n0 := 400) (n := n) (x := (x.toUInt32 >>> ((24 + (-8) + (-8) + (-8) : Int32).toUInt32 &&& Int32.toUInt32 31)).toInt32) (l := l + 1 + 1 + 1) (f := f3) ha hr hne (by omega) (by omega) (by omega)
  refine ⟨l + 1 + 1 + 1 + 1, f4, s4, ?_⟩
  unfold f_By_addFour
  rw [f_By_addFour_L3.eq_2, if_neg (by decide)]
  refine mis_go (byH_a ha hne) ?_
  refine mcl_go g1 ?_
  refine mnm_go ?_
  rw [f_By_addFour_L3.eq_2, if_neg (by decide)]
  refine mis_go (byH_a ha hne) ?_
  refine mcl_go g2 ?_
  refine mnm_go ?_
  rw [f_By_addFour_L3.eq_2, if_neg (by decide)]
  refine mis_go (byH_a ha hne) ?_
  refine mcl_go g3 ?_
  refine mnm_go ?_
  rw [f_By_addFour_L3.eq_2, if_neg (by decide)]
  refine mis_go (byH_a ha hne) ?_
  refine mcl_go g4 ?_
  refine mnm_go ?_
  rw [f_By_addFour_L3.eq_2, if_pos (by decide)]
def moF (h : mH) (l : Int32) (f : Nat → Int32) : mH := (h.set 50 (.inr (10, [.int 0, .int l, .ref 51, .int 0, .ref 52, .ref 53, .ref 54, .ref 55, .ref 56, .ref 57, .int 65536, .int 0, .ref 58, .int 0, .ref 59, .int 0, .int 0, .int 0, .int 0, .int 0, .ref 60, .ref 61, .ref 62, .ref 63, .ref 64, .int 0, .int 0, .ref 65, .int (-1), .int (-1), .int (-1)]))).set 51 (.inl (.int, (16384, .inl f)))
theorem moF_a {h : mH} {l : Int32} {f : Nat → Int32} (hl : 51 < h.length) : (moF h l f)[50]? = some (.inr (10, [.int 0, .int l, .ref 51, .int 0, .ref 52, .ref 53, .ref 54, .ref 55, .ref 56, .ref 57, .int 65536, .int 0, .ref 58, .int 0, .ref 59, .int 0, .int 0, .int 0, .int 0, .int 0, .ref 60, .ref 61, .ref 62, .ref 63, .ref 64, .int 0, .int 0, .ref 65, .int (-1), .int (-1), .int (-1)])) := by
  have h50 : 50 < h.length := by omega
  simp [moF, List.getElem?_set, h50]
theorem moF_r {h : mH} {l : Int32} {f : Nat → Int32} (hl : 51 < h.length) : (moF h l f)[51]? = some (.inl (.int, (16384, .inl f))) := by
  simp [moF, List.getElem?_set, hl]
theorem moF_sa {h : mH} {l l' : Int32} {f : Nat → Int32} : (moF h l f).set 50 (.inr (10, [.int 0, .int l', .ref 51, .int 0, .ref 52, .ref 53, .ref 54, .ref 55, .ref 56, .ref 57, .int 65536, .int 0, .ref 58, .int 0, .ref 59, .int 0, .int 0, .int 0, .int 0, .int 0, .ref 60, .ref 61, .ref 62, .ref 63, .ref 64, .int 0, .int 0, .ref 65, .int (-1), .int (-1), .int (-1)])) = moF h l' f := by
  unfold moF
  rw [List.set_comm _ _ (by decide), List.set_set]
theorem moF_sr {h : mH} {l : Int32} {f f' : Nat → Int32} : (moF h l f).set 51 (.inl (.int, (16384, .inl f'))) = moF h l f' := by
  unfold moF
  rw [List.set_set]
theorem mo_L23 {h : mH} {a b c d e : Int32} (hl : 51 < h.length) : ∀ (k n : Nat) (x l : Int32) (f : Nat → Int32), x.toInt = 20 - (k : Int) → k ≤ 20 → l.toInt = x.toInt → k < n → ∃ h', f_Mo_feed_L23 400 n (moF h l f) 50 a b c d e x = some (20, h') := by
  intro k
  induction k with
  | zero =>
    intro n x l f hx _ hlx hn
    obtain ⟨m, rfl⟩ : ∃ m, n = m + 1 := ⟨n - 1, by omega⟩
    have e20 : (20 : Int32).toInt = 20 := rfl
    have hl20 : l = 20 := Int32.toInt_inj.mp (by omega)
    subst hl20
    refine ⟨moF h 20 f, ?_⟩
    rw [f_Mo_feed_L23.eq_2, if_pos (nt_le.mpr (by omega))]
    refine mgi_go (moF_a hl) rfl ?_
    rfl
  | succ k ih =>
    intro n x l f hx hk hlx hn
    obtain ⟨m, rfl⟩ : ∃ m, n = m + 1 := ⟨n - 1, by omega⟩
    have e1 : (1 : Int32).toInt = 1 := rfl
    have e20 : (20 : Int32).toInt = 20 := rfl
    have hx1 : (x + 1).toInt = 20 - (k : Int) := by rw [nt_add (by omega) (by omega)]; omega
    have hl1 : (l + 1).toInt = (x + 1).toInt := by rw [hx1, nt_add (by omega) (by omega)]; omega
    have key : ∀ pk : Int32, ∃ h', f_Mo_feed_B76 (f_Mo_feed_L23 400 m) 400 (moF h l f) 50 a b c d e x pk = some (20, h') := by
      intro pk
      obtain ⟨h', g⟩ := ih m (x + 1) (l + 1) (upd f l.toNatClampNeg ((pk >>> ((24 - (8 * (x - x / 4 * 4))) &&& 31)) &&& 255)) hx1 (by omega) hl1 (by omega)
      refine ⟨h', ?_⟩
      unfold f_Mo_feed_B76
      refine mgr_go (moF_a hl) rfl ?_
      refine mgi_go (moF_a hl) rfl ?_
      refine mas_go (moF_r hl) (nt_in (by omega) (by omega)) moF_sr ?_
      refine mgi_go (moF_a hl) rfl ?_
      refine mpt_go (moF_a hl) (Nat.le_of_ble_eq_true rfl) moF_sa ?_
      exact mnm_go g
    rw [f_Mo_feed_L23.eq_2, if_neg (fun q => by have := nt_le.mp q; omega)]
    by_cases c1 : (4 : Int32) ≤ x
    · rw [if_pos c1]
      by_cases c2 : (8 : Int32) ≤ x
      · rw [if_pos c2]
        by_cases c3 : (12 : Int32) ≤ x
        · rw [if_pos c3]
          by_cases c4 : (16 : Int32) ≤ x
          · rw [if_pos c4]; exact key e
          · rw [if_neg c4]; exact key d
        · rw [if_neg c3]; exact key c
      · rw [if_neg c2]; exact key b
    · rw [if_neg c1]; exact key a
end mFresh
