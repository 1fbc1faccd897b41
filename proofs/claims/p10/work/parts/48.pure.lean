/-! WHAT THE FUNCTIONS ARE WORTH, FORWARD -/
section mGo
variable {α β : Type} {h h' : mH} {i ci k a : Nat} {ty : FieldType} {j x : Int32} {fs : List Value} {r : Option α}
theorem mgi_go {F : Int32 → Option α} {v : Int32} (hi : h[i]? = some (.inr (ci, fs))) (hk : fs[k]? = some (.int v)) (hF : F v = r) : mgi h i ci k F = r := (mgi_ev hi hk).trans hF
theorem mgl_go {F : Int64 → Option α} {v : Int64} (hi : h[i]? = some (.inr (ci, fs))) (hk : fs[k]? = some (.long v)) (hF : F v = r) : mgl h i ci k F = r := (mgl_ev hi hk).trans hF
theorem mgr_go {F : Nat → Option α} {v : Nat} (hi : h[i]? = some (.inr (ci, fs))) (hk : fs[k]? = some (.ref v)) (hF : F v = r) : mgr h i ci k F = r := (mgr_ev hi hk).trans hF
theorem mpt_go {F : mH → Option α} {v : Value} (hi : h[i]? = some (.inr (ci, fs))) (hk : k < fs.length) (e : h.set i (.inr (ci, fs.set k v)) = h') (hF : F h' = r) : mpt h i ci k v F = r := by
  rw [mpt_ev hi hk, e]
  exact hF
theorem mai_go {F : Int32 → Option α} {n : Nat} {f : Nat → Int32} {v : Int32} (hi : h[a]? = some (.inl (ty, (n, .inl f)))) (hj : vp_in j n) (hv : f j.toNatClampNeg = v) (hF : F v = r) : mai h a ty j F = r := by
  rw [mai_ev hi hj, hv]
  exact hF
theorem mas_go {F : mH → Option α} {n : Nat} {f : Nat → Int32} (hi : h[a]? = some (.inl (ty, (n, .inl f)))) (hj : vp_in j n) (e : h.set a (.inl (ty, (n, .inl (upd f j.toNatClampNeg x)))) = h') (hF : F h' = r) : mas h a ty j x F = r := by
  rw [mas_ev hi hj, e]
  exact hF
theorem mar_go {F : Nat → Option α} {n v : Nat} {f : Nat → Option Nat} (hi : h[a]? = some (.inl (ty, (n, .inr (.inr (.inr (.inr f))))))) (hj : vp_in j n) (hr : f j.toNatClampNeg = some v) (hF : F v = r) : mar h a ty j F = r := (mar_ev hi hj hr).trans hF
theorem mln_go {F : Int32 → Option α} {x : vp_A} {v : Int32} (hi : h[a]? = some (.inl (ty, x))) (hv : nI x.1 = v) (hF : F v = r) : mln h a ty F = r := by
  rw [mln_ev hi, hv]
  exact hF
theorem mcl_go {x : Option (β × mH)} {F : β → mH → Option α} {v : β} (hx : x = some (v, h')) (hF : F v h' = r) : mcl x F = r := (mcl_ev hx).trans hF
theorem mis_go {F : Option α} (hi : h[i]? = some (.inr (ci, fs))) (hF : F = r) : mis h i ci F = r := (mis_ev hi).trans hF
theorem mgd_go {P : Prop} {F : Option α} (hp : P) (hF : F = r) : mgd P F = r := (mgd_ev hp).trans hF
theorem mnm_go {x : β} {F : β → Option α} (hF : F x = r) : mnm x F = r := hF
theorem msl_go {f : Nat → Int32} {n : Nat} {F : Int32 → Option α} {v : Int32} (hj : vp_in j n) (hv : f j.toNatClampNeg = v) (hF : F v = r) : msl f n j F = r := by
  rw [msl_ev hj, hv]
  exact hF
theorem mrs_go {F : mH → Option α} {C : String} {q n : Nat} {f : Nat → Option Nat} (h1 : h[a]? = some (.inl (.object C, (n, .inr (.inr (.inr (.inr f))))))) (h2 : h[q]? = some (.inr (ci, fs))) (hj : vp_in j n) (e : h.set a (.inl (.object C, (n, .inr (.inr (.inr (.inr (va_up f j.toNatClampNeg (some q)))))))) = h') (hF : F h' = r) : mrs h a C j q ci F = r := by
  have hj' : ¬ (j < 0 ∨ n ≤ j.toNatClampNeg) := hj
  simp only [mrs, h1, h2, true_and, hj', not_false_eq_true, if_true]
  rw [e]
  exact hF
end mGo
theorem nt_add {x y : Int32} (h1 : -2147483648 ≤ x.toInt + y.toInt) (h2 : x.toInt + y.toInt < 2147483648) : (x + y).toInt = x.toInt + y.toInt := by
  rw [Int32.toInt_add, Int.bmod_def]
  omega
theorem nt_sub {x y : Int32} (h1 : -2147483648 ≤ x.toInt - y.toInt) (h2 : x.toInt - y.toInt < 2147483648) : (x - y).toInt = x.toInt - y.toInt := by
  rw [Int32.toInt_sub, Int.bmod_def]
  omega
theorem nt_in {x : Int32} {n : Nat} (h0 : 0 ≤ x.toInt) (h1 : x.toInt < n) : vp_in x n := by
  intro hh
  rcases hh with hh | hh
  · have := Int32.lt_iff_toInt_lt.mp hh
    have e0 : (0 : Int32).toInt = 0 := rfl
    omega
  · have e1 : x.toNatClampNeg = x.toInt.toNat := rfl
    omega
theorem nt_lt {x y : Int32} : x < y ↔ x.toInt < y.toInt := Int32.lt_iff_toInt_lt
theorem nt_le {x y : Int32} : x ≤ y ↔ x.toInt ≤ y.toInt := Int32.le_iff_toInt_le
theorem nt_cl (x : Int32) : x.toNatClampNeg = x.toInt.toNat := rfl
/-! FOUR CELLS of a table of codes; the others as they are in h -/
def coH (h : mH) (c ct pl sy ns : Nat) (u l : Int32) (fc fp fs : Nat → Int32) : mH := (((h.set c (.inr (2, [.ref ct, .ref pl, .ref sy, .int u, .int l]))).set ct (.inl (.int, (16, .inl fc)))).set pl (.inl (.int, (16, .inl fp)))).set sy (.inl (.int, (ns, .inl fs)))
def coD (h : mH) (c ct pl sy : Nat) : Prop := (c < h.length ∧ ct < h.length ∧ pl < h.length ∧ sy < h.length) ∧ (ct ≠ c ∧ pl ≠ c ∧ sy ≠ c) ∧ (pl ≠ ct ∧ sy ≠ ct) ∧ sy ≠ pl
section mCodes
variable {h : mH} {c ct pl sy ns : Nat} {u l u' l' : Int32} {fc fp fs f' : Nat → Int32}
theorem coH_c (d : coD h c ct pl sy) : (coH h c ct pl sy ns u l fc fp fs)[c]? = some (.inr (2, [.ref ct, .ref pl, .ref sy, .int u, .int l])) := by
  obtain ⟨⟨l1, l2, l3, l4⟩, ⟨n1, n2, n3⟩, ⟨n4, n5⟩, n6⟩ := d
  simp [coH, List.getElem?_set, l1, n1, n2, n3]
theorem coH_ct (d : coD h c ct pl sy) : (coH h c ct pl sy ns u l fc fp fs)[ct]? = some (.inl (.int, (16, .inl fc))) := by
  obtain ⟨⟨l1, l2, l3, l4⟩, ⟨n1, n2, n3⟩, ⟨n4, n5⟩, n6⟩ := d
  simp [coH, List.getElem?_set, l2, n4, n5]
theorem coH_pl (d : coD h c ct pl sy) : (coH h c ct pl sy ns u l fc fp fs)[pl]? = some (.inl (.int, (16, .inl fp))) := by
  obtain ⟨⟨l1, l2, l3, l4⟩, ⟨n1, n2, n3⟩, ⟨n4, n5⟩, n6⟩ := d
  simp [coH, List.getElem?_set, l3, n6]
theorem coH_sy (d : coD h c ct pl sy) : (coH h c ct pl sy ns u l fc fp fs)[sy]? = some (.inl (.int, (ns, .inl fs))) := by
  obtain ⟨⟨l1, l2, l3, l4⟩, ⟨n1, n2, n3⟩, ⟨n4, n5⟩, n6⟩ := d
  simp [coH, List.getElem?_set, l4]
theorem coH_o {j : Nat} (h1 : j ≠ c) (h2 : j ≠ ct) (h3 : j ≠ pl) (h4 : j ≠ sy) : (coH h c ct pl sy ns u l fc fp fs)[j]? = h[j]? := by
  simp [coH, List.getElem?_set, h1.symm, h2.symm, h3.symm, h4.symm]
theorem coH_sc (d : coD h c ct pl sy) : (coH h c ct pl sy ns u l fc fp fs).set c (.inr (2, [.ref ct, .ref pl, .ref sy, .int u', .int l'])) = coH h c ct pl sy ns u' l' fc fp fs := by
  obtain ⟨⟨l1, l2, l3, l4⟩, ⟨n1, n2, n3⟩, ⟨n4, n5⟩, n6⟩ := d
  unfold coH
  rw [List.set_comm _ _ n3, List.set_comm _ _ n2, List.set_comm _ _ n1, List.set_set]
theorem coH_sct (d : coD h c ct pl sy) : (coH h c ct pl sy ns u l fc fp fs).set ct (.inl (.int, (16, .inl f'))) = coH h c ct pl sy ns u l f' fp fs := by
  obtain ⟨⟨l1, l2, l3, l4⟩, ⟨n1, n2, n3⟩, ⟨n4, n5⟩, n6⟩ := d
  unfold coH
  rw [List.set_comm _ _ n5, List.set_comm _ _ n4, List.set_set]
theorem coH_spl (d : coD h c ct pl sy) : (coH h c ct pl sy ns u l fc fp fs).set pl (.inl (.int, (16, .inl f'))) = coH h c ct pl sy ns u l fc f' fs := by
  obtain ⟨⟨l1, l2, l3, l4⟩, ⟨n1, n2, n3⟩, ⟨n4, n5⟩, n6⟩ := d
  unfold coH
  rw [List.set_comm _ _ n6, List.set_set]
theorem coH_ssy : (coH h c ct pl sy ns u l fc fp fs).set sy (.inl (.int, (ns, .inl f'))) = coH h c ct pl sy ns u l fc fp f' := by
  unfold coH
  rw [List.set_set]
variable {n0 a1 na : Nat} {fa : Nat → Int32} {x2 x3 : Int32}
theorem co_L13 (d : coD h c ct pl sy) : ∀ (k n : Nat) (x4 : Int32) (fc : Nat → Int32), x4.toInt = 16 - (k : Int) → k ≤ 16 → k < n → (∀ j : Nat, j < 16 - k → fc j = 0) → ∃ fc' : Nat → Int32, (∀ j : Nat, j < 16 → fc' j = 0) ∧ f_Co_count_L13 n0 n (coH h c ct pl sy ns u l fc fp fs) c a1 x2 x3 x4 = f_Co_count_L37 n0 n0 (coH h c ct pl sy ns u l fc' fp fs) c a1 x2 x3 0 := by
  intro k
  induction k with
  | zero =>
    intro n x4 fc hx _ hn hz
    obtain ⟨m, rfl⟩ : ∃ m, n = m + 1 := ⟨n - 1, by omega⟩
    refine ⟨fc, hz, ?_⟩
    rw [f_Co_count_L13.eq_2, if_pos (nt_lt.mpr (by have : (15 : Int32).toInt = 15 := rfl; omega))]
  | succ k ih =>
    intro n x4 fc hx hk hn hz
    obtain ⟨m, rfl⟩ : ∃ m, n = m + 1 := ⟨n - 1, by omega⟩
    have e15 : (15 : Int32).toInt = 15 := rfl
    have e1 : (1 : Int32).toInt = 1 := rfl
    have hx1 : (x4 + 1).toInt = 16 - (k : Int) := by rw [nt_add (by omega) (by omega)]; omega
    obtain ⟨fc', h1, h2⟩ := ih m (x4 + 1) (upd fc x4.toNatClampNeg 0) hx1 (by omega) (by omega) (fun j hj => by
      unfold upd
      split
      · rfl
      · exact hz j (by rw [nt_cl] at *; omega))
    refine ⟨fc', h1, ?_⟩
    rw [f_Co_count_L13.eq_2, if_neg (fun q => by have := nt_lt.mp q; omega)]
    refine mgr_go (coH_c d) rfl ?_
    refine mas_go (coH_ct d) (nt_in (by omega) (by omega)) (coH_sct d) ?_
    exact mnm_go h2
theorem co_len (x : Int32) (h0 : mH) : (f_Co_isLength n0 h0 x = some (0, h0)) ∨ (f_Co_isLength n0 h0 x = some (1, h0) ∧ 1 ≤ x.toInt ∧ x.toInt ≤ 15) := by
  unfold f_Co_isLength
  by_cases h1 : x ≤ 0
  · exact Or.inl (by rw [if_pos h1])
  · by_cases h2 : 15 < x
    · exact Or.inl (by rw [if_neg h1, if_pos h2])
    · refine Or.inr ⟨by rw [if_neg h1, if_neg h2], ?_⟩
      rw [nt_le] at h1
      rw [nt_lt] at h2
      have e0 : (0 : Int32).toInt = 0 := rfl
      have e15 : (15 : Int32).toInt = 15 := rfl
      omega
theorem co_L37 (d : coD h c ct pl sy) (ha : a1 ≠ c ∧ a1 ≠ ct ∧ a1 ≠ pl ∧ a1 ≠ sy) (hr : h[a1]? = some (.inl (.int, (na, .inl fa)))) (hna : na < 2 ^ 31) (hx2 : 0 ≤ x2.toInt ∧ x2.toInt ≤ 100000) (hx3 : x3.toInt ≤ 100000) : ∀ (k n : Nat) (x4 : Int32) (u l : Int32) (fc : Nat → Int32), 0 ≤ x4.toInt → x4.toInt ≤ 100000 → x3.toInt - x4.toInt ≤ k → k < n → (∀ j : Nat, j < 16 → 0 ≤ (fc j).toInt ∧ (fc j).toInt ≤ x4.toInt) → ∃ (u' l' : Int32) (fc' : Nat → Int32), (∀ j : Nat, j < 16 → 0 ≤ (fc' j).toInt ∧ (fc' j).toInt ≤ 100000) ∧ f_Co_count_L37 n0 n (coH h c ct pl sy ns u l fc fp fs) c a1 x2 x3 x4 = some ((), coH h c ct pl sy ns u' l' fc' fp fs) := by
  intro k
  induction k with
  | zero =>
    intro n x4 u l fc h0 h1 h2 hn hb
    obtain ⟨m, rfl⟩ : ∃ m, n = m + 1 := ⟨n - 1, by omega⟩
    refine ⟨u, l, fc, fun j hj => ⟨(hb j hj).1, by have := (hb j hj).2; omega⟩, ?_⟩
    rw [f_Co_count_L37.eq_2, if_pos (nt_le.mpr (by omega))]
  | succ k ih =>
    intro n x4 u l fc h0 h1 h2 hn hb
    obtain ⟨m, rfl⟩ : ∃ m, n = m + 1 := ⟨n - 1, by omega⟩
    have e1 : (1 : Int32).toInt = 1 := rfl
    by_cases hc : x3 ≤ x4
    · refine ⟨u, l, fc, fun j hj => ⟨(hb j hj).1, by have := (hb j hj).2; omega⟩, ?_⟩
      rw [f_Co_count_L37.eq_2, if_pos hc]
    · have hlt : x4.toInt < x3.toInt := by rw [nt_le] at hc; omega
      have hs : (x2 + x4).toInt = x2.toInt + x4.toInt := nt_add (by omega) (by omega)
      have hx1 : (x4 + 1).toInt = x4.toInt + 1 := by rw [nt_add (by omega) (by omega)]; omega
      have ho : (coH h c ct pl sy ns u l fc fp fs)[a1]? = some (.inl (.int, (na, .inl fa))) := by rw [coH_o ha.1 ha.2.1 ha.2.2.1 ha.2.2.2]; exact hr
      by_cases hc2 : nI na ≤ (x2 + x4)
      · refine ⟨u, l, fc, fun j hj => ⟨(hb j hj).1, by have := (hb j hj).2; omega⟩, ?_⟩
        rw [f_Co_count_L37.eq_2, if_neg hc]
        refine mln_go ho rfl ?_
        rw [if_pos hc2]
      · have hin : vp_in (x2 + x4) na := by
          refine nt_in (by omega) ?_
          rw [nt_le, nI_toInt hna] at hc2
          omega
        rcases co_len (n0 := n0) (fa (x2 + x4).toNatClampNeg) (coH h c ct pl sy ns u l fc fp fs) with hl | ⟨hl, hl1, hl2⟩
        · obtain ⟨u', l', fc', g1, g2⟩ := ih m (x4 + 1) u l fc (by omega) (by omega) (by omega) (by omega) (fun j hj => ⟨(hb j hj).1, by have := (hb j hj).2; omega⟩)
          refine ⟨u', l', fc', g1, ?_⟩
          rw [f_Co_count_L37.eq_2, if_neg hc]
          refine mln_go ho rfl ?_
          rw [if_neg hc2]
          refine mai_go ho hin rfl ?_
          refine mcl_go hl ?_
          rw [if_pos rfl]
          exact mnm_go g2
        · have hin2 : vp_in (fa (x2 + x4).toNatClampNeg) 16 := nt_in (by omega) (by omega)
          have hj16 : (fa (x2 + x4).toNatClampNeg).toNatClampNeg < 16 := by rw [nt_cl]; omega
          have hb1 := hb _ hj16
          have hv1 : (fc (fa (x2 + x4).toNatClampNeg).toNatClampNeg + 1).toInt = (fc (fa (x2 + x4).toNatClampNeg).toNatClampNeg).toInt + 1 := by rw [nt_add (by omega) (by omega)]; omega
          obtain ⟨u', l', fc', g1, g2⟩ := ih m (x4 + 1) (u + 1) (if l < fa (x2 + x4).toNatClampNeg then fa (x2 + x4).toNatClampNeg else l) (upd fc (fa (x2 + x4).toNatClampNeg).toNatClampNeg (fc (fa (x2 + x4).toNatClampNeg).toNatClampNeg + 1)) (by omega) (by omega) (by omega) (by omega) (fun j hj => by
            unfold upd
            split
            · omega
            · exact ⟨(hb j hj).1, by have := (hb j hj).2; omega⟩)
          refine ⟨u', l', fc', g1, ?_⟩
          rw [f_Co_count_L37.eq_2, if_neg hc]
          refine mln_go ho rfl ?_
          rw [if_neg hc2]
          refine mai_go ho hin rfl ?_
          refine mcl_go hl ?_
          rw [if_neg (by decide)]
          refine mgr_go (coH_c d) rfl ?_
          refine mai_go (coH_ct d) hin2 rfl ?_
          refine mas_go (coH_ct d) hin2 (coH_sct d) ?_
          refine mgi_go (coH_c d) rfl ?_
          refine mpt_go (coH_c d) (Nat.le_of_ble_eq_true rfl) (coH_sc d) ?_
          refine mgi_go (coH_c d) rfl ?_
          refine mnm_go ?_
          refine mpt_go (coH_c d) (Nat.le_of_ble_eq_true rfl) (coH_sc d) ?_
          exact mnm_go g2
theorem co_L17 (d : coD h c ct pl sy) (hb : ∀ j : Nat, j < 16 → 0 ≤ (fc j).toInt ∧ (fc j).toInt ≤ 100000) : ∀ (k n : Nat) (x4 : Int32) (fp : Nat → Int32), x4.toInt = 16 - (k : Int) → k ≤ 15 → k < n → (∀ j : Nat, j < 16 - k → 0 ≤ (fp j).toInt ∧ (fp j).toInt ≤ 100000 * (j : Int)) → ∃ fp' : Nat → Int32, (∀ j : Nat, j < 16 → 0 ≤ (fp' j).toInt) ∧ f_Co_build_L17 n0 n (coH h c ct pl sy ns u l fc fp fs) c a1 x2 x3 x4 = f_Co_build_L59 n0 n0 (coH h c ct pl sy ns u l fc fp' fs) c a1 x2 x3 0 := by
  intro k
  induction k with
  | zero =>
    intro n x4 fp hx _ hn hz
    obtain ⟨m, rfl⟩ : ∃ m, n = m + 1 := ⟨n - 1, by omega⟩
    refine ⟨fp, fun j hj => (hz j hj).1, ?_⟩
    rw [f_Co_build_L17.eq_2, if_pos (nt_lt.mpr (by have : (15 : Int32).toInt = 15 := rfl; omega))]
  | succ k ih =>
    intro n x4 fp hx hk hn hz
    obtain ⟨m, rfl⟩ : ∃ m, n = m + 1 := ⟨n - 1, by omega⟩
    have e15 : (15 : Int32).toInt = 15 := rfl
    have e1 : (1 : Int32).toInt = 1 := rfl
    have hx1 : (x4 + 1).toInt = 16 - (k : Int) := by rw [nt_add (by omega) (by omega)]; omega
    have hxm : (x4 - 1).toInt = 15 - ((k + 1 : Nat) : Int) := by rw [nt_sub (by omega) (by omega)]; omega
    have hjm : (x4 - 1).toNatClampNeg = 14 - k := by rw [nt_cl]; omega
    have hj4 : x4.toNatClampNeg = 15 - k := by rw [nt_cl]; omega
    have q1 := hz (14 - k) (by omega)
    have q2 := hb (14 - k) (by omega)
    have hcast : ((14 - k : Nat) : Int) = 14 - (k : Int) := by omega
    rw [hcast] at q1
    have hsum : (fp (14 - k) + fc (14 - k)).toInt = (fp (14 - k)).toInt + (fc (14 - k)).toInt := nt_add (by omega) (by omega)
    obtain ⟨fp', h1, h2⟩ := ih m (x4 + 1) (upd fp x4.toNatClampNeg (fp (x4 - 1).toNatClampNeg + fc (x4 - 1).toNatClampNeg)) hx1 (by omega) (by omega) (fun j hj => by
      rw [hjm, hj4]
      unfold upd
      split
      · rename_i hj5
        have : (j : Int) = 15 - (k : Int) := by omega
        omega
      · exact hz j (by omega))
    refine ⟨fp', h1, ?_⟩
    rw [f_Co_build_L17.eq_2, if_neg (fun q => by have := nt_lt.mp q; omega)]
    refine mgr_go (coH_c d) rfl ?_
    refine mgr_go (coH_c d) rfl ?_
    refine mai_go (coH_pl d) (nt_in (by omega) (by omega)) rfl ?_
    refine mgr_go (coH_c d) rfl ?_
    refine mai_go (coH_ct d) (nt_in (by omega) (by omega)) rfl ?_
    refine mas_go (coH_pl d) (nt_in (by omega) (by omega)) (coH_spl d) ?_
    exact mnm_go h2
theorem co_L59 (d : coD h c ct pl sy) (ha : a1 ≠ c ∧ a1 ≠ ct ∧ a1 ≠ pl ∧ a1 ≠ sy) (hr : h[a1]? = some (.inl (.int, (na, .inl fa)))) (hna : na < 2 ^ 31) (hns : ns < 2 ^ 30) (hx2 : 0 ≤ x2.toInt ∧ x2.toInt ≤ 100000) (hx3 : x3.toInt ≤ 100000) : ∀ (k n : Nat) (x4 : Int32) (fp fs : Nat → Int32), 0 ≤ x4.toInt → x4.toInt ≤ 100000 → x3.toInt - x4.toInt ≤ k → k < n → (∀ j : Nat, j < 16 → 0 ≤ (fp j).toInt) → ∃ (fp' fs' : Nat → Int32), f_Co_build_L59 n0 n (coH h c ct pl sy ns u l fc fp fs) c a1 x2 x3 x4 = some ((), coH h c ct pl sy ns u l fc fp' fs') := by
  intro k
  induction k with
  | zero =>
    intro n x4 fp fs h0 h1 h2 hn hb
    obtain ⟨m, rfl⟩ : ∃ m, n = m + 1 := ⟨n - 1, by omega⟩
    refine ⟨fp, fs, ?_⟩
    rw [f_Co_build_L59.eq_2, if_pos (nt_le.mpr (by omega))]
  | succ k ih =>
    intro n x4 fp fs h0 h1 h2 hn hb
    obtain ⟨m, rfl⟩ : ∃ m, n = m + 1 := ⟨n - 1, by omega⟩
    have e1 : (1 : Int32).toInt = 1 := rfl
    by_cases hc : x3 ≤ x4
    · refine ⟨fp, fs, ?_⟩
      rw [f_Co_build_L59.eq_2, if_pos hc]
    · have hlt : x4.toInt < x3.toInt := by rw [nt_le] at hc; omega
      have hs : (x2 + x4).toInt = x2.toInt + x4.toInt := nt_add (by omega) (by omega)
      have hx1 : (x4 + 1).toInt = x4.toInt + 1 := by rw [nt_add (by omega) (by omega)]; omega
      have ho : (coH h c ct pl sy ns u l fc fp fs)[a1]? = some (.inl (.int, (na, .inl fa))) := by rw [coH_o ha.1 ha.2.1 ha.2.2.1 ha.2.2.2]; exact hr
      by_cases hc2 : nI na ≤ (x2 + x4)
      · refine ⟨fp, fs, ?_⟩
        rw [f_Co_build_L59.eq_2, if_neg hc]
        refine mln_go ho rfl ?_
        rw [if_pos hc2]
      · have hin : vp_in (x2 + x4) na := by
          refine nt_in (by omega) ?_
          rw [nt_le, nI_toInt hna] at hc2
          omega
        rcases co_len (n0 := n0) (fa (x2 + x4).toNatClampNeg) (coH h c ct pl sy ns u l fc fp fs) with hl | ⟨hl, hl1, hl2⟩
        · obtain ⟨fp', fs', g2⟩ := ih m (x4 + 1) fp fs (by omega) (by omega) (by omega) (by omega) hb
          refine ⟨fp', fs', ?_⟩
          rw [f_Co_build_L59.eq_2, if_neg hc]
          refine mln_go ho rfl ?_
          rw [if_neg hc2]
          refine mai_go ho hin rfl ?_
          refine mcl_go hl ?_
          rw [if_pos rfl]
          exact mnm_go g2
        · have hin2 : vp_in (fa (x2 + x4).toNatClampNeg) 16 := nt_in (by omega) (by omega)
          have hj16 : (fa (x2 + x4).toNatClampNeg).toNatClampNeg < 16 := by rw [nt_cl]; omega
          have hb1 := hb _ hj16
          by_cases hc3 : nI ns ≤ fp (fa (x2 + x4).toNatClampNeg).toNatClampNeg
          · obtain ⟨fp', fs', g2⟩ := ih m (x4 + 1) fp fs (by omega) (by omega) (by omega) (by omega) hb
            refine ⟨fp', fs', ?_⟩
            rw [f_Co_build_L59.eq_2, if_neg hc]
            refine mln_go ho rfl ?_
            rw [if_neg hc2]
            refine mai_go ho hin rfl ?_
            refine mcl_go hl ?_
            rw [if_neg (by decide)]
            refine mgr_go (coH_c d) rfl ?_
            refine mai_go (coH_pl d) hin2 rfl ?_
            refine mgr_go (coH_c d) rfl ?_
            refine mln_go (coH_sy d) rfl ?_
            rw [if_pos hc3]
            exact mnm_go g2
          · have hlt3 : (fp (fa (x2 + x4).toNatClampNeg).toNatClampNeg).toInt < ns := by
              rw [nt_le, nI_toInt (by omega)] at hc3
              omega
            have hv1 : (fp (fa (x2 + x4).toNatClampNeg).toNatClampNeg + 1).toInt = (fp (fa (x2 + x4).toNatClampNeg).toNatClampNeg).toInt + 1 := by rw [nt_add (by omega) (by omega)]; omega
            obtain ⟨fp', fs', g2⟩ := ih m (x4 + 1) (upd fp (fa (x2 + x4).toNatClampNeg).toNatClampNeg (fp (fa (x2 + x4).toNatClampNeg).toNatClampNeg + 1)) (upd fs (fp (fa (x2 + x4).toNatClampNeg).toNatClampNeg).toNatClampNeg x4) (by omega) (by omega) (by omega) (by omega) (fun j hj => by
              unfold upd
              split
              · omega
              · exact hb j hj)
            refine ⟨fp', fs', ?_⟩
            rw [f_Co_build_L59.eq_2, if_neg hc]
            refine mln_go ho rfl ?_
            rw [if_neg hc2]
            refine mai_go ho hin rfl ?_
            refine mcl_go hl ?_
            rw [if_neg (by decide)]
            refine mgr_go (coH_c d) rfl ?_
            refine mai_go (coH_pl d) hin2 rfl ?_
            refine mgr_go (coH_c d) rfl ?_
            refine mln_go (coH_sy d) rfl ?_
            rw [if_neg hc3]
            refine mgr_go (coH_c d) rfl ?_
            refine mgr_go (coH_c d) rfl ?_
            refine mai_go (coH_pl d) hin2 rfl ?_
            refine mas_go (coH_sy d) (nt_in (by omega) (by omega)) coH_ssy ?_
            refine mgr_go (coH_c d) rfl ?_
            refine mai_go (coH_pl d) hin2 rfl ?_
            refine mas_go (coH_pl d) hin2 (coH_spl d) ?_
            exact mnm_go g2
/-- build ends, and changes the table's own four cells alone -/
theorem co_build (d : coD h c ct pl sy) (ha : a1 ≠ c ∧ a1 ≠ ct ∧ a1 ≠ pl ∧ a1 ≠ sy) (hr : h[a1]? = some (.inl (.int, (na, .inl fa)))) (hna : na < 2 ^ 31) (hns : ns < 2 ^ 30) (hx2 : 0 ≤ x2.toInt ∧ x2.toInt ≤ 100000) (hx3 : x3.toInt ≤ 100000) (hn : 17 < n0 ∧ x3.toInt < n0) : ∃ (u' l' : Int32) (fc' fp' fs' : Nat → Int32), f_Co_build n0 (coH h c ct pl sy ns u l fc fp fs) c a1 x2 x3 = some ((), coH h c ct pl sy ns u' l' fc' fp' fs') := by
  have e0 : (0 : Int32).toInt = 0 := rfl
  have e1 : (1 : Int32).toInt = 1 := rfl
  obtain ⟨fc1, z1, g1⟩ := co_L13 (n0 := n0) (a1 := a1) (x2 := x2) (x3 := x3) (ns := ns) (u := 0) (l := 0) (fp := fp) (fs := fs) d 16 n0 0 fc (by rw [e0]; rfl) (Nat.le_refl _) (by omega) (fun j hj => absurd hj (by omega))
  obtain ⟨u', l', fc', b2, g2⟩ := co_L37 (n0 := n0) (ns := ns) (fp := fp) (fs := fs) d ha hr hna hx2 hx3 x3.toInt.toNat n0 0 0 0 fc1 (by omega) (by omega) (by omega) (by omega) (fun j hj => by rw [z1 j hj]; omega)
  obtain ⟨fp1, b3, g3⟩ := co_L17 (n0 := n0) (a1 := a1) (x2 := x2) (x3 := x3) (ns := ns) (u := u') (l := l') (fs := fs) d b2 15 n0 1 (upd fp (0 : Int32).toNatClampNeg 0) (by rw [e1]; rfl) (Nat.le_refl _) (by omega) (fun j hj => by
    have hj0 : j = 0 := by omega
    subst hj0
    have : upd fp (0 : Int32).toNatClampNeg 0 0 = 0 := by simp [upd]
    rw [this]
    omega)
  obtain ⟨fp', fs', g4⟩ := co_L59 (n0 := n0) (ns := ns) (u := u') (l := l') (fc := fc') d ha hr hna hns hx2 hx3 x3.toInt.toNat n0 0 fp1 fs (by omega) (by omega) (by omega) (by omega) b3
  refine ⟨u', l', fc', fp', fs', ?_⟩
  unfold f_Co_build
  refine mis_go (coH_c d) ?_
  have hcount : f_Co_count n0 (coH h c ct pl sy ns u l fc fp fs) c a1 x2 x3 = some ((), coH h c ct pl sy ns u' l' fc' fp fs) := by
    unfold f_Co_count
    refine mpt_go (coH_c d) (Nat.le_of_ble_eq_true rfl) (coH_sc d) ?_
    refine mpt_go (coH_c d) (Nat.le_of_ble_eq_true rfl) (coH_sc d) ?_
    rw [g1]
    exact g2
  refine mcl_go hcount ?_
  refine mgr_go (coH_c d) rfl ?_
  refine mas_go (coH_pl d) (nt_in (by omega) (by omega)) (coH_spl d) ?_
  rw [g3]
  exact g4
end mCodes
