def big (n : Nat) : Prop := 4294967296 ≤ n
theorem big_lt {n x : Nat} (h : big n) (hx : x < 4294967296) : x < n := Nat.lt_of_lt_of_le hx h
/-! WHAT HOLDS ALL THE TIME, and how one goes on -/
def tot {α : Type} (x : Option (α × mH)) (Φ : α → mS → Prop) : Prop := ∃ r S, x = some (r, hp S) ∧ Φ r S
section mTot
variable {α β : Type} {h : mH} {i ci k a : Nat} {ty : FieldType} {j x y : Int32} {fs : List Value} {Φ : α → mS → Prop} {Ψ : β → mS → Prop} {S : mS}
theorem tot_end {r : α} (hq : Φ r S) : tot (some (r, hp S)) Φ := ⟨r, S, rfl, hq⟩
theorem tot_eq {z w : Option (α × mH)} (e : z = w) (hq : tot w Φ) : tot z Φ := e ▸ hq
theorem tot_mono {z : Option (α × mH)} {Θ : α → mS → Prop} (hz : tot z Θ) (hq : ∀ r S, Θ r S → Φ r S) : tot z Φ := hz.elim fun r hr => hr.elim fun S hS => ⟨r, S, hS.1, hq r S hS.2⟩
theorem mgi_v {F : Int32 → Option (α × mH)} {v : Int32} (hi : h[i]? = some (.inr (ci, fs))) (hk : fs[k]? = some (.int v)) (hF : ∀ w, w = v → tot (F w) Φ) : tot (mgi h i ci k F) Φ := tot_eq (mgi_ev hi hk) (hF v rfl)
theorem mgl_v {F : Int64 → Option (α × mH)} {v : Int64} (hi : h[i]? = some (.inr (ci, fs))) (hk : fs[k]? = some (.long v)) (hF : ∀ w, w = v → tot (F w) Φ) : tot (mgl h i ci k F) Φ := tot_eq (mgl_ev hi hk) (hF v rfl)
theorem mgr_v {F : Nat → Option (α × mH)} {v : Nat} (hi : h[i]? = some (.inr (ci, fs))) (hk : fs[k]? = some (.ref v)) (hF : ∀ w, w = v → tot (F w) Φ) : tot (mgr h i ci k F) Φ := tot_eq (mgr_ev hi hk) (hF v rfl)
theorem mgr_t {F : Nat → Option (α × mH)} {v : Nat} (hi : h[i]? = some (.inr (ci, fs))) (hk : fs[k]? = some (.ref v)) (hF : tot (F v) Φ) : tot (mgr h i ci k F) Φ := tot_eq (mgr_ev hi hk) hF
theorem mpt_t {F : mH → Option (α × mH)} {v : Value} {h' : mH} (hi : h[i]? = some (.inr (ci, fs))) (hk : k < fs.length) (e : h.set i (.inr (ci, fs.set k v)) = h') (hF : tot (F h') Φ) : tot (mpt h i ci k v F) Φ := by
  rw [mpt_ev hi hk, e]
  exact hF
theorem mai_v {F : Int32 → Option (α × mH)} {n : Nat} {f : Nat → Int32} (hi : h[a]? = some (.inl (ty, (n, .inl f)))) (hj : vp_in j n) (hF : ∀ w, w = f j.toNatClampNeg → tot (F w) Φ) : tot (mai h a ty j F) Φ := tot_eq (mai_ev hi hj) (hF _ rfl)
theorem mas_t {F : mH → Option (α × mH)} {n : Nat} {f : Nat → Int32} {h' : mH} (hi : h[a]? = some (.inl (ty, (n, .inl f)))) (hj : vp_in j n) (e : h.set a (.inl (ty, (n, .inl (upd f j.toNatClampNeg x)))) = h') (hF : tot (F h') Φ) : tot (mas h a ty j x F) Φ := by
  rw [mas_ev hi hj, e]
  exact hF
theorem mar_t {F : Nat → Option (α × mH)} {n v : Nat} {f : Nat → Option Nat} (hi : h[a]? = some (.inl (ty, (n, .inr (.inr (.inr (.inr f))))))) (hj : vp_in j n) (hr : f j.toNatClampNeg = some v) (hF : tot (F v) Φ) : tot (mar h a ty j F) Φ := tot_eq (mar_ev hi hj hr) hF
theorem mln_v {F : Int32 → Option (α × mH)} {x : vp_A} (hi : h[a]? = some (.inl (ty, x))) (hF : ∀ w, w = nI x.1 → tot (F w) Φ) : tot (mln h a ty F) Φ := tot_eq (mln_ev hi) (hF _ rfl)
theorem mcl_v {z : Option (β × mH)} {F : β → mH → Option (α × mH)} (hz : tot z Ψ) (hF : ∀ r S, Ψ r S → tot (F r (hp S)) Φ) : tot (mcl z F) Φ := hz.elim fun r hr => hr.elim fun S hS => tot_eq (mcl_ev hS.1) (hF r S hS.2)
theorem mis_t {F : Option (α × mH)} (hi : h[i]? = some (.inr (ci, fs))) (hF : tot F Φ) : tot (mis h i ci F) Φ := tot_eq (mis_ev hi) hF
theorem mgd_t {P : Prop} {F : Option (α × mH)} (hP : P) (hF : tot F Φ) : tot (mgd P F) Φ := tot_eq (mgd_ev hP) hF
theorem mnm_v {z : β} {F : β → Option (α × mH)} (hF : ∀ w, w = z → tot (F w) Φ) : tot (mnm z F) Φ := hF z rfl
theorem msl_v {f : Nat → Int32} {n : Nat} {F : Int32 → Option (α × mH)} (hj : vp_in j n) (hF : ∀ w, w = f j.toNatClampNeg → tot (F w) Φ) : tot (msl f n j F) Φ := tot_eq (msl_ev hj) (hF _ rfl)
theorem ilt_t {A B : Option (α × mH)} (h1 : x.toInt < y.toInt → tot A Φ) (h2 : y.toInt ≤ x.toInt → tot B Φ) : tot (if x < y then A else B) Φ := by
  by_cases c : x < y
  · rw [if_pos c]; exact h1 (nt_lt.mp c)
  · rw [if_neg c]; exact h2 (by rw [nt_lt] at c; omega)
theorem ile_t {A B : Option (α × mH)} (h1 : x.toInt ≤ y.toInt → tot A Φ) (h2 : y.toInt < x.toInt → tot B Φ) : tot (if x ≤ y then A else B) Φ := by
  by_cases c : x ≤ y
  · rw [if_pos c]; exact h1 (nt_le.mp c)
  · rw [if_neg c]; exact h2 (by rw [nt_le] at c; omega)
theorem ieq_t {A B : Option (α × mH)} (h1 : x = y → tot A Φ) (h2 : x.toInt ≠ y.toInt → tot B Φ) : tot (if x = y then A else B) Φ := by
  by_cases c : x = y
  · rw [if_pos c]; exact h1 c
  · rw [if_neg c]; exact h2 (fun e => c (Int32.toInt_inj.mp e))
theorem ilq_t {A B : Option (α × mH)} {P : Prop} {d : Decidable P} (h1 : tot A Φ) (h2 : tot B Φ) : tot (@ite _ P d A B) Φ := by
  by_cases c : P
  · rw [if_pos c]; exact h1
  · rw [if_neg c]; exact h2
end mTot
theorem nt_b (x : Int32) : -2147483648 ≤ x.toInt ∧ x.toInt ≤ 2147483647 := by
  have h1 := Int32.le_toInt x
  have h2 := Int32.toInt_lt x
  omega
theorem nt_inc {x : Int32} (h : x.toInt < 2147483647) : (x + 1).toInt = x.toInt + 1 := by
  have e1 : (1 : Int32).toInt = 1 := rfl
  have := nt_b x
  rw [nt_add (by omega) (by omega)]
  omega
theorem nt_if {a b x y v : Int32} (h : v = if a < b then x else y) : (a.toInt < b.toInt ∧ v.toInt = x.toInt) ∨ (b.toInt ≤ a.toInt ∧ v.toInt = y.toInt) := by
  by_cases c : a < b
  · rw [if_pos c] at h; exact Or.inl ⟨nt_lt.mp c, by rw [h]⟩
  · rw [if_neg c] at h; exact Or.inr ⟨by rw [nt_lt] at c; omega, by rw [h]⟩
theorem nt_ix {x : Int32} {n : Nat} (h0 : 0 ≤ x.toInt) (h1 : x.toInt < n) : x.toNatClampNeg < n := by
  rw [nt_cl]
  omega
theorem nt_d8 (x : Int32) : -268435456 ≤ (x / 8).toInt ∧ (x / 8).toInt ≤ 268435456 := by
  have hb := nt_b x
  have e8 : (8 : Int32).toInt = 8 := rfl
  rw [Int32.toInt_div, e8]
  have h1 : -268435456 ≤ x.toInt.tdiv 8 ∧ x.toInt.tdiv 8 ≤ 268435456 := by
    rcases Int.le_total 0 x.toInt with h | h
    · rw [Int.tdiv_eq_ediv_of_nonneg h]; omega
    · have e : x.toInt.tdiv 8 = -((-x.toInt).tdiv 8) := by rw [Int.neg_tdiv, Int.neg_neg]
      rw [e, Int.tdiv_eq_ediv_of_nonneg (by omega)]
      omega
  rw [Int.bmod_def]
  omega
theorem nt_or {x y : Int32} {k : Nat} (hk : k ≤ 30) (hx : 0 ≤ x.toInt ∧ x.toInt < 2 ^ k) (hy : 0 ≤ y.toInt ∧ y.toInt < 2 ^ k) : 0 ≤ (x ||| y).toInt ∧ (x ||| y).toInt < 2 ^ k := by
  have hp : (2 : Int) ^ k = ((2 ^ k : Nat) : Int) := by norm_cast
  have hp2 : (2 : Nat) ^ k ≤ 2 ^ 30 := Nat.pow_le_pow_right (by decide) hk
  have cv : ∀ z : Int32, 0 ≤ z.toInt → z.toInt < 2 ^ k → z.toBitVec.toNat < 2 ^ k ∧ z.toInt = (z.toBitVec.toNat : Int) := by
    intro z h0 h1
    have e : z.toInt = z.toBitVec.toInt := rfl
    have hl := z.toBitVec.isLt
    rw [e, BitVec.toInt_eq_toNat_cond] at h0 h1
    rw [e, BitVec.toInt_eq_toNat_cond]
    split at h0
    · rename_i c
      rw [if_pos c] at h1 ⊢
      omega
    · omega
  obtain ⟨a1, a2⟩ := cv x hx.1 hx.2
  obtain ⟨b1, b2⟩ := cv y hy.1 hy.2
  have hor : (x ||| y).toBitVec.toNat < 2 ^ k := by
    rw [Int32.toBitVec_or, BitVec.toNat_or]
    exact Nat.or_lt_two_pow a1 b1
  have e : (x ||| y).toInt = ((x ||| y).toBitVec.toNat : Int) := by
    have e0 : (x ||| y).toInt = (x ||| y).toBitVec.toInt := rfl
    rw [e0, BitVec.toInt_eq_toNat_cond, if_pos (by omega)]
  rw [e]
  omega
theorem lb_step {x b i : Int32} (h0 : 0 ≤ i.toInt) (h1 : i.toInt ≤ 12) (hx : 0 ≤ x.toInt ∧ x.toInt < 2 ^ i.toInt.toNat) (hb : b = 0 ∨ b = 1) : 0 ≤ (x ||| (b <<< (i &&& 31))).toInt ∧ (x ||| (b <<< (i &&& 31))).toInt < 2 ^ (i.toInt.toNat + 1) := by
  have hi : ∃ k : Nat, k ≤ 12 ∧ i = Int32.ofNat k := by
    refine ⟨i.toInt.toNat, by omega, Int32.toInt_inj.mp ?_⟩
    have e := nI_toInt (n := i.toInt.toNat) (by omega)
    have e2 : (Int32.ofNat i.toInt.toNat).toInt = ((i.toInt.toNat : Nat) : Int) := e
    rw [e2]
    omega
  obtain ⟨k, hk, rfl⟩ := hi
  have ek : (Int32.ofNat k).toInt.toNat = k := by
    have e2 : (Int32.ofNat k).toInt = ((k : Nat) : Int) := nI_toInt (n := k) (by omega)
    rw [e2]; rfl
  rw [ek] at hx ⊢
  refine nt_or (by omega) ⟨hx.1, Int.lt_of_lt_of_le hx.2 (by rw [Int.pow_succ]; have : (0 : Int) < 2 ^ k := Int.pow_pos (by decide); omega)⟩ ?_
  clear hx ek h0 h1
  rcases (show k = 0 ∨ k = 1 ∨ k = 2 ∨ k = 3 ∨ k = 4 ∨ k = 5 ∨ k = 6 ∨ k = 7 ∨ k = 8 ∨ k = 9 ∨ k = 10 ∨ k = 11 ∨ k = 12 by omega) with rfl | rfl | rfl | rfl | rfl | rfl | rfl | rfl | rfl | rfl | rfl | rfl | rfl <;> rcases hb with rfl | rfl <;> decide
theorem lb_end {x : Int32} {k : Nat} (hk : k ≤ 13) (hx : x.toInt < 2 ^ k) : x.toInt ≤ 8191 := by
  have h1 : (2 : Int) ^ k ≤ 2 ^ 13 := by
    have : (2 : Nat) ^ k ≤ 2 ^ 13 := Nat.pow_le_pow_right (by decide) hk
    have e1 : (2 : Int) ^ k = ((2 ^ k : Nat) : Int) := by norm_cast
    rw [e1]
    have e2 : (2 : Int) ^ 13 = ((2 ^ 13 : Nat) : Int) := by norm_cast
    rw [e2]
    omega
  omega
theorem nt_bool {v : Int32} (h : v = 0 ∨ v = 1) : narrow .boolean (.int v) = .int v := by
  rcases h with rfl | rfl <;> rfl
theorem nt_and1 (v : Int32) : (v &&& 1) = 0 ∨ (v &&& 1) = 1 := by
  have h : ∀ w : BitVec 32, w &&& 1#32 = 0#32 ∨ w &&& 1#32 = 1#32 := by
    intro w
    have hw : (w &&& 1#32).toNat = w.toNat % 2 := by
      rw [BitVec.toNat_and]
      exact Nat.and_one_is_mod w.toNat
    rcases Nat.mod_two_eq_zero_or_one w.toNat with e | e
    · exact Or.inl (BitVec.eq_of_toNat_eq (by rw [hw, e]; rfl))
    · exact Or.inr (BitVec.eq_of_toNat_eq (by rw [hw, e]; rfl))
  rcases h v.toBitVec with e | e
  · exact Or.inl (Int32.toBitVec_inj.mp e)
  · exact Or.inr (Int32.toBitVec_inj.mp e)
theorem nt_byte (v : Int32) : fits .byte (.int v.toInt8.toInt32) = true := by
  have h1 := Int8.le_toInt v.toInt8
  have h2 := Int8.toInt_lt v.toInt8
  have e : v.toInt8.toInt32.toInt = v.toInt8.toInt := Int8.toInt_toInt32 _
  have l1 : (-128 : Int32).toInt = -128 := rfl
  have l2 : (127 : Int32).toInt = 127 := rfl
  simp only [fits, Bool.and_eq_true, decide_eq_true_eq]
  exact ⟨nt_le.mpr (by omega), nt_le.mpr (by omega)⟩
/-! THE INVARIANT: bounds of fields; the chain's length and the budget, alike on both sides; the references; the bytes -/
def bnds : List (Nat × Int × Int) := [(101, 0, 16384), (501, 0, 0), (701, 0, 0), (3801, 0, 65536), (4001, 0, 65536), (2, 0, 8), (402, 0, 65536), (3202, 258, 4096), (5001, 0, 16384), (5003, 0, 8), (5010, 0, 65536), (5011, 0, 65536), (5013, 0, 65536), (5015, 0, 65536), (5016, 0, 65536), (5017, 0, 13), (5019, 0, 8), (5026, 0, 65536)]
abbrev mP : Type := Int32 × Int32
def okp (c b w : Int32) : Prop := (1 ≤ c.toInt ∧ c.toInt ≤ 8) ∧ (b.toInt = 1 ∨ b.toInt = 2 ∨ b.toInt = 4 ∨ b.toInt = 8 ∨ b.toInt = 16) ∧ (1 ≤ w.toInt ∧ w.toInt ≤ 4096)
def okr (S : mS) : Prop := ∀ j : Nat, j < 8 → (S.2.1 54 j).toInt ≤ 1 ∨ okp (S.2.1 55 j) (S.2.1 56 j) (S.2.1 57 j)
def G (F B : mP) (S : mS) : Prop := (∀ q ∈ bnds, q.2.1 ≤ (S.1 q.1).toInt ∧ (S.1 q.1).toInt ≤ q.2.2) ∧ (S.1 2 = F.1 ∧ S.1 5003 = F.2 ∧ S.1 3 = B.1 ∧ S.1 5010 = B.2) ∧ (isBy (S.2.2.1 12) ∧ isBy (S.2.2.1 400) ∧ isBy (S.2.2.1 401)) ∧ (∀ b, isBy b → ∀ j, fits .byte (.int (S.2.1 (b + 1) j)) = true) ∧ okr S
section mG
variable {F B : mP} {S : mS} {x : Int32}
theorem G_V {k : Nat} (hG : G F B S) (hk : k ≠ 2 ∧ k ≠ 3 ∧ k ≠ 5003 ∧ k ≠ 5010) (hb : ∀ q ∈ bnds, q.1 = k → q.2.1 ≤ x.toInt ∧ x.toInt ≤ q.2.2) : G F B (uV S k x) := by
  obtain ⟨h1, ⟨h2, h3, h4, h5⟩, h6, h7⟩ := hG
  refine ⟨fun q hq => ?_, ⟨?_, ?_, ?_, ?_⟩, h6, h7⟩
  · show _ ≤ (upd S.1 k x q.1).toInt ∧ (upd S.1 k x q.1).toInt ≤ _
    unfold upd
    split
    · rename_i e; exact hb q hq e
    · exact h1 q hq
  · show upd S.1 k x 2 = F.1
    unfold upd
    rw [if_neg (fun e => hk.1 e.symm)]; exact h2
  · show upd S.1 k x 5003 = F.2
    unfold upd
    rw [if_neg (fun e => hk.2.2.1 e.symm)]; exact h3
  · show upd S.1 k x 3 = B.1
    unfold upd
    rw [if_neg (fun e => hk.2.1 e.symm)]; exact h4
  · show upd S.1 k x 5010 = B.2
    unfold upd
    rw [if_neg (fun e => hk.2.2.2 e.symm)]; exact h5
theorem G_Vu {k : Nat} (hG : G F B S) (hk : k ≠ 2 ∧ k ≠ 3 ∧ k ≠ 5003 ∧ k ≠ 5010) (hn : ∀ q ∈ bnds, q.1 ≠ k) : G F B (uV S k x) := G_V hG hk (fun q hq e => absurd e (hn q hq))
theorem G_A {k : Nat} {f : Nat → Int32} (hG : G F B S) (hf : ∀ b, isBy b → b + 1 = k → ∀ j, fits .byte (.int (f j)) = true) (hk : 54 ≠ k ∧ 55 ≠ k ∧ 56 ≠ k ∧ 57 ≠ k) : G F B (uA S k f) := by
  obtain ⟨h1, h2, h6, h7, h8⟩ := hG
  refine ⟨h1, h2, h6, fun b hb j => ?_, fun j hj => ?_⟩
  · show fits .byte (.int (va_up S.2.1 k f (b + 1) j)) = true
    unfold va_up
    split
    · rename_i e; exact hf b hb e j
    · exact h7 b hb j
  · show (va_up S.2.1 k f 54 j).toInt ≤ 1 ∨ okp (va_up S.2.1 k f 55 j) (va_up S.2.1 k f 56 j) (va_up S.2.1 k f 57 j)
    unfold va_up
    rw [if_neg hk.1, if_neg hk.2.1, if_neg hk.2.2.1, if_neg hk.2.2.2]
    exact h8 j hj
theorem G_Ai {k : Nat} {f : Nat → Int32} (hG : G F B S) (hk : ∀ b, isBy b → b + 1 ≠ k) (h4 : 54 ≠ k ∧ 55 ≠ k ∧ 56 ≠ k ∧ 57 ≠ k) : G F B (uA S k f) := G_A hG (fun b hb e => absurd e (hk b hb)) h4
theorem nb {k : Nat} (h : 2 ≠ k ∧ 6 ≠ k ∧ 8 ≠ k ∧ 39 ≠ k ∧ 41 ≠ k) : ∀ b, isBy b → b + 1 ≠ k := by
  intro b hb e
  rcases hb with rfl | rfl | rfl | rfl | rfl <;> omega
theorem G_R {k r : Nat} (hG : G F B S) (hr : isBy r) : G F B (uR S k r) := by
  obtain ⟨h1, h2, ⟨r1, r2, r3⟩, h7⟩ := hG
  have up : ∀ i, isBy (S.2.2.1 i) → isBy (va_up S.2.2.1 k r i) := fun i hi => by
    unfold va_up
    split
    · exact hr
    · exact hi
  exact ⟨h1, h2, ⟨up 12 r1, up 400 r2, up 401 r3⟩, h7⟩
theorem G_W {w : Int64} (hG : G F B S) : G F B (uW S w) := hG
theorem G_L {f : Nat → Int64} (hG : G F B S) : G F B (uL S f) := hG
theorem b_in {k : Nat} {lo hi : Int} (hG : G F B S) (hm : (k, lo, hi) ∈ bnds) : lo ≤ (S.1 k).toInt ∧ (S.1 k).toInt ≤ hi := hG.1 _ hm
theorem g_by {b : Nat} (hb : isBy b) (hG : G F B S) (h0 : 0 ≤ x.toInt) (h1 : x.toInt ≤ nB b) : G F B (uV S (100 * b + 1) x) := by
  rcases hb with rfl | rfl | rfl | rfl | rfl <;> exact G_V hG (by decide) (fun q hq e => by
    simp only [bnds, List.mem_cons, List.not_mem_nil, or_false] at hq
    rcases hq with rfl | rfl | rfl | rfl | rfl | rfl | rfl | rfl | rfl | rfl | rfl | rfl | rfl | rfl | rfl | rfl | rfl | rfl <;> first | (exact ⟨h0, h1⟩) | (exact absurd e (by decide)))
theorem b_by {b : Nat} (hb : isBy b) (hG : G F B S) : 0 ≤ (S.1 (100 * b + 1)).toInt ∧ (S.1 (100 * b + 1)).toInt ≤ nB b := by
  rcases hb with rfl | rfl | rfl | rfl | rfl
  · exact b_in (k := 101) (lo := 0) (hi := 16384) hG (by decide)
  · exact b_in (k := 501) (lo := 0) (hi := 0) hG (by decide)
  · exact b_in (k := 701) (lo := 0) (hi := 0) hG (by decide)
  · exact b_in (k := 3801) (lo := 0) (hi := 65536) hG (by decide)
  · exact b_in (k := 4001) (lo := 0) (hi := 65536) hG (by decide)
theorem nB_lt {b : Nat} (hb : isBy b) : nB b ≤ 65536 := by
  rcases hb with rfl | rfl | rfl | rfl | rfl <;> decide
theorem nC_lt {c : Nat} (hc : isCo c) : nC c ≤ 288 := by
  rcases hc with rfl | rfl | rfl | rfl | rfl <;> decide
theorem g_ba {b : Nat} (hb : isBy b) {f : Nat → Int32} (hG : G F B S) (hf : ∀ j, fits .byte (.int (f j)) = true) : G F B (uA S (b + 1) f) := G_A hG (fun _ _ _ => hf) (by rcases hb with rfl | rfl | rfl | rfl | rfl <;> decide)
theorem f_ba {b : Nat} (hb : isBy b) (hG : G F B S) (j : Nat) : fits .byte (.int (S.2.1 (b + 1) j)) = true := hG.2.2.2.1 b hb j
theorem f_up {f : Nat → Int32} {k : Nat} {y : Int32} (hf : ∀ j, fits .byte (.int (f j)) = true) (hy : fits .byte (.int y) = true) : ∀ j, fits .byte (.int (upd f k y j)) = true := by
  intro j
  unfold upd
  split
  · exact hy
  · exact hf j
theorem g_co {c : Nat} (hc : isCo c) {u l : Int32} {fc fp fs : Nat → Int32} (hG : G F B S) : G F B (uA (uA (uA (uV (uV S (100 * c + 3) u) (100 * c + 4) l) (c + 1) fc) (c + 2) fp) (c + 3) fs) := by
  rcases hc with rfl | rfl | rfl | rfl | rfl <;> exact G_Ai (G_Ai (G_Ai (G_Vu (G_Vu hG (by decide) (by decide)) (by decide) (by decide)) (nb (by decide)) (by decide)) (nb (by decide)) (by decide)) (nb (by decide)) (by decide)
theorem g_li {c j : Nat} (hc : isLi c) (hj : j < 6) (hG : G F B S) : G F B (uV S (100 * c + j) x) := by
  rcases hc with rfl | rfl | rfl | rfl | rfl | rfl | rfl | rfl <;> (rcases (show j = 0 ∨ j = 1 ∨ j = 2 ∨ j = 3 ∨ j = 4 ∨ j = 5 by omega) with rfl | rfl | rfl | rfl | rfl | rfl <;> exact G_Vu hG (by decide) (by decide))
end mG
section mGf
variable {F B : mP} {S : mS} {x : Int32}
theorem g_13 (hG : G F B S) : G F B (uV S 13 x) := G_Vu hG (by decide) (by decide)
theorem g_14 (hG : G F B S) : G F B (uV S 14 x) := G_Vu hG (by decide) (by decide)
theorem g_15 (hG : G F B S) : G F B (uV S 15 x) := G_Vu hG (by decide) (by decide)
theorem g_16 (hG : G F B S) : G F B (uV S 16 x) := G_Vu hG (by decide) (by decide)
theorem g_402 (hG : G F B S) (h0 : 0 ≤ x.toInt) (h1 : x.toInt ≤ 65536) : G F B (uV S 402 x) := G_V hG (by decide) (fun q hq e => by
  simp only [bnds, List.mem_cons, List.not_mem_nil, or_false] at hq
  rcases hq with rfl | rfl | rfl | rfl | rfl | rfl | rfl | rfl | rfl | rfl | rfl | rfl | rfl | rfl | rfl | rfl | rfl | rfl <;> first | exact ⟨h0, h1⟩ | exact absurd e (by decide))
theorem g_403 (hG : G F B S) : G F B (uV S 403 x) := G_Vu hG (by decide) (by decide)
theorem g_404 (hG : G F B S) : G F B (uV S 404 x) := G_Vu hG (by decide) (by decide)
theorem g_405 (hG : G F B S) : G F B (uV S 405 x) := G_Vu hG (by decide) (by decide)
theorem g_406 (hG : G F B S) : G F B (uV S 406 x) := G_Vu hG (by decide) (by decide)
theorem g_3202 (hG : G F B S) (h0 : 258 ≤ x.toInt) (h1 : x.toInt ≤ 4096) : G F B (uV S 3202 x) := G_V hG (by decide) (fun q hq e => by
  simp only [bnds, List.mem_cons, List.not_mem_nil, or_false] at hq
  rcases hq with rfl | rfl | rfl | rfl | rfl | rfl | rfl | rfl | rfl | rfl | rfl | rfl | rfl | rfl | rfl | rfl | rfl | rfl <;> first | exact ⟨h0, h1⟩ | exact absurd e (by decide))
theorem g_3203 (hG : G F B S) : G F B (uV S 3203 x) := G_Vu hG (by decide) (by decide)
theorem g_3204 (hG : G F B S) : G F B (uV S 3204 x) := G_Vu hG (by decide) (by decide)
theorem g_3501 (hG : G F B S) : G F B (uV S 3501 x) := G_Vu hG (by decide) (by decide)
theorem g_5000 (hG : G F B S) : G F B (uV S 5000 x) := G_Vu hG (by decide) (by decide)
theorem g_5001 (hG : G F B S) (h0 : 0 ≤ x.toInt) (h1 : x.toInt ≤ 16384) : G F B (uV S 5001 x) := G_V hG (by decide) (fun q hq e => by
  simp only [bnds, List.mem_cons, List.not_mem_nil, or_false] at hq
  rcases hq with rfl | rfl | rfl | rfl | rfl | rfl | rfl | rfl | rfl | rfl | rfl | rfl | rfl | rfl | rfl | rfl | rfl | rfl <;> first | exact ⟨h0, h1⟩ | exact absurd e (by decide))
theorem g_5011 (hG : G F B S) (h0 : 0 ≤ x.toInt) (h1 : x.toInt ≤ 65536) : G F B (uV S 5011 x) := G_V hG (by decide) (fun q hq e => by
  simp only [bnds, List.mem_cons, List.not_mem_nil, or_false] at hq
  rcases hq with rfl | rfl | rfl | rfl | rfl | rfl | rfl | rfl | rfl | rfl | rfl | rfl | rfl | rfl | rfl | rfl | rfl | rfl <;> first | exact ⟨h0, h1⟩ | exact absurd e (by decide))
theorem g_5013 (hG : G F B S) (h0 : 0 ≤ x.toInt) (h1 : x.toInt ≤ 65536) : G F B (uV S 5013 x) := G_V hG (by decide) (fun q hq e => by
  simp only [bnds, List.mem_cons, List.not_mem_nil, or_false] at hq
  rcases hq with rfl | rfl | rfl | rfl | rfl | rfl | rfl | rfl | rfl | rfl | rfl | rfl | rfl | rfl | rfl | rfl | rfl | rfl <;> first | exact ⟨h0, h1⟩ | exact absurd e (by decide))
theorem g_5015 (hG : G F B S) (h0 : 0 ≤ x.toInt) (h1 : x.toInt ≤ 65536) : G F B (uV S 5015 x) := G_V hG (by decide) (fun q hq e => by
  simp only [bnds, List.mem_cons, List.not_mem_nil, or_false] at hq
  rcases hq with rfl | rfl | rfl | rfl | rfl | rfl | rfl | rfl | rfl | rfl | rfl | rfl | rfl | rfl | rfl | rfl | rfl | rfl <;> first | exact ⟨h0, h1⟩ | exact absurd e (by decide))
theorem g_5016 (hG : G F B S) (h0 : 0 ≤ x.toInt) (h1 : x.toInt ≤ 65536) : G F B (uV S 5016 x) := G_V hG (by decide) (fun q hq e => by
  simp only [bnds, List.mem_cons, List.not_mem_nil, or_false] at hq
  rcases hq with rfl | rfl | rfl | rfl | rfl | rfl | rfl | rfl | rfl | rfl | rfl | rfl | rfl | rfl | rfl | rfl | rfl | rfl <;> first | exact ⟨h0, h1⟩ | exact absurd e (by decide))
theorem g_5017 (hG : G F B S) (h0 : 0 ≤ x.toInt) (h1 : x.toInt ≤ 13) : G F B (uV S 5017 x) := G_V hG (by decide) (fun q hq e => by
  simp only [bnds, List.mem_cons, List.not_mem_nil, or_false] at hq
  rcases hq with rfl | rfl | rfl | rfl | rfl | rfl | rfl | rfl | rfl | rfl | rfl | rfl | rfl | rfl | rfl | rfl | rfl | rfl <;> first | exact ⟨h0, h1⟩ | exact absurd e (by decide))
theorem g_5018 (hG : G F B S) : G F B (uV S 5018 x) := G_Vu hG (by decide) (by decide)
theorem g_5019 (hG : G F B S) (h0 : 0 ≤ x.toInt) (h1 : x.toInt ≤ 8) : G F B (uV S 5019 x) := G_V hG (by decide) (fun q hq e => by
  simp only [bnds, List.mem_cons, List.not_mem_nil, or_false] at hq
  rcases hq with rfl | rfl | rfl | rfl | rfl | rfl | rfl | rfl | rfl | rfl | rfl | rfl | rfl | rfl | rfl | rfl | rfl | rfl <;> first | exact ⟨h0, h1⟩ | exact absurd e (by decide))
theorem g_5025 (hG : G F B S) : G F B (uV S 5025 x) := G_Vu hG (by decide) (by decide)
theorem g_5026 (hG : G F B S) (h0 : 0 ≤ x.toInt) (h1 : x.toInt ≤ 65536) : G F B (uV S 5026 x) := G_V hG (by decide) (fun q hq e => by
  simp only [bnds, List.mem_cons, List.not_mem_nil, or_false] at hq
  rcases hq with rfl | rfl | rfl | rfl | rfl | rfl | rfl | rfl | rfl | rfl | rfl | rfl | rfl | rfl | rfl | rfl | rfl | rfl <;> first | exact ⟨h0, h1⟩ | exact absurd e (by decide))
theorem g_5028 (hG : G F B S) : G F B (uV S 5028 x) := G_Vu hG (by decide) (by decide)
theorem g_5029 (hG : G F B S) : G F B (uV S 5029 x) := G_Vu hG (by decide) (by decide)
theorem g_5030 (hG : G F B S) : G F B (uV S 5030 x) := G_Vu hG (by decide) (by decide)
theorem b_101 (hG : G F B S) : 0 ≤ (S.1 101).toInt ∧ (S.1 101).toInt ≤ 16384 := b_in hG (by decide)
theorem b_501 (hG : G F B S) : 0 ≤ (S.1 501).toInt ∧ (S.1 501).toInt ≤ 0 := b_in hG (by decide)
theorem b_701 (hG : G F B S) : 0 ≤ (S.1 701).toInt ∧ (S.1 701).toInt ≤ 0 := b_in hG (by decide)
theorem b_3801 (hG : G F B S) : 0 ≤ (S.1 3801).toInt ∧ (S.1 3801).toInt ≤ 65536 := b_in hG (by decide)
theorem b_4001 (hG : G F B S) : 0 ≤ (S.1 4001).toInt ∧ (S.1 4001).toInt ≤ 65536 := b_in hG (by decide)
theorem b_2 (hG : G F B S) : 0 ≤ (S.1 2).toInt ∧ (S.1 2).toInt ≤ 8 := b_in hG (by decide)
theorem b_402 (hG : G F B S) : 0 ≤ (S.1 402).toInt ∧ (S.1 402).toInt ≤ 65536 := b_in hG (by decide)
theorem b_3202 (hG : G F B S) : 258 ≤ (S.1 3202).toInt ∧ (S.1 3202).toInt ≤ 4096 := b_in hG (by decide)
theorem b_5001 (hG : G F B S) : 0 ≤ (S.1 5001).toInt ∧ (S.1 5001).toInt ≤ 16384 := b_in hG (by decide)
theorem b_5003 (hG : G F B S) : 0 ≤ (S.1 5003).toInt ∧ (S.1 5003).toInt ≤ 8 := b_in hG (by decide)
theorem b_5010 (hG : G F B S) : 0 ≤ (S.1 5010).toInt ∧ (S.1 5010).toInt ≤ 65536 := b_in hG (by decide)
theorem b_5011 (hG : G F B S) : 0 ≤ (S.1 5011).toInt ∧ (S.1 5011).toInt ≤ 65536 := b_in hG (by decide)
theorem b_5013 (hG : G F B S) : 0 ≤ (S.1 5013).toInt ∧ (S.1 5013).toInt ≤ 65536 := b_in hG (by decide)
theorem b_5015 (hG : G F B S) : 0 ≤ (S.1 5015).toInt ∧ (S.1 5015).toInt ≤ 65536 := b_in hG (by decide)
theorem b_5016 (hG : G F B S) : 0 ≤ (S.1 5016).toInt ∧ (S.1 5016).toInt ≤ 65536 := b_in hG (by decide)
theorem b_5017 (hG : G F B S) : 0 ≤ (S.1 5017).toInt ∧ (S.1 5017).toInt ≤ 13 := b_in hG (by decide)
theorem b_5019 (hG : G F B S) : 0 ≤ (S.1 5019).toInt ∧ (S.1 5019).toInt ≤ 8 := b_in hG (by decide)
theorem b_5026 (hG : G F B S) : 0 ≤ (S.1 5026).toInt ∧ (S.1 5026).toInt ≤ 65536 := b_in hG (by decide)
end mGf
