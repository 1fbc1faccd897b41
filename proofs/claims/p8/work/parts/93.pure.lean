def S0 (u1 l1 : Int32) (fc1 fp1 fs1 : Nat → Int32) (u2 l2 : Int32) (fc2 fp2 fs2 fx : Nat → Int32) : mS := (fun k => if k = 3 then 65536 else if k = 14 then (-1) else if k = 15 then (-1) else if k = 16 then (-1) else if k = 405 then (-1) else if k = 1003 then u1 else if k = 1004 then l1 else if k = 1403 then u2 else if k = 1404 then l2 else if k = 3202 then 258 else if k = 4202 then 1 else if k = 4203 then 1 else if k = 4204 then 8 else if k = 4205 then 1 else if k = 4302 then 1 else if k = 4303 then 1 else if k = 4304 then 8 else if k = 4305 then 1 else if k = 4402 then 1 else if k = 4403 then 1 else if k = 4404 then 8 else if k = 4405 then 1 else if k = 4502 then 1 else if k = 4503 then 1 else if k = 4504 then 8 else if k = 4505 then 1 else if k = 4602 then 1 else if k = 4603 then 1 else if k = 4604 then 8 else if k = 4605 then 1 else if k = 4702 then 1 else if k = 4703 then 1 else if k = 4704 then 8 else if k = 4705 then 1 else if k = 4802 then 1 else if k = 4803 then 1 else if k = 4804 then 8 else if k = 4805 then 1 else if k = 4902 then 1 else if k = 4903 then 1 else if k = 4904 then 8 else if k = 4905 then 1 else if k = 5010 then 65536 else if k = 5028 then (-1) else if k = 5029 then (-1) else if k = 5030 then (-1) else 0, fun k => if k = 11 then fc1 else if k = 12 then fp1 else if k = 13 then fs1 else if k = 15 then fc2 else if k = 16 then fp2 else if k = 17 then fs2 else if k = 31 then fx else fun _ => 0, fun k => if k = 12 then 38 else if k = 400 then 5 else 7, 0, fun _ => 0)
set_option maxRecDepth 100000 in
theorem hz_S0 (u1 l1 : Int32) (fc1 fp1 fs1 : Nat → Int32) (u2 l2 : Int32) (fc2 fp2 fs2 fx : Nat → Int32) : hz u1 l1 fc1 fp1 fs1 u2 l2 fc2 fp2 fs2 fx = hp (S0 u1 l1 fc1 fp1 fs1 u2 l2 fc2 fp2 fs2 fx) := rfl
theorem G_S0 (u1 l1 : Int32) (fc1 fp1 fs1 : Nat → Int32) (u2 l2 : Int32) (fc2 fp2 fs2 fx : Nat → Int32) : Inv (S0 u1 l1 fc1 fp1 fs1 u2 l2 fc2 fp2 fs2 fx) := by
  refine ⟨0, 65536, fun q hq => ?_, ⟨rfl, rfl, rfl, rfl⟩, ⟨by_38, by_5, by_7⟩, fun b hb j => ?_, fun j hj => ?_⟩
  · simp only [bnds, List.mem_cons, List.not_mem_nil, or_false] at hq
    rcases hq with rfl | rfl | rfl | rfl | rfl | rfl | rfl | rfl | rfl | rfl | rfl | rfl | rfl | rfl | rfl | rfl | rfl | rfl
    · exact (show (0 : Int) ≤ (0 : Int32).toInt ∧ (0 : Int32).toInt ≤ 16384 by decide)
    · exact (show (0 : Int) ≤ (0 : Int32).toInt ∧ (0 : Int32).toInt ≤ 0 by decide)
    · exact (show (0 : Int) ≤ (0 : Int32).toInt ∧ (0 : Int32).toInt ≤ 0 by decide)
    · exact (show (0 : Int) ≤ (0 : Int32).toInt ∧ (0 : Int32).toInt ≤ 65536 by decide)
    · exact (show (0 : Int) ≤ (0 : Int32).toInt ∧ (0 : Int32).toInt ≤ 65536 by decide)
    · exact (show (0 : Int) ≤ (0 : Int32).toInt ∧ (0 : Int32).toInt ≤ 8 by decide)
    · exact (show (0 : Int) ≤ (0 : Int32).toInt ∧ (0 : Int32).toInt ≤ 65536 by decide)
    · exact (show (258 : Int) ≤ (258 : Int32).toInt ∧ (258 : Int32).toInt ≤ 4096 by decide)
    · exact (show (0 : Int) ≤ (0 : Int32).toInt ∧ (0 : Int32).toInt ≤ 16384 by decide)
    · exact (show (0 : Int) ≤ (0 : Int32).toInt ∧ (0 : Int32).toInt ≤ 8 by decide)
    · exact (show (0 : Int) ≤ (65536 : Int32).toInt ∧ (65536 : Int32).toInt ≤ 65536 by decide)
    · exact (show (0 : Int) ≤ (0 : Int32).toInt ∧ (0 : Int32).toInt ≤ 65536 by decide)
    · exact (show (0 : Int) ≤ (0 : Int32).toInt ∧ (0 : Int32).toInt ≤ 65536 by decide)
    · exact (show (0 : Int) ≤ (0 : Int32).toInt ∧ (0 : Int32).toInt ≤ 65536 by decide)
    · exact (show (0 : Int) ≤ (0 : Int32).toInt ∧ (0 : Int32).toInt ≤ 65536 by decide)
    · exact (show (0 : Int) ≤ (0 : Int32).toInt ∧ (0 : Int32).toInt ≤ 13 by decide)
    · exact (show (0 : Int) ≤ (0 : Int32).toInt ∧ (0 : Int32).toInt ≤ 8 by decide)
    · exact (show (0 : Int) ≤ (0 : Int32).toInt ∧ (0 : Int32).toInt ≤ 65536 by decide)
  · rcases hb with rfl | rfl | rfl | rfl | rfl <;> exact (show fits .byte (.int 0) = true from rfl)
  · exact Or.inl (show (0 : Int32).toInt ≤ 1 by decide)
theorem t_La_loop {n0 : Nat} (hn0 : big n0) {xs : Nat → Int32} {L : Nat} (hL : L ≤ 3072) : ∀ (n : Nat) (S : mS) (x4 : Int32), 0 ≤ x4.toInt → x4.toInt ≤ L → (L : Int) - x4.toInt < 6 * n → Inv S → ∃ h', f_La_loop n0 xs L 66 50 0 n (hp S) x4 = some ((), h') := by
  intro n
  induction n with
  | zero =>
    intro S x4 h0 h1 h2 _
    omega
  | succ n ih =>
    intro S x4 h0 h1 h2 hI
    rw [f_La_loop.eq_2]
    have L6 : (6 : Int32).toInt = 6 := rfl
    have eL : (Int32.ofNat L).toInt = ((L : Nat) : Int) := nI_toInt (n := L) (by omega)
    have k6 : (Int32.ofNat L - 6).toInt = (Int32.ofNat L).toInt - (6 : Int32).toInt := nt_sub (by omega) (by omega)
    by_cases c : Int32.ofNat L - 6 < x4
    · exact ⟨_, if_pos c⟩
    · rw [if_neg c]
      rw [nt_lt] at c
      obtain ⟨u, S', e, hI'⟩ := t_La_step hn0 (xs := xs) hL S x4 h0 (by omega) hI
      rw [mcl_ev e]
      have k4 : (x4 + 6).toInt = x4.toInt + (6 : Int32).toInt := nt_add (by omega) (by omega)
      exact ih S' (x4 + 6) (by omega) (by omega) (by omega) hI'
set_option maxHeartbeats 4000000 in
set_option maxRecDepth 100000 in
theorem pure_all {xs : Nat → Int32} {L : Nat} (hL : L ≤ 3072) : ∃ (n0 : Nat) (h1 h2 h' : mH), f_SF_init 157224 400 [.inr (0, [.null, .null, .int 0, .int 0, .null, .null, .null, .null, .null, .null, .null, .null, .null, .int 0, .int 0, .int 0, .int 0])] 0 = some ((), h1) ∧ 50 = h1.length ∧ mOkA [] h1 [.ref 0, .ref 20000] [] ∧ mOkA [] (h1 ++ [.inr (10, [.int 0, .int 0, .null, .int 0, .null, .null, .null, .null, .null, .null, .int 0, .int 0, .null, .int 0, .null, .int 0, .int 0, .int 0, .int 0, .int 0, .null, .null, .null, .null, .null, .int 0, .int 0, .null, .int 0, .int 0, .int 0])]) [.ref 0, .ref 20000] [.ref 50] ∧ f_Mo_init 226006 400 (h1 ++ [.inr (10, [.int 0, .int 0, .null, .int 0, .null, .null, .null, .null, .null, .null, .int 0, .int 0, .null, .int 0, .null, .int 0, .int 0, .int 0, .int 0, .int 0, .null, .null, .null, .null, .null, .int 0, .int 0, .null, .int 0, .int 0, .int 0])]) 50 = some ((), h2) ∧ 66 = h2.length ∧ mOkA [] h2 [.ref 50, .ref 0, .ref 20000] [] ∧ f_La_loop n0 xs L 66 50 0 513 (h2 ++ [.inl (.long, ((1 : Int32).toNatClampNeg, .inr (.inl (fun _ => 0))))]) 0 = some ((), h') := by
  have hn0 : big (2 ^ 32) := Nat.le_of_ble_eq_true rfl
  generalize 2 ^ 32 = n0 at hn0
  obtain ⟨u1, l1, fc1, fp1, fs1, u2, l2, fc2, fp2, fs2, fx, hSF⟩ := ev_SF
  obtain ⟨h', hlp⟩ := t_La_loop hn0 (xs := xs) hL 513 (S0 u1 l1 fc1 fp1 fs1 u2 l2 fc2 fp2 fs2 fx) 0 (by decide) (Int.natCast_nonneg L) (by have : (0 : Int32).toInt = 0 := rfl; omega) (G_S0 u1 l1 fc1 fp1 fs1 u2 l2 fc2 fp2 fs2 fx)
  rw [← hz_S0] at hlp
  exact ⟨n0, _, _, h', hSF, rfl, mOk_of3 rfl rfl rfl rfl rfl rfl rfl, mOk_of3 rfl rfl rfl rfl rfl rfl rfl, ev_Mo u1 l1 fc1 fp1 fs1 u2 l2 fc2 fp2 fs2 fx, rfl, mOk_of3 rfl rfl rfl rfl rfl rfl rfl, hlp⟩
