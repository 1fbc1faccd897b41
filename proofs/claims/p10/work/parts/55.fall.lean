theorem F_post (s t : State) (a : Array Value) : ¬ limb_1_2.after a s (.returned (some (.int 0))) t = true := by
  intro h
  have h := Cond.after_iff.mp h
  rw [show limb_1_2 = Cond.eq .result (.int 1) from rfl, Cond.eq_ints (x := 0) (y := 1) rfl rfl] at h
  revert h; decide
theorem F_end : ∃ (k : Nat) (o : Outcome), (∀ i, i < k → Within (stepsAlone start1.p0.tables start1.e0 i aboutF) Lib.HandBits.below0) ∧ (stepsAlone start1.p0.tables start1.e0 k aboutF).status = Status.running ∧ Ended (stepsAlone start1.p0.tables start1.e0 k aboutF) Lib.HandBits.below0 o ∧ o = .returned (some (.int 0)) := by
  obtain ⟨hL, hW, ha, hl, hc, hk, hf, hfit, hheap, happ, hca, hre, hpre⟩ := F_atStart
  obtain ⟨k, o, h1, h2, h3, hQ⟩ := walk_fall launch0 (by decide) 0 start1.p0 start1.e0 ha hc hk aboutF ⟨0, 0⟩ start1.args0 Lib.HandBits.below0 hf ((Spec.applies_iff_loose hf).mp happ).1 ⟨rfl, F_ints, by decide, hpre⟩ trivial
  exact ⟨k, o, h1, h2, h3, hQ.1⟩
/-- the statement's own word for 'false' -/
theorem refuted : RefutedClaimed_1_2 := by
  obtain ⟨k, o, h1, h2, h3, hQ⟩ := F_end
  refine ⟨launch0, start1.p0, start1.e0, aboutF, ⟨0, 0⟩, start1.args0, Lib.HandBits.below0, rfl, F_atStart, k, o, h1, h2, h3, ?_⟩
  rintro ⟨hp, -⟩
  rw [hQ] at hp
  exact F_post _ _ _ hp
/-- what is owed can't be proved -/
theorem not_owed : ¬ (Claimed_1_1 ∧ Claimed_1_2) := by
  rintro ⟨-, hC⟩
  obtain ⟨k, o, h1, h2, h3, hQ⟩ := F_end
  obtain ⟨hL, hW, ha, hl, hc, hk, hf, hfit, hheap, happ, hca, hre, hpre⟩ := F_atStart
  obtain ⟨k', o', g1, g2, g3, gP, -⟩ := hC launch0 rfl hL hW start1.p0 start1.e0 ha hc hk aboutF ⟨0, 0⟩ start1.args0 Lib.HandBits.below0 hf hfit hheap happ ⟨hca, hre, hpre⟩
  have hkk : k = k' := by
    rcases Nat.lt_trichotomy k k' with h | h | h
    · exact absurd (g1 k h) h3.not_within
    · exact h
    · exact absurd (h1 k' h) g3.not_within
  subst hkk
  have ho := h3.outcome_unique g3
  subst ho
  rw [hQ] at gP
  exact F_post _ _ _ gP
#print axioms refuted
#print axioms not_owed
