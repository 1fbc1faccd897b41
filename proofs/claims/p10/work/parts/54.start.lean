def cellsF : Array Value := (scrF.map Value.int).toArray
def aboutF : State := start1.aboutOf cellsF
/-- what a word asks of the tables alone: the script is no part of that -/
def F_vm : Jvm.Cond → Bool
  | .code .. => true
  | .codeWith .. => true
  | .codeSync .. => true
  | .methodLink .. => true
  | .methodLinkNest .. => true
  | .fieldLink .. => true
  | .fieldLinkNest .. => true
  | .classLink .. => true
  | .instanceMethod .. => true
  | .privateMethod .. => true
  | .static .. => true
  | .selects .. => true
  | .lays .. => true
  | .laysFinal .. => true
  | .soleField .. => true
  | .castable .. => true
  | .superclass .. => true
  | .instantiable .. => true
  | .declares .. => true
  | .constant .. => true
  | .constantLong .. => true
  | .initialized .. => true
  | .native .. => true
  | .sameMethod .. => true
  | .arrayClass .. => true
  | .arrayOver .. => true
  | _ => false
set_option maxHeartbeats 4000000 in
theorem F_same (c : Jvm.Cond) (h : F_vm c = true) : c.before start1.args0 aboutF = c.before start1.args0 start1.about := by
  cases c <;> first | (cases h; done) | rfl
theorem F_tab1 : tables_1_1.all (fun c => F_vm c || c.before start1.args0 aboutF) = true := by decide +kernel
theorem F_tab2 : tables_1_2.all (fun c => F_vm c || c.before start1.args0 aboutF) = true := by decide +kernel
theorem F_tab3 : tables_1_3.all (fun c => F_vm c || c.before start1.args0 aboutF) = true := by decide +kernel
theorem F_tab4 : tables_1_4.all (fun c => F_vm c || c.before start1.args0 aboutF) = true := by decide +kernel
theorem F_tab5 : tables_1_5.all (fun c => F_vm c || c.before start1.args0 aboutF) = true := by decide +kernel
theorem F_of {ts : List Jvm.Cond} (h : ts.all (fun c => F_vm c || c.before start1.args0 aboutF) = true) {c : Jvm.Cond} (hc : c ∈ ts) (hq : F_vm c = false) : c.before start1.args0 aboutF = true := by
  have := List.all_eq_true.mp h c hc
  simpa [hq] using this
theorem F_words : ∀ c ∈ (Cond.code x code maxLocals ret :: tables_1), c.before start1.args0 aboutF = true := by
  intro c hc
  cases hq : F_vm c with
  | true => rw [F_same c hq]; exact start1.words c hc
  | false =>
    rcases List.mem_cons.mp hc with h | h
    · rw [h] at hq; cases hq
    · have h1 : c ∈ tables_1_1 ++ (tables_1_2 ++ (tables_1_3 ++ (tables_1_4 ++ tables_1_5))) := h
      rcases List.mem_append.mp h1 with h2 | h1
      · exact F_of F_tab1 h2 hq
      rcases List.mem_append.mp h1 with h2 | h1
      · exact F_of F_tab2 h2 hq
      rcases List.mem_append.mp h1 with h2 | h1
      · exact F_of F_tab3 h2 hq
      rcases List.mem_append.mp h1 with h2 | h1
      · exact F_of F_tab4 h2 hq
      exact F_of F_tab5 h1 hq
set_option maxRecDepth 16384 in
theorem F_atStart : AtStart classFile x code maxLocals ret World_1 tables_1 room_1 Calls_1 rest_1 Pre_1 launch0 start1.p0 start1.e0 aboutF ⟨0, 0⟩ start1.args0 Lib.HandBits.below0 :=
  ⟨lists_1, trivial, launch0.admits_env _ _ _, launch0.least_env, fairChoices_fair.cas, fairChoices_fair.clock, rfl, by decide +kernel, by decide +kernel,
    (Spec.applies_iff rfl).mpr ⟨rfl, rfl, rfl, by decide +kernel, by decide +kernel, by decide +kernel, launch0.hasRoom_least _ room_1 (by decide +kernel) (by decide +kernel) (by decide +kernel) (by decide +kernel) (by decide +kernel) (by decide +kernel), atoms_intro F_words⟩,
    trivial, (show rest_1_c.before start1.args0 aboutF = true by decide +kernel), (show (Cond.and given_1 narrow_1).before start1.args0 aboutF = true by decide +kernel)⟩
theorem F_ints : aboutF.IntsAt 0 scrF := ⟨{ cls := 24, slots := cellsF, vm := .none }, rfl, rfl, ⟨(fun k h => nomatch h), _, rfl, _, rfl⟩, by decide⟩
