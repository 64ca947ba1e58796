/-! the start: the witness's own, with another script: 130 times 30 -/
def r2_args : Array Value := #[.ref 0]
def r2_cells : Array Value := ⟨List.replicate 130 (.int 30)⟩
def r2_about : State := start1.aboutOf r2_cells
/-- a word of the tables that the witness's start meets is met here: the tables are the same -/
theorem r2_word {c : Cond} (h : c.onTables = true) (h1 : c.before start1.args0 start1.about = true) : c.before r2_args r2_about = true := by
  have e := Cond.onTables_vm (A := start1.args0) (A' := r2_args) (U := start1.about) (U' := r2_about) r2_about.vm c h
  have e1 : start1.about.setVm r2_about.vm = start1.about := rfl
  have e2 : r2_about.setVm r2_about.vm = r2_about := rfl
  rw [e1, e2] at e
  rw [← e]; exact h1
set_option maxRecDepth 100000 in
theorem r2_ot : (Cond.code x code maxLocals ret :: tables_1).all (fun c => c.onTables || c.before r2_args r2_about) = true := by decide +kernel
theorem r2_words : ∀ c ∈ (Cond.code x code maxLocals ret :: tables_1), c.before r2_args r2_about = true := by
  intro c hc
  have h := List.all_eq_true.mp r2_ot c hc
  rcases Bool.or_eq_true_iff.mp h with h1 | h1
  · exact r2_word h1 (start1.words c hc)
  · exact h1
set_option maxRecDepth 100000 in
theorem r2_room : (headSpec (Cond.code x code maxLocals ret :: tables_1) r_room).applies x start1.e0.platform r2_about = true := (Spec.applies_iff rfl).mpr ⟨rfl, rfl, rfl, by decide +kernel, by decide +kernel, by decide +kernel, launch0.hasRoom_least _ r_room (by decide +kernel) (by decide +kernel) (by decide +kernel) (by decide +kernel) (by decide +kernel) (by decide +kernel), atoms_intro r2_words⟩
set_option maxRecDepth 100000 in
theorem r2_at : Jvm.D.AtStart classFile x code maxLocals ret World_1 tables_1 room_1 Calls_1 rest_1 Pre_1 launch0 start1.p0 start1.e0 r2_about ⟨0, 0⟩ r2_args Lib.HandBits.below0 :=
  ⟨lists_1, trivial, launch0.admits_env _ _ _, launch0.least_env, fairChoices_fair.cas, fairChoices_fair.clock, rfl, by decide +kernel, by decide +kernel, (Spec.applies_iff rfl).mpr ⟨rfl, rfl, rfl, by decide +kernel, by decide +kernel, by decide +kernel, launch0.hasRoom_least _ room_1 (by decide +kernel) (by decide +kernel) (by decide +kernel) (by decide +kernel) (by decide +kernel) (by decide +kernel), atoms_intro r2_words⟩, trivial, (show rest_1_c.before r2_args r2_about = true by decide +kernel), (show (Cond.and given_1 narrow_1).before r2_args r2_about = true by decide +kernel)⟩
