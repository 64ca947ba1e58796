theorem r_thirty (xs : List Int32) (h : xs.map Value.int = List.replicate 130 (Value.int 30)) : xs = List.replicate 130 30 := by
  have h1 : xs.map Value.int = (List.replicate 130 (30 : Int32)).map Value.int := h.trans (by rw [List.map_replicate])
  exact (List.map_inj_right (fun a b h => by cases h; rfl)).mp h1
set_option maxRecDepth 100000 in
theorem r2_P : r_P 0 (List.replicate 130 30) r2_args r2_about := by
  obtain ⟨-, -, -, -, -, -, -, -, -, -, -, hrest, hpre⟩ := id r2_at
  have hs := flat_of_before _ hpre
  have hq := flat_of_before _ hrest
  have harr : (Cond.arrayOf (.arg 0) .int).before r2_args r2_about = true := hs _ (by decide +kernel)
  have hlen : (Cond.isInt (.length (.arg 0))).before r2_args r2_about = true := hq _ (by decide +kernel)
  have hall : (Cond.all (.arg 0) (.isInt (.elem (.arg 0) (.index 0)))).before r2_args r2_about = true := hq _ (by decide +kernel)
  obtain ⟨b, xs, hb, hx⟩ := State.ints_of_pre rfl harr hlen hall
  have hb0 : r2_args[0]? = some (.ref b) := hb
  have hb1 : r2_args[0]? = some (.ref 0) := rfl
  cases hb1.symm.trans hb0
  have hxs : xs = List.replicate 130 30 := by
    obtain ⟨cell, g1, g2, -, -⟩ := hx
    have g3 : r2_about.arrayAt? 0 = some { cls := 14, slots := r2_cells, vm := .none } := rfl
    cases g3.symm.trans g1
    exact r_thirty xs (g2.symm.trans rfl)
  subst hxs
  refine ⟨rfl, hx, by rw [List.length_replicate]; exact ⟨Nat.le_refl _, by omega⟩, fun j hj => ?_, hpre⟩
  rw [List.length_replicate] at hj
  show (List.replicate 130 (30 : Int32)).getD j 0 = 30
  rw [List.getD_eq_getElem?_getD, List.getElem?_replicate]
  simp [hj]
/-- from that start the law ends with 1, and with at least 204 new cells -/
theorem r_run : ∃ (k : Nat) (o : Outcome), (∀ j, j < k → Within (stepsAlone start1.p0.tables start1.e0 j r2_about) Lib.HandBits.below0) ∧ Ended (stepsAlone start1.p0.tables start1.e0 k r2_about) Lib.HandBits.below0 o ∧ o = .returned (some (.int 1)) ∧ r2_about.heap.size + 204 ≤ (stepsAlone start1.p0.tables start1.e0 k r2_about).heap.size := by
  obtain ⟨-, -, had, -, hcas, hclk, hfr, -, -, -, -, -, -⟩ := id r2_at
  obtain ⟨k, o, h1, -, h3, hQ⟩ := r_walk launch0 rfl 0 (List.replicate 130 30) start1.p0 start1.e0 had hcas hclk r2_about ⟨0, 0⟩ r2_args Lib.HandBits.below0 hfr ((Spec.applies_iff_loose hfr).mp r2_room).1 r2_P trivial
  exact ⟨k, o, h1, h3, hQ.1, hQ.2⟩
/-- THE REFUTATION: the printed claim is false: the law leaves more new cells than the 203 of its Post -/
theorem r_refuted : ¬ Claimed_1_1 := by
  intro hC
  obtain ⟨hLi, hW, had, -, hcas, hclk, hfr, hfit, hheap, happ, hcalls, hrest, hpre⟩ := id r2_at
  obtain ⟨k, o, h1, h3, -, hbig⟩ := r_run
  obtain ⟨j, q, g1, -, g3, hpost⟩ := hC launch0 rfl hLi hW start1.p0 start1.e0 had hcas hclk r2_about ⟨0, 0⟩ r2_args Lib.HandBits.below0 hfr hfit hheap happ ⟨hcalls, hrest, hpre⟩
  have hkj : k = j := Nat.le_antisymm (Nat.not_lt.mp fun h => g3.not_within (h1 j h)) (Nat.not_lt.mp fun h => h3.not_within (g1 k h))
  subst hkj
  obtain ⟨-, -, -, -, -, h5, -⟩ := hpost
  have h6 : (stepsAlone start1.p0.tables start1.e0 k r2_about).heap.size ≤ r2_about.heap.size + 203 := h5
  omega
/-- so nothing that is owed for p23 can be proved -/
theorem r_refuted_2 : ¬ Claimed_1_2 := by
  intro hC
  obtain ⟨hLi, hW, had, -, hcas, hclk, hfr, hfit, hheap, happ, hcalls, hrest, hpre⟩ := id r2_at
  obtain ⟨k, o, h1, h3, -, hbig⟩ := r_run
  obtain ⟨j, q, g1, -, g3, hpost⟩ := hC launch0 rfl hLi hW start1.p0 start1.e0 had hcas hclk r2_about ⟨0, 0⟩ r2_args Lib.HandBits.below0 hfr hfit hheap happ ⟨hcalls, hrest, hpre⟩
  have hkj : k = j := Nat.le_antisymm (Nat.not_lt.mp fun h => g3.not_within (h1 j h)) (Nat.not_lt.mp fun h => h3.not_within (g1 k h))
  subst hkj
  obtain ⟨-, -, -, -, -, h5, -⟩ := hpost
  have h6 : (stepsAlone start1.p0.tables start1.e0 k r2_about).heap.size ≤ r2_about.heap.size + 203 := h5
  omega
theorem r_refuted_vc : ¬ (Claimed_1_1 ∧ Claimed_1_2) := fun h => r_refuted h.1
