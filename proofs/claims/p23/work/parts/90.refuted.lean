set_option maxRecDepth 16384 in
theorem start2.applies : (headSpec (Jvm.Cond.code x code maxLocals ret :: tables_1) r_room).applies x start2.e0.platform start2.about = true :=
  (Spec.applies_iff rfl).mpr ⟨rfl, rfl, rfl, by decide +kernel, by decide +kernel, by decide +kernel, launch0.hasRoom_least _ r_room (by decide +kernel) (by decide +kernel) (by decide +kernel) (by decide +kernel) (by decide +kernel) (by decide +kernel), atoms_intro start2.words⟩
theorem r_thirty (xs : List Int32) (h : xs.map Value.int = List.replicate 130 (Value.int 30)) : xs = List.replicate 130 30 := by
  have h1 : xs.map Value.int = (List.replicate 130 (30 : Int32)).map Value.int := h.trans (by rw [List.map_replicate])
  exact (List.map_inj_right (fun a b h => by cases h; rfl)).mp h1
set_option maxRecDepth 16384 in
theorem r_falls : Jvm.D.FallsFor flags0 classFile x code maxLocals ret World_1 tables_1 room_1 Calls_1 rest_1 Pre_1 Post_1_1 := by
  obtain ⟨hLi, hW, had, hle, hcas, hclk, hfr, hfit, hheap, happ, hcalls, hrest, hpre⟩ := id start2.atStart
  have hP : r_P 0 (List.replicate 130 30) start2.args0 start2.about := by
    refine ⟨rfl, ⟨{ cls := 14, slots := start2.cells0, vm := .none }, by rfl, by rfl, by decide +kernel, by decide⟩, by decide, fun j hj => ?_, hpre⟩
    rw [List.length_replicate] at hj
    show (List.replicate 130 (30 : Int32)).getD j 0 = 30
    rw [List.getD_eq_getElem?_getD, List.getElem?_replicate]
    simp [hj]
  obtain ⟨k, o, h1, h2, h3, hQ⟩ := r_walk launch0 rfl 0 (List.replicate 130 30) start2.p0 start2.e0 had hcas hclk start2.about ⟨0, 0⟩ start2.args0 Lib.HandBits.below0 hfr ((Spec.applies_iff_loose hfr).mp start2.applies).1 hP trivial
  refine ⟨launch0, start2.p0, start2.e0, start2.about, ⟨0, 0⟩, start2.args0, Lib.HandBits.below0, rfl, start2.atStart, k, o, h2, h3, fun hpost => ?_⟩
  obtain ⟨-, -, -, -, -, h5, -⟩ := hpost
  have h6 : (stepsAlone start2.p0.tables start2.e0 k start2.about).heap.size ≤ start2.about.heap.size + 203 := h5
  have h7 : start2.about.heap.size + 204 ≤ (stepsAlone start2.p0.tables start2.e0 k start2.about).heap.size := hQ.2
  omega
theorem r_not_arm {fl : List String} {file : ClassFile.Facts.File} {x : MethodName} {code : ByteArray} {maxLocals : Nat} {ret : Option ClassFile.FieldType} {World : Launch → Prop} {ts : List Jvm.Cond} {room : Room}
    {calls rest Pre : Tables → Env → Array Value → State → Prop} {Post : Tables → Env → Array Value → State → Outcome → State → Prop}
    (hF : Jvm.D.FallsFor fl file x code maxLocals ret World ts room calls rest Pre Post) : ¬ Jvm.D.ArmFor fl file x code maxLocals ret World ts room calls rest Pre Post := by
  intro hA
  obtain ⟨l, p, e, s, m, args, below, hfl, ⟨hL, hW, had, -, hcas, hclk, hfr, hfit, hheap, happ, hcalls, hrest, hpre⟩, n, o, hin, -, hend, hnot⟩ := hF
  obtain ⟨k, q, hin', -, hend', hpost⟩ := hA l hfl hL hW p e had hcas hclk s m args below hfr hfit hheap happ ⟨hcalls, hrest, hpre⟩
  have hnk : n = k := by
    rcases Nat.lt_trichotomy n k with h | h | h
    · exact absurd (hin' n h) hend.not_within
    · exact h
    · exact absurd (hin k h) hend'.not_within
  subst hnk
  have hoq := hend.outcome_unique hend'
  subst hoq
  exact hnot hpost
/-- THE REFUTATION: what is owed for p23 (i_vc : Claimed_1_1 ∧ Claimed_1_2) has no proof -/
theorem r_refuted : ¬ Claimed_1_1 := r_not_arm r_falls
theorem r_refuted_vc : ¬ (Claimed_1_1 ∧ Claimed_1_2) := fun h => r_refuted h.1
