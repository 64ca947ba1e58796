set_option maxHeartbeats 4000000 in
set_option maxRecDepth 100000 in
theorem c_X0_isGiver (l : Launch) (p0 : Int32) : Met l yX0_isGiver wsX0_isGiver ({ frames := 0, cells := 0, slots := 0, locals := 0 }) (va_Pc [.int p0] (fun _ => True)) (vp_Si (fun r : Int32 => (r = bif q_g p0 then 1 else 0))) 0 0 (fun _ => False) := by
  refine Met.ofW (cc := cX0_isGiver) (maxL := 1) (ret := (some .boolean)) (by decide) rfl ?_
  intro p e s m args below meth c s₁ B hml hv
  obtain ⟨rfl, -⟩ := hv
  have hx := B.exec
  have hb := B.bytes
  have hr := B.returns
  have hts := atoms_spec (ws := wsX0_isGiver) B.pre
  have hown : s.vm.findClass RX0 = some m.cls := findClass_of_methodNamed B.named
  have hlocks := B.notSynchronized
  have hl := lv_entry ([.int p0]) (n := 1) (Nat.le_of_ble_eq_true rfl)
  rw [lg_entry_eq]
  generalize (lg_sl ([.int p0]) ++ List.replicate (1 - (lg_sl ([.int p0])).length) Slot.unset).toArray = ls at hl ⊢
  have hl : lv_has ls 1 [(0, .int p0)] := hl
  refine lv_iload_n hx hb dX0_isGiver_0 rfl (lv_at hl 0 rfl) ?_
  refine lv_if_lt (tgt := 14) hx hb dX0_isGiver_1 (by decide) (fun c1 => ?_) (fun c1 => ?_)
  · skip
    refine lv_iconst (v := 0) hx hb dX0_isGiver_14 (by decide) ?_
    exact W.zret (v := 0) hx hb hr rfl (fun t ht hW => ⟨0, rfl, (by simp [q_g, c1]), ht⟩) (fun _ h => nomatch h) dX0_isGiver_15
  · skip
    refine lv_iload_n hx hb dX0_isGiver_4 rfl (lv_at hl 0 rfl) ?_
    refine lv_bipush (v := 8) hx hb dX0_isGiver_5 (by decide) ?_
    refine lv_icmp_ge (tgt := 14) hx hb dX0_isGiver_7 (by decide) (fun c2 => ?_) (fun c2 => ?_)
    · skip
      refine lv_iconst (v := 0) hx hb dX0_isGiver_14 (by decide) ?_
      exact W.zret (v := 0) hx hb hr rfl (fun t ht hW => ⟨0, rfl, (by simp [q_g, c1, c2]), ht⟩) (fun _ h => nomatch h) dX0_isGiver_15
    · skip
      refine lv_iconst (v := 1) hx hb dX0_isGiver_10 (by decide) ?_
      refine lv_goto (tgt := 15) hx hb dX0_isGiver_11 (by decide) ?_
      exact W.zret (v := 1) hx hb hr rfl (fun t ht hW => ⟨1, rfl, (by simp [q_g, c1, c2]), ht⟩) (fun _ h => nomatch h) dX0_isGiver_15
set_option maxHeartbeats 4000000 in
set_option maxRecDepth 100000 in
theorem c_X0_requireGiver (l : Launch) (p0 : Int32) (hg : q_g p0 = true) : Met l yX0_requireGiver wsX0_requireGiver ({ frames := 1, cells := 0, slots := 0, locals := 20 }) (va_Pc [.int p0] (fun _ => True)) (va_Sv (fun _ => True)) 0 0 (fun _ => False) := by
  refine Met.ofW (cc := cX0_requireGiver) (maxL := 1) (ret := none) (by decide) rfl ?_
  intro p e s m args below meth c s₁ B hml hv
  obtain ⟨rfl, -⟩ := hv
  have hx := B.exec
  have hb := B.bytes
  have hr := B.returns
  have hts := atoms_spec (ws := wsX0_requireGiver) B.pre
  have hown : s.vm.findClass RX0 = some m.cls := findClass_of_methodNamed B.named
  have hlocks := B.notSynchronized
  have hl := lv_entry ([.int p0]) (n := 1) (Nat.le_of_ble_eq_true rfl)
  rw [lg_entry_eq]
  generalize (lg_sl ([.int p0]) ++ List.replicate (1 - (lg_sl ([.int p0])).length) Slot.unset).toArray = ls at hl ⊢
  have hl : lv_has ls 1 [(0, .int p0)] := hl
  refine lv_iload_n hx hb dX0_requireGiver_0 rfl (lv_at hl 0 rfl) ?_
  refine vp_callSi (W.runS (As := [.int p0]) (rest := []) ⟨hx, hb, hml, hown, hts⟩ (c_X0_isGiver l p0) (va_cwS 1 hts gX0_requireGiver_X0_isGiver rfl rfl rfl (by decide +kernel) ⟨Nat.le_of_ble_eq_true rfl, Nat.le_of_ble_eq_true rfl⟩) ⟨zN_blind, fun U hU hW => ⟨rfl, trivial⟩⟩ rfl rfl hl.1 rfl (lv_room (Nat.le_of_ble_eq_true rfl)) dX0_requireGiver_1 ⟨Nat.le_of_ble_eq_true rfl, Nat.le_of_ble_eq_true rfl⟩) (fun r1 w1 => ?_)
  have w1 : r1 = 1 := by rw [w1, hg]; rfl
  subst w1
  refine lv_if_ne (tgt := 17) hx hb dX0_requireGiver_4 (by decide) (fun _ => ?_) (fun c9 => False.elim (by revert c9; decide))
  exact W.vret hx hb hr (fun t ht hW => ⟨rfl, trivial, ht⟩) (fun _ h => nomatch h) dX0_requireGiver_17
set_option maxHeartbeats 4000000 in
set_option maxRecDepth 100000 in
theorem c_X0_requireGiver_t (l : Launch) (hl0 : l.stackTraces = false) (p0 : Int32) (hg : q_g p0 = false) : vx_Met l yX0_requireGiver wsX0_requireGiver ({ frames := 6, cells := 1, slots := 6, locals := 90 }) (va_Pc [.int p0] zX) zNo (zXC (fun E => E = "java/lang/IndexOutOfBoundsException")) 1 6 (fun _ => False) := by
  refine vx_ofW (cc := cX0_requireGiver) (maxL := 1) (ret := none) (by decide) rfl ?_
  intro p e s m args below meth c s₁ B hml hout hv
  obtain ⟨rfl, hZ⟩ := hv
  have hx := B.exec
  have hb := B.bytes
  have hr := B.returns
  have hts := atoms_spec (ws := wsX0_requireGiver) B.pre
  have hown : s.vm.findClass RX0 = some m.cls := findClass_of_methodNamed B.named
  have hlocks := B.notSynchronized
  have hl := lv_entry ([.int p0]) (n := 1) (Nat.le_of_ble_eq_true rfl)
  rw [lg_entry_eq]
  generalize (lg_sl ([.int p0]) ++ List.replicate (1 - (lg_sl ([.int p0])).length) Slot.unset).toArray = ls at hl ⊢
  have hl : lv_has ls 1 [(0, .int p0)] := hl
  refine lv_iload_n hx hb dX0_requireGiver_0 rfl (lv_at hl 0 rfl) ?_
  refine vp_callSi (W.runS (As := [.int p0]) (rest := []) ⟨hx, hb, hml, hown, hts⟩ (c_X0_isGiver l p0) (va_cwS 1 hts gX0_requireGiver_X0_isGiver rfl rfl rfl (by decide +kernel) ⟨Nat.le_of_ble_eq_true rfl, Nat.le_of_ble_eq_true rfl⟩) ⟨zN_blind, fun U hU hW => ⟨rfl, trivial⟩⟩ rfl rfl hl.1 rfl (lv_room (Nat.le_of_ble_eq_true rfl)) dX0_requireGiver_1 ⟨Nat.le_of_ble_eq_true rfl, Nat.le_of_ble_eq_true rfl⟩) (fun r1 w1 => ?_)
  have w1 : r1 = 0 := by rw [w1, hg]; rfl
  subst w1
  refine lv_if_ne (tgt := 17) hx hb dX0_requireGiver_4 (by decide) (fun c9 => False.elim (by revert c9; decide)) (fun _ => ?_)
  obtain ⟨sa, hsa⟩ := hZ.2.1 (155, "no such giver") (by decide)
  exact z_throw (Qc := zNo) (own := RX0) (cls := "java/lang/IndexOutOfBoundsException") (ik := 66) (is := 155) (ic := 70) (text := "no such giver") hx hb hl0 hown (by decide +kernel) (hts (.classLink RX0 66 "java/lang/IndexOutOfBoundsException") (by decide +kernel)) (hts (.initialized "java/lang/IndexOutOfBoundsException") (by decide +kernel)) hsa hts (by decide +kernel) (by decide +kernel) hZ.1 hZ.2.2.2.1 hZ.2.2.2.2 hl.1 hml dX0_requireGiver_7 dX0_requireGiver_10 dX0_requireGiver_11 dX0_requireGiver_13 dX0_requireGiver_16 (fun x h => (hout x h).elim) (Nat.le_of_ble_eq_true rfl) (Nat.le_of_ble_eq_true rfl) (Nat.le_of_ble_eq_true rfl) (Nat.le_of_ble_eq_true rfl) hlocks
set_option maxHeartbeats 4000000 in
set_option maxRecDepth 100000 in
theorem c_X0_requireAmount (l : Launch) (p0 p1 : Int32) (hi : q_i p0 1 p1 = true) : Met l yX0_requireAmount wsX0_requireAmount ({ frames := 0, cells := 0, slots := 0, locals := 0 }) (va_Pc [.int p0, .int p1] (fun _ => True)) (va_Sv (fun _ => True)) 0 0 (fun _ => False) := by
  refine Met.ofW (cc := cX0_requireAmount) (maxL := 2) (ret := none) (by decide) rfl ?_
  intro p e s m args below meth c s₁ B hml hv
  obtain ⟨rfl, -⟩ := hv
  have hx := B.exec
  have hb := B.bytes
  have hr := B.returns
  have hts := atoms_spec (ws := wsX0_requireAmount) B.pre
  have hown : s.vm.findClass RX0 = some m.cls := findClass_of_methodNamed B.named
  have hlocks := B.notSynchronized
  have hl := lv_entry ([.int p0, .int p1]) (n := 2) (Nat.le_of_ble_eq_true rfl)
  rw [lg_entry_eq]
  generalize (lg_sl ([.int p0, .int p1]) ++ List.replicate (2 - (lg_sl ([.int p0, .int p1])).length) Slot.unset).toArray = ls at hl ⊢
  have hl : lv_has ls 2 [(0, .int p0), (1, .int p1)] := hl
  refine lv_iload_n hx hb dX0_requireAmount_0 rfl (lv_at hl 0 rfl) ?_
  refine lv_iconst (v := 1) hx hb dX0_requireAmount_1 (by decide) ?_
  refine lv_icmp_lt (tgt := 10) hx hb dX0_requireAmount_2 (by decide) (fun c1 => False.elim (by simp [q_i, c1] at hi)) (fun c1 => ?_)
  refine lv_iload_n hx hb dX0_requireAmount_5 rfl (lv_at hl 0 rfl) ?_
  refine lv_iload_n hx hb dX0_requireAmount_6 rfl (lv_at hl 1 rfl) ?_
  refine lv_icmp_le (tgt := 20) hx hb dX0_requireAmount_7 (by decide) (fun c2 => ?_) (fun c2 => False.elim (by have h9 := (q_i_iff.mp hi).2; rw [z_le] at c2; omega))
  exact W.vret hx hb hr (fun t ht hW => ⟨rfl, trivial, ht⟩) (fun _ h => nomatch h) dX0_requireAmount_20
set_option maxHeartbeats 4000000 in
set_option maxRecDepth 100000 in
theorem c_X0_requireAmount_t (l : Launch) (hl0 : l.stackTraces = false) (p0 p1 : Int32) (hi : q_i p0 1 p1 = false) : vx_Met l yX0_requireAmount wsX0_requireAmount ({ frames := 6, cells := 1, slots := 6, locals := 90 }) (va_Pc [.int p0, .int p1] zX) zNo (zXC (fun E => E = "java/lang/IllegalArgumentException")) 1 6 (fun _ => False) := by
  refine vx_ofW (cc := cX0_requireAmount) (maxL := 2) (ret := none) (by decide) rfl ?_
  intro p e s m args below meth c s₁ B hml hout hv
  obtain ⟨rfl, hZ⟩ := hv
  have hx := B.exec
  have hb := B.bytes
  have hr := B.returns
  have hts := atoms_spec (ws := wsX0_requireAmount) B.pre
  have hown : s.vm.findClass RX0 = some m.cls := findClass_of_methodNamed B.named
  have hlocks := B.notSynchronized
  have hl := lv_entry ([.int p0, .int p1]) (n := 2) (Nat.le_of_ble_eq_true rfl)
  rw [lg_entry_eq]
  generalize (lg_sl ([.int p0, .int p1]) ++ List.replicate (2 - (lg_sl ([.int p0, .int p1])).length) Slot.unset).toArray = ls at hl ⊢
  have hl : lv_has ls 2 [(0, .int p0), (1, .int p1)] := hl
  refine lv_iload_n hx hb dX0_requireAmount_0 rfl (lv_at hl 0 rfl) ?_
  refine lv_iconst (v := 1) hx hb dX0_requireAmount_1 (by decide) ?_
  refine lv_icmp_lt (tgt := 10) hx hb dX0_requireAmount_2 (by decide) (fun c1 => ?_) (fun c1 => ?_)
  · skip
    obtain ⟨sa, hsa⟩ := hZ.2.1 (157, "the amount is out of range") (by decide)
    exact z_throw (Qc := zNo) (own := RX0) (cls := "java/lang/IllegalArgumentException") (ik := 90) (is := 157) (ic := 94) (text := "the amount is out of range") hx hb hl0 hown (by decide +kernel) (hts (.classLink RX0 90 "java/lang/IllegalArgumentException") (by decide +kernel)) (hts (.initialized "java/lang/IllegalArgumentException") (by decide +kernel)) hsa hts (by decide +kernel) (by decide +kernel) hZ.1 hZ.2.2.2.1 hZ.2.2.2.2 hl.1 hml dX0_requireAmount_10 dX0_requireAmount_13 dX0_requireAmount_14 dX0_requireAmount_16 dX0_requireAmount_19 (fun x h => (hout x h).elim) (Nat.le_of_ble_eq_true rfl) (Nat.le_of_ble_eq_true rfl) (Nat.le_of_ble_eq_true rfl) (Nat.le_of_ble_eq_true rfl) hlocks
  · skip
    refine lv_iload_n hx hb dX0_requireAmount_5 rfl (lv_at hl 0 rfl) ?_
    refine lv_iload_n hx hb dX0_requireAmount_6 rfl (lv_at hl 1 rfl) ?_
    refine lv_icmp_le (tgt := 20) hx hb dX0_requireAmount_7 (by decide) (fun c2 => False.elim (by rw [z_le] at c2; rw [z_lt] at c1; rw [show q_i p0 1 p1 = true from q_i_iff.mpr ⟨by omega, c2⟩] at hi; exact Bool.noConfusion hi)) (fun c2 => ?_)
    obtain ⟨sa, hsa⟩ := hZ.2.1 (157, "the amount is out of range") (by decide)
    exact z_throw (Qc := zNo) (own := RX0) (cls := "java/lang/IllegalArgumentException") (ik := 90) (is := 157) (ic := 94) (text := "the amount is out of range") hx hb hl0 hown (by decide +kernel) (hts (.classLink RX0 90 "java/lang/IllegalArgumentException") (by decide +kernel)) (hts (.initialized "java/lang/IllegalArgumentException") (by decide +kernel)) hsa hts (by decide +kernel) (by decide +kernel) hZ.1 hZ.2.2.2.1 hZ.2.2.2.2 hl.1 hml dX0_requireAmount_10 dX0_requireAmount_13 dX0_requireAmount_14 dX0_requireAmount_16 dX0_requireAmount_19 (fun x h => (hout x h).elim) (Nat.le_of_ble_eq_true rfl) (Nat.le_of_ble_eq_true rfl) (Nat.le_of_ble_eq_true rfl) (Nat.le_of_ble_eq_true rfl) hlocks
set_option maxHeartbeats 4000000 in
set_option maxRecDepth 100000 in
theorem c_X0_total (l : Launch) (D : va_G) (cI cZ cJ : ClassId) (h a0 a1 a2 a3 a4 a5 a6 a7 a8 a9 a10 : Nat) (f0 f1 f2 f3 f4 f5 f6 f7 f8 f9 f10 : Nat → Int32) (v0 v1 v2 v3 : Int32) : Met l yX0_total wsX0_total ({ frames := 0, cells := 0, slots := 0, locals := 0 }) (va_Pc [.ref h] (zP D cI cZ cJ (wQ cI cZ h a0 a1 a2 a3 a4 a5 a6 a7 a8 a9 a10 f0 f1 f2 f3 f4 f5 f6 f7 f8 f9 f10 v0 v1 v2 v3))) (vp_Si (fun r : Int32 => r = q_sum f0 8)) 0 0 (fun _ => False) := by
  refine Met.ofW (cc := cX0_total) (maxL := 3) (ret := (some .int)) (by decide) rfl ?_
  intro p e s m args below meth c s₁ B hml hv
  obtain ⟨rfl, hP, hK⟩ := hv
  have hx := B.exec
  have hb := B.bytes
  have hr := B.returns
  have hts := atoms_spec (ws := wsX0_total) B.pre
  have hown : s.vm.findClass RX0 = some m.cls := findClass_of_methodNamed B.named
  have hlocks := B.notSynchronized
  have hin : ∀ w ∈ wsX00, w ∈ wsX0_total := by decide +kernel
  have hl := lv_entry ([.ref h]) (n := 3) (Nat.le_of_ble_eq_true rfl)
  rw [lg_entry_eq]
  generalize (lg_sl ([.ref h]) ++ List.replicate (3 - (lg_sl ([.ref h])).length) Slot.unset).toArray = ls at hl ⊢
  have hl : lv_has ls 3 [(0, .ref h)] := hl
  refine lv_iconst (v := 0) hx hb dX0_total_0 (by decide) ?_
  refine lv_istore_n (lv' := [(1, .int 0), (0, .ref h)]) hx hb dX0_total_1 rfl hl (by decide) rfl (fun ls hl => ?_)
  refine lv_iconst (v := 0) hx hb dX0_total_2 (by decide) ?_
  refine lv_istore_n (lv' := [(2, .int 0), (1, .int 0), (0, .ref h)]) hx hb dX0_total_3 rfl hl (by decide) rfl (fun ls hl => ?_)
  have hloop4 : ∀ (n4 : Nat) (i : Nat) (x : Int32), (9 ≤ i + n4) → (i ≤ 8) → (x = q_sum f0 i) → ∀ (ls : Array Slot), lv_has ls 3 [(2, .int (nI i)), (1, .int x), (0, .ref h)] → W p l e (headSpec wsX0_total ({ frames := 0, cells := 0, slots := 0, locals := 0 })).room s m ([Value.ref h] : List Value).toArray below meth c s.heap [] 0 0 (MQ below (vp_Si (fun r : Int32 => r = q_sum f0 8)) ([Value.ref h] : List Value).toArray s 0 0 (fun _ => False)) (F0 m 4 ls []) := by
    intro n4
    induction n4 with
    | zero => intro i x hn hi ex; exact False.elim (by omega)
    | succ n4 ih4 =>
      intro i x hn hi ex ls hl
      refine lv_iload_n hx hb dX0_total_4 rfl (lv_at hl 0 rfl) ?_
      refine lv_bipush (v := 8) hx hb dX0_total_5 (by decide) ?_
      refine lv_icmp_ge (tgt := 25) hx hb dX0_total_7 (by decide) (fun c1 => ?_) (fun c1 => ?_)
      · skip
        have hj := z_ge8 hi c1
        subst hj
        refine lv_iload_n hx hb dX0_total_25 rfl (lv_at hl 1 rfl) ?_
        exact W.iret (v := x) hx hb hr (fun t ht hW => ⟨x, rfl, ex, ht⟩) (fun _ h => nomatch h) dX0_total_26
      · skip
        have hj := z_lt8 hi c1
        refine lv_iload_n hx hb dX0_total_10 rfl (lv_at hl 1 rfl) ?_
        refine lv_aload_n hx hb dX0_total_11 rfl (lv_at hl 2 rfl) ?_
        refine va_get (D := D) (ci := 0) (v := .ref a0) (C := RX0) (T := TX0) (N := 15) hx hb hts hin hown hK hP 0 rfl rfl 0 (by decide) (hts (.fieldLink RX0 9 "Quorumfund" "kept" "[I") (by decide +kernel)) (fun _ h9 => h9) rfl dX0_total_12 ?_
        refine lv_iload_n hx hb dX0_total_15 rfl (lv_at hl 0 rfl) ?_
        refine va_iald (D := D) hx hb hK hP 1 0 rfl rfl (z_in8 hj) dX0_total_16 ?_
        refine lv_iadd hx hb dX0_total_17 ?_
        refine lv_istore_n (lv' := [(1, .int (x + (f0 (nI i).toNatClampNeg))), (2, .int (nI i)), (0, .ref h)]) hx hb dX0_total_18 rfl hl (by decide) rfl (fun ls hl => ?_)
        refine lv_iinc (v := nI (i + 1)) (lv' := [(2, .int (nI (i + 1))), (1, .int (x + (f0 (nI i).toNatClampNeg))), (0, .ref h)]) hx hb dX0_total_19 hl (k := 1) rfl (nI_1 _) (by decide) rfl (fun ls hl => ?_)
        refine lv_goto (tgt := 4) hx hb dX0_total_22 (by decide) ?_
        exact ih4 (i + 1) (x + (f0 (nI i).toNatClampNeg)) (by omega) (by omega) (by rw [ex, z_cl hj]; rfl) ls (lv_sub hl [0, 1, 2] rfl)
  exact hloop4 9 0 0 (by omega) (by omega) rfl ls (lv_sub hl [0, 1, 2] rfl)
set_option maxHeartbeats 4000000 in
set_option maxRecDepth 100000 in
theorem c_X0_current (l : Launch) (D : va_G) (cI cZ cJ : ClassId) (h a0 a1 a2 a3 a4 a5 a6 a7 a8 a9 a10 : Nat) (f0 f1 f2 f3 f4 f5 f6 f7 f8 f9 f10 : Nat → Int32) (v0 v1 v2 v3 : Int32) : Met l yX0_current wsX0_current ({ frames := 0, cells := 0, slots := 0, locals := 0 }) (va_Pc [.ref h] (zP D cI cZ cJ (wQ cI cZ h a0 a1 a2 a3 a4 a5 a6 a7 a8 a9 a10 f0 f1 f2 f3 f4 f5 f6 f7 f8 f9 f10 v0 v1 v2 v3))) (vp_Si (fun r : Int32 => r = q_cur v0 v1)) 0 0 (fun _ => False) := by
  refine Met.ofW (cc := cX0_current) (maxL := 1) (ret := (some .int)) (by decide) rfl ?_
  intro p e s m args below meth c s₁ B hml hv
  obtain ⟨rfl, hP, hK⟩ := hv
  have hx := B.exec
  have hb := B.bytes
  have hr := B.returns
  have hts := atoms_spec (ws := wsX0_current) B.pre
  have hown : s.vm.findClass RX0 = some m.cls := findClass_of_methodNamed B.named
  have hlocks := B.notSynchronized
  have hin : ∀ w ∈ wsX00, w ∈ wsX0_current := by decide +kernel
  have hl := lv_entry ([.ref h]) (n := 1) (Nat.le_of_ble_eq_true rfl)
  rw [lg_entry_eq]
  generalize (lg_sl ([.ref h]) ++ List.replicate (1 - (lg_sl ([.ref h])).length) Slot.unset).toArray = ls at hl ⊢
  have hl : lv_has ls 1 [(0, .ref h)] := hl
  refine lv_aload_n hx hb dX0_current_0 rfl (lv_at hl 0 rfl) ?_
  refine va_get (D := D) (ci := 0) (v := .int v1) (C := RX0) (T := TX0) (N := 15) hx hb hts hin hown hK hP 0 rfl rfl 10 (by decide) (hts (.fieldLink RX0 85 "Quorumfund" "released" "I") (by decide +kernel)) (fun _ h9 => h9) rfl dX0_current_1 ?_
  refine lv_aload_n hx hb dX0_current_4 rfl (lv_at hl 0 rfl) ?_
  refine va_get (D := D) (ci := 0) (v := .int v0) (C := RX0) (T := TX0) (N := 15) hx hb hts hin hown hK hP 0 rfl rfl 9 (by decide) (hts (.fieldLink RX0 78 "Quorumfund" "added" "I") (by decide +kernel)) (fun _ h9 => h9) rfl dX0_current_5 ?_
  refine lv_icmp_ge (tgt := 18) hx hb dX0_current_8 (by decide) (fun c1 => ?_) (fun c1 => ?_)
  · skip
    refine lv_iconst (v := (-1)) hx hb dX0_current_18 (by decide) ?_
    exact W.iret (v := (-1)) hx hb hr (fun t ht hW => ⟨(-1), rfl, (by simp [q_cur, show ¬ v1 < v0 from fun h9 => by rw [z_lt] at h9; rw [z_le] at c1; omega]), ht⟩) (fun _ h => nomatch h) dX0_current_19
  · skip
    refine lv_aload_n hx hb dX0_current_11 rfl (lv_at hl 0 rfl) ?_
    refine va_get (D := D) (ci := 0) (v := .int v1) (C := RX0) (T := TX0) (N := 15) hx hb hts hin hown hK hP 0 rfl rfl 10 (by decide) (hts (.fieldLink RX0 85 "Quorumfund" "released" "I") (by decide +kernel)) (fun _ h9 => h9) rfl dX0_current_12 ?_
    refine lv_goto (tgt := 19) hx hb dX0_current_15 (by decide) ?_
    exact W.iret (v := v1) hx hb hr (fun t ht hW => ⟨v1, rfl, (by simp [q_cur, show v1 < v0 from by rw [z_le] at c1; rw [z_lt]; omega]), ht⟩) (fun _ h => nomatch h) dX0_current_19
set_option maxHeartbeats 4000000 in
set_option maxRecDepth 100000 in
theorem c_X0_pot (l : Launch) (D : va_G) (cI cZ cJ : ClassId) (h a0 a1 a2 a3 a4 a5 a6 a7 a8 a9 a10 : Nat) (f0 f1 f2 f3 f4 f5 f6 f7 f8 f9 f10 : Nat → Int32) (v0 v1 v2 v3 : Int32) : Met l yX0_pot wsX0_pot ({ frames := 0, cells := 0, slots := 0, locals := 0 }) (va_Pc [.ref h] (zP D cI cZ cJ (wQ cI cZ h a0 a1 a2 a3 a4 a5 a6 a7 a8 a9 a10 f0 f1 f2 f3 f4 f5 f6 f7 f8 f9 f10 v0 v1 v2 v3))) (vp_Si (fun r : Int32 => r = v2)) 0 0 (fun _ => False) := by
  refine Met.ofW (cc := cX0_pot) (maxL := 1) (ret := (some .int)) (by decide) rfl ?_
  intro p e s m args below meth c s₁ B hml hv
  obtain ⟨rfl, hP, hK⟩ := hv
  have hx := B.exec
  have hb := B.bytes
  have hr := B.returns
  have hts := atoms_spec (ws := wsX0_pot) B.pre
  have hown : s.vm.findClass RX0 = some m.cls := findClass_of_methodNamed B.named
  have hlocks := B.notSynchronized
  have hin : ∀ w ∈ wsX00, w ∈ wsX0_pot := by decide +kernel
  have hl := lv_entry ([.ref h]) (n := 1) (Nat.le_of_ble_eq_true rfl)
  rw [lg_entry_eq]
  generalize (lg_sl ([.ref h]) ++ List.replicate (1 - (lg_sl ([.ref h])).length) Slot.unset).toArray = ls at hl ⊢
  have hl : lv_has ls 1 [(0, .ref h)] := hl
  refine lv_aload_n hx hb dX0_pot_0 rfl (lv_at hl 0 rfl) ?_
  refine va_get (D := D) (ci := 0) (v := .int v2) (C := RX0) (T := TX0) (N := 15) hx hb hts hin hown hK hP 0 rfl rfl 11 (by decide) (hts (.fieldLink RX0 71 "Quorumfund" "potMoney" "I") (by decide +kernel)) (fun _ h9 => h9) rfl dX0_pot_1 ?_
  exact W.iret (v := v2) hx hb hr (fun t ht hW => ⟨v2, rfl, rfl, ht⟩) (fun _ h => nomatch h) dX0_pot_4
set_option maxHeartbeats 4000000 in
set_option maxRecDepth 100000 in
theorem c_X0_out (l : Launch) (D : va_G) (cI cZ cJ : ClassId) (h a0 a1 a2 a3 a4 a5 a6 a7 a8 a9 a10 : Nat) (f0 f1 f2 f3 f4 f5 f6 f7 f8 f9 f10 : Nat → Int32) (v0 v1 v2 v3 : Int32) : Met l yX0_out wsX0_out ({ frames := 0, cells := 0, slots := 0, locals := 0 }) (va_Pc [.ref h] (zP D cI cZ cJ (wQ cI cZ h a0 a1 a2 a3 a4 a5 a6 a7 a8 a9 a10 f0 f1 f2 f3 f4 f5 f6 f7 f8 f9 f10 v0 v1 v2 v3))) (vp_Si (fun r : Int32 => r = v3)) 0 0 (fun _ => False) := by
  refine Met.ofW (cc := cX0_out) (maxL := 1) (ret := (some .int)) (by decide) rfl ?_
  intro p e s m args below meth c s₁ B hml hv
  obtain ⟨rfl, hP, hK⟩ := hv
  have hx := B.exec
  have hb := B.bytes
  have hr := B.returns
  have hts := atoms_spec (ws := wsX0_out) B.pre
  have hown : s.vm.findClass RX0 = some m.cls := findClass_of_methodNamed B.named
  have hlocks := B.notSynchronized
  have hin : ∀ w ∈ wsX00, w ∈ wsX0_out := by decide +kernel
  have hl := lv_entry ([.ref h]) (n := 1) (Nat.le_of_ble_eq_true rfl)
  rw [lg_entry_eq]
  generalize (lg_sl ([.ref h]) ++ List.replicate (1 - (lg_sl ([.ref h])).length) Slot.unset).toArray = ls at hl ⊢
  have hl : lv_has ls 1 [(0, .ref h)] := hl
  refine lv_aload_n hx hb dX0_out_0 rfl (lv_at hl 0 rfl) ?_
  refine va_get (D := D) (ci := 0) (v := .int v3) (C := RX0) (T := TX0) (N := 15) hx hb hts hin hown hK hP 0 rfl rfl 12 (by decide) (hts (.fieldLink RX0 145 "Quorumfund" "outMoney" "I") (by decide +kernel)) (fun _ h9 => h9) rfl dX0_out_1 ?_
  exact W.iret (v := v3) hx hb hr (fun t ht hW => ⟨v3, rfl, rfl, ht⟩) (fun _ h => nomatch h) dX0_out_4
set_option maxHeartbeats 4000000 in
set_option maxRecDepth 100000 in
theorem c_X0_in (l : Launch) (D : va_G) (cI cZ cJ : ClassId) (h a0 a1 a2 a3 a4 a5 a6 a7 a8 a9 a10 : Nat) (f0 f1 f2 f3 f4 f5 f6 f7 f8 f9 f10 : Nat → Int32) (v0 v1 v2 v3 : Int32) (p0 : Int32) (hg : q_g p0 = true) : Met l yX0_in wsX0_in ({ frames := 2, cells := 0, slots := 0, locals := 40 }) (va_Pc [.ref h, .int p0] (zP D cI cZ cJ (wQ cI cZ h a0 a1 a2 a3 a4 a5 a6 a7 a8 a9 a10 f0 f1 f2 f3 f4 f5 f6 f7 f8 f9 f10 v0 v1 v2 v3))) (vp_Si (fun r : Int32 => r = f0 p0.toNatClampNeg)) 0 0 (fun _ => False) := by
  refine Met.ofW (cc := cX0_in) (maxL := 2) (ret := (some .int)) (by decide) rfl ?_
  intro p e s m args below meth c s₁ B hml hv
  obtain ⟨rfl, hP, hK⟩ := hv
  have hx := B.exec
  have hb := B.bytes
  have hr := B.returns
  have hts := atoms_spec (ws := wsX0_in) B.pre
  have hown : s.vm.findClass RX0 = some m.cls := findClass_of_methodNamed B.named
  have hlocks := B.notSynchronized
  have hin : ∀ w ∈ wsX00, w ∈ wsX0_in := by decide +kernel
  have hl := lv_entry ([.ref h, .int p0]) (n := 2) (Nat.le_of_ble_eq_true rfl)
  rw [lg_entry_eq]
  generalize (lg_sl ([.ref h, .int p0]) ++ List.replicate (2 - (lg_sl ([.ref h, .int p0])).length) Slot.unset).toArray = ls at hl ⊢
  have hl : lv_has ls 2 [(0, .ref h), (1, .int p0)] := hl
  refine lv_iload_n hx hb dX0_in_0 rfl (lv_at hl 1 rfl) ?_
  refine va_csv (W.runS (As := [.int p0]) (rest := []) ⟨hx, hb, hml, hown, hts⟩ (c_X0_requireGiver l p0 hg) (va_cwS 1 hts gX0_in_X0_requireGiver rfl rfl rfl (by decide +kernel) ⟨Nat.le_of_ble_eq_true rfl, Nat.le_of_ble_eq_true rfl⟩) ⟨zN_blind, fun U hU hW => ⟨rfl, trivial⟩⟩ rfl rfl hl.1 rfl (lv_room (Nat.le_of_ble_eq_true rfl)) dX0_in_1 ⟨Nat.le_of_ble_eq_true rfl, Nat.le_of_ble_eq_true rfl⟩) (fun w1 => ?_)
  refine lv_aload_n hx hb dX0_in_4 rfl (lv_at hl 0 rfl) ?_
  refine va_get (D := D) (ci := 0) (v := .ref a0) (C := RX0) (T := TX0) (N := 15) hx hb hts hin hown hK hP 0 rfl rfl 0 (by decide) (hts (.fieldLink RX0 9 "Quorumfund" "kept" "[I") (by decide +kernel)) (fun _ h9 => h9) rfl dX0_in_5 ?_
  refine lv_iload_n hx hb dX0_in_8 rfl (lv_at hl 1 rfl) ?_
  refine va_iald (D := D) hx hb hK hP 1 0 rfl rfl (q_g_in hg) dX0_in_9 ?_
  exact W.iret (v := f0 p0.toNatClampNeg) hx hb hr (fun t ht hW => ⟨f0 p0.toNatClampNeg, rfl, rfl, ht⟩) (fun _ h => nomatch h) dX0_in_10
set_option maxHeartbeats 4000000 in
set_option maxRecDepth 100000 in
theorem c_X0_in_t (l : Launch) (hl0 : l.stackTraces = false) (D : va_G) (cI cZ cJ : ClassId) (h a0 a1 a2 a3 a4 a5 a6 a7 a8 a9 a10 : Nat) (f0 f1 f2 f3 f4 f5 f6 f7 f8 f9 f10 : Nat → Int32) (v0 v1 v2 v3 : Int32) (p0 : Int32) (hg : q_g p0 = false) : vx_Met l yX0_in wsX0_in ({ frames := 7, cells := 1, slots := 6, locals := 110 }) (va_Pc [.ref h, .int p0] (zPX D cI cZ cJ (wQ cI cZ h a0 a1 a2 a3 a4 a5 a6 a7 a8 a9 a10 f0 f1 f2 f3 f4 f5 f6 f7 f8 f9 f10 v0 v1 v2 v3))) zNo (zXC (fun E => E = "java/lang/IndexOutOfBoundsException")) 1 6 (fun _ => False) := by
  refine vx_ofW (cc := cX0_in) (maxL := 2) (ret := (some .int)) (by decide) rfl ?_
  intro p e s m args below meth c s₁ B hml hout hv
  obtain ⟨rfl, hZ, hP, hK⟩ := hv
  have hx := B.exec
  have hb := B.bytes
  have hr := B.returns
  have hts := atoms_spec (ws := wsX0_in) B.pre
  have hown : s.vm.findClass RX0 = some m.cls := findClass_of_methodNamed B.named
  have hlocks := B.notSynchronized
  have hin : ∀ w ∈ wsX00, w ∈ wsX0_in := by decide +kernel
  have hl := lv_entry ([.ref h, .int p0]) (n := 2) (Nat.le_of_ble_eq_true rfl)
  rw [lg_entry_eq]
  generalize (lg_sl ([.ref h, .int p0]) ++ List.replicate (2 - (lg_sl ([.ref h, .int p0])).length) Slot.unset).toArray = ls at hl ⊢
  have hl : lv_has ls 2 [(0, .ref h), (1, .int p0)] := hl
  refine lv_iload_n hx hb dX0_in_0 rfl (lv_at hl 1 rfl) ?_
  exact z_thru (vx_runS (As := [.int p0]) (rest := []) ⟨hx, hb, hml, hown, hts⟩ (c_X0_requireGiver_t l hl0 p0 hg) (va_cwS 1 hts gX0_in_X0_requireGiver rfl rfl rfl (by decide +kernel) ⟨Nat.le_of_ble_eq_true rfl, Nat.le_of_ble_eq_true rfl⟩) ⟨zXs_blind, fun U hU hW => ⟨rfl, zX_at hZ hU hW⟩⟩ rfl rfl hl.1 rfl (lv_room (Nat.le_of_ble_eq_true rfl)) dX0_in_1 ⟨Nat.le_of_ble_eq_true rfl, Nat.le_of_ble_eq_true rfl⟩) (fun _ h => h) hout hlocks (fun _ h => h)
set_option maxHeartbeats 4000000 in
set_option maxRecDepth 100000 in
theorem c_X0_inByBook (l : Launch) (D : va_G) (cI cZ cJ : ClassId) (h a0 a1 a2 a3 a4 a5 a6 a7 a8 a9 a10 : Nat) (f0 f1 f2 f3 f4 f5 f6 f7 f8 f9 f10 : Nat → Int32) (v0 v1 v2 v3 : Int32) (p0 : Int32) (hg : q_g p0 = true) : Met l yX0_inByBook wsX0_inByBook ({ frames := 2, cells := 0, slots := 0, locals := 40 }) (va_Pc [.ref h, .int p0] (zP D cI cZ cJ (wQ cI cZ h a0 a1 a2 a3 a4 a5 a6 a7 a8 a9 a10 f0 f1 f2 f3 f4 f5 f6 f7 f8 f9 f10 v0 v1 v2 v3))) (vp_Si (fun r : Int32 => r = f1 p0.toNatClampNeg - f2 p0.toNatClampNeg - f3 p0.toNatClampNeg)) 0 0 (fun _ => False) := by
  refine Met.ofW (cc := cX0_inByBook) (maxL := 2) (ret := (some .int)) (by decide) rfl ?_
  intro p e s m args below meth c s₁ B hml hv
  obtain ⟨rfl, hP, hK⟩ := hv
  have hx := B.exec
  have hb := B.bytes
  have hr := B.returns
  have hts := atoms_spec (ws := wsX0_inByBook) B.pre
  have hown : s.vm.findClass RX0 = some m.cls := findClass_of_methodNamed B.named
  have hlocks := B.notSynchronized
  have hin : ∀ w ∈ wsX00, w ∈ wsX0_inByBook := by decide +kernel
  have hl := lv_entry ([.ref h, .int p0]) (n := 2) (Nat.le_of_ble_eq_true rfl)
  rw [lg_entry_eq]
  generalize (lg_sl ([.ref h, .int p0]) ++ List.replicate (2 - (lg_sl ([.ref h, .int p0])).length) Slot.unset).toArray = ls at hl ⊢
  have hl : lv_has ls 2 [(0, .ref h), (1, .int p0)] := hl
  refine lv_iload_n hx hb dX0_inByBook_0 rfl (lv_at hl 1 rfl) ?_
  refine va_csv (W.runS (As := [.int p0]) (rest := []) ⟨hx, hb, hml, hown, hts⟩ (c_X0_requireGiver l p0 hg) (va_cwS 1 hts gX0_inByBook_X0_requireGiver rfl rfl rfl (by decide +kernel) ⟨Nat.le_of_ble_eq_true rfl, Nat.le_of_ble_eq_true rfl⟩) ⟨zN_blind, fun U hU hW => ⟨rfl, trivial⟩⟩ rfl rfl hl.1 rfl (lv_room (Nat.le_of_ble_eq_true rfl)) dX0_inByBook_1 ⟨Nat.le_of_ble_eq_true rfl, Nat.le_of_ble_eq_true rfl⟩) (fun w1 => ?_)
  refine lv_aload_n hx hb dX0_inByBook_4 rfl (lv_at hl 0 rfl) ?_
  refine va_get (D := D) (ci := 0) (v := .ref a1) (C := RX0) (T := TX0) (N := 15) hx hb hts hin hown hK hP 0 rfl rfl 1 (by decide) (hts (.fieldLink RX0 13 "Quorumfund" "given" "[I") (by decide +kernel)) (fun _ h9 => h9) rfl dX0_inByBook_5 ?_
  refine lv_iload_n hx hb dX0_inByBook_8 rfl (lv_at hl 1 rfl) ?_
  refine va_iald (D := D) hx hb hK hP 2 0 rfl rfl (q_g_in hg) dX0_inByBook_9 ?_
  refine lv_aload_n hx hb dX0_inByBook_10 rfl (lv_at hl 0 rfl) ?_
  refine va_get (D := D) (ci := 0) (v := .ref a2) (C := RX0) (T := TX0) (N := 15) hx hb hts hin hown hK hP 0 rfl rfl 2 (by decide) (hts (.fieldLink RX0 16 "Quorumfund" "gotBack" "[I") (by decide +kernel)) (fun _ h9 => h9) rfl dX0_inByBook_11 ?_
  refine lv_iload_n hx hb dX0_inByBook_14 rfl (lv_at hl 1 rfl) ?_
  refine va_iald (D := D) hx hb hK hP 3 0 rfl rfl (q_g_in hg) dX0_inByBook_15 ?_
  refine lv_isub hx hb dX0_inByBook_16 ?_
  refine lv_aload_n hx hb dX0_inByBook_17 rfl (lv_at hl 0 rfl) ?_
  refine va_get (D := D) (ci := 0) (v := .ref a3) (C := RX0) (T := TX0) (N := 15) hx hb hts hin hown hK hP 0 rfl rfl 3 (by decide) (hts (.fieldLink RX0 19 "Quorumfund" "wentOut" "[I") (by decide +kernel)) (fun _ h9 => h9) rfl dX0_inByBook_18 ?_
  refine lv_iload_n hx hb dX0_inByBook_21 rfl (lv_at hl 1 rfl) ?_
  refine va_iald (D := D) hx hb hK hP 4 0 rfl rfl (q_g_in hg) dX0_inByBook_22 ?_
  refine lv_isub hx hb dX0_inByBook_23 ?_
  exact W.iret (v := ((f1 p0.toNatClampNeg) - (f2 p0.toNatClampNeg)) - (f3 p0.toNatClampNeg)) hx hb hr (fun t ht hW => ⟨((f1 p0.toNatClampNeg) - (f2 p0.toNatClampNeg)) - (f3 p0.toNatClampNeg), rfl, rfl, ht⟩) (fun _ h => nomatch h) dX0_inByBook_24
set_option maxHeartbeats 4000000 in
set_option maxRecDepth 100000 in
theorem c_X0_inByBook_t (l : Launch) (hl0 : l.stackTraces = false) (D : va_G) (cI cZ cJ : ClassId) (h a0 a1 a2 a3 a4 a5 a6 a7 a8 a9 a10 : Nat) (f0 f1 f2 f3 f4 f5 f6 f7 f8 f9 f10 : Nat → Int32) (v0 v1 v2 v3 : Int32) (p0 : Int32) (hg : q_g p0 = false) : vx_Met l yX0_inByBook wsX0_inByBook ({ frames := 7, cells := 1, slots := 6, locals := 110 }) (va_Pc [.ref h, .int p0] (zPX D cI cZ cJ (wQ cI cZ h a0 a1 a2 a3 a4 a5 a6 a7 a8 a9 a10 f0 f1 f2 f3 f4 f5 f6 f7 f8 f9 f10 v0 v1 v2 v3))) zNo (zXC (fun E => E = "java/lang/IndexOutOfBoundsException")) 1 6 (fun _ => False) := by
  refine vx_ofW (cc := cX0_inByBook) (maxL := 2) (ret := (some .int)) (by decide) rfl ?_
  intro p e s m args below meth c s₁ B hml hout hv
  obtain ⟨rfl, hZ, hP, hK⟩ := hv
  have hx := B.exec
  have hb := B.bytes
  have hr := B.returns
  have hts := atoms_spec (ws := wsX0_inByBook) B.pre
  have hown : s.vm.findClass RX0 = some m.cls := findClass_of_methodNamed B.named
  have hlocks := B.notSynchronized
  have hin : ∀ w ∈ wsX00, w ∈ wsX0_inByBook := by decide +kernel
  have hl := lv_entry ([.ref h, .int p0]) (n := 2) (Nat.le_of_ble_eq_true rfl)
  rw [lg_entry_eq]
  generalize (lg_sl ([.ref h, .int p0]) ++ List.replicate (2 - (lg_sl ([.ref h, .int p0])).length) Slot.unset).toArray = ls at hl ⊢
  have hl : lv_has ls 2 [(0, .ref h), (1, .int p0)] := hl
  refine lv_iload_n hx hb dX0_inByBook_0 rfl (lv_at hl 1 rfl) ?_
  exact z_thru (vx_runS (As := [.int p0]) (rest := []) ⟨hx, hb, hml, hown, hts⟩ (c_X0_requireGiver_t l hl0 p0 hg) (va_cwS 1 hts gX0_inByBook_X0_requireGiver rfl rfl rfl (by decide +kernel) ⟨Nat.le_of_ble_eq_true rfl, Nat.le_of_ble_eq_true rfl⟩) ⟨zXs_blind, fun U hU hW => ⟨rfl, zX_at hZ hU hW⟩⟩ rfl rfl hl.1 rfl (lv_room (Nat.le_of_ble_eq_true rfl)) dX0_inByBook_1 ⟨Nat.le_of_ble_eq_true rfl, Nat.le_of_ble_eq_true rfl⟩) (fun _ h => h) hout hlocks (fun _ h => h)
set_option maxHeartbeats 4000000 in
set_option maxRecDepth 100000 in
theorem c_X0_give (l : Launch) (D : va_G) (cI cZ cJ : ClassId) (sz : Nat) (h a0 a1 a2 a3 a4 a5 a6 a7 a8 a9 a10 : Nat) (f0 f1 f2 f3 f4 f5 f6 f7 f8 f9 f10 : Nat → Int32) (v0 v1 v2 v3 : Int32) (p0 p1 : Int32) (hg : q_g p0 = true) (hi : q_i p1 1 10000 = true) (hm : ¬ 100000 < f0 p0.toNatClampNeg + p1) : Met l yX0_give wsX0_give ({ frames := 2, cells := 0, slots := 0, locals := 40 }) (va_Pc [.ref h, .int p0, .int p1] (zD D cI cZ cJ sz (wQ cI cZ h a0 a1 a2 a3 a4 a5 a6 a7 a8 a9 a10 f0 f1 f2 f3 f4 f5 f6 f7 f8 f9 f10 v0 v1 v2 v3))) (va_Qi (fun (r : Int32) (u : (Nat → Int32) × (Nat → Int32)) => r = f0 p0.toNatClampNeg + p1 ∧ u.1 = upd f0 p0.toNatClampNeg (f0 p0.toNatClampNeg + p1) ∧ u.2 = upd f1 p0.toNatClampNeg (f1 p0.toNatClampNeg + p1)) (fun u t => zB D cI cZ cJ (va_A (wQ cI cZ h a0 a1 a2 a3 a4 a5 a6 a7 a8 a9 a10 f0 f1 f2 f3 f4 f5 f6 f7 f8 f9 f10 v0 v1 v2 v3) sz) (wQ cI cZ h a0 a1 a2 a3 a4 a5 a6 a7 a8 a9 a10 u.1 u.2 f2 f3 f4 f5 f6 f7 f8 f9 f10 v0 v1 v2 v3) t) (va_A (wQ cI cZ h a0 a1 a2 a3 a4 a5 a6 a7 a8 a9 a10 f0 f1 f2 f3 f4 f5 f6 f7 f8 f9 f10 v0 v1 v2 v3) sz)) 0 0 (va_A (wQ cI cZ h a0 a1 a2 a3 a4 a5 a6 a7 a8 a9 a10 f0 f1 f2 f3 f4 f5 f6 f7 f8 f9 f10 v0 v1 v2 v3) sz) := by
  refine Met.ofW (cc := cX0_give) (maxL := 3) (ret := (some .int)) (by decide) rfl ?_
  intro p e s m args below meth c s₁ B hml hv
  obtain ⟨rfl, hsz, hP, hK, hD0⟩ := hv
  have hx := B.exec
  have hb := B.bytes
  have hr := B.returns
  have hts := atoms_spec (ws := wsX0_give) B.pre
  have hown : s.vm.findClass RX0 = some m.cls := findClass_of_methodNamed B.named
  have hlocks := B.notSynchronized
  have hin : ∀ w ∈ wsX00, w ∈ wsX0_give := by decide +kernel
  subst hsz
  have hD := hD0.self (sz := s.heap.size)
  generalize hAe : va_A (wQ cI cZ h a0 a1 a2 a3 a4 a5 a6 a7 a8 a9 a10 f0 f1 f2 f3 f4 f5 f6 f7 f8 f9 f10 v0 v1 v2 v3) s.heap.size = A at hD ⊢
  have hA : ∀ q : Nat, s.heap.size ≤ q → A q := fun q h => by rw [← hAe]; exact Or.inr h
  have hS : va_S A s.heap s.heap [] := va_S.rf
  have hl := lv_entry ([.ref h, .int p0, .int p1]) (n := 3) (Nat.le_of_ble_eq_true rfl)
  rw [lg_entry_eq]
  generalize (lg_sl ([.ref h, .int p0, .int p1]) ++ List.replicate (3 - (lg_sl ([.ref h, .int p0, .int p1])).length) Slot.unset).toArray = ls at hl ⊢
  have hl : lv_has ls 3 [(0, .ref h), (1, .int p0), (2, .int p1)] := hl
  refine lv_iload_n hx hb dX0_give_0 rfl (lv_at hl 1 rfl) ?_
  refine va_csv (W.runS (As := [.int p0]) (rest := []) ⟨hx, hb, hml, hown, hts⟩ (c_X0_requireGiver l p0 hg) (va_cwS 1 hts gX0_give_X0_requireGiver rfl rfl rfl (by decide +kernel) ⟨Nat.le_of_ble_eq_true rfl, Nat.le_of_ble_eq_true rfl⟩) ⟨zN_blind, fun U hU hW => ⟨rfl, trivial⟩⟩ rfl rfl hl.1 rfl (lv_room (Nat.le_of_ble_eq_true rfl)) dX0_give_1 ⟨Nat.le_of_ble_eq_true rfl, Nat.le_of_ble_eq_true rfl⟩) (fun w1 => ?_)
  refine lv_iload_n hx hb dX0_give_4 rfl (lv_at hl 2 rfl) ?_
  refine lv_sipush (v := 10000) hx hb dX0_give_5 (by decide) ?_
  refine va_csv (W.runS (As := [.int p1, .int 10000]) (rest := []) ⟨hx, hb, hml, hown, hts⟩ (c_X0_requireAmount l p1 10000 hi) (va_cwS 2 hts gX0_give_X0_requireAmount rfl rfl rfl (by decide +kernel) ⟨Nat.le_of_ble_eq_true rfl, Nat.le_of_ble_eq_true rfl⟩) ⟨zN_blind, fun U hU hW => ⟨rfl, trivial⟩⟩ rfl rfl hl.1 rfl (lv_room (Nat.le_of_ble_eq_true rfl)) dX0_give_8 ⟨Nat.le_of_ble_eq_true rfl, Nat.le_of_ble_eq_true rfl⟩) (fun w2 => ?_)
  refine lv_aload_n hx hb dX0_give_11 rfl (lv_at hl 0 rfl) ?_
  refine va_get (D := D) (ci := 0) (v := .ref a0) (C := RX0) (T := TX0) (N := 15) hx hb hts hin hown hK hP 0 rfl rfl 0 (by decide) (hts (.fieldLink RX0 9 "Quorumfund" "kept" "[I") (by decide +kernel)) (fun _ h9 => h9) rfl dX0_give_12 ?_
  refine lv_iload_n hx hb dX0_give_15 rfl (lv_at hl 1 rfl) ?_
  refine va_iald (D := D) hx hb hK hP 1 0 rfl rfl (q_g_in hg) dX0_give_16 ?_
  refine lv_iload_n hx hb dX0_give_17 rfl (lv_at hl 2 rfl) ?_
  refine lv_iadd hx hb dX0_give_18 ?_
  refine lv_ldc hx hb hown (hts (.constant RX0 52 (100000)) (by decide +kernel)) dX0_give_19 ?_
  refine lv_icmp_le (tgt := 34) hx hb dX0_give_21 (by decide) (fun c3 => ?_) (fun c3 => False.elim (by rw [z_le] at c3; rw [z_lt] at hm; omega))
  refine lv_aload_n hx hb dX0_give_34 rfl (lv_at hl 0 rfl) ?_
  refine va_get (D := D) (ci := 0) (v := .ref a0) (C := RX0) (T := TX0) (N := 15) hx hb hts hin hown hK hP 0 rfl rfl 0 (by decide) (hts (.fieldLink RX0 9 "Quorumfund" "kept" "[I") (by decide +kernel)) (fun _ h9 => h9) rfl dX0_give_35 ?_
  refine lv_iload_n hx hb dX0_give_38 rfl (lv_at hl 1 rfl) ?_
  refine lv_dup2_11 hx hb dX0_give_39 rfl rfl ?_
  refine va_iald (D := D) hx hb hK hP 1 0 rfl rfl (q_g_in hg) dX0_give_40 ?_
  refine lv_iload_n hx hb dX0_give_41 rfl (lv_at hl 2 rfl) ?_
  refine lv_iadd hx hb dX0_give_42 ?_
  refine va_iast (D := D) hx hb hK hP hD hS 1 0 rfl rfl (q_g_in hg) dX0_give_43 (fun H locs hP hD hS => ?_)
  have hP : va_P D vwCl (wQ cI cZ h a0 a1 a2 a3 a4 a5 a6 a7 a8 a9 a10 (upd f0 p0.toNatClampNeg ((f0 p0.toNatClampNeg) + p1)) f1 f2 f3 f4 f5 f6 f7 f8 f9 f10 v0 v1 v2 v3) H := hP
  have hD : va_D A (wQ cI cZ h a0 a1 a2 a3 a4 a5 a6 a7 a8 a9 a10 (upd f0 p0.toNatClampNeg ((f0 p0.toNatClampNeg) + p1)) f1 f2 f3 f4 f5 f6 f7 f8 f9 f10 v0 v1 v2 v3) := hD
  refine lv_aload_n hx hb dX0_give_44 rfl (lv_at hl 0 rfl) ?_
  refine va_get (D := D) (ci := 0) (v := .ref a1) (C := RX0) (T := TX0) (N := 15) hx hb hts hin hown hK hP 0 rfl rfl 1 (by decide) (hts (.fieldLink RX0 13 "Quorumfund" "given" "[I") (by decide +kernel)) (fun _ h9 => h9) rfl dX0_give_45 ?_
  refine lv_iload_n hx hb dX0_give_48 rfl (lv_at hl 1 rfl) ?_
  refine lv_dup2_11 hx hb dX0_give_49 rfl rfl ?_
  refine va_iald (D := D) hx hb hK hP 2 0 rfl rfl (q_g_in hg) dX0_give_50 ?_
  refine lv_iload_n hx hb dX0_give_51 rfl (lv_at hl 2 rfl) ?_
  refine lv_iadd hx hb dX0_give_52 ?_
  refine va_iast (D := D) hx hb hK hP hD hS 2 0 rfl rfl (q_g_in hg) dX0_give_53 (fun H locs hP hD hS => ?_)
  have hP : va_P D vwCl (wQ cI cZ h a0 a1 a2 a3 a4 a5 a6 a7 a8 a9 a10 (upd f0 p0.toNatClampNeg ((f0 p0.toNatClampNeg) + p1)) (upd f1 p0.toNatClampNeg ((f1 p0.toNatClampNeg) + p1)) f2 f3 f4 f5 f6 f7 f8 f9 f10 v0 v1 v2 v3) H := hP
  have hD : va_D A (wQ cI cZ h a0 a1 a2 a3 a4 a5 a6 a7 a8 a9 a10 (upd f0 p0.toNatClampNeg ((f0 p0.toNatClampNeg) + p1)) (upd f1 p0.toNatClampNeg ((f1 p0.toNatClampNeg) + p1)) f2 f3 f4 f5 f6 f7 f8 f9 f10 v0 v1 v2 v3) := hD
  refine lv_aload_n hx hb dX0_give_54 rfl (lv_at hl 0 rfl) ?_
  refine va_get (D := D) (ci := 0) (v := .ref a0) (C := RX0) (T := TX0) (N := 15) hx hb hts hin hown hK hP 0 rfl rfl 0 (by decide) (hts (.fieldLink RX0 9 "Quorumfund" "kept" "[I") (by decide +kernel)) (fun _ h9 => h9) rfl dX0_give_55 ?_
  refine lv_iload_n hx hb dX0_give_58 rfl (lv_at hl 1 rfl) ?_
  refine va_iald (D := D) hx hb hK hP 1 0 rfl rfl (q_g_in hg) dX0_give_59 ?_
  exact W.iret (v := (upd f0 p0.toNatClampNeg ((f0 p0.toNatClampNeg) + p1)) p0.toNatClampNeg) hx hb hr (fun t ht hW => ⟨⟨(upd f0 p0.toNatClampNeg ((f0 p0.toNatClampNeg) + p1)) p0.toNatClampNeg, ⟨(upd f0 p0.toNatClampNeg ((f0 p0.toNatClampNeg) + p1)), (upd f1 p0.toNatClampNeg ((f1 p0.toNatClampNeg) + p1))⟩, rfl, ⟨pk_us, rfl, rfl⟩, ⟨by rw [ht]; exact hP, va_K.moved hW.alike hK, hD⟩⟩, hS.F ht⟩) hS.2.2 dX0_give_60
set_option maxHeartbeats 4000000 in
set_option maxRecDepth 100000 in
theorem c_X0_give_t1 (l : Launch) (hl0 : l.stackTraces = false) (D : va_G) (cI cZ cJ : ClassId) (h a0 a1 a2 a3 a4 a5 a6 a7 a8 a9 a10 : Nat) (f0 f1 f2 f3 f4 f5 f6 f7 f8 f9 f10 : Nat → Int32) (v0 v1 v2 v3 : Int32) (p0 p1 : Int32) (hg : q_g p0 = false) : vx_Met l yX0_give wsX0_give ({ frames := 7, cells := 1, slots := 6, locals := 110 }) (va_Pc [.ref h, .int p0, .int p1] (zPX D cI cZ cJ (wQ cI cZ h a0 a1 a2 a3 a4 a5 a6 a7 a8 a9 a10 f0 f1 f2 f3 f4 f5 f6 f7 f8 f9 f10 v0 v1 v2 v3))) zNo (zXC (fun E => E = "java/lang/IndexOutOfBoundsException")) 1 6 (fun _ => False) := by
  refine vx_ofW (cc := cX0_give) (maxL := 3) (ret := (some .int)) (by decide) rfl ?_
  intro p e s m args below meth c s₁ B hml hout hv
  obtain ⟨rfl, hZ, hP, hK⟩ := hv
  have hx := B.exec
  have hb := B.bytes
  have hr := B.returns
  have hts := atoms_spec (ws := wsX0_give) B.pre
  have hown : s.vm.findClass RX0 = some m.cls := findClass_of_methodNamed B.named
  have hlocks := B.notSynchronized
  have hin : ∀ w ∈ wsX00, w ∈ wsX0_give := by decide +kernel
  have hl := lv_entry ([.ref h, .int p0, .int p1]) (n := 3) (Nat.le_of_ble_eq_true rfl)
  rw [lg_entry_eq]
  generalize (lg_sl ([.ref h, .int p0, .int p1]) ++ List.replicate (3 - (lg_sl ([.ref h, .int p0, .int p1])).length) Slot.unset).toArray = ls at hl ⊢
  have hl : lv_has ls 3 [(0, .ref h), (1, .int p0), (2, .int p1)] := hl
  refine lv_iload_n hx hb dX0_give_0 rfl (lv_at hl 1 rfl) ?_
  exact z_thru (vx_runS (As := [.int p0]) (rest := []) ⟨hx, hb, hml, hown, hts⟩ (c_X0_requireGiver_t l hl0 p0 hg) (va_cwS 1 hts gX0_give_X0_requireGiver rfl rfl rfl (by decide +kernel) ⟨Nat.le_of_ble_eq_true rfl, Nat.le_of_ble_eq_true rfl⟩) ⟨zXs_blind, fun U hU hW => ⟨rfl, zX_at hZ hU hW⟩⟩ rfl rfl hl.1 rfl (lv_room (Nat.le_of_ble_eq_true rfl)) dX0_give_1 ⟨Nat.le_of_ble_eq_true rfl, Nat.le_of_ble_eq_true rfl⟩) (fun _ h => h) hout hlocks (fun _ h => h)
set_option maxHeartbeats 4000000 in
set_option maxRecDepth 100000 in
theorem c_X0_give_t2 (l : Launch) (hl0 : l.stackTraces = false) (D : va_G) (cI cZ cJ : ClassId) (h a0 a1 a2 a3 a4 a5 a6 a7 a8 a9 a10 : Nat) (f0 f1 f2 f3 f4 f5 f6 f7 f8 f9 f10 : Nat → Int32) (v0 v1 v2 v3 : Int32) (p0 p1 : Int32) (hg : q_g p0 = true) (hi : q_i p1 1 10000 = false) : vx_Met l yX0_give wsX0_give ({ frames := 7, cells := 1, slots := 6, locals := 111 }) (va_Pc [.ref h, .int p0, .int p1] (zPX D cI cZ cJ (wQ cI cZ h a0 a1 a2 a3 a4 a5 a6 a7 a8 a9 a10 f0 f1 f2 f3 f4 f5 f6 f7 f8 f9 f10 v0 v1 v2 v3))) zNo (zXC (fun E => E = "java/lang/IllegalArgumentException")) 1 6 (fun _ => False) := by
  refine vx_ofW (cc := cX0_give) (maxL := 3) (ret := (some .int)) (by decide) rfl ?_
  intro p e s m args below meth c s₁ B hml hout hv
  obtain ⟨rfl, hZ, hP, hK⟩ := hv
  have hx := B.exec
  have hb := B.bytes
  have hr := B.returns
  have hts := atoms_spec (ws := wsX0_give) B.pre
  have hown : s.vm.findClass RX0 = some m.cls := findClass_of_methodNamed B.named
  have hlocks := B.notSynchronized
  have hin : ∀ w ∈ wsX00, w ∈ wsX0_give := by decide +kernel
  have hl := lv_entry ([.ref h, .int p0, .int p1]) (n := 3) (Nat.le_of_ble_eq_true rfl)
  rw [lg_entry_eq]
  generalize (lg_sl ([.ref h, .int p0, .int p1]) ++ List.replicate (3 - (lg_sl ([.ref h, .int p0, .int p1])).length) Slot.unset).toArray = ls at hl ⊢
  have hl : lv_has ls 3 [(0, .ref h), (1, .int p0), (2, .int p1)] := hl
  refine lv_iload_n hx hb dX0_give_0 rfl (lv_at hl 1 rfl) ?_
  refine va_csv (W.runS (As := [.int p0]) (rest := []) ⟨hx, hb, hml, hown, hts⟩ (c_X0_requireGiver l p0 hg) (va_cwS 1 hts gX0_give_X0_requireGiver rfl rfl rfl (by decide +kernel) ⟨Nat.le_of_ble_eq_true rfl, Nat.le_of_ble_eq_true rfl⟩) ⟨zN_blind, fun U hU hW => ⟨rfl, trivial⟩⟩ rfl rfl hl.1 rfl (lv_room (Nat.le_of_ble_eq_true rfl)) dX0_give_1 ⟨Nat.le_of_ble_eq_true rfl, Nat.le_of_ble_eq_true rfl⟩) (fun w1 => ?_)
  refine lv_iload_n hx hb dX0_give_4 rfl (lv_at hl 2 rfl) ?_
  refine lv_sipush (v := 10000) hx hb dX0_give_5 (by decide) ?_
  exact z_thru (vx_runS (As := [.int p1, .int 10000]) (rest := []) ⟨hx, hb, hml, hown, hts⟩ (c_X0_requireAmount_t l hl0 p1 10000 hi) (va_cwS 2 hts gX0_give_X0_requireAmount rfl rfl rfl (by decide +kernel) ⟨Nat.le_of_ble_eq_true rfl, Nat.le_of_ble_eq_true rfl⟩) ⟨zXs_blind, fun U hU hW => ⟨rfl, zX_at hZ hU hW⟩⟩ rfl rfl hl.1 rfl (lv_room (Nat.le_of_ble_eq_true rfl)) dX0_give_8 ⟨Nat.le_of_ble_eq_true rfl, Nat.le_of_ble_eq_true rfl⟩) (fun _ h => h) hout hlocks (fun _ h => h)
set_option maxHeartbeats 4000000 in
set_option maxRecDepth 100000 in
theorem c_X0_give_t3 (l : Launch) (hl0 : l.stackTraces = false) (D : va_G) (cI cZ cJ : ClassId) (h a0 a1 a2 a3 a4 a5 a6 a7 a8 a9 a10 : Nat) (f0 f1 f2 f3 f4 f5 f6 f7 f8 f9 f10 : Nat → Int32) (v0 v1 v2 v3 : Int32) (p0 p1 : Int32) (hg : q_g p0 = true) (hi : q_i p1 1 10000 = true) (hm : 100000 < f0 p0.toNatClampNeg + p1) : vx_Met l yX0_give wsX0_give ({ frames := 6, cells := 1, slots := 6, locals := 90 }) (va_Pc [.ref h, .int p0, .int p1] (zPX D cI cZ cJ (wQ cI cZ h a0 a1 a2 a3 a4 a5 a6 a7 a8 a9 a10 f0 f1 f2 f3 f4 f5 f6 f7 f8 f9 f10 v0 v1 v2 v3))) zNo (zXC (fun E => E = "java/lang/IllegalStateException")) 1 6 (fun _ => False) := by
  refine vx_ofW (cc := cX0_give) (maxL := 3) (ret := (some .int)) (by decide) rfl ?_
  intro p e s m args below meth c s₁ B hml hout hv
  obtain ⟨rfl, hZ, hP, hK⟩ := hv
  have hx := B.exec
  have hb := B.bytes
  have hr := B.returns
  have hts := atoms_spec (ws := wsX0_give) B.pre
  have hown : s.vm.findClass RX0 = some m.cls := findClass_of_methodNamed B.named
  have hlocks := B.notSynchronized
  have hin : ∀ w ∈ wsX00, w ∈ wsX0_give := by decide +kernel
  have hl := lv_entry ([.ref h, .int p0, .int p1]) (n := 3) (Nat.le_of_ble_eq_true rfl)
  rw [lg_entry_eq]
  generalize (lg_sl ([.ref h, .int p0, .int p1]) ++ List.replicate (3 - (lg_sl ([.ref h, .int p0, .int p1])).length) Slot.unset).toArray = ls at hl ⊢
  have hl : lv_has ls 3 [(0, .ref h), (1, .int p0), (2, .int p1)] := hl
  refine lv_iload_n hx hb dX0_give_0 rfl (lv_at hl 1 rfl) ?_
  refine va_csv (W.runS (As := [.int p0]) (rest := []) ⟨hx, hb, hml, hown, hts⟩ (c_X0_requireGiver l p0 hg) (va_cwS 1 hts gX0_give_X0_requireGiver rfl rfl rfl (by decide +kernel) ⟨Nat.le_of_ble_eq_true rfl, Nat.le_of_ble_eq_true rfl⟩) ⟨zN_blind, fun U hU hW => ⟨rfl, trivial⟩⟩ rfl rfl hl.1 rfl (lv_room (Nat.le_of_ble_eq_true rfl)) dX0_give_1 ⟨Nat.le_of_ble_eq_true rfl, Nat.le_of_ble_eq_true rfl⟩) (fun w1 => ?_)
  refine lv_iload_n hx hb dX0_give_4 rfl (lv_at hl 2 rfl) ?_
  refine lv_sipush (v := 10000) hx hb dX0_give_5 (by decide) ?_
  refine va_csv (W.runS (As := [.int p1, .int 10000]) (rest := []) ⟨hx, hb, hml, hown, hts⟩ (c_X0_requireAmount l p1 10000 hi) (va_cwS 2 hts gX0_give_X0_requireAmount rfl rfl rfl (by decide +kernel) ⟨Nat.le_of_ble_eq_true rfl, Nat.le_of_ble_eq_true rfl⟩) ⟨zN_blind, fun U hU hW => ⟨rfl, trivial⟩⟩ rfl rfl hl.1 rfl (lv_room (Nat.le_of_ble_eq_true rfl)) dX0_give_8 ⟨Nat.le_of_ble_eq_true rfl, Nat.le_of_ble_eq_true rfl⟩) (fun w2 => ?_)
  refine lv_aload_n hx hb dX0_give_11 rfl (lv_at hl 0 rfl) ?_
  refine va_get (D := D) (ci := 0) (v := .ref a0) (C := RX0) (T := TX0) (N := 15) hx hb hts hin hown hK hP 0 rfl rfl 0 (by decide) (hts (.fieldLink RX0 9 "Quorumfund" "kept" "[I") (by decide +kernel)) (fun _ h9 => h9) rfl dX0_give_12 ?_
  refine lv_iload_n hx hb dX0_give_15 rfl (lv_at hl 1 rfl) ?_
  refine va_iald (D := D) hx hb hK hP 1 0 rfl rfl (q_g_in hg) dX0_give_16 ?_
  refine lv_iload_n hx hb dX0_give_17 rfl (lv_at hl 2 rfl) ?_
  refine lv_iadd hx hb dX0_give_18 ?_
  refine lv_ldc hx hb hown (hts (.constant RX0 52 (100000)) (by decide +kernel)) dX0_give_19 ?_
  refine lv_icmp_le (tgt := 34) hx hb dX0_give_21 (by decide) (fun c3 => False.elim (by rw [z_le] at c3; rw [z_lt] at hm; omega)) (fun c3 => ?_)
  obtain ⟨sa, hsa⟩ := hZ.2.1 (55, "the giver would have too much in") (by decide)
  exact z_throw (Qc := zNo) (own := RX0) (cls := "java/lang/IllegalStateException") (ik := 53) (is := 55) (ic := 57) (text := "the giver would have too much in") hx hb hl0 hown (by decide +kernel) (hts (.classLink RX0 53 "java/lang/IllegalStateException") (by decide +kernel)) (hts (.initialized "java/lang/IllegalStateException") (by decide +kernel)) hsa hts (by decide +kernel) (by decide +kernel) hZ.1 hZ.2.2.2.1 hZ.2.2.2.2 hl.1 hml dX0_give_24 dX0_give_27 dX0_give_28 dX0_give_30 dX0_give_33 (fun x h => (hout x h).elim) (Nat.le_of_ble_eq_true rfl) (Nat.le_of_ble_eq_true rfl) (Nat.le_of_ble_eq_true rfl) (Nat.le_of_ble_eq_true rfl) hlocks
set_option maxHeartbeats 4000000 in
set_option maxRecDepth 100000 in
theorem c_X0_leave (l : Launch) (D : va_G) (cI cZ cJ : ClassId) (sz : Nat) (h a0 a1 a2 a3 a4 a5 a6 a7 a8 a9 a10 : Nat) (f0 f1 f2 f3 f4 f5 f6 f7 f8 f9 f10 : Nat → Int32) (v0 v1 v2 v3 : Int32) (p0 : Int32) (hg : q_g p0 = true) : Met l yX0_leave wsX0_leave ({ frames := 2, cells := 0, slots := 0, locals := 40 }) (va_Pc [.ref h, .int p0] (zD D cI cZ cJ sz (wQ cI cZ h a0 a1 a2 a3 a4 a5 a6 a7 a8 a9 a10 f0 f1 f2 f3 f4 f5 f6 f7 f8 f9 f10 v0 v1 v2 v3))) (va_Qi (fun (r : Int32) (u : (Nat → Int32) × (Nat → Int32) × (Nat → Int32)) => r = f0 p0.toNatClampNeg ∧ u.1 = upd f0 p0.toNatClampNeg 0 ∧ u.2.1 = upd f2 p0.toNatClampNeg (f2 p0.toNatClampNeg + f0 p0.toNatClampNeg) ∧ u.2.2 = upd f6 p0.toNatClampNeg 0) (fun u t => zB D cI cZ cJ (va_A (wQ cI cZ h a0 a1 a2 a3 a4 a5 a6 a7 a8 a9 a10 f0 f1 f2 f3 f4 f5 f6 f7 f8 f9 f10 v0 v1 v2 v3) sz) (wQ cI cZ h a0 a1 a2 a3 a4 a5 a6 a7 a8 a9 a10 u.1 f1 u.2.1 f3 f4 f5 u.2.2 f7 f8 f9 f10 v0 v1 v2 v3) t) (va_A (wQ cI cZ h a0 a1 a2 a3 a4 a5 a6 a7 a8 a9 a10 f0 f1 f2 f3 f4 f5 f6 f7 f8 f9 f10 v0 v1 v2 v3) sz)) 0 0 (va_A (wQ cI cZ h a0 a1 a2 a3 a4 a5 a6 a7 a8 a9 a10 f0 f1 f2 f3 f4 f5 f6 f7 f8 f9 f10 v0 v1 v2 v3) sz) := by
  refine Met.ofW (cc := cX0_leave) (maxL := 3) (ret := (some .int)) (by decide) rfl ?_
  intro p e s m args below meth c s₁ B hml hv
  obtain ⟨rfl, hsz, hP, hK, hD0⟩ := hv
  have hx := B.exec
  have hb := B.bytes
  have hr := B.returns
  have hts := atoms_spec (ws := wsX0_leave) B.pre
  have hown : s.vm.findClass RX0 = some m.cls := findClass_of_methodNamed B.named
  have hlocks := B.notSynchronized
  have hin : ∀ w ∈ wsX00, w ∈ wsX0_leave := by decide +kernel
  subst hsz
  have hD := hD0.self (sz := s.heap.size)
  generalize hAe : va_A (wQ cI cZ h a0 a1 a2 a3 a4 a5 a6 a7 a8 a9 a10 f0 f1 f2 f3 f4 f5 f6 f7 f8 f9 f10 v0 v1 v2 v3) s.heap.size = A at hD ⊢
  have hA : ∀ q : Nat, s.heap.size ≤ q → A q := fun q h => by rw [← hAe]; exact Or.inr h
  have hS : va_S A s.heap s.heap [] := va_S.rf
  have hl := lv_entry ([.ref h, .int p0]) (n := 3) (Nat.le_of_ble_eq_true rfl)
  rw [lg_entry_eq]
  generalize (lg_sl ([.ref h, .int p0]) ++ List.replicate (3 - (lg_sl ([.ref h, .int p0])).length) Slot.unset).toArray = ls at hl ⊢
  have hl : lv_has ls 3 [(0, .ref h), (1, .int p0)] := hl
  refine lv_iload_n hx hb dX0_leave_0 rfl (lv_at hl 1 rfl) ?_
  refine va_csv (W.runS (As := [.int p0]) (rest := []) ⟨hx, hb, hml, hown, hts⟩ (c_X0_requireGiver l p0 hg) (va_cwS 1 hts gX0_leave_X0_requireGiver rfl rfl rfl (by decide +kernel) ⟨Nat.le_of_ble_eq_true rfl, Nat.le_of_ble_eq_true rfl⟩) ⟨zN_blind, fun U hU hW => ⟨rfl, trivial⟩⟩ rfl rfl hl.1 rfl (lv_room (Nat.le_of_ble_eq_true rfl)) dX0_leave_1 ⟨Nat.le_of_ble_eq_true rfl, Nat.le_of_ble_eq_true rfl⟩) (fun w1 => ?_)
  refine lv_aload_n hx hb dX0_leave_4 rfl (lv_at hl 0 rfl) ?_
  refine va_get (D := D) (ci := 0) (v := .ref a0) (C := RX0) (T := TX0) (N := 15) hx hb hts hin hown hK hP 0 rfl rfl 0 (by decide) (hts (.fieldLink RX0 9 "Quorumfund" "kept" "[I") (by decide +kernel)) (fun _ h9 => h9) rfl dX0_leave_5 ?_
  refine lv_iload_n hx hb dX0_leave_8 rfl (lv_at hl 1 rfl) ?_
  refine va_iald (D := D) hx hb hK hP 1 0 rfl rfl (q_g_in hg) dX0_leave_9 ?_
  refine lv_istore_n (lv' := [(2, .int (f0 p0.toNatClampNeg)), (0, .ref h), (1, .int p0)]) hx hb dX0_leave_10 rfl hl (by decide) rfl (fun ls hl => ?_)
  refine lv_aload_n hx hb dX0_leave_11 rfl (lv_at hl 1 rfl) ?_
  refine va_get (D := D) (ci := 0) (v := .ref a0) (C := RX0) (T := TX0) (N := 15) hx hb hts hin hown hK hP 0 rfl rfl 0 (by decide) (hts (.fieldLink RX0 9 "Quorumfund" "kept" "[I") (by decide +kernel)) (fun _ h9 => h9) rfl dX0_leave_12 ?_
  refine lv_iload_n hx hb dX0_leave_15 rfl (lv_at hl 2 rfl) ?_
  refine lv_iconst (v := 0) hx hb dX0_leave_16 (by decide) ?_
  refine va_iast (D := D) hx hb hK hP hD hS 1 0 rfl rfl (q_g_in hg) dX0_leave_17 (fun H locs hP hD hS => ?_)
  have hP : va_P D vwCl (wQ cI cZ h a0 a1 a2 a3 a4 a5 a6 a7 a8 a9 a10 (upd f0 p0.toNatClampNeg 0) f1 f2 f3 f4 f5 f6 f7 f8 f9 f10 v0 v1 v2 v3) H := hP
  have hD : va_D A (wQ cI cZ h a0 a1 a2 a3 a4 a5 a6 a7 a8 a9 a10 (upd f0 p0.toNatClampNeg 0) f1 f2 f3 f4 f5 f6 f7 f8 f9 f10 v0 v1 v2 v3) := hD
  refine lv_aload_n hx hb dX0_leave_18 rfl (lv_at hl 1 rfl) ?_
  refine va_get (D := D) (ci := 0) (v := .ref a2) (C := RX0) (T := TX0) (N := 15) hx hb hts hin hown hK hP 0 rfl rfl 2 (by decide) (hts (.fieldLink RX0 16 "Quorumfund" "gotBack" "[I") (by decide +kernel)) (fun _ h9 => h9) rfl dX0_leave_19 ?_
  refine lv_iload_n hx hb dX0_leave_22 rfl (lv_at hl 2 rfl) ?_
  refine lv_dup2_11 hx hb dX0_leave_23 rfl rfl ?_
  refine va_iald (D := D) hx hb hK hP 3 0 rfl rfl (q_g_in hg) dX0_leave_24 ?_
  refine lv_iload_n hx hb dX0_leave_25 rfl (lv_at hl 0 rfl) ?_
  refine lv_iadd hx hb dX0_leave_26 ?_
  refine va_iast (D := D) hx hb hK hP hD hS 3 0 rfl rfl (q_g_in hg) dX0_leave_27 (fun H locs hP hD hS => ?_)
  have hP : va_P D vwCl (wQ cI cZ h a0 a1 a2 a3 a4 a5 a6 a7 a8 a9 a10 (upd f0 p0.toNatClampNeg 0) f1 (upd f2 p0.toNatClampNeg ((f2 p0.toNatClampNeg) + (f0 p0.toNatClampNeg))) f3 f4 f5 f6 f7 f8 f9 f10 v0 v1 v2 v3) H := hP
  have hD : va_D A (wQ cI cZ h a0 a1 a2 a3 a4 a5 a6 a7 a8 a9 a10 (upd f0 p0.toNatClampNeg 0) f1 (upd f2 p0.toNatClampNeg ((f2 p0.toNatClampNeg) + (f0 p0.toNatClampNeg))) f3 f4 f5 f6 f7 f8 f9 f10 v0 v1 v2 v3) := hD
  refine lv_aload_n hx hb dX0_leave_28 rfl (lv_at hl 1 rfl) ?_
  refine va_get (D := D) (ci := 0) (v := .ref a6) (C := RX0) (T := TX0) (N := 15) hx hb hts hin hown hK hP 0 rfl rfl 6 (by decide) (hts (.fieldLink RX0 28 "Quorumfund" "votes" "[I") (by decide +kernel)) (fun _ h9 => h9) rfl dX0_leave_29 ?_
  refine lv_iload_n hx hb dX0_leave_32 rfl (lv_at hl 2 rfl) ?_
  refine lv_iconst (v := 0) hx hb dX0_leave_33 (by decide) ?_
  refine va_iast (D := D) hx hb hK hP hD hS 7 0 rfl rfl (q_g_in hg) dX0_leave_34 (fun H locs hP hD hS => ?_)
  have hP : va_P D vwCl (wQ cI cZ h a0 a1 a2 a3 a4 a5 a6 a7 a8 a9 a10 (upd f0 p0.toNatClampNeg 0) f1 (upd f2 p0.toNatClampNeg ((f2 p0.toNatClampNeg) + (f0 p0.toNatClampNeg))) f3 f4 f5 (upd f6 p0.toNatClampNeg 0) f7 f8 f9 f10 v0 v1 v2 v3) H := hP
  have hD : va_D A (wQ cI cZ h a0 a1 a2 a3 a4 a5 a6 a7 a8 a9 a10 (upd f0 p0.toNatClampNeg 0) f1 (upd f2 p0.toNatClampNeg ((f2 p0.toNatClampNeg) + (f0 p0.toNatClampNeg))) f3 f4 f5 (upd f6 p0.toNatClampNeg 0) f7 f8 f9 f10 v0 v1 v2 v3) := hD
  refine lv_iload_n hx hb dX0_leave_35 rfl (lv_at hl 0 rfl) ?_
  exact W.iret (v := f0 p0.toNatClampNeg) hx hb hr (fun t ht hW => ⟨⟨f0 p0.toNatClampNeg, ⟨(upd f0 p0.toNatClampNeg 0), (upd f2 p0.toNatClampNeg ((f2 p0.toNatClampNeg) + (f0 p0.toNatClampNeg))), (upd f6 p0.toNatClampNeg 0)⟩, rfl, ⟨rfl, rfl, rfl, rfl⟩, ⟨by rw [ht]; exact hP, va_K.moved hW.alike hK, hD⟩⟩, hS.F ht⟩) hS.2.2 dX0_leave_36
set_option maxHeartbeats 4000000 in
set_option maxRecDepth 100000 in
theorem c_X0_leave_t (l : Launch) (hl0 : l.stackTraces = false) (D : va_G) (cI cZ cJ : ClassId) (h a0 a1 a2 a3 a4 a5 a6 a7 a8 a9 a10 : Nat) (f0 f1 f2 f3 f4 f5 f6 f7 f8 f9 f10 : Nat → Int32) (v0 v1 v2 v3 : Int32) (p0 : Int32) (hg : q_g p0 = false) : vx_Met l yX0_leave wsX0_leave ({ frames := 7, cells := 1, slots := 6, locals := 110 }) (va_Pc [.ref h, .int p0] (zPX D cI cZ cJ (wQ cI cZ h a0 a1 a2 a3 a4 a5 a6 a7 a8 a9 a10 f0 f1 f2 f3 f4 f5 f6 f7 f8 f9 f10 v0 v1 v2 v3))) zNo (zXC (fun E => E = "java/lang/IndexOutOfBoundsException")) 1 6 (fun _ => False) := by
  refine vx_ofW (cc := cX0_leave) (maxL := 3) (ret := (some .int)) (by decide) rfl ?_
  intro p e s m args below meth c s₁ B hml hout hv
  obtain ⟨rfl, hZ, hP, hK⟩ := hv
  have hx := B.exec
  have hb := B.bytes
  have hr := B.returns
  have hts := atoms_spec (ws := wsX0_leave) B.pre
  have hown : s.vm.findClass RX0 = some m.cls := findClass_of_methodNamed B.named
  have hlocks := B.notSynchronized
  have hin : ∀ w ∈ wsX00, w ∈ wsX0_leave := by decide +kernel
  have hl := lv_entry ([.ref h, .int p0]) (n := 3) (Nat.le_of_ble_eq_true rfl)
  rw [lg_entry_eq]
  generalize (lg_sl ([.ref h, .int p0]) ++ List.replicate (3 - (lg_sl ([.ref h, .int p0])).length) Slot.unset).toArray = ls at hl ⊢
  have hl : lv_has ls 3 [(0, .ref h), (1, .int p0)] := hl
  refine lv_iload_n hx hb dX0_leave_0 rfl (lv_at hl 1 rfl) ?_
  exact z_thru (vx_runS (As := [.int p0]) (rest := []) ⟨hx, hb, hml, hown, hts⟩ (c_X0_requireGiver_t l hl0 p0 hg) (va_cwS 1 hts gX0_leave_X0_requireGiver rfl rfl rfl (by decide +kernel) ⟨Nat.le_of_ble_eq_true rfl, Nat.le_of_ble_eq_true rfl⟩) ⟨zXs_blind, fun U hU hW => ⟨rfl, zX_at hZ hU hW⟩⟩ rfl rfl hl.1 rfl (lv_room (Nat.le_of_ble_eq_true rfl)) dX0_leave_1 ⟨Nat.le_of_ble_eq_true rfl, Nat.le_of_ble_eq_true rfl⟩) (fun _ h => h) hout hlocks (fun _ h => h)
