set_option maxHeartbeats 4000000 in
set_option maxRecDepth 100000 in
theorem c_X0_isCovered (l : Launch) (D : va_G) (cI cZ cJ : ClassId) (h a0 a1 a2 a3 a4 a5 a6 a7 a8 a9 a10 : Nat) (f0 f1 f2 f3 f4 f5 f6 f7 f8 f9 f10 : Nat → Int32) (v0 v1 v2 v3 : Int32) (hb3 : 0 ≤ v1.toInt ∧ v1.toInt ≤ v0.toInt ∧ v0.toInt ≤ 6) : Met l yX0_isCovered wsX0_isCovered ({ frames := 1, cells := 0, slots := 0, locals := 22 }) (va_Pc [.ref h] (zP D cI cZ cJ (wQ cI cZ h a0 a1 a2 a3 a4 a5 a6 a7 a8 a9 a10 f0 f1 f2 f3 f4 f5 f6 f7 f8 f9 f10 v0 v1 v2 v3))) (vp_Si (fun r : Int32 => (r = bif q_cov f0 f7 v0 v1 then 1 else 0))) 0 0 (fun _ => False) := by
  refine Met.ofW (cc := cX0_isCovered) (maxL := 1) (ret := (some .boolean)) (by decide) rfl ?_
  intro p e s m args below meth c s₁ B hml hv
  obtain ⟨rfl, hP, hK⟩ := hv
  have hx := B.exec
  have hb := B.bytes
  have hr := B.returns
  have hts := atoms_spec (ws := wsX0_isCovered) B.pre
  have hown : s.vm.findClass RX0 = some m.cls := findClass_of_methodNamed B.named
  have hlocks := B.notSynchronized
  have hin : ∀ w ∈ wsX00, w ∈ wsX0_isCovered := by decide +kernel
  have hl := lv_entry ([.ref h]) (n := 1) (Nat.le_of_ble_eq_true rfl)
  rw [lg_entry_eq]
  generalize (lg_sl ([.ref h]) ++ List.replicate (1 - (lg_sl ([.ref h])).length) Slot.unset).toArray = ls at hl ⊢
  have hl : lv_has ls 1 [(0, .ref h)] := hl
  refine lv_aload_n hx hb dX0_isCovered_0 rfl (lv_at hl 0 rfl) ?_
  refine vp_callSi (W.runV (As := []) (rest := []) ⟨hx, hb, hml, hown, hts⟩ (c_X0_current l D cI cZ cJ h a0 a1 a2 a3 a4 a5 a6 a7 a8 a9 a10 f0 f1 f2 f3 f4 f5 f6 f7 f8 f9 f10 v0 v1 v2 v3) (cwV 0 hts gX0_isCovered_X0_current rfl rfl rfl (by decide +kernel) ⟨Nat.le_of_ble_eq_true rfl, Nat.le_of_ble_eq_true rfl⟩) ⟨zP_blind, va_recv hK hP (ci := 0) (q0 := 0) rfl rfl, fun U hU hW => ⟨rfl, zP_mk hP hK hU hW⟩⟩ rfl rfl hl.1 rfl (lv_room (Nat.le_of_ble_eq_true rfl)) dX0_isCovered_1 ⟨Nat.le_of_ble_eq_true rfl, Nat.le_of_ble_eq_true rfl⟩) (fun r1 w1 => ?_)
  subst w1
  refine lv_iconst (v := (-1)) hx hb dX0_isCovered_4 (by decide) ?_
  refine lv_icmp_eq (tgt := 37) hx hb dX0_isCovered_5 (by decide) (fun c2 => ?_) (fun c2 => ?_)
  · skip
    have hn := (z_cur hb3.1).mp c2
    refine lv_iconst (v := 0) hx hb dX0_isCovered_37 (by decide) ?_
    exact W.zret (v := 0) hx hb hr rfl (fun t ht hW => ⟨0, rfl, (by simp [q_cov, hn]), ht⟩) (fun _ h => nomatch h) dX0_isCovered_38
  · skip
    have hlt : v1 < v0 := Classical.byContradiction (fun h9 => c2 ((z_cur hb3.1).mpr h9))
    have h67 := hb3
    rw [z_lt] at hlt
    have hv1 : vp_in v1 6 := vp_in_iff.mpr ⟨hb3.1, by omega⟩
    rw [← z_lt] at hlt
    refine lv_aload_n hx hb dX0_isCovered_8 rfl (lv_at hl 0 rfl) ?_
    refine va_get (D := D) (ci := 0) (v := .int v1) (C := RX0) (T := TX0) (N := 15) hx hb hts hin hown hK hP 0 rfl rfl 10 (by decide) (hts (.fieldLink RX0 85 "Quorumfund" "released" "I") (by decide +kernel)) (fun _ h9 => h9) rfl dX0_isCovered_9 ?_
    refine lv_bipush (v := 6) hx hb dX0_isCovered_12 (by decide) ?_
    refine lv_icmp_ge (tgt := 37) hx hb dX0_isCovered_14 (by decide) (fun c3 => False.elim (by rw [z_le, z_l6] at c3; rw [z_lt] at hlt; omega)) (fun c3 => ?_)
    refine lv_aload_n hx hb dX0_isCovered_17 rfl (lv_at hl 0 rfl) ?_
    refine vp_callSi (W.runV (As := []) (rest := []) ⟨hx, hb, hml, hown, hts⟩ (c_X0_total l D cI cZ cJ h a0 a1 a2 a3 a4 a5 a6 a7 a8 a9 a10 f0 f1 f2 f3 f4 f5 f6 f7 f8 f9 f10 v0 v1 v2 v3) (cwV 0 hts gX0_isCovered_X0_total rfl rfl rfl (by decide +kernel) ⟨Nat.le_of_ble_eq_true rfl, Nat.le_of_ble_eq_true rfl⟩) ⟨zP_blind, va_recv hK hP (ci := 0) (q0 := 0) rfl rfl, fun U hU hW => ⟨rfl, zP_mk hP hK hU hW⟩⟩ rfl rfl hl.1 rfl (lv_room (Nat.le_of_ble_eq_true rfl)) dX0_isCovered_18 ⟨Nat.le_of_ble_eq_true rfl, Nat.le_of_ble_eq_true rfl⟩) (fun r4 w4 => ?_)
    subst w4
    refine lv_aload_n hx hb dX0_isCovered_21 rfl (lv_at hl 0 rfl) ?_
    refine va_get (D := D) (ci := 0) (v := .ref a7) (C := RX0) (T := TX0) (N := 15) hx hb hts hin hown hK hP 0 rfl rfl 7 (by decide) (hts (.fieldLink RX0 31 "Quorumfund" "amounts" "[I") (by decide +kernel)) (fun _ h9 => h9) rfl dX0_isCovered_22 ?_
    refine lv_aload_n hx hb dX0_isCovered_25 rfl (lv_at hl 0 rfl) ?_
    refine va_get (D := D) (ci := 0) (v := .int v1) (C := RX0) (T := TX0) (N := 15) hx hb hts hin hown hK hP 0 rfl rfl 10 (by decide) (hts (.fieldLink RX0 85 "Quorumfund" "released" "I") (by decide +kernel)) (fun _ h9 => h9) rfl dX0_isCovered_26 ?_
    refine va_iald (D := D) hx hb hK hP 8 0 rfl rfl hv1 dX0_isCovered_29 ?_
    refine lv_icmp_lt (tgt := 37) hx hb dX0_isCovered_30 (by decide) (fun c5 => ?_) (fun c5 => ?_)
    · skip
      have hn : ¬ f7 v1.toNatClampNeg ≤ q_sum f0 8 := z_nle.mpr c5
      refine lv_iconst (v := 0) hx hb dX0_isCovered_37 (by decide) ?_
      exact W.zret (v := 0) hx hb hr rfl (fun t ht hW => ⟨0, rfl, (by simp [q_cov, hn, hlt]), ht⟩) (fun _ h => nomatch h) dX0_isCovered_38
    · skip
      have hn : f7 v1.toNatClampNeg ≤ q_sum f0 8 := z_nlt.mp c5
      refine lv_iconst (v := 1) hx hb dX0_isCovered_33 (by decide) ?_
      refine lv_goto (tgt := 38) hx hb dX0_isCovered_34 (by decide) ?_
      exact W.zret (v := 1) hx hb hr rfl (fun t ht hW => ⟨1, rfl, (by simp [q_cov, hn, hlt]), ht⟩) (fun _ h => nomatch h) dX0_isCovered_38
set_option maxHeartbeats 4000000 in
set_option maxRecDepth 100000 in
theorem c_X0_requireCovered (l : Launch) (D : va_G) (cI cZ cJ : ClassId) (h a0 a1 a2 a3 a4 a5 a6 a7 a8 a9 a10 : Nat) (f0 f1 f2 f3 f4 f5 f6 f7 f8 f9 f10 : Nat → Int32) (v0 v1 v2 v3 : Int32) (hb3 : 0 ≤ v1.toInt ∧ v1.toInt ≤ v0.toInt ∧ v0.toInt ≤ 6) (hc : q_cov f0 f7 v0 v1 = true) : Met l yX0_requireCovered wsX0_requireCovered ({ frames := 2, cells := 0, slots := 0, locals := 42 }) (va_Pc [.ref h] (zP D cI cZ cJ (wQ cI cZ h a0 a1 a2 a3 a4 a5 a6 a7 a8 a9 a10 f0 f1 f2 f3 f4 f5 f6 f7 f8 f9 f10 v0 v1 v2 v3))) (va_Sv (fun _ => True)) 0 0 (fun _ => False) := by
  refine Met.ofW (cc := cX0_requireCovered) (maxL := 1) (ret := none) (by decide) rfl ?_
  intro p e s m args below meth c s₁ B hml hv
  obtain ⟨rfl, hP, hK⟩ := hv
  have hx := B.exec
  have hb := B.bytes
  have hr := B.returns
  have hts := atoms_spec (ws := wsX0_requireCovered) B.pre
  have hown : s.vm.findClass RX0 = some m.cls := findClass_of_methodNamed B.named
  have hlocks := B.notSynchronized
  have hl := lv_entry ([.ref h]) (n := 1) (Nat.le_of_ble_eq_true rfl)
  rw [lg_entry_eq]
  generalize (lg_sl ([.ref h]) ++ List.replicate (1 - (lg_sl ([.ref h])).length) Slot.unset).toArray = ls at hl ⊢
  have hl : lv_has ls 1 [(0, .ref h)] := hl
  refine lv_aload_n hx hb dX0_requireCovered_0 rfl (lv_at hl 0 rfl) ?_
  refine vp_callSi (W.runV (As := []) (rest := []) ⟨hx, hb, hml, hown, hts⟩ (c_X0_isCovered l D cI cZ cJ h a0 a1 a2 a3 a4 a5 a6 a7 a8 a9 a10 f0 f1 f2 f3 f4 f5 f6 f7 f8 f9 f10 v0 v1 v2 v3 hb3) (cwV 0 hts gX0_requireCovered_X0_isCovered rfl rfl rfl (by decide +kernel) ⟨Nat.le_of_ble_eq_true rfl, Nat.le_of_ble_eq_true rfl⟩) ⟨zP_blind, va_recv hK hP (ci := 0) (q0 := 0) rfl rfl, fun U hU hW => ⟨rfl, zP_mk hP hK hU hW⟩⟩ rfl rfl hl.1 rfl (lv_room (Nat.le_of_ble_eq_true rfl)) dX0_requireCovered_1 ⟨Nat.le_of_ble_eq_true rfl, Nat.le_of_ble_eq_true rfl⟩) (fun r1 w1 => ?_)
  have w1 : r1 = 1 := by rw [w1, hc]; rfl
  subst w1
  refine lv_if_ne (tgt := 17) hx hb dX0_requireCovered_4 (by decide) (fun _ => ?_) (fun c9 => False.elim (by revert c9; decide))
  exact W.vret hx hb hr (fun t ht hW => ⟨rfl, trivial, ht⟩) (fun _ h => nomatch h) dX0_requireCovered_17
set_option maxHeartbeats 4000000 in
set_option maxRecDepth 100000 in
theorem c_X0_requireCovered_t (l : Launch) (hl0 : l.stackTraces = false) (D : va_G) (cI cZ cJ : ClassId) (h a0 a1 a2 a3 a4 a5 a6 a7 a8 a9 a10 : Nat) (f0 f1 f2 f3 f4 f5 f6 f7 f8 f9 f10 : Nat → Int32) (v0 v1 v2 v3 : Int32) (hb3 : 0 ≤ v1.toInt ∧ v1.toInt ≤ v0.toInt ∧ v0.toInt ≤ 6) (hc : q_cov f0 f7 v0 v1 = false) : vx_Met l yX0_requireCovered wsX0_requireCovered ({ frames := 6, cells := 1, slots := 6, locals := 90 }) (va_Pc [.ref h] (zPX D cI cZ cJ (wQ cI cZ h a0 a1 a2 a3 a4 a5 a6 a7 a8 a9 a10 f0 f1 f2 f3 f4 f5 f6 f7 f8 f9 f10 v0 v1 v2 v3))) zNo (zXC (fun E => E = "java/util/NoSuchElementException")) 1 6 (fun _ => False) := by
  refine vx_ofW (cc := cX0_requireCovered) (maxL := 1) (ret := none) (by decide) rfl ?_
  intro p e s m args below meth c s₁ B hml hout hv
  obtain ⟨rfl, hZ, hP, hK⟩ := hv
  have hx := B.exec
  have hb := B.bytes
  have hr := B.returns
  have hts := atoms_spec (ws := wsX0_requireCovered) B.pre
  have hown : s.vm.findClass RX0 = some m.cls := findClass_of_methodNamed B.named
  have hlocks := B.notSynchronized
  have hl := lv_entry ([.ref h]) (n := 1) (Nat.le_of_ble_eq_true rfl)
  rw [lg_entry_eq]
  generalize (lg_sl ([.ref h]) ++ List.replicate (1 - (lg_sl ([.ref h])).length) Slot.unset).toArray = ls at hl ⊢
  have hl : lv_has ls 1 [(0, .ref h)] := hl
  refine lv_aload_n hx hb dX0_requireCovered_0 rfl (lv_at hl 0 rfl) ?_
  refine vp_callSi (W.runV (As := []) (rest := []) ⟨hx, hb, hml, hown, hts⟩ (c_X0_isCovered l D cI cZ cJ h a0 a1 a2 a3 a4 a5 a6 a7 a8 a9 a10 f0 f1 f2 f3 f4 f5 f6 f7 f8 f9 f10 v0 v1 v2 v3 hb3) (cwV 0 hts gX0_requireCovered_X0_isCovered rfl rfl rfl (by decide +kernel) ⟨Nat.le_of_ble_eq_true rfl, Nat.le_of_ble_eq_true rfl⟩) ⟨zP_blind, va_recv hK hP (ci := 0) (q0 := 0) rfl rfl, fun U hU hW => ⟨rfl, zP_mk hP hK hU hW⟩⟩ rfl rfl hl.1 rfl (lv_room (Nat.le_of_ble_eq_true rfl)) dX0_requireCovered_1 ⟨Nat.le_of_ble_eq_true rfl, Nat.le_of_ble_eq_true rfl⟩) (fun r1 w1 => ?_)
  have w1 : r1 = 0 := by rw [w1, hc]; rfl
  subst w1
  refine lv_if_ne (tgt := 17) hx hb dX0_requireCovered_4 (by decide) (fun c9 => False.elim (by revert c9; decide)) (fun _ => ?_)
  obtain ⟨sa, hsa⟩ := hZ.2.1 (161, "no current milestone, or not enough in") (by decide)
  exact zn_throw (Qc := zNo) (own := RX0) (ik := 159) (is := 161) (ic := 163) (text := "no current milestone, or not enough in") hx hb hl0 hown (hts (.classLink RX0 159 "java/util/NoSuchElementException") (by decide +kernel)) (hts (.initialized "java/util/NoSuchElementException") (by decide +kernel)) hsa hts (by decide +kernel) hZ.1 hZ.2.2.2.1 hZ.2.2.2.2 hl.1 hml dX0_requireCovered_7 dX0_requireCovered_10 dX0_requireCovered_11 dX0_requireCovered_13 dX0_requireCovered_16 (fun x h => (hout x h).elim) (Nat.le_of_ble_eq_true rfl) (Nat.le_of_ble_eq_true rfl) (Nat.le_of_ble_eq_true rfl) (Nat.le_of_ble_eq_true rfl) hlocks
set_option maxHeartbeats 4000000 in
set_option maxRecDepth 100000 in
theorem c_X0_roundedPart (l : Launch) (p0 p1 p2 : Int32) : Met l yX0_roundedPart wsX0_roundedPart ({ frames := 0, cells := 0, slots := 0, locals := 0 }) (va_Pc [.int p0, .int p1, .int p2] (fun _ => True)) (vp_Si (fun r : Int32 => r = q_base p0 p2 p1)) 0 0 (fun _ => False) := by
  refine Met.ofW (cc := cX0_roundedPart) (maxL := 3) (ret := (some .int)) (by decide) rfl ?_
  intro p e s m args below meth c s₁ B hml hv
  obtain ⟨rfl, -⟩ := hv
  have hx := B.exec
  have hb := B.bytes
  have hr := B.returns
  have hts := atoms_spec (ws := wsX0_roundedPart) B.pre
  have hown : s.vm.findClass RX0 = some m.cls := findClass_of_methodNamed B.named
  have hlocks := B.notSynchronized
  have hl := lv_entry ([.int p0, .int p1, .int p2]) (n := 3) (Nat.le_of_ble_eq_true rfl)
  rw [lg_entry_eq]
  generalize (lg_sl ([.int p0, .int p1, .int p2]) ++ List.replicate (3 - (lg_sl ([.int p0, .int p1, .int p2])).length) Slot.unset).toArray = ls at hl ⊢
  have hl : lv_has ls 3 [(0, .int p0), (1, .int p1), (2, .int p2)] := hl
  refine lv_iload_n hx hb dX0_roundedPart_0 rfl (lv_at hl 2 rfl) ?_
  refine lv_if_le (tgt := 16) hx hb dX0_roundedPart_1 (by decide) (fun c1 => ?_) (fun c1 => ?_)
  · skip
    have hn : ¬ 0 < p2 := z_nlt.mpr c1
    refine lv_iconst (v := 0) hx hb dX0_roundedPart_16 (by decide) ?_
    exact W.iret (v := 0) hx hb hr (fun t ht hW => ⟨0, rfl, (by simp [q_base, hn]), ht⟩) (fun _ h => nomatch h) dX0_roundedPart_17
  · skip
    have hn : 0 < p2 := z_nle.mp c1
    have hd := z_dv c1
    refine lv_iload_n hx hb dX0_roundedPart_4 rfl (lv_at hl 0 rfl) ?_
    refine lv_i2l (v := p0.toInt64) hx hb dX0_roundedPart_5 rfl ?_
    refine lv_iload_n hx hb dX0_roundedPart_6 rfl (lv_at hl 1 rfl) ?_
    refine lv_i2l (v := p1.toInt64) hx hb dX0_roundedPart_7 rfl ?_
    refine lv_lmul hx hb dX0_roundedPart_8 ?_
    refine lv_iload_n hx hb dX0_roundedPart_9 rfl (lv_at hl 2 rfl) ?_
    refine lv_i2l (v := p2.toInt64) hx hb dX0_roundedPart_10 rfl ?_
    refine lv_ldiv hx hb dX0_roundedPart_11 hd ?_
    refine lv_l2i (v := ((p0.toInt64 * p1.toInt64) / p2.toInt64).toInt32) hx hb dX0_roundedPart_12 rfl ?_
    refine lv_goto (tgt := 17) hx hb dX0_roundedPart_13 (by decide) ?_
    exact W.iret (v := ((p0.toInt64 * p1.toInt64) / p2.toInt64).toInt32) hx hb hr (fun t ht hW => ⟨((p0.toInt64 * p1.toInt64) / p2.toInt64).toInt32, rfl, (by simp [q_base, hn]), ht⟩) (fun _ h => nomatch h) dX0_roundedPart_17
set_option maxHeartbeats 4000000 in
set_option maxRecDepth 100000 in
theorem c_X0_findShares (l : Launch) (D : va_G) (cI cZ cJ : ClassId) (sz : Nat) (h a0 a1 a2 a3 a4 a5 a6 a7 a8 a9 a10 : Nat) (f0 f1 f2 f3 f4 f5 f6 f7 f8 f9 f10 : Nat → Int32) (v0 v1 v2 v3 : Int32) (p0 : Int32) : Met l yX0_findShares wsX0_findShares ({ frames := 1, cells := 0, slots := 0, locals := 22 }) (va_Pc [.ref h, .int p0] (zD D cI cZ cJ sz (wQ cI cZ h a0 a1 a2 a3 a4 a5 a6 a7 a8 a9 a10 f0 f1 f2 f3 f4 f5 f6 f7 f8 f9 f10 v0 v1 v2 v3))) (va_Qv (fun u : (Nat → Int32) => u = q_fill (q_sh f0 p0) f9 8) (fun u t => zB D cI cZ cJ (va_A (wQ cI cZ h a0 a1 a2 a3 a4 a5 a6 a7 a8 a9 a10 f0 f1 f2 f3 f4 f5 f6 f7 f8 f9 f10 v0 v1 v2 v3) sz) (wQ cI cZ h a0 a1 a2 a3 a4 a5 a6 a7 a8 a9 a10 f0 f1 f2 f3 f4 f5 f6 f7 f8 u f10 v0 v1 v2 v3) t) (va_A (wQ cI cZ h a0 a1 a2 a3 a4 a5 a6 a7 a8 a9 a10 f0 f1 f2 f3 f4 f5 f6 f7 f8 f9 f10 v0 v1 v2 v3) sz)) 0 0 (va_A (wQ cI cZ h a0 a1 a2 a3 a4 a5 a6 a7 a8 a9 a10 f0 f1 f2 f3 f4 f5 f6 f7 f8 f9 f10 v0 v1 v2 v3) sz) := by
  refine Met.ofW (cc := cX0_findShares) (maxL := 5) (ret := none) (by decide) rfl ?_
  intro p e s m args below meth c s₁ B hml hv
  obtain ⟨rfl, hsz, hP, hK, hD0⟩ := hv
  have hx := B.exec
  have hb := B.bytes
  have hr := B.returns
  have hts := atoms_spec (ws := wsX0_findShares) B.pre
  have hown : s.vm.findClass RX0 = some m.cls := findClass_of_methodNamed B.named
  have hlocks := B.notSynchronized
  have hin : ∀ w ∈ wsX00, w ∈ wsX0_findShares := by decide +kernel
  subst hsz
  have hD := hD0.self (sz := s.heap.size)
  generalize hAe : va_A (wQ cI cZ h a0 a1 a2 a3 a4 a5 a6 a7 a8 a9 a10 f0 f1 f2 f3 f4 f5 f6 f7 f8 f9 f10 v0 v1 v2 v3) s.heap.size = A at hD ⊢
  have hA : ∀ q : Nat, s.heap.size ≤ q → A q := fun q h => by rw [← hAe]; exact Or.inr h
  have hS : va_S A s.heap s.heap [] := va_S.rf
  have hl := lv_entry ([.ref h, .int p0]) (n := 5) (Nat.le_of_ble_eq_true rfl)
  rw [lg_entry_eq]
  generalize (lg_sl ([.ref h, .int p0]) ++ List.replicate (5 - (lg_sl ([.ref h, .int p0])).length) Slot.unset).toArray = ls at hl ⊢
  have hl : lv_has ls 5 [(0, .ref h), (1, .int p0)] := hl
  refine lv_aload_n hx hb dX0_findShares_0 rfl (lv_at hl 0 rfl) ?_
  refine vp_callSi (W.runV (As := []) (rest := []) ⟨hx, hb, hml, hown, hts⟩ (c_X0_total l D cI cZ cJ h a0 a1 a2 a3 a4 a5 a6 a7 a8 a9 a10 f0 f1 f2 f3 f4 f5 f6 f7 f8 f9 f10 v0 v1 v2 v3) (cwV 0 hts gX0_findShares_X0_total rfl rfl rfl (by decide +kernel) ⟨Nat.le_of_ble_eq_true rfl, Nat.le_of_ble_eq_true rfl⟩) ⟨zP_blind, va_recv hK hP (ci := 0) (q0 := 0) rfl rfl, fun U hU hW => ⟨rfl, zP_mk hP hK hU hW⟩⟩ rfl rfl hl.1 rfl (lv_room (Nat.le_of_ble_eq_true rfl)) dX0_findShares_1 ⟨Nat.le_of_ble_eq_true rfl, Nat.le_of_ble_eq_true rfl⟩) (fun r1 w1 => ?_)
  subst w1
  refine lv_istore_n (lv' := [(2, .int (q_sum f0 8)), (0, .ref h), (1, .int p0)]) hx hb dX0_findShares_4 rfl hl (by decide) rfl (fun ls hl => ?_)
  refine lv_iload_n hx hb dX0_findShares_5 rfl (lv_at hl 2 rfl) ?_
  refine lv_istore_n (lv' := [(3, .int p0), (2, .int (q_sum f0 8)), (0, .ref h), (1, .int p0)]) hx hb dX0_findShares_6 rfl hl (by decide) rfl (fun ls hl => ?_)
  refine lv_iconst (v := 0) hx hb dX0_findShares_7 (by decide) ?_
  refine lv_istore (lv' := [(4, .int 0), (3, .int p0), (2, .int (q_sum f0 8)), (0, .ref h), (1, .int p0)]) hx hb dX0_findShares_8 hl (by decide) rfl (fun ls hl => ?_)
  have hloop10 : ∀ (n10 : Nat) (i : Nat) (x : Int32) (g : Nat → Int32), (9 ≤ i + n10) → (i ≤ 8) → (x = q_lk1 f0 p0 (q_sum f0 8) i) → (g = q_fill (fun n => q_base p0 (q_sum f0 8) (f0 n)) f9 i) → ∀ (H : Heap) (locs : List Loc), va_P D vwCl (wQ cI cZ h a0 a1 a2 a3 a4 a5 a6 a7 a8 a9 a10 f0 f1 f2 f3 f4 f5 f6 f7 f8 g f10 v0 v1 v2 v3) H → va_D A (wQ cI cZ h a0 a1 a2 a3 a4 a5 a6 a7 a8 a9 a10 f0 f1 f2 f3 f4 f5 f6 f7 f8 g f10 v0 v1 v2 v3) → va_S A s.heap H locs → ∀ (ls : Array Slot), lv_has ls 5 [(4, .int (nI i)), (3, .int x), (2, .int (q_sum f0 8)), (0, .ref h), (1, .int p0)] → W p l e (headSpec wsX0_findShares ({ frames := 1, cells := 0, slots := 0, locals := 22 })).room s m ([Value.ref h, Value.int p0] : List Value).toArray below meth c H locs 0 0 (MQ below (va_Qv (fun u : (Nat → Int32) => u = q_fill (q_sh f0 p0) f9 8) (fun u t => zB D cI cZ cJ A (wQ cI cZ h a0 a1 a2 a3 a4 a5 a6 a7 a8 a9 a10 f0 f1 f2 f3 f4 f5 f6 f7 f8 u f10 v0 v1 v2 v3) t) A) ([Value.ref h, Value.int p0] : List Value).toArray s 0 0 A) (F0 m 10 ls []) := by
    intro n10
    induction n10 with
    | zero => intro i x g hn hi ex eg; exact False.elim (by omega)
    | succ n10 ih10 =>
      intro i x g hn hi ex eg H locs hP hD hS ls hl
      refine lv_iload hx hb dX0_findShares_10 (lv_at hl 0 rfl) ?_
      refine lv_bipush (v := 8) hx hb dX0_findShares_12 (by decide) ?_
      refine lv_icmp_ge (tgt := 52) hx hb dX0_findShares_14 (by decide) (fun c2 => ?_) (fun c2 => ?_)
      · skip
        have hj := z_ge8 hi c2
        subst hj
        refine lv_iconst (v := 0) hx hb dX0_findShares_52 (by decide) ?_
        refine lv_istore (lv' := [(4, .int 0), (3, .int x), (2, .int (q_sum f0 8)), (0, .ref h), (1, .int p0)]) hx hb dX0_findShares_53 hl (by decide) rfl (fun ls hl => ?_)
        have hloop55 : ∀ (n55 : Nat) (i : Nat) (x : Int32) (g : Nat → Int32), (9 ≤ i + n55) → (i ≤ 8) → (x = q_lk2 f0 p0 (q_sum f0 8) i) → (g = q_fill (q_shT f0 p0 (q_sum f0 8)) (q_fill (fun n => q_base p0 (q_sum f0 8) (f0 n)) f9 8) i) → ∀ (H : Heap) (locs : List Loc), va_P D vwCl (wQ cI cZ h a0 a1 a2 a3 a4 a5 a6 a7 a8 a9 a10 f0 f1 f2 f3 f4 f5 f6 f7 f8 g f10 v0 v1 v2 v3) H → va_D A (wQ cI cZ h a0 a1 a2 a3 a4 a5 a6 a7 a8 a9 a10 f0 f1 f2 f3 f4 f5 f6 f7 f8 g f10 v0 v1 v2 v3) → va_S A s.heap H locs → ∀ (ls : Array Slot), lv_has ls 5 [(4, .int (nI i)), (3, .int x), (2, .int (q_sum f0 8)), (0, .ref h), (1, .int p0)] → W p l e (headSpec wsX0_findShares ({ frames := 1, cells := 0, slots := 0, locals := 22 })).room s m ([Value.ref h, Value.int p0] : List Value).toArray below meth c H locs 0 0 (MQ below (va_Qv (fun u : (Nat → Int32) => u = q_fill (q_sh f0 p0) f9 8) (fun u t => zB D cI cZ cJ A (wQ cI cZ h a0 a1 a2 a3 a4 a5 a6 a7 a8 a9 a10 f0 f1 f2 f3 f4 f5 f6 f7 f8 u f10 v0 v1 v2 v3) t) A) ([Value.ref h, Value.int p0] : List Value).toArray s 0 0 A) (F0 m 55 ls []) := by
          intro n55
          induction n55 with
          | zero => intro i x g hn hi ex eg; exact False.elim (by omega)
          | succ n55 ih55 =>
            intro i x g hn hi ex eg H locs hP hD hS ls hl
            refine lv_iload hx hb dX0_findShares_55 (lv_at hl 0 rfl) ?_
            refine lv_bipush (v := 8) hx hb dX0_findShares_57 (by decide) ?_
            refine lv_icmp_ge (tgt := 103) hx hb dX0_findShares_59 (by decide) (fun c3 => ?_) (fun c3 => ?_)
            · skip
              have hj := z_ge8 hi c3
              subst hj
              have hfin : g = q_fill (q_sh f0 p0) f9 8 := by rw [eg]; exact z_fill_fill
              exact W.vret hx hb hr (fun t ht hW => ⟨⟨g, rfl, hfin, ⟨by rw [ht]; exact hP, va_K.moved hW.alike hK, hD⟩⟩, hS.F ht⟩) hS.2.2 dX0_findShares_103
            · skip
              have hj := z_lt8 hi c3
              refine lv_iload_n hx hb dX0_findShares_62 rfl (lv_at hl 1 rfl) ?_
              refine lv_if_le (tgt := 103) hx hb dX0_findShares_63 (by decide) (fun c4 => ?_) (fun c4 => ?_)
              · skip
                have hx0 : ¬ 0 < q_lk2 f0 p0 (q_sum f0 8) i := by rw [← ex]; exact z_nlt.mpr c4
                have hfin : g = q_fill (q_sh f0 p0) f9 8 := by rw [eg]; exact z_fill_ext2 hi (fun k h1 h2 => z_earlyS hx0 h1)
                exact W.vret hx hb hr (fun t ht hW => ⟨⟨g, rfl, hfin, ⟨by rw [ht]; exact hP, va_K.moved hW.alike hK, hD⟩⟩, hS.F ht⟩) hS.2.2 dX0_findShares_103
              · skip
                have hx0 : 0 < x := z_nle.mp c4
                have hgi : g (nI i).toNatClampNeg = q_base p0 (q_sum f0 8) (f0 i) := by rw [eg, z_cl hj, z_fill_ge (Nat.le_refl i), z_fill_lt hj]
                refine lv_aload_n hx hb dX0_findShares_66 rfl (lv_at hl 3 rfl) ?_
                refine va_get (D := D) (ci := 0) (v := .ref a0) (C := RX0) (T := TX0) (N := 15) hx hb hts hin hown hK hP 0 rfl rfl 0 (by decide) (hts (.fieldLink RX0 9 "Quorumfund" "kept" "[I") (by decide +kernel)) (fun _ h9 => h9) rfl dX0_findShares_67 ?_
                refine lv_iload hx hb dX0_findShares_70 (lv_at hl 0 rfl) ?_
                refine va_iald (D := D) hx hb hK hP 1 0 rfl rfl (z_in8 hj) dX0_findShares_72 ?_
                refine lv_aload_n hx hb dX0_findShares_73 rfl (lv_at hl 3 rfl) ?_
                refine va_get (D := D) (ci := 0) (v := .ref a9) (C := RX0) (T := TX0) (N := 15) hx hb hts hin hown hK hP 0 rfl rfl 13 (by decide) (hts (.fieldLink RX0 38 "Quorumfund" "shares" "[I") (by decide +kernel)) (fun _ h9 => h9) rfl dX0_findShares_74 ?_
                refine lv_iload hx hb dX0_findShares_77 (lv_at hl 0 rfl) ?_
                refine va_iald (D := D) hx hb hK hP 10 0 rfl rfl (z_in8 hj) dX0_findShares_79 ?_
                refine lv_icmp_le (tgt := 97) hx hb dX0_findShares_80 (by decide) (fun c5 => ?_) (fun c5 => ?_)
                · skip
                  have hbf : ¬ q_base p0 (q_sum f0 8) (f0 i) < f0 i := by rw [hgi, z_cl hj] at c5; exact z_nlt.mpr c5
                  refine lv_iinc (v := nI (i + 1)) (lv' := [(4, .int (nI (i + 1))), (3, .int x), (2, .int (q_sum f0 8)), (0, .ref h), (1, .int p0)]) hx hb dX0_findShares_97 hl (k := 0) rfl (nI_1 _) (by decide) rfl (fun ls hl => ?_)
                  refine lv_goto (tgt := 55) hx hb dX0_findShares_100 (by decide) ?_
                  exact ih55 (i + 1) x g (by omega) (by omega) (by rw [ex, q_lk2]; simp [hbf]) (by rw [eg]; exact z_fillK (by rw [z_fill_lt hj]; simp [q_shT, hbf])) H locs hP hD hS ls (lv_sub hl [0, 1, 2, 3, 4] rfl)
                · skip
                  have hbt : q_base p0 (q_sum f0 8) (f0 i) < f0 i := by rw [hgi, z_cl hj] at c5; exact z_nle.mp c5
                  refine lv_aload_n hx hb dX0_findShares_83 rfl (lv_at hl 3 rfl) ?_
                  refine va_get (D := D) (ci := 0) (v := .ref a9) (C := RX0) (T := TX0) (N := 15) hx hb hts hin hown hK hP 0 rfl rfl 13 (by decide) (hts (.fieldLink RX0 38 "Quorumfund" "shares" "[I") (by decide +kernel)) (fun _ h9 => h9) rfl dX0_findShares_84 ?_
                  refine lv_iload hx hb dX0_findShares_87 (lv_at hl 0 rfl) ?_
                  refine lv_dup2_11 hx hb dX0_findShares_89 rfl rfl ?_
                  refine va_iald (D := D) hx hb hK hP 10 0 rfl rfl (z_in8 hj) dX0_findShares_90 ?_
                  refine lv_iconst (v := 1) hx hb dX0_findShares_91 (by decide) ?_
                  refine lv_iadd hx hb dX0_findShares_92 ?_
                  refine va_iast (D := D) hx hb hK hP hD hS 10 0 rfl rfl (z_in8 hj) dX0_findShares_93 (fun H locs hP hD hS => ?_)
                  have hP : va_P D vwCl (wQ cI cZ h a0 a1 a2 a3 a4 a5 a6 a7 a8 a9 a10 f0 f1 f2 f3 f4 f5 f6 f7 f8 (upd g (nI i).toNatClampNeg ((g (nI i).toNatClampNeg) + 1)) f10 v0 v1 v2 v3) H := hP
                  have hD : va_D A (wQ cI cZ h a0 a1 a2 a3 a4 a5 a6 a7 a8 a9 a10 f0 f1 f2 f3 f4 f5 f6 f7 f8 (upd g (nI i).toNatClampNeg ((g (nI i).toNatClampNeg) + 1)) f10 v0 v1 v2 v3) := hD
                  refine lv_iinc (v := x + (-1)) (lv' := [(3, .int (x + (-1))), (4, .int (nI i)), (2, .int (q_sum f0 8)), (0, .ref h), (1, .int p0)]) hx hb dX0_findShares_94 hl (k := 1) rfl rfl (by decide) rfl (fun ls hl => ?_)
                  refine lv_iinc (v := nI (i + 1)) (lv' := [(4, .int (nI (i + 1))), (3, .int (x + (-1))), (2, .int (q_sum f0 8)), (0, .ref h), (1, .int p0)]) hx hb dX0_findShares_97 hl (k := 1) rfl (nI_1 _) (by decide) rfl (fun ls hl => ?_)
                  refine lv_goto (tgt := 55) hx hb dX0_findShares_100 (by decide) ?_
                  exact ih55 (i + 1) (x + (-1)) (upd g (nI i).toNatClampNeg ((g (nI i).toNatClampNeg) + 1)) (by omega) (by omega) (by rw [z_m1, ex, q_lk2, ← ex]; simp [hx0, hbt]) (by rw [hgi, z_cl hj, eg, show q_base p0 (q_sum f0 8) (f0 i) + 1 = q_shT f0 p0 (q_sum f0 8) i from by simp [q_shT, ← ex, hx0, hbt]]; exact z_fillS (q_shT f0 p0 (q_sum f0 8)) _ i) H locs hP hD hS ls (lv_sub hl [0, 1, 2, 3, 4] rfl)
        exact hloop55 9 0 x g (by omega) (by omega) ex (by rw [eg]; exact (z_fill0 _ _).symm) _ _ hP hD hS ls (lv_sub hl [0, 1, 2, 3, 4] rfl)
      · skip
        have hj := z_lt8 hi c2
        refine lv_aload_n hx hb dX0_findShares_17 rfl (lv_at hl 3 rfl) ?_
        refine va_get (D := D) (ci := 0) (v := .ref a9) (C := RX0) (T := TX0) (N := 15) hx hb hts hin hown hK hP 0 rfl rfl 13 (by decide) (hts (.fieldLink RX0 38 "Quorumfund" "shares" "[I") (by decide +kernel)) (fun _ h9 => h9) rfl dX0_findShares_18 ?_
        refine lv_iload hx hb dX0_findShares_21 (lv_at hl 0 rfl) ?_
        refine lv_iload_n hx hb dX0_findShares_23 rfl (lv_at hl 4 rfl) ?_
        refine lv_aload_n hx hb dX0_findShares_24 rfl (lv_at hl 3 rfl) ?_
        refine va_get (D := D) (ci := 0) (v := .ref a0) (C := RX0) (T := TX0) (N := 15) hx hb hts hin hown hK hP 0 rfl rfl 0 (by decide) (hts (.fieldLink RX0 9 "Quorumfund" "kept" "[I") (by decide +kernel)) (fun _ h9 => h9) rfl dX0_findShares_25 ?_
        refine lv_iload hx hb dX0_findShares_28 (lv_at hl 0 rfl) ?_
        refine va_iald (D := D) hx hb hK hP 1 0 rfl rfl (z_in8 hj) dX0_findShares_30 ?_
        refine lv_iload_n hx hb dX0_findShares_31 rfl (lv_at hl 2 rfl) ?_
        refine vp_callSi (W.runS (As := [.int p0, .int (f0 (nI i).toNatClampNeg), .int (q_sum f0 8)]) (rest := [.int (nI i), .ref a9]) ⟨hx, hb, hml, hown, hts⟩ (c_X0_roundedPart l p0 (f0 (nI i).toNatClampNeg) (q_sum f0 8)) (va_cwS 3 hts gX0_findShares_X0_roundedPart rfl rfl rfl (by decide +kernel) ⟨Nat.le_of_ble_eq_true rfl, Nat.le_of_ble_eq_true rfl⟩) ⟨zN_blind, fun U hU hW => ⟨rfl, trivial⟩⟩ rfl rfl hl.1 rfl (lv_room (Nat.le_of_ble_eq_true rfl)) dX0_findShares_32 ⟨Nat.le_of_ble_eq_true rfl, Nat.le_of_ble_eq_true rfl⟩) (fun r6 w6 => ?_)
        subst w6
        refine va_iast (D := D) hx hb hK hP hD hS 10 0 rfl rfl (z_in8 hj) dX0_findShares_35 (fun H locs hP hD hS => ?_)
        have hP : va_P D vwCl (wQ cI cZ h a0 a1 a2 a3 a4 a5 a6 a7 a8 a9 a10 f0 f1 f2 f3 f4 f5 f6 f7 f8 (upd g (nI i).toNatClampNeg (q_base p0 (q_sum f0 8) (f0 (nI i).toNatClampNeg))) f10 v0 v1 v2 v3) H := hP
        have hD : va_D A (wQ cI cZ h a0 a1 a2 a3 a4 a5 a6 a7 a8 a9 a10 f0 f1 f2 f3 f4 f5 f6 f7 f8 (upd g (nI i).toNatClampNeg (q_base p0 (q_sum f0 8) (f0 (nI i).toNatClampNeg))) f10 v0 v1 v2 v3) := hD
        refine lv_iload_n hx hb dX0_findShares_36 rfl (lv_at hl 1 rfl) ?_
        refine lv_aload_n hx hb dX0_findShares_37 rfl (lv_at hl 3 rfl) ?_
        refine va_get (D := D) (ci := 0) (v := .ref a9) (C := RX0) (T := TX0) (N := 15) hx hb hts hin hown hK hP 0 rfl rfl 13 (by decide) (hts (.fieldLink RX0 38 "Quorumfund" "shares" "[I") (by decide +kernel)) (fun _ h9 => h9) rfl dX0_findShares_38 ?_
        refine lv_iload hx hb dX0_findShares_41 (lv_at hl 0 rfl) ?_
        refine va_iald (D := D) hx hb hK hP 10 0 rfl rfl (z_in8 hj) dX0_findShares_43 ?_
        refine lv_isub hx hb dX0_findShares_44 ?_
        refine lv_istore_n (lv' := [(3, .int (x - ((upd g (nI i).toNatClampNeg (q_base p0 (q_sum f0 8) (f0 (nI i).toNatClampNeg))) (nI i).toNatClampNeg))), (4, .int (nI i)), (2, .int (q_sum f0 8)), (0, .ref h), (1, .int p0)]) hx hb dX0_findShares_45 rfl hl (by decide) rfl (fun ls hl => ?_)
        refine lv_iinc (v := nI (i + 1)) (lv' := [(4, .int (nI (i + 1))), (3, .int (x - ((upd g (nI i).toNatClampNeg (q_base p0 (q_sum f0 8) (f0 (nI i).toNatClampNeg))) (nI i).toNatClampNeg))), (2, .int (q_sum f0 8)), (0, .ref h), (1, .int p0)]) hx hb dX0_findShares_46 hl (k := 1) rfl (nI_1 _) (by decide) rfl (fun ls hl => ?_)
        refine lv_goto (tgt := 10) hx hb dX0_findShares_49 (by decide) ?_
        exact ih10 (i + 1) (x - ((upd g (nI i).toNatClampNeg (q_base p0 (q_sum f0 8) (f0 (nI i).toNatClampNeg))) (nI i).toNatClampNeg)) (upd g (nI i).toNatClampNeg (q_base p0 (q_sum f0 8) (f0 (nI i).toNatClampNeg))) (by omega) (by omega) (by rw [pk_us, ex, z_cl hj]; rfl) (by rw [eg, z_cl hj]; exact z_fillS (fun n => q_base p0 (q_sum f0 8) (f0 n)) f9 i) H locs hP hD hS ls (lv_sub hl [0, 1, 2, 3, 4] rfl)
  exact hloop10 9 0 p0 f9 (by omega) (by omega) rfl ((z_fill0 _ _).symm) _ _ hP hD hS ls (lv_sub hl [0, 1, 2, 3, 4] rfl)
set_option maxHeartbeats 4000000 in
set_option maxRecDepth 100000 in
theorem c_X0_payShares (l : Launch) (D : va_G) (cI cZ cJ : ClassId) (sz : Nat) (h a0 a1 a2 a3 a4 a5 a6 a7 a8 a9 a10 : Nat) (f0 f1 f2 f3 f4 f5 f6 f7 f8 f9 f10 : Nat → Int32) (v0 v1 v2 v3 : Int32) : Met l yX0_payShares wsX0_payShares ({ frames := 0, cells := 0, slots := 0, locals := 0 }) (va_Pc [.ref h] (zD D cI cZ cJ sz (wQ cI cZ h a0 a1 a2 a3 a4 a5 a6 a7 a8 a9 a10 f0 f1 f2 f3 f4 f5 f6 f7 f8 f9 f10 v0 v1 v2 v3))) (va_Qv (fun u : (Nat → Int32) × (Nat → Int32) => u.1 = q_fill (fun n => f0 n - f9 n) f0 8 ∧ u.2 = q_fill (fun n => f3 n + f9 n) f3 8) (fun u t => zB D cI cZ cJ (va_A (wQ cI cZ h a0 a1 a2 a3 a4 a5 a6 a7 a8 a9 a10 f0 f1 f2 f3 f4 f5 f6 f7 f8 f9 f10 v0 v1 v2 v3) sz) (wQ cI cZ h a0 a1 a2 a3 a4 a5 a6 a7 a8 a9 a10 u.1 f1 f2 u.2 f4 f5 f6 f7 f8 f9 f10 v0 v1 v2 v3) t) (va_A (wQ cI cZ h a0 a1 a2 a3 a4 a5 a6 a7 a8 a9 a10 f0 f1 f2 f3 f4 f5 f6 f7 f8 f9 f10 v0 v1 v2 v3) sz)) 0 0 (va_A (wQ cI cZ h a0 a1 a2 a3 a4 a5 a6 a7 a8 a9 a10 f0 f1 f2 f3 f4 f5 f6 f7 f8 f9 f10 v0 v1 v2 v3) sz) := by
  refine Met.ofW (cc := cX0_payShares) (maxL := 2) (ret := none) (by decide) rfl ?_
  intro p e s m args below meth c s₁ B hml hv
  obtain ⟨rfl, hsz, hP, hK, hD0⟩ := hv
  have hx := B.exec
  have hb := B.bytes
  have hr := B.returns
  have hts := atoms_spec (ws := wsX0_payShares) B.pre
  have hown : s.vm.findClass RX0 = some m.cls := findClass_of_methodNamed B.named
  have hlocks := B.notSynchronized
  have hin : ∀ w ∈ wsX00, w ∈ wsX0_payShares := by decide +kernel
  subst hsz
  have hD := hD0.self (sz := s.heap.size)
  generalize hAe : va_A (wQ cI cZ h a0 a1 a2 a3 a4 a5 a6 a7 a8 a9 a10 f0 f1 f2 f3 f4 f5 f6 f7 f8 f9 f10 v0 v1 v2 v3) s.heap.size = A at hD ⊢
  have hA : ∀ q : Nat, s.heap.size ≤ q → A q := fun q h => by rw [← hAe]; exact Or.inr h
  have hS : va_S A s.heap s.heap [] := va_S.rf
  have hl := lv_entry ([.ref h]) (n := 2) (Nat.le_of_ble_eq_true rfl)
  rw [lg_entry_eq]
  generalize (lg_sl ([.ref h]) ++ List.replicate (2 - (lg_sl ([.ref h])).length) Slot.unset).toArray = ls at hl ⊢
  have hl : lv_has ls 2 [(0, .ref h)] := hl
  refine lv_iconst (v := 0) hx hb dX0_payShares_0 (by decide) ?_
  refine lv_istore_n (lv' := [(1, .int 0), (0, .ref h)]) hx hb dX0_payShares_1 rfl hl (by decide) rfl (fun ls hl => ?_)
  have hloop2 : ∀ (n2 : Nat) (i : Nat) (g : Nat → Int32) (k : Nat → Int32), (9 ≤ i + n2) → (i ≤ 8) → (g = q_fill (fun n => f0 n - f9 n) f0 i) → (k = q_fill (fun n => f3 n + f9 n) f3 i) → ∀ (H : Heap) (locs : List Loc), va_P D vwCl (wQ cI cZ h a0 a1 a2 a3 a4 a5 a6 a7 a8 a9 a10 g f1 f2 k f4 f5 f6 f7 f8 f9 f10 v0 v1 v2 v3) H → va_D A (wQ cI cZ h a0 a1 a2 a3 a4 a5 a6 a7 a8 a9 a10 g f1 f2 k f4 f5 f6 f7 f8 f9 f10 v0 v1 v2 v3) → va_S A s.heap H locs → ∀ (ls : Array Slot), lv_has ls 2 [(1, .int (nI i)), (0, .ref h)] → W p l e (headSpec wsX0_payShares ({ frames := 0, cells := 0, slots := 0, locals := 0 })).room s m ([Value.ref h] : List Value).toArray below meth c H locs 0 0 (MQ below (va_Qv (fun u : (Nat → Int32) × (Nat → Int32) => u.1 = q_fill (fun n => f0 n - f9 n) f0 8 ∧ u.2 = q_fill (fun n => f3 n + f9 n) f3 8) (fun u t => zB D cI cZ cJ A (wQ cI cZ h a0 a1 a2 a3 a4 a5 a6 a7 a8 a9 a10 u.1 f1 f2 u.2 f4 f5 f6 f7 f8 f9 f10 v0 v1 v2 v3) t) A) ([Value.ref h] : List Value).toArray s 0 0 A) (F0 m 2 ls []) := by
    intro n2
    induction n2 with
    | zero => intro i g k hn hi eg ek; exact False.elim (by omega)
    | succ n2 ih2 =>
      intro i g k hn hi eg ek H locs hP hD hS ls hl
      refine lv_iload_n hx hb dX0_payShares_2 rfl (lv_at hl 0 rfl) ?_
      refine lv_bipush (v := 8) hx hb dX0_payShares_3 (by decide) ?_
      refine lv_icmp_ge (tgt := 44) hx hb dX0_payShares_5 (by decide) (fun c1 => ?_) (fun c1 => ?_)
      · skip
        have hj := z_ge8 hi c1
        subst hj
        exact W.vret hx hb hr (fun t ht hW => ⟨⟨⟨g, k⟩, rfl, ⟨eg, ek⟩, ⟨by rw [ht]; exact hP, va_K.moved hW.alike hK, hD⟩⟩, hS.F ht⟩) hS.2.2 dX0_payShares_44
      · skip
        have hj := z_lt8 hi c1
        refine lv_aload_n hx hb dX0_payShares_8 rfl (lv_at hl 1 rfl) ?_
        refine va_get (D := D) (ci := 0) (v := .ref a0) (C := RX0) (T := TX0) (N := 15) hx hb hts hin hown hK hP 0 rfl rfl 0 (by decide) (hts (.fieldLink RX0 9 "Quorumfund" "kept" "[I") (by decide +kernel)) (fun _ h9 => h9) rfl dX0_payShares_9 ?_
        refine lv_iload_n hx hb dX0_payShares_12 rfl (lv_at hl 0 rfl) ?_
        refine lv_dup2_11 hx hb dX0_payShares_13 rfl rfl ?_
        refine va_iald (D := D) hx hb hK hP 1 0 rfl rfl (z_in8 hj) dX0_payShares_14 ?_
        refine lv_aload_n hx hb dX0_payShares_15 rfl (lv_at hl 1 rfl) ?_
        refine va_get (D := D) (ci := 0) (v := .ref a9) (C := RX0) (T := TX0) (N := 15) hx hb hts hin hown hK hP 0 rfl rfl 13 (by decide) (hts (.fieldLink RX0 38 "Quorumfund" "shares" "[I") (by decide +kernel)) (fun _ h9 => h9) rfl dX0_payShares_16 ?_
        refine lv_iload_n hx hb dX0_payShares_19 rfl (lv_at hl 0 rfl) ?_
        refine va_iald (D := D) hx hb hK hP 10 0 rfl rfl (z_in8 hj) dX0_payShares_20 ?_
        refine lv_isub hx hb dX0_payShares_21 ?_
        refine va_iast (D := D) hx hb hK hP hD hS 1 0 rfl rfl (z_in8 hj) dX0_payShares_22 (fun H locs hP hD hS => ?_)
        have hP : va_P D vwCl (wQ cI cZ h a0 a1 a2 a3 a4 a5 a6 a7 a8 a9 a10 (upd g (nI i).toNatClampNeg ((g (nI i).toNatClampNeg) - (f9 (nI i).toNatClampNeg))) f1 f2 k f4 f5 f6 f7 f8 f9 f10 v0 v1 v2 v3) H := hP
        have hD : va_D A (wQ cI cZ h a0 a1 a2 a3 a4 a5 a6 a7 a8 a9 a10 (upd g (nI i).toNatClampNeg ((g (nI i).toNatClampNeg) - (f9 (nI i).toNatClampNeg))) f1 f2 k f4 f5 f6 f7 f8 f9 f10 v0 v1 v2 v3) := hD
        refine lv_aload_n hx hb dX0_payShares_23 rfl (lv_at hl 1 rfl) ?_
        refine va_get (D := D) (ci := 0) (v := .ref a3) (C := RX0) (T := TX0) (N := 15) hx hb hts hin hown hK hP 0 rfl rfl 3 (by decide) (hts (.fieldLink RX0 19 "Quorumfund" "wentOut" "[I") (by decide +kernel)) (fun _ h9 => h9) rfl dX0_payShares_24 ?_
        refine lv_iload_n hx hb dX0_payShares_27 rfl (lv_at hl 0 rfl) ?_
        refine lv_dup2_11 hx hb dX0_payShares_28 rfl rfl ?_
        refine va_iald (D := D) hx hb hK hP 4 0 rfl rfl (z_in8 hj) dX0_payShares_29 ?_
        refine lv_aload_n hx hb dX0_payShares_30 rfl (lv_at hl 1 rfl) ?_
        refine va_get (D := D) (ci := 0) (v := .ref a9) (C := RX0) (T := TX0) (N := 15) hx hb hts hin hown hK hP 0 rfl rfl 13 (by decide) (hts (.fieldLink RX0 38 "Quorumfund" "shares" "[I") (by decide +kernel)) (fun _ h9 => h9) rfl dX0_payShares_31 ?_
        refine lv_iload_n hx hb dX0_payShares_34 rfl (lv_at hl 0 rfl) ?_
        refine va_iald (D := D) hx hb hK hP 10 0 rfl rfl (z_in8 hj) dX0_payShares_35 ?_
        refine lv_iadd hx hb dX0_payShares_36 ?_
        refine va_iast (D := D) hx hb hK hP hD hS 4 0 rfl rfl (z_in8 hj) dX0_payShares_37 (fun H locs hP hD hS => ?_)
        have hP : va_P D vwCl (wQ cI cZ h a0 a1 a2 a3 a4 a5 a6 a7 a8 a9 a10 (upd g (nI i).toNatClampNeg ((g (nI i).toNatClampNeg) - (f9 (nI i).toNatClampNeg))) f1 f2 (upd k (nI i).toNatClampNeg ((k (nI i).toNatClampNeg) + (f9 (nI i).toNatClampNeg))) f4 f5 f6 f7 f8 f9 f10 v0 v1 v2 v3) H := hP
        have hD : va_D A (wQ cI cZ h a0 a1 a2 a3 a4 a5 a6 a7 a8 a9 a10 (upd g (nI i).toNatClampNeg ((g (nI i).toNatClampNeg) - (f9 (nI i).toNatClampNeg))) f1 f2 (upd k (nI i).toNatClampNeg ((k (nI i).toNatClampNeg) + (f9 (nI i).toNatClampNeg))) f4 f5 f6 f7 f8 f9 f10 v0 v1 v2 v3) := hD
        refine lv_iinc (v := nI (i + 1)) (lv' := [(1, .int (nI (i + 1))), (0, .ref h)]) hx hb dX0_payShares_38 hl (k := 0) rfl (nI_1 _) (by decide) rfl (fun ls hl => ?_)
        refine lv_goto (tgt := 2) hx hb dX0_payShares_41 (by decide) ?_
        exact ih2 (i + 1) (upd g (nI i).toNatClampNeg ((g (nI i).toNatClampNeg) - (f9 (nI i).toNatClampNeg))) (upd k (nI i).toNatClampNeg ((k (nI i).toNatClampNeg) + (f9 (nI i).toNatClampNeg))) (by omega) (by omega) (by rw [z_cl hj, show g i = f0 i from by rw [eg]; exact z_fill_ge (Nat.le_refl i), eg]; exact z_fillS (fun n => f0 n - f9 n) f0 i) (by rw [z_cl hj, show k i = f3 i from by rw [ek]; exact z_fill_ge (Nat.le_refl i), ek]; exact z_fillS (fun n => f3 n + f9 n) f3 i) H locs hP hD hS ls (lv_sub hl [0, 1] rfl)
  exact hloop2 9 0 f0 f3 (by omega) (by omega) ((z_fill0 _ _).symm) ((z_fill0 _ _).symm) _ _ hP hD hS ls (lv_sub hl [0, 1] rfl)
set_option maxHeartbeats 4000000 in
set_option maxRecDepth 100000 in
theorem c_X0_clearVotes (l : Launch) (D : va_G) (cI cZ cJ : ClassId) (sz : Nat) (h a0 a1 a2 a3 a4 a5 a6 a7 a8 a9 a10 : Nat) (f0 f1 f2 f3 f4 f5 f6 f7 f8 f9 f10 : Nat → Int32) (v0 v1 v2 v3 : Int32) : Met l yX0_clearVotes wsX0_clearVotes ({ frames := 0, cells := 0, slots := 0, locals := 0 }) (va_Pc [.ref h] (zD D cI cZ cJ sz (wQ cI cZ h a0 a1 a2 a3 a4 a5 a6 a7 a8 a9 a10 f0 f1 f2 f3 f4 f5 f6 f7 f8 f9 f10 v0 v1 v2 v3))) (va_Qv (fun u : (Nat → Int32) => u = q_fill (fun _ => 0) f6 8) (fun u t => zB D cI cZ cJ (va_A (wQ cI cZ h a0 a1 a2 a3 a4 a5 a6 a7 a8 a9 a10 f0 f1 f2 f3 f4 f5 f6 f7 f8 f9 f10 v0 v1 v2 v3) sz) (wQ cI cZ h a0 a1 a2 a3 a4 a5 a6 a7 a8 a9 a10 f0 f1 f2 f3 f4 f5 u f7 f8 f9 f10 v0 v1 v2 v3) t) (va_A (wQ cI cZ h a0 a1 a2 a3 a4 a5 a6 a7 a8 a9 a10 f0 f1 f2 f3 f4 f5 f6 f7 f8 f9 f10 v0 v1 v2 v3) sz)) 0 0 (va_A (wQ cI cZ h a0 a1 a2 a3 a4 a5 a6 a7 a8 a9 a10 f0 f1 f2 f3 f4 f5 f6 f7 f8 f9 f10 v0 v1 v2 v3) sz) := by
  refine Met.ofW (cc := cX0_clearVotes) (maxL := 2) (ret := none) (by decide) rfl ?_
  intro p e s m args below meth c s₁ B hml hv
  obtain ⟨rfl, hsz, hP, hK, hD0⟩ := hv
  have hx := B.exec
  have hb := B.bytes
  have hr := B.returns
  have hts := atoms_spec (ws := wsX0_clearVotes) B.pre
  have hown : s.vm.findClass RX0 = some m.cls := findClass_of_methodNamed B.named
  have hlocks := B.notSynchronized
  have hin : ∀ w ∈ wsX00, w ∈ wsX0_clearVotes := by decide +kernel
  subst hsz
  have hD := hD0.self (sz := s.heap.size)
  generalize hAe : va_A (wQ cI cZ h a0 a1 a2 a3 a4 a5 a6 a7 a8 a9 a10 f0 f1 f2 f3 f4 f5 f6 f7 f8 f9 f10 v0 v1 v2 v3) s.heap.size = A at hD ⊢
  have hA : ∀ q : Nat, s.heap.size ≤ q → A q := fun q h => by rw [← hAe]; exact Or.inr h
  have hS : va_S A s.heap s.heap [] := va_S.rf
  have hl := lv_entry ([.ref h]) (n := 2) (Nat.le_of_ble_eq_true rfl)
  rw [lg_entry_eq]
  generalize (lg_sl ([.ref h]) ++ List.replicate (2 - (lg_sl ([.ref h])).length) Slot.unset).toArray = ls at hl ⊢
  have hl : lv_has ls 2 [(0, .ref h)] := hl
  refine lv_iconst (v := 0) hx hb dX0_clearVotes_0 (by decide) ?_
  refine lv_istore_n (lv' := [(1, .int 0), (0, .ref h)]) hx hb dX0_clearVotes_1 rfl hl (by decide) rfl (fun ls hl => ?_)
  have hloop2 : ∀ (n2 : Nat) (i : Nat) (g : Nat → Int32), (9 ≤ i + n2) → (i ≤ 8) → (g = q_fill (fun _ => 0) f6 i) → ∀ (H : Heap) (locs : List Loc), va_P D vwCl (wQ cI cZ h a0 a1 a2 a3 a4 a5 a6 a7 a8 a9 a10 f0 f1 f2 f3 f4 f5 g f7 f8 f9 f10 v0 v1 v2 v3) H → va_D A (wQ cI cZ h a0 a1 a2 a3 a4 a5 a6 a7 a8 a9 a10 f0 f1 f2 f3 f4 f5 g f7 f8 f9 f10 v0 v1 v2 v3) → va_S A s.heap H locs → ∀ (ls : Array Slot), lv_has ls 2 [(1, .int (nI i)), (0, .ref h)] → W p l e (headSpec wsX0_clearVotes ({ frames := 0, cells := 0, slots := 0, locals := 0 })).room s m ([Value.ref h] : List Value).toArray below meth c H locs 0 0 (MQ below (va_Qv (fun u : (Nat → Int32) => u = q_fill (fun _ => 0) f6 8) (fun u t => zB D cI cZ cJ A (wQ cI cZ h a0 a1 a2 a3 a4 a5 a6 a7 a8 a9 a10 f0 f1 f2 f3 f4 f5 u f7 f8 f9 f10 v0 v1 v2 v3) t) A) ([Value.ref h] : List Value).toArray s 0 0 A) (F0 m 2 ls []) := by
    intro n2
    induction n2 with
    | zero => intro i g hn hi eg; exact False.elim (by omega)
    | succ n2 ih2 =>
      intro i g hn hi eg H locs hP hD hS ls hl
      refine lv_iload_n hx hb dX0_clearVotes_2 rfl (lv_at hl 0 rfl) ?_
      refine lv_bipush (v := 8) hx hb dX0_clearVotes_3 (by decide) ?_
      refine lv_icmp_ge (tgt := 21) hx hb dX0_clearVotes_5 (by decide) (fun c1 => ?_) (fun c1 => ?_)
      · skip
        have hj := z_ge8 hi c1
        subst hj
        exact W.vret hx hb hr (fun t ht hW => ⟨⟨g, rfl, eg, ⟨by rw [ht]; exact hP, va_K.moved hW.alike hK, hD⟩⟩, hS.F ht⟩) hS.2.2 dX0_clearVotes_21
      · skip
        have hj := z_lt8 hi c1
        refine lv_aload_n hx hb dX0_clearVotes_8 rfl (lv_at hl 1 rfl) ?_
        refine va_get (D := D) (ci := 0) (v := .ref a6) (C := RX0) (T := TX0) (N := 15) hx hb hts hin hown hK hP 0 rfl rfl 6 (by decide) (hts (.fieldLink RX0 28 "Quorumfund" "votes" "[I") (by decide +kernel)) (fun _ h9 => h9) rfl dX0_clearVotes_9 ?_
        refine lv_iload_n hx hb dX0_clearVotes_12 rfl (lv_at hl 0 rfl) ?_
        refine lv_iconst (v := 0) hx hb dX0_clearVotes_13 (by decide) ?_
        refine va_iast (D := D) hx hb hK hP hD hS 7 0 rfl rfl (z_in8 hj) dX0_clearVotes_14 (fun H locs hP hD hS => ?_)
        have hP : va_P D vwCl (wQ cI cZ h a0 a1 a2 a3 a4 a5 a6 a7 a8 a9 a10 f0 f1 f2 f3 f4 f5 (upd g (nI i).toNatClampNeg 0) f7 f8 f9 f10 v0 v1 v2 v3) H := hP
        have hD : va_D A (wQ cI cZ h a0 a1 a2 a3 a4 a5 a6 a7 a8 a9 a10 f0 f1 f2 f3 f4 f5 (upd g (nI i).toNatClampNeg 0) f7 f8 f9 f10 v0 v1 v2 v3) := hD
        refine lv_iinc (v := nI (i + 1)) (lv' := [(1, .int (nI (i + 1))), (0, .ref h)]) hx hb dX0_clearVotes_15 hl (k := 0) rfl (nI_1 _) (by decide) rfl (fun ls hl => ?_)
        refine lv_goto (tgt := 2) hx hb dX0_clearVotes_18 (by decide) ?_
        exact ih2 (i + 1) (upd g (nI i).toNatClampNeg 0) (by omega) (by omega) (by rw [z_cl hj, eg]; exact z_fillS (fun _ => 0) f6 i) H locs hP hD hS ls (lv_sub hl [0, 1] rfl)
  exact hloop2 9 0 f6 (by omega) (by omega) ((z_fill0 _ _).symm) _ _ hP hD hS ls (lv_sub hl [0, 1] rfl)
set_option maxHeartbeats 4000000 in
set_option maxRecDepth 100000 in
theorem c_X0_partOf (l : Launch) (D : va_G) (cI cZ cJ : ClassId) (h a0 a1 a2 a3 a4 a5 a6 a7 a8 a9 a10 : Nat) (f0 f1 f2 f3 f4 f5 f6 f7 f8 f9 f10 : Nat → Int32) (v0 v1 v2 v3 : Int32) (p0 : Int32) : Met l yX0_partOf wsX0_partOf ({ frames := 0, cells := 0, slots := 0, locals := 0 }) (va_Pc [.ref h, .int p0] (zP D cI cZ cJ (wQ cI cZ h a0 a1 a2 a3 a4 a5 a6 a7 a8 a9 a10 f0 f1 f2 f3 f4 f5 f6 f7 f8 f9 f10 v0 v1 v2 v3))) (vp_Si (fun r : Int32 => r = q_part f5 f9 p0 8)) 0 0 (fun _ => False) := by
  refine Met.ofW (cc := cX0_partOf) (maxL := 4) (ret := (some .int)) (by decide) rfl ?_
  intro p e s m args below meth c s₁ B hml hv
  obtain ⟨rfl, hP, hK⟩ := hv
  have hx := B.exec
  have hb := B.bytes
  have hr := B.returns
  have hts := atoms_spec (ws := wsX0_partOf) B.pre
  have hown : s.vm.findClass RX0 = some m.cls := findClass_of_methodNamed B.named
  have hlocks := B.notSynchronized
  have hin : ∀ w ∈ wsX00, w ∈ wsX0_partOf := by decide +kernel
  have hl := lv_entry ([.ref h, .int p0]) (n := 4) (Nat.le_of_ble_eq_true rfl)
  rw [lg_entry_eq]
  generalize (lg_sl ([.ref h, .int p0]) ++ List.replicate (4 - (lg_sl ([.ref h, .int p0])).length) Slot.unset).toArray = ls at hl ⊢
  have hl : lv_has ls 4 [(0, .ref h), (1, .int p0)] := hl
  refine lv_iconst (v := 0) hx hb dX0_partOf_0 (by decide) ?_
  refine lv_istore_n (lv' := [(2, .int 0), (0, .ref h), (1, .int p0)]) hx hb dX0_partOf_1 rfl hl (by decide) rfl (fun ls hl => ?_)
  refine lv_iconst (v := 0) hx hb dX0_partOf_2 (by decide) ?_
  refine lv_istore_n (lv' := [(3, .int 0), (2, .int 0), (0, .ref h), (1, .int p0)]) hx hb dX0_partOf_3 rfl hl (by decide) rfl (fun ls hl => ?_)
  have hloop4 : ∀ (n4 : Nat) (i : Nat) (x : Int32), (9 ≤ i + n4) → (i ≤ 8) → (x = q_part f5 f9 p0 i) → ∀ (ls : Array Slot), lv_has ls 4 [(3, .int (nI i)), (2, .int x), (0, .ref h), (1, .int p0)] → W p l e (headSpec wsX0_partOf ({ frames := 0, cells := 0, slots := 0, locals := 0 })).room s m ([Value.ref h, Value.int p0] : List Value).toArray below meth c s.heap [] 0 0 (MQ below (vp_Si (fun r : Int32 => r = q_part f5 f9 p0 8)) ([Value.ref h, Value.int p0] : List Value).toArray s 0 0 (fun _ => False)) (F0 m 4 ls []) := by
    intro n4
    induction n4 with
    | zero => intro i x hn hi ex; exact False.elim (by omega)
    | succ n4 ih4 =>
      intro i x hn hi ex ls hl
      refine lv_iload_n hx hb dX0_partOf_4 rfl (lv_at hl 0 rfl) ?_
      refine lv_bipush (v := 8) hx hb dX0_partOf_5 (by decide) ?_
      refine lv_icmp_ge (tgt := 35) hx hb dX0_partOf_7 (by decide) (fun c1 => ?_) (fun c1 => ?_)
      · skip
        have hj := z_ge8 hi c1
        subst hj
        refine lv_iload_n hx hb dX0_partOf_35 rfl (lv_at hl 1 rfl) ?_
        exact W.iret (v := x) hx hb hr (fun t ht hW => ⟨x, rfl, ex, ht⟩) (fun _ h => nomatch h) dX0_partOf_36
      · skip
        have hj := z_lt8 hi c1
        refine lv_aload_n hx hb dX0_partOf_10 rfl (lv_at hl 2 rfl) ?_
        refine va_get (D := D) (ci := 0) (v := .ref a5) (C := RX0) (T := TX0) (N := 15) hx hb hts hin hown hK hP 0 rfl rfl 5 (by decide) (hts (.fieldLink RX0 25 "Quorumfund" "persons" "[I") (by decide +kernel)) (fun _ h9 => h9) rfl dX0_partOf_11 ?_
        refine lv_iload_n hx hb dX0_partOf_14 rfl (lv_at hl 0 rfl) ?_
        refine va_iald (D := D) hx hb hK hP 6 0 rfl rfl (z_in8 hj) dX0_partOf_15 ?_
        refine lv_iload_n hx hb dX0_partOf_16 rfl (lv_at hl 3 rfl) ?_
        refine lv_icmp_ne (tgt := 29) hx hb dX0_partOf_17 (by decide) (fun c2 => ?_) (fun c2 => ?_)
        · skip
          refine lv_iinc (v := nI (i + 1)) (lv' := [(3, .int (nI (i + 1))), (2, .int x), (0, .ref h), (1, .int p0)]) hx hb dX0_partOf_29 hl (k := 0) rfl (nI_1 _) (by decide) rfl (fun ls hl => ?_)
          refine lv_goto (tgt := 4) hx hb dX0_partOf_32 (by decide) ?_
          exact ih4 (i + 1) x (by omega) (by omega) (by rw [z_cl hj] at c2; rw [ex, q_part]; simp [c2]) ls (lv_sub hl [0, 1, 2, 3] rfl)
        · skip
          refine lv_iload_n hx hb dX0_partOf_20 rfl (lv_at hl 1 rfl) ?_
          refine lv_aload_n hx hb dX0_partOf_21 rfl (lv_at hl 2 rfl) ?_
          refine va_get (D := D) (ci := 0) (v := .ref a9) (C := RX0) (T := TX0) (N := 15) hx hb hts hin hown hK hP 0 rfl rfl 13 (by decide) (hts (.fieldLink RX0 38 "Quorumfund" "shares" "[I") (by decide +kernel)) (fun _ h9 => h9) rfl dX0_partOf_22 ?_
          refine lv_iload_n hx hb dX0_partOf_25 rfl (lv_at hl 0 rfl) ?_
          refine va_iald (D := D) hx hb hK hP 10 0 rfl rfl (z_in8 hj) dX0_partOf_26 ?_
          refine lv_iadd hx hb dX0_partOf_27 ?_
          refine lv_istore_n (lv' := [(2, .int (x + (f9 (nI i).toNatClampNeg))), (3, .int (nI i)), (0, .ref h), (1, .int p0)]) hx hb dX0_partOf_28 rfl hl (by decide) rfl (fun ls hl => ?_)
          refine lv_iinc (v := nI (i + 1)) (lv' := [(3, .int (nI (i + 1))), (2, .int (x + (f9 (nI i).toNatClampNeg))), (0, .ref h), (1, .int p0)]) hx hb dX0_partOf_29 hl (k := 1) rfl (nI_1 _) (by decide) rfl (fun ls hl => ?_)
          refine lv_goto (tgt := 4) hx hb dX0_partOf_32 (by decide) ?_
          exact ih4 (i + 1) (x + (f9 (nI i).toNatClampNeg)) (by omega) (by omega) (by rw [z_cl hj] at c2; rw [ex, z_cl hj, q_part]; simp [c2]) ls (lv_sub hl [0, 1, 2, 3] rfl)
  exact hloop4 9 0 0 (by omega) (by omega) rfl ls (lv_sub hl [0, 1, 2, 3] rfl)
set_option maxHeartbeats 4000000 in
set_option maxRecDepth 100000 in
theorem c_X0_rootOf (l : Launch) (p0 : Int32) (hb0 : 0 ≤ p0.toInt ∧ p0.toInt < 262144) : Met l yX0_rootOf wsX0_rootOf ({ frames := 0, cells := 0, slots := 0, locals := 0 }) (va_Pc [.int p0] (fun _ => True)) (vp_Si (fun r : Int32 => r = q_rt p0)) 0 0 (fun _ => False) := by
  refine Met.ofW (cc := cX0_rootOf) (maxL := 4) (ret := (some .int)) (by decide) rfl ?_
  intro p e s m args below meth c s₁ B hml hv
  obtain ⟨rfl, -⟩ := hv
  have hx := B.exec
  have hb := B.bytes
  have hr := B.returns
  have hts := atoms_spec (ws := wsX0_rootOf) B.pre
  have hown : s.vm.findClass RX0 = some m.cls := findClass_of_methodNamed B.named
  have hlocks := B.notSynchronized
  have hl := lv_entry ([.int p0]) (n := 4) (Nat.le_of_ble_eq_true rfl)
  rw [lg_entry_eq]
  generalize (lg_sl ([.int p0]) ++ List.replicate (4 - (lg_sl ([.int p0])).length) Slot.unset).toArray = ls at hl ⊢
  have hl : lv_has ls 4 [(0, .int p0)] := hl
  refine lv_iconst (v := 0) hx hb dX0_rootOf_0 (by decide) ?_
  refine lv_istore_n (lv' := [(1, .int 0), (0, .int p0)]) hx hb dX0_rootOf_1 rfl hl (by decide) rfl (fun ls hl => ?_)
  refine lv_bipush (v := 8) hx hb dX0_rootOf_2 (by decide) ?_
  refine lv_istore_n (lv' := [(2, .int 8), (1, .int 0), (0, .int p0)]) hx hb dX0_rootOf_4 rfl hl (by decide) rfl (fun ls hl => ?_)
  have hloop5 : ∀ (n5 : Nat) (k : Nat) (r : Nat) (b : Int32), (k < n5) → (k ≤ 9) → (b = nI k + (-1)) → (r * r ≤ p0.toInt.toNat) → (p0.toInt.toNat < (r + 2 ^ k) * (r + 2 ^ k)) → (r + 2 ^ k ≤ 512) → ∀ (ls : Array Slot), lv_has ls 4 [(2, .int b), (1, .int (nI r)), (0, .int p0)] → W p l e (headSpec wsX0_rootOf ({ frames := 0, cells := 0, slots := 0, locals := 0 })).room s m ([Value.int p0] : List Value).toArray below meth c s.heap [] 0 0 (MQ below (vp_Si (fun r : Int32 => r = q_rt p0)) ([Value.int p0] : List Value).toArray s 0 0 (fun _ => False)) (F0 m 5 ls []) := by
    intro n5
    induction n5 with
    | zero => intro k r b hn hk eb h1 h2 h3; exact False.elim (by omega)
    | succ n5 ih5 =>
      intro k r b hn hk eb h1 h2 h3 ls hl
      refine lv_iload_n hx hb dX0_rootOf_5 rfl (lv_at hl 0 rfl) ?_
      refine lv_if_lt (tgt := 30) hx hb dX0_rootOf_6 (by decide) (fun c1 => ?_) (fun c1 => ?_)
      · skip
        have hk0 : k = 0 := by
          rcases Nat.eq_zero_or_pos k with h9 | h9
          · exact h9
          · obtain ⟨j, rfl⟩ : ∃ j, k = j + 1 := ⟨k - 1, by omega⟩
            rw [pk_m1] at eb; rw [eb] at c1; exact absurd c1 (nI_pos (by omega))
        subst hk0
        refine lv_iload_n hx hb dX0_rootOf_30 rfl (lv_at hl 1 rfl) ?_
        exact W.iret (v := nI r) hx hb hr (fun t ht hW => ⟨nI r, rfl, (by rw [q_rt, q_rN_is (r := r) (by rw [(z_nI hb0.1).2.1]; exact h1) (by rw [(z_nI hb0.1).2.1]; exact h2)]), ht⟩) (fun _ h => nomatch h) dX0_rootOf_31
      · skip
        obtain ⟨j, rfl⟩ : ∃ j, k = j + 1 := by
          rcases Nat.eq_zero_or_pos k with h9 | h9
          · subst h9; rw [eb] at c1; exact absurd (by decide) c1
          · exact ⟨k - 1, by omega⟩
        have eb1 : b = nI j := by rw [eb]; exact pk_m1 _
        have eb2 : b + (-1) = nI j + (-1) := by rw [eb1]
        refine lv_iload_n hx hb dX0_rootOf_9 rfl (lv_at hl 1 rfl) ?_
        refine lv_iconst (v := 1) hx hb dX0_rootOf_10 (by decide) ?_
        refine lv_iload_n hx hb dX0_rootOf_11 rfl (lv_at hl 0 rfl) ?_
        refine lv_ishl hx hb dX0_rootOf_12 ?_
        refine lv_iadd hx hb dX0_rootOf_13 ?_
        rw [show nI r + (1 <<< (b &&& 31)) = nI (r + 2 ^ j) from by rw [eb1, z_shl j (by omega), nI_add]]
        refine lv_istore_n (lv' := [(3, .int (nI (r + 2 ^ j))), (2, .int b), (1, .int (nI r)), (0, .int p0)]) hx hb dX0_rootOf_14 rfl hl (by decide) rfl (fun ls hl => ?_)
        refine lv_iload_n hx hb dX0_rootOf_15 rfl (lv_at hl 0 rfl) ?_
        refine lv_iload_n hx hb dX0_rootOf_16 rfl (lv_at hl 0 rfl) ?_
        refine lv_imul hx hb dX0_rootOf_17 ?_
        rw [pk_mul]
        refine lv_iload_n hx hb dX0_rootOf_18 rfl (lv_at hl 3 rfl) ?_
        have hp0 := z_nI hb0.1
        have hq : (r + 2 ^ j) * (r + 2 ^ j) < 2 ^ 31 := Nat.lt_of_le_of_lt (Nat.mul_le_mul (show r + 2 ^ j ≤ 512 by have := Nat.pow_succ (n := 2) (m := j); omega) (show r + 2 ^ j ≤ 512 by have := Nat.pow_succ (n := 2) (m := j); omega)) (by decide)
        refine lv_icmp_gt (tgt := 24) hx hb dX0_rootOf_19 (by decide) (fun c2 => ?_) (fun c2 => ?_)
        · skip
          have hcc : p0.toInt.toNat < (r + 2 ^ j) * (r + 2 ^ j) := by
            rw [hp0.1, nI_ltI hp0.2.2 hq] at c2; rw [← hp0.2.1]; exact c2
          refine lv_iinc (v := b + (-1)) (lv' := [(2, .int (b + (-1))), (3, .int (nI (r + 2 ^ j))), (1, .int (nI r)), (0, .int p0)]) hx hb dX0_rootOf_24 hl (k := 1) rfl rfl (by decide) rfl (fun ls hl => ?_)
          refine lv_goto (tgt := 5) hx hb dX0_rootOf_27 (by decide) ?_
          exact ih5 j r (b + (-1)) (by omega) (by omega) (by rw [eb2]) h1 hcc (by have := Nat.pow_succ (n := 2) (m := j); omega) ls (lv_sub hl [0, 2, 3] rfl)
        · skip
          have hcc : (r + 2 ^ j) * (r + 2 ^ j) ≤ p0.toInt.toNat := by
            rw [hp0.1, nI_ltI hp0.2.2 hq] at c2; rw [← hp0.2.1]; omega
          refine lv_iload_n hx hb dX0_rootOf_22 rfl (lv_at hl 0 rfl) ?_
          refine lv_istore_n (lv' := [(1, .int (nI (r + 2 ^ j))), (3, .int (nI (r + 2 ^ j))), (2, .int b), (0, .int p0)]) hx hb dX0_rootOf_23 rfl hl (by decide) rfl (fun ls hl => ?_)
          refine lv_iinc (v := b + (-1)) (lv' := [(2, .int (b + (-1))), (1, .int (nI (r + 2 ^ j))), (3, .int (nI (r + 2 ^ j))), (0, .int p0)]) hx hb dX0_rootOf_24 hl (k := 2) rfl rfl (by decide) rfl (fun ls hl => ?_)
          refine lv_goto (tgt := 5) hx hb dX0_rootOf_27 (by decide) ?_
          exact ih5 j (r + 2 ^ j) (b + (-1)) (by omega) (by omega) (by rw [eb2]) hcc (by rw [show r + 2 ^ j + 2 ^ j = r + 2 ^ (j + 1) from by rw [Nat.pow_succ]; omega]; exact h2) (by have := Nat.pow_succ (n := 2) (m := j); omega) ls (lv_sub hl [0, 1, 3] rfl)
  exact hloop5 10 9 0 8 (by omega) (by omega) (by decide) (by omega) (by omega) (by omega) ls (lv_sub hl [0, 1, 2] rfl)
set_option maxHeartbeats 4000000 in
set_option maxRecDepth 100000 in
theorem c_X0_findRoots (l : Launch) (D : va_G) (cI cZ cJ : ClassId) (sz : Nat) (h a0 a1 a2 a3 a4 a5 a6 a7 a8 a9 a10 : Nat) (f0 f1 f2 f3 f4 f5 f6 f7 f8 f9 f10 : Nat → Int32) (v0 v1 v2 v3 : Int32) (hpb : ∀ w, w < 8 → 0 ≤ (q_part f5 f9 (nI w) 8).toInt ∧ (q_part f5 f9 (nI w) 8).toInt < 262144) : Met l yX0_findRoots wsX0_findRoots ({ frames := 1, cells := 0, slots := 0, locals := 23 }) (va_Pc [.ref h] (zD D cI cZ cJ sz (wQ cI cZ h a0 a1 a2 a3 a4 a5 a6 a7 a8 a9 a10 f0 f1 f2 f3 f4 f5 f6 f7 f8 f9 f10 v0 v1 v2 v3))) (va_Qv (fun u : (Nat → Int32) => u = q_fill (q_rts f5 f9) f10 8) (fun u t => zB D cI cZ cJ (va_A (wQ cI cZ h a0 a1 a2 a3 a4 a5 a6 a7 a8 a9 a10 f0 f1 f2 f3 f4 f5 f6 f7 f8 f9 f10 v0 v1 v2 v3) sz) (wQ cI cZ h a0 a1 a2 a3 a4 a5 a6 a7 a8 a9 a10 f0 f1 f2 f3 f4 f5 f6 f7 f8 f9 u v0 v1 v2 v3) t) (va_A (wQ cI cZ h a0 a1 a2 a3 a4 a5 a6 a7 a8 a9 a10 f0 f1 f2 f3 f4 f5 f6 f7 f8 f9 f10 v0 v1 v2 v3) sz)) 0 0 (va_A (wQ cI cZ h a0 a1 a2 a3 a4 a5 a6 a7 a8 a9 a10 f0 f1 f2 f3 f4 f5 f6 f7 f8 f9 f10 v0 v1 v2 v3) sz) := by
  refine Met.ofW (cc := cX0_findRoots) (maxL := 2) (ret := none) (by decide) rfl ?_
  intro p e s m args below meth c s₁ B hml hv
  obtain ⟨rfl, hsz, hP, hK, hD0⟩ := hv
  have hx := B.exec
  have hb := B.bytes
  have hr := B.returns
  have hts := atoms_spec (ws := wsX0_findRoots) B.pre
  have hown : s.vm.findClass RX0 = some m.cls := findClass_of_methodNamed B.named
  have hlocks := B.notSynchronized
  have hin : ∀ w ∈ wsX00, w ∈ wsX0_findRoots := by decide +kernel
  subst hsz
  have hD := hD0.self (sz := s.heap.size)
  generalize hAe : va_A (wQ cI cZ h a0 a1 a2 a3 a4 a5 a6 a7 a8 a9 a10 f0 f1 f2 f3 f4 f5 f6 f7 f8 f9 f10 v0 v1 v2 v3) s.heap.size = A at hD ⊢
  have hA : ∀ q : Nat, s.heap.size ≤ q → A q := fun q h => by rw [← hAe]; exact Or.inr h
  have hS : va_S A s.heap s.heap [] := va_S.rf
  have hl := lv_entry ([.ref h]) (n := 2) (Nat.le_of_ble_eq_true rfl)
  rw [lg_entry_eq]
  generalize (lg_sl ([.ref h]) ++ List.replicate (2 - (lg_sl ([.ref h])).length) Slot.unset).toArray = ls at hl ⊢
  have hl : lv_has ls 2 [(0, .ref h)] := hl
  refine lv_iconst (v := 0) hx hb dX0_findRoots_0 (by decide) ?_
  refine lv_istore_n (lv' := [(1, .int 0), (0, .ref h)]) hx hb dX0_findRoots_1 rfl hl (by decide) rfl (fun ls hl => ?_)
  have hloop2 : ∀ (n2 : Nat) (i : Nat) (g : Nat → Int32), (9 ≤ i + n2) → (i ≤ 8) → (g = q_fill (q_rts f5 f9) f10 i) → ∀ (H : Heap) (locs : List Loc), va_P D vwCl (wQ cI cZ h a0 a1 a2 a3 a4 a5 a6 a7 a8 a9 a10 f0 f1 f2 f3 f4 f5 f6 f7 f8 f9 g v0 v1 v2 v3) H → va_D A (wQ cI cZ h a0 a1 a2 a3 a4 a5 a6 a7 a8 a9 a10 f0 f1 f2 f3 f4 f5 f6 f7 f8 f9 g v0 v1 v2 v3) → va_S A s.heap H locs → ∀ (ls : Array Slot), lv_has ls 2 [(1, .int (nI i)), (0, .ref h)] → W p l e (headSpec wsX0_findRoots ({ frames := 1, cells := 0, slots := 0, locals := 23 })).room s m ([Value.ref h] : List Value).toArray below meth c H locs 0 0 (MQ below (va_Qv (fun u : (Nat → Int32) => u = q_fill (q_rts f5 f9) f10 8) (fun u t => zB D cI cZ cJ A (wQ cI cZ h a0 a1 a2 a3 a4 a5 a6 a7 a8 a9 a10 f0 f1 f2 f3 f4 f5 f6 f7 f8 f9 u v0 v1 v2 v3) t) A) ([Value.ref h] : List Value).toArray s 0 0 A) (F0 m 2 ls []) := by
    intro n2
    induction n2 with
    | zero => intro i g hn hi eg; exact False.elim (by omega)
    | succ n2 ih2 =>
      intro i g hn hi eg H locs hP hD hS ls hl
      refine lv_iload_n hx hb dX0_findRoots_2 rfl (lv_at hl 0 rfl) ?_
      refine lv_bipush (v := 8) hx hb dX0_findRoots_3 (by decide) ?_
      refine lv_icmp_ge (tgt := 28) hx hb dX0_findRoots_5 (by decide) (fun c1 => ?_) (fun c1 => ?_)
      · skip
        have hj := z_ge8 hi c1
        subst hj
        exact W.vret hx hb hr (fun t ht hW => ⟨⟨g, rfl, eg, ⟨by rw [ht]; exact hP, va_K.moved hW.alike hK, hD⟩⟩, hS.F ht⟩) hS.2.2 dX0_findRoots_28
      · skip
        have hj := z_lt8 hi c1
        refine lv_aload_n hx hb dX0_findRoots_8 rfl (lv_at hl 1 rfl) ?_
        refine va_get (D := D) (ci := 0) (v := .ref a10) (C := RX0) (T := TX0) (N := 15) hx hb hts hin hown hK hP 0 rfl rfl 14 (by decide) (hts (.fieldLink RX0 41 "Quorumfund" "roots" "[I") (by decide +kernel)) (fun _ h9 => h9) rfl dX0_findRoots_9 ?_
        refine lv_iload_n hx hb dX0_findRoots_12 rfl (lv_at hl 0 rfl) ?_
        refine lv_aload_n hx hb dX0_findRoots_13 rfl (lv_at hl 1 rfl) ?_
        refine lv_iload_n hx hb dX0_findRoots_14 rfl (lv_at hl 0 rfl) ?_
        refine vp_callSi (W.runV (As := [.int (nI i)]) (rest := [.int (nI i), .ref a10]) ⟨hx, hb, hml, hown, hts⟩ (c_X0_partOf l D cI cZ cJ h a0 a1 a2 a3 a4 a5 a6 a7 a8 a9 a10 f0 f1 f2 f3 f4 f5 f6 f7 f8 f9 g v0 v1 v2 v3 (nI i)) (cwV 1 hts gX0_findRoots_X0_partOf rfl rfl rfl (by decide +kernel) ⟨Nat.le_of_ble_eq_true rfl, Nat.le_of_ble_eq_true rfl⟩) ⟨zP_blind, va_recv hK hP (ci := 0) (q0 := 0) rfl rfl, fun U hU hW => ⟨rfl, zP_mk hP hK hU hW⟩⟩ rfl rfl hl.1 rfl (lv_room (Nat.le_of_ble_eq_true rfl)) dX0_findRoots_15 ⟨Nat.le_of_ble_eq_true rfl, Nat.le_of_ble_eq_true rfl⟩) (fun r2 w2 => ?_)
        subst w2
        refine vp_callSi (W.runS (As := [.int (q_part f5 f9 (nI i) 8)]) (rest := [.int (nI i), .ref a10]) ⟨hx, hb, hml, hown, hts⟩ (c_X0_rootOf l (q_part f5 f9 (nI i) 8) (hpb i hj)) (va_cwS 1 hts gX0_findRoots_X0_rootOf rfl rfl rfl (by decide +kernel) ⟨Nat.le_of_ble_eq_true rfl, Nat.le_of_ble_eq_true rfl⟩) ⟨zN_blind, fun U hU hW => ⟨rfl, trivial⟩⟩ rfl rfl hl.1 rfl (lv_room (Nat.le_of_ble_eq_true rfl)) dX0_findRoots_18 ⟨Nat.le_of_ble_eq_true rfl, Nat.le_of_ble_eq_true rfl⟩) (fun r3 w3 => ?_)
        subst w3
        refine va_iast (D := D) hx hb hK hP hD hS 11 0 rfl rfl (z_in8 hj) dX0_findRoots_21 (fun H locs hP hD hS => ?_)
        have hP : va_P D vwCl (wQ cI cZ h a0 a1 a2 a3 a4 a5 a6 a7 a8 a9 a10 f0 f1 f2 f3 f4 f5 f6 f7 f8 f9 (upd g (nI i).toNatClampNeg (q_rt (q_part f5 f9 (nI i) 8))) v0 v1 v2 v3) H := hP
        have hD : va_D A (wQ cI cZ h a0 a1 a2 a3 a4 a5 a6 a7 a8 a9 a10 f0 f1 f2 f3 f4 f5 f6 f7 f8 f9 (upd g (nI i).toNatClampNeg (q_rt (q_part f5 f9 (nI i) 8))) v0 v1 v2 v3) := hD
        refine lv_iinc (v := nI (i + 1)) (lv' := [(1, .int (nI (i + 1))), (0, .ref h)]) hx hb dX0_findRoots_22 hl (k := 0) rfl (nI_1 _) (by decide) rfl (fun ls hl => ?_)
        refine lv_goto (tgt := 2) hx hb dX0_findRoots_25 (by decide) ?_
        exact ih2 (i + 1) (upd g (nI i).toNatClampNeg (q_rt (q_part f5 f9 (nI i) 8))) (by omega) (by omega) (by rw [z_cl hj, eg]; exact z_fillS (q_rts f5 f9) f10 i) H locs hP hD hS ls (lv_sub hl [0, 1] rfl)
  exact hloop2 9 0 f10 (by omega) (by omega) ((z_fill0 _ _).symm) _ _ hP hD hS ls (lv_sub hl [0, 1] rfl)
set_option maxHeartbeats 4000000 in
set_option maxRecDepth 100000 in
theorem c_X0_squareOfSum (l : Launch) (D : va_G) (cI cZ cJ : ClassId) (h a0 a1 a2 a3 a4 a5 a6 a7 a8 a9 a10 : Nat) (f0 f1 f2 f3 f4 f5 f6 f7 f8 f9 f10 : Nat → Int32) (v0 v1 v2 v3 : Int32) : Met l yX0_squareOfSum wsX0_squareOfSum ({ frames := 0, cells := 0, slots := 0, locals := 0 }) (va_Pc [.ref h] (zP D cI cZ cJ (wQ cI cZ h a0 a1 a2 a3 a4 a5 a6 a7 a8 a9 a10 f0 f1 f2 f3 f4 f5 f6 f7 f8 f9 f10 v0 v1 v2 v3))) (vp_Si (fun r : Int32 => r = q_sq f10)) 0 0 (fun _ => False) := by
  refine Met.ofW (cc := cX0_squareOfSum) (maxL := 3) (ret := (some .int)) (by decide) rfl ?_
  intro p e s m args below meth c s₁ B hml hv
  obtain ⟨rfl, hP, hK⟩ := hv
  have hx := B.exec
  have hb := B.bytes
  have hr := B.returns
  have hts := atoms_spec (ws := wsX0_squareOfSum) B.pre
  have hown : s.vm.findClass RX0 = some m.cls := findClass_of_methodNamed B.named
  have hlocks := B.notSynchronized
  have hin : ∀ w ∈ wsX00, w ∈ wsX0_squareOfSum := by decide +kernel
  have hl := lv_entry ([.ref h]) (n := 3) (Nat.le_of_ble_eq_true rfl)
  rw [lg_entry_eq]
  generalize (lg_sl ([.ref h]) ++ List.replicate (3 - (lg_sl ([.ref h])).length) Slot.unset).toArray = ls at hl ⊢
  have hl : lv_has ls 3 [(0, .ref h)] := hl
  refine lv_iconst (v := 0) hx hb dX0_squareOfSum_0 (by decide) ?_
  refine lv_istore_n (lv' := [(1, .int 0), (0, .ref h)]) hx hb dX0_squareOfSum_1 rfl hl (by decide) rfl (fun ls hl => ?_)
  refine lv_iconst (v := 0) hx hb dX0_squareOfSum_2 (by decide) ?_
  refine lv_istore_n (lv' := [(2, .int 0), (1, .int 0), (0, .ref h)]) hx hb dX0_squareOfSum_3 rfl hl (by decide) rfl (fun ls hl => ?_)
  have hloop4 : ∀ (n4 : Nat) (i : Nat) (x : Int32), (9 ≤ i + n4) → (i ≤ 8) → (x = q_sum f10 i) → ∀ (ls : Array Slot), lv_has ls 3 [(2, .int (nI i)), (1, .int x), (0, .ref h)] → W p l e (headSpec wsX0_squareOfSum ({ frames := 0, cells := 0, slots := 0, locals := 0 })).room s m ([Value.ref h] : List Value).toArray below meth c s.heap [] 0 0 (MQ below (vp_Si (fun r : Int32 => r = q_sq f10)) ([Value.ref h] : List Value).toArray s 0 0 (fun _ => False)) (F0 m 4 ls []) := by
    intro n4
    induction n4 with
    | zero => intro i x hn hi ex; exact False.elim (by omega)
    | succ n4 ih4 =>
      intro i x hn hi ex ls hl
      refine lv_iload_n hx hb dX0_squareOfSum_4 rfl (lv_at hl 0 rfl) ?_
      refine lv_bipush (v := 8) hx hb dX0_squareOfSum_5 (by decide) ?_
      refine lv_icmp_ge (tgt := 25) hx hb dX0_squareOfSum_7 (by decide) (fun c1 => ?_) (fun c1 => ?_)
      · skip
        have hj := z_ge8 hi c1
        subst hj
        refine lv_iload_n hx hb dX0_squareOfSum_25 rfl (lv_at hl 1 rfl) ?_
        refine lv_iload_n hx hb dX0_squareOfSum_26 rfl (lv_at hl 1 rfl) ?_
        refine lv_imul hx hb dX0_squareOfSum_27 ?_
        exact W.iret (v := x * x) hx hb hr (fun t ht hW => ⟨x * x, rfl, (by rw [ex]; rfl), ht⟩) (fun _ h => nomatch h) dX0_squareOfSum_28
      · skip
        have hj := z_lt8 hi c1
        refine lv_iload_n hx hb dX0_squareOfSum_10 rfl (lv_at hl 1 rfl) ?_
        refine lv_aload_n hx hb dX0_squareOfSum_11 rfl (lv_at hl 2 rfl) ?_
        refine va_get (D := D) (ci := 0) (v := .ref a10) (C := RX0) (T := TX0) (N := 15) hx hb hts hin hown hK hP 0 rfl rfl 14 (by decide) (hts (.fieldLink RX0 41 "Quorumfund" "roots" "[I") (by decide +kernel)) (fun _ h9 => h9) rfl dX0_squareOfSum_12 ?_
        refine lv_iload_n hx hb dX0_squareOfSum_15 rfl (lv_at hl 0 rfl) ?_
        refine va_iald (D := D) hx hb hK hP 11 0 rfl rfl (z_in8 hj) dX0_squareOfSum_16 ?_
        refine lv_iadd hx hb dX0_squareOfSum_17 ?_
        refine lv_istore_n (lv' := [(1, .int (x + (f10 (nI i).toNatClampNeg))), (2, .int (nI i)), (0, .ref h)]) hx hb dX0_squareOfSum_18 rfl hl (by decide) rfl (fun ls hl => ?_)
        refine lv_iinc (v := nI (i + 1)) (lv' := [(2, .int (nI (i + 1))), (1, .int (x + (f10 (nI i).toNatClampNeg))), (0, .ref h)]) hx hb dX0_squareOfSum_19 hl (k := 1) rfl (nI_1 _) (by decide) rfl (fun ls hl => ?_)
        refine lv_goto (tgt := 4) hx hb dX0_squareOfSum_22 (by decide) ?_
        exact ih4 (i + 1) (x + (f10 (nI i).toNatClampNeg)) (by omega) (by omega) (by rw [ex, z_cl hj]; rfl) ls (lv_sub hl [0, 1, 2] rfl)
  exact hloop4 9 0 0 (by omega) (by omega) rfl ls (lv_sub hl [0, 1, 2] rfl)
set_option maxHeartbeats 4000000 in
set_option maxRecDepth 100000 in
theorem c_X0_squareByPairs (l : Launch) (D : va_G) (cI cZ cJ : ClassId) (h a0 a1 a2 a3 a4 a5 a6 a7 a8 a9 a10 : Nat) (f0 f1 f2 f3 f4 f5 f6 f7 f8 f9 f10 : Nat → Int32) (v0 v1 v2 v3 : Int32) : Met l yX0_squareByPairs wsX0_squareByPairs ({ frames := 0, cells := 0, slots := 0, locals := 0 }) (va_Pc [.ref h] (zP D cI cZ cJ (wQ cI cZ h a0 a1 a2 a3 a4 a5 a6 a7 a8 a9 a10 f0 f1 f2 f3 f4 f5 f6 f7 f8 f9 f10 v0 v1 v2 v3))) (vp_Si (fun r : Int32 => r = q_sq f10)) 0 0 (fun _ => False) := by
  refine Met.ofW (cc := cX0_squareByPairs) (maxL := 4) (ret := (some .int)) (by decide) rfl ?_
  intro p e s m args below meth c s₁ B hml hv
  obtain ⟨rfl, hP, hK⟩ := hv
  have hx := B.exec
  have hb := B.bytes
  have hr := B.returns
  have hts := atoms_spec (ws := wsX0_squareByPairs) B.pre
  have hown : s.vm.findClass RX0 = some m.cls := findClass_of_methodNamed B.named
  have hlocks := B.notSynchronized
  have hin : ∀ w ∈ wsX00, w ∈ wsX0_squareByPairs := by decide +kernel
  have hl := lv_entry ([.ref h]) (n := 4) (Nat.le_of_ble_eq_true rfl)
  rw [lg_entry_eq]
  generalize (lg_sl ([.ref h]) ++ List.replicate (4 - (lg_sl ([.ref h])).length) Slot.unset).toArray = ls at hl ⊢
  have hl : lv_has ls 4 [(0, .ref h)] := hl
  refine lv_iconst (v := 0) hx hb dX0_squareByPairs_0 (by decide) ?_
  refine lv_istore_n (lv' := [(1, .int 0), (0, .ref h)]) hx hb dX0_squareByPairs_1 rfl hl (by decide) rfl (fun ls hl => ?_)
  refine lv_iconst (v := 0) hx hb dX0_squareByPairs_2 (by decide) ?_
  refine lv_istore_n (lv' := [(2, .int 0), (1, .int 0), (0, .ref h)]) hx hb dX0_squareByPairs_3 rfl hl (by decide) rfl (fun ls hl => ?_)
  have hloop4 : ∀ (n4 : Nat) (i : Nat) (x : Int32), (9 ≤ i + n4) → (i ≤ 8) → (x = q_out f10 i) → ∀ (ls : Array Slot), lv_has ls 4 [(2, .int (nI i)), (1, .int x), (0, .ref h)] → W p l e (headSpec wsX0_squareByPairs ({ frames := 0, cells := 0, slots := 0, locals := 0 })).room s m ([Value.ref h] : List Value).toArray below meth c s.heap [] 0 0 (MQ below (vp_Si (fun r : Int32 => r = q_sq f10)) ([Value.ref h] : List Value).toArray s 0 0 (fun _ => False)) (F0 m 4 ls []) := by
    intro n4
    induction n4 with
    | zero => intro i x hn hi ex; exact False.elim (by omega)
    | succ n4 ih4 =>
      intro i x hn hi ex ls hl
      refine lv_iload_n hx hb dX0_squareByPairs_4 rfl (lv_at hl 0 rfl) ?_
      refine lv_bipush (v := 8) hx hb dX0_squareByPairs_5 (by decide) ?_
      refine lv_icmp_ge (tgt := 66) hx hb dX0_squareByPairs_7 (by decide) (fun c1 => ?_) (fun c1 => ?_)
      · skip
        have hj := z_ge8 hi c1
        subst hj
        refine lv_iload_n hx hb dX0_squareByPairs_66 rfl (lv_at hl 1 rfl) ?_
        exact W.iret (v := x) hx hb hr (fun t ht hW => ⟨x, rfl, (by rw [ex]; exact z_pairs f10), ht⟩) (fun _ h => nomatch h) dX0_squareByPairs_67
      · skip
        have hj := z_lt8 hi c1
        refine lv_iload_n hx hb dX0_squareByPairs_10 rfl (lv_at hl 1 rfl) ?_
        refine lv_aload_n hx hb dX0_squareByPairs_11 rfl (lv_at hl 2 rfl) ?_
        refine va_get (D := D) (ci := 0) (v := .ref a10) (C := RX0) (T := TX0) (N := 15) hx hb hts hin hown hK hP 0 rfl rfl 14 (by decide) (hts (.fieldLink RX0 41 "Quorumfund" "roots" "[I") (by decide +kernel)) (fun _ h9 => h9) rfl dX0_squareByPairs_12 ?_
        refine lv_iload_n hx hb dX0_squareByPairs_15 rfl (lv_at hl 0 rfl) ?_
        refine va_iald (D := D) hx hb hK hP 11 0 rfl rfl (z_in8 hj) dX0_squareByPairs_16 ?_
        refine lv_aload_n hx hb dX0_squareByPairs_17 rfl (lv_at hl 2 rfl) ?_
        refine va_get (D := D) (ci := 0) (v := .ref a10) (C := RX0) (T := TX0) (N := 15) hx hb hts hin hown hK hP 0 rfl rfl 14 (by decide) (hts (.fieldLink RX0 41 "Quorumfund" "roots" "[I") (by decide +kernel)) (fun _ h9 => h9) rfl dX0_squareByPairs_18 ?_
        refine lv_iload_n hx hb dX0_squareByPairs_21 rfl (lv_at hl 0 rfl) ?_
        refine va_iald (D := D) hx hb hK hP 11 0 rfl rfl (z_in8 hj) dX0_squareByPairs_22 ?_
        refine lv_imul hx hb dX0_squareByPairs_23 ?_
        refine lv_iadd hx hb dX0_squareByPairs_24 ?_
        refine lv_istore_n (lv' := [(1, .int (x + ((f10 (nI i).toNatClampNeg) * (f10 (nI i).toNatClampNeg)))), (2, .int (nI i)), (0, .ref h)]) hx hb dX0_squareByPairs_25 rfl hl (by decide) rfl (fun ls hl => ?_)
        refine lv_iload_n hx hb dX0_squareByPairs_26 rfl (lv_at hl 1 rfl) ?_
        refine lv_iconst (v := 1) hx hb dX0_squareByPairs_27 (by decide) ?_
        refine lv_iadd hx hb dX0_squareByPairs_28 ?_
        refine lv_istore_n (lv' := [(3, .int ((nI i) + 1)), (1, .int (x + ((f10 (nI i).toNatClampNeg) * (f10 (nI i).toNatClampNeg)))), (2, .int (nI i)), (0, .ref h)]) hx hb dX0_squareByPairs_29 rfl hl (by decide) rfl (fun ls hl => ?_)
        have hloop30 : ∀ (n30 : Nat) (k : Nat) (y : Int32) (b : Int32), (9 ≤ k + n30) → (k + i ≤ 7) → (y = q_in f10 i x k) → (b = nI (i + 1 + k)) → ∀ (ls : Array Slot), lv_has ls 4 [(3, .int b), (1, .int y), (2, .int (nI i)), (0, .ref h)] → W p l e (headSpec wsX0_squareByPairs ({ frames := 0, cells := 0, slots := 0, locals := 0 })).room s m ([Value.ref h] : List Value).toArray below meth c s.heap [] 0 0 (MQ below (vp_Si (fun r : Int32 => r = q_sq f10)) ([Value.ref h] : List Value).toArray s 0 0 (fun _ => False)) (F0 m 30 ls []) := by
          intro n30
          induction n30 with
          | zero => intro k y b hn2 hk ey eb; exact False.elim (by omega)
          | succ n30 ih30 =>
            intro k y b hn2 hk ey eb ls hl
            refine lv_iload_n hx hb dX0_squareByPairs_30 rfl (lv_at hl 0 rfl) ?_
            refine lv_bipush (v := 8) hx hb dX0_squareByPairs_31 (by decide) ?_
            refine lv_icmp_ge (tgt := 60) hx hb dX0_squareByPairs_33 (by decide) (fun c2 => ?_) (fun c2 => ?_)
            · skip
              have hk7 : k = 7 - i := by
                rw [eb] at c2; have := z_ge8 (by omega) c2; omega
              refine lv_iinc (v := nI (i + 1)) (lv' := [(2, .int (nI (i + 1))), (3, .int b), (1, .int y), (0, .ref h)]) hx hb dX0_squareByPairs_60 hl (k := 2) rfl (nI_1 _) (by decide) rfl (fun ls hl => ?_)
              refine lv_goto (tgt := 4) hx hb dX0_squareByPairs_63 (by decide) ?_
              exact ih4 (i + 1) y (by omega) (by omega) (by rw [ey, hk7, ex]; rfl) ls (lv_sub hl [0, 2, 3] rfl)
            · skip
              have hj2 : i + 1 + k < 8 := by rw [eb] at c2; exact z_lt8 (by omega) c2
              refine lv_iload_n hx hb dX0_squareByPairs_36 rfl (lv_at hl 1 rfl) ?_
              refine lv_iconst (v := 2) hx hb dX0_squareByPairs_37 (by decide) ?_
              refine lv_aload_n hx hb dX0_squareByPairs_38 rfl (lv_at hl 3 rfl) ?_
              refine va_get (D := D) (ci := 0) (v := .ref a10) (C := RX0) (T := TX0) (N := 15) hx hb hts hin hown hK hP 0 rfl rfl 14 (by decide) (hts (.fieldLink RX0 41 "Quorumfund" "roots" "[I") (by decide +kernel)) (fun _ h9 => h9) rfl dX0_squareByPairs_39 ?_
              refine lv_iload_n hx hb dX0_squareByPairs_42 rfl (lv_at hl 2 rfl) ?_
              refine va_iald (D := D) hx hb hK hP 11 0 rfl rfl (z_in8 hj) dX0_squareByPairs_43 ?_
              refine lv_imul hx hb dX0_squareByPairs_44 ?_
              refine lv_aload_n hx hb dX0_squareByPairs_45 rfl (lv_at hl 3 rfl) ?_
              refine va_get (D := D) (ci := 0) (v := .ref a10) (C := RX0) (T := TX0) (N := 15) hx hb hts hin hown hK hP 0 rfl rfl 14 (by decide) (hts (.fieldLink RX0 41 "Quorumfund" "roots" "[I") (by decide +kernel)) (fun _ h9 => h9) rfl dX0_squareByPairs_46 ?_
              refine lv_iload_n hx hb dX0_squareByPairs_49 rfl (lv_at hl 0 rfl) ?_
              refine va_iald (D := D) hx hb hK hP 11 0 rfl rfl (by rw [eb]; exact z_in8 hj2) dX0_squareByPairs_50 ?_
              refine lv_imul hx hb dX0_squareByPairs_51 ?_
              refine lv_iadd hx hb dX0_squareByPairs_52 ?_
              refine lv_istore_n (lv' := [(1, .int (y + ((2 * (f10 (nI i).toNatClampNeg)) * (f10 b.toNatClampNeg)))), (3, .int b), (2, .int (nI i)), (0, .ref h)]) hx hb dX0_squareByPairs_53 rfl hl (by decide) rfl (fun ls hl => ?_)
              refine lv_iinc (v := b + (1)) (lv' := [(3, .int (b + (1))), (1, .int (y + ((2 * (f10 (nI i).toNatClampNeg)) * (f10 b.toNatClampNeg)))), (2, .int (nI i)), (0, .ref h)]) hx hb dX0_squareByPairs_54 hl (k := 1) rfl rfl (by decide) rfl (fun ls hl => ?_)
              refine lv_goto (tgt := 30) hx hb dX0_squareByPairs_57 (by decide) ?_
              exact ih30 (k + 1) (y + ((2 * (f10 (nI i).toNatClampNeg)) * (f10 b.toNatClampNeg))) (b + (1)) (by omega) (by omega) (by rw [ey, eb, z_cl hj, z_cl hj2]; rfl) (by rw [eb]; exact nI_1 _) ls (lv_sub hl [0, 1, 2, 3] rfl)
        exact hloop30 9 0 (x + ((f10 (nI i).toNatClampNeg) * (f10 (nI i).toNatClampNeg))) ((nI i) + 1) (by omega) (by omega) (by rw [z_cl hj]; rfl) (by rw [nI_1]) ls (lv_sub hl [0, 1, 2, 3] rfl)
  exact hloop4 9 0 0 (by omega) (by omega) rfl ls (lv_sub hl [0, 1, 2] rfl)
set_option maxHeartbeats 4000000 in
set_option maxRecDepth 100000 in
theorem c_X0_withinPot (l : Launch) (D : va_G) (cI cZ cJ : ClassId) (h a0 a1 a2 a3 a4 a5 a6 a7 a8 a9 a10 : Nat) (f0 f1 f2 f3 f4 f5 f6 f7 f8 f9 f10 : Nat → Int32) (v0 v1 v2 v3 : Int32) (p0 : Int32) (hp2 : ¬ v2 < 0) : Met l yX0_withinPot wsX0_withinPot ({ frames := 1, cells := 0, slots := 0, locals := 13 }) (va_Pc [.ref h, .int p0] (zP D cI cZ cJ (wQ cI cZ h a0 a1 a2 a3 a4 a5 a6 a7 a8 a9 a10 f0 f1 f2 f3 f4 f5 f6 f7 f8 f9 f10 v0 v1 v2 v3))) (vp_Si (fun r : Int32 => r = q_won p0 v2)) 0 0 (fun _ => False) := by
  refine Met.ofW (cc := cX0_withinPot) (maxL := 2) (ret := (some .int)) (by decide) rfl ?_
  intro p e s m args below meth c s₁ B hml hv
  obtain ⟨rfl, hP, hK⟩ := hv
  have hx := B.exec
  have hb := B.bytes
  have hr := B.returns
  have hts := atoms_spec (ws := wsX0_withinPot) B.pre
  have hown : s.vm.findClass RX0 = some m.cls := findClass_of_methodNamed B.named
  have hlocks := B.notSynchronized
  have hin : ∀ w ∈ wsX00, w ∈ wsX0_withinPot := by decide +kernel
  have hl := lv_entry ([.ref h, .int p0]) (n := 2) (Nat.le_of_ble_eq_true rfl)
  rw [lg_entry_eq]
  generalize (lg_sl ([.ref h, .int p0]) ++ List.replicate (2 - (lg_sl ([.ref h, .int p0])).length) Slot.unset).toArray = ls at hl ⊢
  have hl : lv_has ls 2 [(0, .ref h), (1, .int p0)] := hl
  refine lv_iload_n hx hb dX0_withinPot_0 rfl (lv_at hl 1 rfl) ?_
  refine lv_iconst (v := 0) hx hb dX0_withinPot_1 (by decide) ?_
  refine va_mmax hx hb (hml.trans hl.1.symm) hown (hts (.methodLink RX0 177 Lib.Math.max.name) (by decide +kernel)) (hts (.static Lib.Math.max.name) (by decide +kernel)) (hts (.initialized "java/lang/Math") (by decide +kernel)) (hts (.code Lib.Math.max.name Lib.Math.max.code 2 (some .int)) (by decide +kernel)) (Nat.le_of_ble_eq_true rfl) (Nat.le_of_ble_eq_true rfl) (Nat.zero_le _) (Nat.zero_le _) dX0_withinPot_2 ?_
  refine lv_aload_n hx hb dX0_withinPot_5 rfl (lv_at hl 0 rfl) ?_
  refine va_get (D := D) (ci := 0) (v := .int v2) (C := RX0) (T := TX0) (N := 15) hx hb hts hin hown hK hP 0 rfl rfl 11 (by decide) (hts (.fieldLink RX0 71 "Quorumfund" "potMoney" "I") (by decide +kernel)) (fun _ h9 => h9) rfl dX0_withinPot_6 ?_
  refine va_mmin hx hb (hml.trans hl.1.symm) hown (hts (.methodLink RX0 183 Lib.Math.min.name) (by decide +kernel)) (hts (.static Lib.Math.min.name) (by decide +kernel)) (hts (.initialized "java/lang/Math") (by decide +kernel)) (hts (.code Lib.Math.min.name Lib.Math.min.code 2 (some .int)) (by decide +kernel)) (Nat.le_of_ble_eq_true rfl) (Nat.le_of_ble_eq_true rfl) (Nat.zero_le _) (Nat.zero_le _) dX0_withinPot_9 ?_
  exact W.iret (v := if v2 < (if p0 < 0 then 0 else p0) then v2 else (if p0 < 0 then 0 else p0)) hx hb hr (fun t ht hW => ⟨if v2 < (if p0 < 0 then 0 else p0) then v2 else (if p0 < 0 then 0 else p0), rfl, (by by_cases h9 : p0 < 0 <;> simp [q_won, h9, hp2]), ht⟩) (fun _ h => nomatch h) dX0_withinPot_12
set_option maxHeartbeats 4000000 in
set_option maxRecDepth 100000 in
theorem c_X0_currentMatch (l : Launch) (D : va_G) (cI cZ cJ : ClassId) (sz : Nat) (h a0 a1 a2 a3 a4 a5 a6 a7 a8 a9 a10 : Nat) (f0 f1 f2 f3 f4 f5 f6 f7 f8 f9 f10 : Nat → Int32) (v0 v1 v2 v3 : Int32) (hv1 : vp_in v1 6) (hpb : ∀ w, w < 8 → 0 ≤ (q_part f5 (q_sh f0 (f7 v1.toNatClampNeg)) (nI w) 8).toInt ∧ (q_part f5 (q_sh f0 (f7 v1.toNatClampNeg)) (nI w) 8).toInt < 262144) (hp2 : ¬ v2 < 0) : Met l yX0_currentMatch wsX0_currentMatch ({ frames := 2, cells := 0, slots := 0, locals := 46 }) (va_Pc [.ref h] (zD D cI cZ cJ sz (wQ cI cZ h a0 a1 a2 a3 a4 a5 a6 a7 a8 a9 a10 f0 f1 f2 f3 f4 f5 f6 f7 f8 f9 f10 v0 v1 v2 v3))) (va_Qi (fun (r : Int32) (u : (Nat → Int32) × (Nat → Int32)) => r = q_mt f5 (q_sh f0 (f7 v1.toNatClampNeg)) (f7 v1.toNatClampNeg) v2 ∧ u.1 = q_fill (q_sh f0 (f7 v1.toNatClampNeg)) f9 8 ∧ u.2 = q_fill (q_rts f5 (q_sh f0 (f7 v1.toNatClampNeg))) f10 8) (fun u t => zB D cI cZ cJ (va_A (wQ cI cZ h a0 a1 a2 a3 a4 a5 a6 a7 a8 a9 a10 f0 f1 f2 f3 f4 f5 f6 f7 f8 f9 f10 v0 v1 v2 v3) sz) (wQ cI cZ h a0 a1 a2 a3 a4 a5 a6 a7 a8 a9 a10 f0 f1 f2 f3 f4 f5 f6 f7 f8 u.1 u.2 v0 v1 v2 v3) t) (va_A (wQ cI cZ h a0 a1 a2 a3 a4 a5 a6 a7 a8 a9 a10 f0 f1 f2 f3 f4 f5 f6 f7 f8 f9 f10 v0 v1 v2 v3) sz)) 0 0 (va_A (wQ cI cZ h a0 a1 a2 a3 a4 a5 a6 a7 a8 a9 a10 f0 f1 f2 f3 f4 f5 f6 f7 f8 f9 f10 v0 v1 v2 v3) sz) := by
  refine Met.ofW (cc := cX0_currentMatch) (maxL := 2) (ret := (some .int)) (by decide) rfl ?_
  intro p e s m args below meth c s₁ B hml hv
  obtain ⟨rfl, hsz, hP, hK, hD0⟩ := hv
  have hx := B.exec
  have hb := B.bytes
  have hr := B.returns
  have hts := atoms_spec (ws := wsX0_currentMatch) B.pre
  have hown : s.vm.findClass RX0 = some m.cls := findClass_of_methodNamed B.named
  have hlocks := B.notSynchronized
  have hin : ∀ w ∈ wsX00, w ∈ wsX0_currentMatch := by decide +kernel
  subst hsz
  have hD := hD0.self (sz := s.heap.size)
  generalize hAe : va_A (wQ cI cZ h a0 a1 a2 a3 a4 a5 a6 a7 a8 a9 a10 f0 f1 f2 f3 f4 f5 f6 f7 f8 f9 f10 v0 v1 v2 v3) s.heap.size = A at hD ⊢
  have hA : ∀ q : Nat, s.heap.size ≤ q → A q := fun q h => by rw [← hAe]; exact Or.inr h
  have hS : va_S A s.heap s.heap [] := va_S.rf
  have hl := lv_entry ([.ref h]) (n := 2) (Nat.le_of_ble_eq_true rfl)
  rw [lg_entry_eq]
  generalize (lg_sl ([.ref h]) ++ List.replicate (2 - (lg_sl ([.ref h])).length) Slot.unset).toArray = ls at hl ⊢
  have hl : lv_has ls 2 [(0, .ref h)] := hl
  refine lv_aload_n hx hb dX0_currentMatch_0 rfl (lv_at hl 0 rfl) ?_
  refine va_get (D := D) (ci := 0) (v := .ref a7) (C := RX0) (T := TX0) (N := 15) hx hb hts hin hown hK hP 0 rfl rfl 7 (by decide) (hts (.fieldLink RX0 31 "Quorumfund" "amounts" "[I") (by decide +kernel)) (fun _ h9 => h9) rfl dX0_currentMatch_1 ?_
  refine lv_aload_n hx hb dX0_currentMatch_4 rfl (lv_at hl 0 rfl) ?_
  refine va_get (D := D) (ci := 0) (v := .int v1) (C := RX0) (T := TX0) (N := 15) hx hb hts hin hown hK hP 0 rfl rfl 10 (by decide) (hts (.fieldLink RX0 85 "Quorumfund" "released" "I") (by decide +kernel)) (fun _ h9 => h9) rfl dX0_currentMatch_5 ?_
  refine va_iald (D := D) hx hb hK hP 8 0 rfl rfl hv1 dX0_currentMatch_8 ?_
  refine lv_istore_n (lv' := [(1, .int (f7 v1.toNatClampNeg)), (0, .ref h)]) hx hb dX0_currentMatch_9 rfl hl (by decide) rfl (fun ls hl => ?_)
  refine lv_aload_n hx hb dX0_currentMatch_10 rfl (lv_at hl 1 rfl) ?_
  refine lv_iload_n hx hb dX0_currentMatch_11 rfl (lv_at hl 0 rfl) ?_
  have hFc := va_free (wc := wQ cI cZ h a0 a1 a2 a3 a4 a5 a6 a7 a8 a9 a10 f0 f1 f2 f3 f4 f5 f6 f7 f8 f9 f10 v0 v1 v2 v3) hD hS hA [0, 1, 2, 3, 4, 5, 6, 7, 8, 9, 10, 11] rfl
  refine va_callv (va_runV (As := [.int (f7 v1.toNatClampNeg)]) (rest := []) ⟨hx, hb, hml, hown, hts⟩ (c_X0_findShares l D cI cZ cJ s.heap.size h a0 a1 a2 a3 a4 a5 a6 a7 a8 a9 a10 f0 f1 f2 f3 f4 f5 f6 f7 f8 f9 f10 v0 v1 v2 v3 (f7 v1.toNatClampNeg)) (cwV 1 hts gX0_currentMatch_X0_findShares rfl rfl rfl (by decide +kernel) ⟨Nat.le_of_ble_eq_true rfl, Nat.le_of_ble_eq_true rfl⟩) ⟨zD_blind, va_recv hK hP (ci := 0) (q0 := 0) rfl rfl, fun U hU hW => ⟨rfl, zD_mk hP hK hD hU hW⟩⟩ rfl rfl hl.1 rfl (lv_room (Nat.le_of_ble_eq_true rfl)) dX0_currentMatch_12 ⟨Nat.le_of_ble_eq_true rfl, Nat.le_of_ble_eq_true rfl⟩) hS (fun q _ h => hFc q h) hFc (fun u1 t H1 locs ht hvm w1 hB hz1 hk1 hS => ?_)
  obtain ⟨hP1, hK1, hD1⟩ := hB
  rw [ht] at hP1
  generalize H1 = H at hP1 hS ⊢
  try dsimp only at w1
  have w1_0 := w1
  subst w1_0
  have hP : va_P D vwCl (wQ cI cZ h a0 a1 a2 a3 a4 a5 a6 a7 a8 a9 a10 f0 f1 f2 f3 f4 f5 f6 f7 f8 (q_fill (q_sh f0 (f7 v1.toNatClampNeg)) f9 8) f10 v0 v1 v2 v3) H := hP1
  have hD : va_D A (wQ cI cZ h a0 a1 a2 a3 a4 a5 a6 a7 a8 a9 a10 f0 f1 f2 f3 f4 f5 f6 f7 f8 (q_fill (q_sh f0 (f7 v1.toNatClampNeg)) f9 8) f10 v0 v1 v2 v3) := hD1.weaken (fun _ _ _ h => hFc _ h)
  refine lv_aload_n hx hb dX0_currentMatch_15 rfl (lv_at hl 1 rfl) ?_
  have hFc := va_free (wc := wQ cI cZ h a0 a1 a2 a3 a4 a5 a6 a7 a8 a9 a10 f0 f1 f2 f3 f4 f5 f6 f7 f8 (q_fill (q_sh f0 (f7 v1.toNatClampNeg)) f9 8) f10 v0 v1 v2 v3) hD hS hA [0, 1, 2, 3, 4, 5, 6, 7, 8, 9, 10, 11] rfl
  refine va_callv (va_runV (As := []) (rest := []) ⟨hx, hb, hml, hown, hts⟩ (c_X0_findRoots l D cI cZ cJ H.size h a0 a1 a2 a3 a4 a5 a6 a7 a8 a9 a10 f0 f1 f2 f3 f4 f5 f6 f7 f8 (q_fill (q_sh f0 (f7 v1.toNatClampNeg)) f9 8) f10 v0 v1 v2 v3 (fun w hw => by rw [z_partF]; exact hpb w hw)) (cwV 0 hts gX0_currentMatch_X0_findRoots rfl rfl rfl (by decide +kernel) ⟨Nat.le_of_ble_eq_true rfl, Nat.le_of_ble_eq_true rfl⟩) ⟨zD_blind, va_recv hK hP (ci := 0) (q0 := 0) rfl rfl, fun U hU hW => ⟨rfl, zD_mk hP hK hD hU hW⟩⟩ rfl rfl hl.1 rfl (lv_room (Nat.le_of_ble_eq_true rfl)) dX0_currentMatch_16 ⟨Nat.le_of_ble_eq_true rfl, Nat.le_of_ble_eq_true rfl⟩) hS (fun q _ h => hFc q h) hFc (fun u2 t H1 locs ht hvm w2 hB hz1 hk1 hS => ?_)
  obtain ⟨hP1, hK1, hD1⟩ := hB
  rw [ht] at hP1
  generalize H1 = H at hP1 hS ⊢
  try dsimp only at w2
  have w2_0 := w2
  subst w2_0
  have hP : va_P D vwCl (wQ cI cZ h a0 a1 a2 a3 a4 a5 a6 a7 a8 a9 a10 f0 f1 f2 f3 f4 f5 f6 f7 f8 (q_fill (q_sh f0 (f7 v1.toNatClampNeg)) f9 8) (q_fill (q_rts f5 (q_fill (q_sh f0 (f7 v1.toNatClampNeg)) f9 8)) f10 8) v0 v1 v2 v3) H := hP1
  have hD : va_D A (wQ cI cZ h a0 a1 a2 a3 a4 a5 a6 a7 a8 a9 a10 f0 f1 f2 f3 f4 f5 f6 f7 f8 (q_fill (q_sh f0 (f7 v1.toNatClampNeg)) f9 8) (q_fill (q_rts f5 (q_fill (q_sh f0 (f7 v1.toNatClampNeg)) f9 8)) f10 8) v0 v1 v2 v3) := hD1.weaken (fun _ _ _ h => hFc _ h)
  refine lv_aload_n hx hb dX0_currentMatch_19 rfl (lv_at hl 1 rfl) ?_
  refine lv_aload_n hx hb dX0_currentMatch_20 rfl (lv_at hl 1 rfl) ?_
  refine vp_callSi (W.runV (As := []) (rest := [.ref h]) ⟨hx, hb, hml, hown, hts⟩ (c_X0_squareOfSum l D cI cZ cJ h a0 a1 a2 a3 a4 a5 a6 a7 a8 a9 a10 f0 f1 f2 f3 f4 f5 f6 f7 f8 (q_fill (q_sh f0 (f7 v1.toNatClampNeg)) f9 8) (q_fill (q_rts f5 (q_fill (q_sh f0 (f7 v1.toNatClampNeg)) f9 8)) f10 8) v0 v1 v2 v3) (cwV 0 hts gX0_currentMatch_X0_squareOfSum rfl rfl rfl (by decide +kernel) ⟨Nat.le_of_ble_eq_true rfl, Nat.le_of_ble_eq_true rfl⟩) ⟨zP_blind, va_recv hK hP (ci := 0) (q0 := 0) rfl rfl, fun U hU hW => ⟨rfl, zP_mk hP hK hU hW⟩⟩ rfl rfl hl.1 rfl (lv_room (Nat.le_of_ble_eq_true rfl)) dX0_currentMatch_21 ⟨Nat.le_of_ble_eq_true rfl, Nat.le_of_ble_eq_true rfl⟩) (fun r3 w3 => ?_)
  subst w3
  refine lv_iload_n hx hb dX0_currentMatch_24 rfl (lv_at hl 0 rfl) ?_
  refine lv_isub hx hb dX0_currentMatch_25 ?_
  refine vp_callSi (W.runV (As := [.int ((q_sq (q_fill (q_rts f5 (q_fill (q_sh f0 (f7 v1.toNatClampNeg)) f9 8)) f10 8)) - (f7 v1.toNatClampNeg))]) (rest := []) ⟨hx, hb, hml, hown, hts⟩ (c_X0_withinPot l D cI cZ cJ h a0 a1 a2 a3 a4 a5 a6 a7 a8 a9 a10 f0 f1 f2 f3 f4 f5 f6 f7 f8 (q_fill (q_sh f0 (f7 v1.toNatClampNeg)) f9 8) (q_fill (q_rts f5 (q_fill (q_sh f0 (f7 v1.toNatClampNeg)) f9 8)) f10 8) v0 v1 v2 v3 ((q_sq (q_fill (q_rts f5 (q_fill (q_sh f0 (f7 v1.toNatClampNeg)) f9 8)) f10 8)) - (f7 v1.toNatClampNeg)) hp2) (cwV 1 hts gX0_currentMatch_X0_withinPot rfl rfl rfl (by decide +kernel) ⟨Nat.le_of_ble_eq_true rfl, Nat.le_of_ble_eq_true rfl⟩) ⟨zP_blind, va_recv hK hP (ci := 0) (q0 := 0) rfl rfl, fun U hU hW => ⟨rfl, zP_mk hP hK hU hW⟩⟩ rfl rfl hl.1 rfl (lv_room (Nat.le_of_ble_eq_true rfl)) dX0_currentMatch_26 ⟨Nat.le_of_ble_eq_true rfl, Nat.le_of_ble_eq_true rfl⟩) (fun r4 w4 => ?_)
  subst w4
  exact W.iret (v := q_won ((q_sq (q_fill (q_rts f5 (q_fill (q_sh f0 (f7 v1.toNatClampNeg)) f9 8)) f10 8)) - (f7 v1.toNatClampNeg)) v2) hx hb hr (fun t ht hW => ⟨⟨q_won ((q_sq (q_fill (q_rts f5 (q_fill (q_sh f0 (f7 v1.toNatClampNeg)) f9 8)) f10 8)) - (f7 v1.toNatClampNeg)) v2, ⟨(q_fill (q_sh f0 (f7 v1.toNatClampNeg)) f9 8), (q_fill (q_rts f5 (q_fill (q_sh f0 (f7 v1.toNatClampNeg)) f9 8)) f10 8)⟩, rfl, ⟨by rw [z_sqF, z_rtsF]; rfl, rfl, by rw [z_rtsF]⟩, ⟨by rw [ht]; exact hP, va_K.moved hW.alike hK, hD⟩⟩, hS.F ht⟩) hS.2.2 dX0_currentMatch_29
set_option maxHeartbeats 4000000 in
set_option maxRecDepth 100000 in
theorem c_X0_share (l : Launch) (D : va_G) (cI cZ cJ : ClassId) (sz : Nat) (h a0 a1 a2 a3 a4 a5 a6 a7 a8 a9 a10 : Nat) (f0 f1 f2 f3 f4 f5 f6 f7 f8 f9 f10 : Nat → Int32) (v0 v1 v2 v3 : Int32) (p0 : Int32) (hg : q_g p0 = true) (hb3 : 0 ≤ v1.toInt ∧ v1.toInt ≤ v0.toInt ∧ v0.toInt ≤ 6) (hc : q_cov f0 f7 v0 v1 = true) (hv1 : vp_in v1 6) : Met l yX0_share wsX0_share ({ frames := 3, cells := 0, slots := 0, locals := 62 }) (va_Pc [.ref h, .int p0] (zD D cI cZ cJ sz (wQ cI cZ h a0 a1 a2 a3 a4 a5 a6 a7 a8 a9 a10 f0 f1 f2 f3 f4 f5 f6 f7 f8 f9 f10 v0 v1 v2 v3))) (va_Qi (fun (r : Int32) (u : (Nat → Int32)) => r = q_sh f0 (f7 v1.toNatClampNeg) p0.toNatClampNeg ∧ u = q_fill (q_sh f0 (f7 v1.toNatClampNeg)) f9 8) (fun u t => zB D cI cZ cJ (va_A (wQ cI cZ h a0 a1 a2 a3 a4 a5 a6 a7 a8 a9 a10 f0 f1 f2 f3 f4 f5 f6 f7 f8 f9 f10 v0 v1 v2 v3) sz) (wQ cI cZ h a0 a1 a2 a3 a4 a5 a6 a7 a8 a9 a10 f0 f1 f2 f3 f4 f5 f6 f7 f8 u f10 v0 v1 v2 v3) t) (va_A (wQ cI cZ h a0 a1 a2 a3 a4 a5 a6 a7 a8 a9 a10 f0 f1 f2 f3 f4 f5 f6 f7 f8 f9 f10 v0 v1 v2 v3) sz)) 0 0 (va_A (wQ cI cZ h a0 a1 a2 a3 a4 a5 a6 a7 a8 a9 a10 f0 f1 f2 f3 f4 f5 f6 f7 f8 f9 f10 v0 v1 v2 v3) sz) := by
  refine Met.ofW (cc := cX0_share) (maxL := 2) (ret := (some .int)) (by decide) rfl ?_
  intro p e s m args below meth c s₁ B hml hv
  obtain ⟨rfl, hsz, hP, hK, hD0⟩ := hv
  have hx := B.exec
  have hb := B.bytes
  have hr := B.returns
  have hts := atoms_spec (ws := wsX0_share) B.pre
  have hown : s.vm.findClass RX0 = some m.cls := findClass_of_methodNamed B.named
  have hlocks := B.notSynchronized
  have hin : ∀ w ∈ wsX00, w ∈ wsX0_share := by decide +kernel
  subst hsz
  have hD := hD0.self (sz := s.heap.size)
  generalize hAe : va_A (wQ cI cZ h a0 a1 a2 a3 a4 a5 a6 a7 a8 a9 a10 f0 f1 f2 f3 f4 f5 f6 f7 f8 f9 f10 v0 v1 v2 v3) s.heap.size = A at hD ⊢
  have hA : ∀ q : Nat, s.heap.size ≤ q → A q := fun q h => by rw [← hAe]; exact Or.inr h
  have hS : va_S A s.heap s.heap [] := va_S.rf
  have hl := lv_entry ([.ref h, .int p0]) (n := 2) (Nat.le_of_ble_eq_true rfl)
  rw [lg_entry_eq]
  generalize (lg_sl ([.ref h, .int p0]) ++ List.replicate (2 - (lg_sl ([.ref h, .int p0])).length) Slot.unset).toArray = ls at hl ⊢
  have hl : lv_has ls 2 [(0, .ref h), (1, .int p0)] := hl
  refine lv_iload_n hx hb dX0_share_0 rfl (lv_at hl 1 rfl) ?_
  refine va_csv (W.runS (As := [.int p0]) (rest := []) ⟨hx, hb, hml, hown, hts⟩ (c_X0_requireGiver l p0 hg) (va_cwS 1 hts gX0_share_X0_requireGiver rfl rfl rfl (by decide +kernel) ⟨Nat.le_of_ble_eq_true rfl, Nat.le_of_ble_eq_true rfl⟩) ⟨zN_blind, fun U hU hW => ⟨rfl, trivial⟩⟩ rfl rfl hl.1 rfl (lv_room (Nat.le_of_ble_eq_true rfl)) dX0_share_1 ⟨Nat.le_of_ble_eq_true rfl, Nat.le_of_ble_eq_true rfl⟩) (fun w1 => ?_)
  refine lv_aload_n hx hb dX0_share_4 rfl (lv_at hl 0 rfl) ?_
  refine va_csv (W.runV (As := []) (rest := []) ⟨hx, hb, hml, hown, hts⟩ (c_X0_requireCovered l D cI cZ cJ h a0 a1 a2 a3 a4 a5 a6 a7 a8 a9 a10 f0 f1 f2 f3 f4 f5 f6 f7 f8 f9 f10 v0 v1 v2 v3 hb3 hc) (cwV 0 hts gX0_share_X0_requireCovered rfl rfl rfl (by decide +kernel) ⟨Nat.le_of_ble_eq_true rfl, Nat.le_of_ble_eq_true rfl⟩) ⟨zP_blind, va_recv hK hP (ci := 0) (q0 := 0) rfl rfl, fun U hU hW => ⟨rfl, zP_mk hP hK hU hW⟩⟩ rfl rfl hl.1 rfl (lv_room (Nat.le_of_ble_eq_true rfl)) dX0_share_5 ⟨Nat.le_of_ble_eq_true rfl, Nat.le_of_ble_eq_true rfl⟩) (fun w2 => ?_)
  refine lv_aload_n hx hb dX0_share_8 rfl (lv_at hl 0 rfl) ?_
  refine lv_aload_n hx hb dX0_share_9 rfl (lv_at hl 0 rfl) ?_
  refine va_get (D := D) (ci := 0) (v := .ref a7) (C := RX0) (T := TX0) (N := 15) hx hb hts hin hown hK hP 0 rfl rfl 7 (by decide) (hts (.fieldLink RX0 31 "Quorumfund" "amounts" "[I") (by decide +kernel)) (fun _ h9 => h9) rfl dX0_share_10 ?_
  refine lv_aload_n hx hb dX0_share_13 rfl (lv_at hl 0 rfl) ?_
  refine va_get (D := D) (ci := 0) (v := .int v1) (C := RX0) (T := TX0) (N := 15) hx hb hts hin hown hK hP 0 rfl rfl 10 (by decide) (hts (.fieldLink RX0 85 "Quorumfund" "released" "I") (by decide +kernel)) (fun _ h9 => h9) rfl dX0_share_14 ?_
  refine va_iald (D := D) hx hb hK hP 8 0 rfl rfl hv1 dX0_share_17 ?_
  have hFc := va_free (wc := wQ cI cZ h a0 a1 a2 a3 a4 a5 a6 a7 a8 a9 a10 f0 f1 f2 f3 f4 f5 f6 f7 f8 f9 f10 v0 v1 v2 v3) hD hS hA [0, 1, 2, 3, 4, 5, 6, 7, 8, 9, 10, 11] rfl
  refine va_callv (va_runV (As := [.int (f7 v1.toNatClampNeg)]) (rest := []) ⟨hx, hb, hml, hown, hts⟩ (c_X0_findShares l D cI cZ cJ s.heap.size h a0 a1 a2 a3 a4 a5 a6 a7 a8 a9 a10 f0 f1 f2 f3 f4 f5 f6 f7 f8 f9 f10 v0 v1 v2 v3 (f7 v1.toNatClampNeg)) (cwV 1 hts gX0_share_X0_findShares rfl rfl rfl (by decide +kernel) ⟨Nat.le_of_ble_eq_true rfl, Nat.le_of_ble_eq_true rfl⟩) ⟨zD_blind, va_recv hK hP (ci := 0) (q0 := 0) rfl rfl, fun U hU hW => ⟨rfl, zD_mk hP hK hD hU hW⟩⟩ rfl rfl hl.1 rfl (lv_room (Nat.le_of_ble_eq_true rfl)) dX0_share_18 ⟨Nat.le_of_ble_eq_true rfl, Nat.le_of_ble_eq_true rfl⟩) hS (fun q _ h => hFc q h) hFc (fun u3 t H1 locs ht hvm w3 hB hz1 hk1 hS => ?_)
  obtain ⟨hP1, hK1, hD1⟩ := hB
  rw [ht] at hP1
  generalize H1 = H at hP1 hS ⊢
  try dsimp only at w3
  have w3_0 := w3
  subst w3_0
  have hP : va_P D vwCl (wQ cI cZ h a0 a1 a2 a3 a4 a5 a6 a7 a8 a9 a10 f0 f1 f2 f3 f4 f5 f6 f7 f8 (q_fill (q_sh f0 (f7 v1.toNatClampNeg)) f9 8) f10 v0 v1 v2 v3) H := hP1
  have hD : va_D A (wQ cI cZ h a0 a1 a2 a3 a4 a5 a6 a7 a8 a9 a10 f0 f1 f2 f3 f4 f5 f6 f7 f8 (q_fill (q_sh f0 (f7 v1.toNatClampNeg)) f9 8) f10 v0 v1 v2 v3) := hD1.weaken (fun _ _ _ h => hFc _ h)
  refine lv_aload_n hx hb dX0_share_21 rfl (lv_at hl 0 rfl) ?_
  refine va_get (D := D) (ci := 0) (v := .ref a9) (C := RX0) (T := TX0) (N := 15) hx hb hts hin hown hK hP 0 rfl rfl 13 (by decide) (hts (.fieldLink RX0 38 "Quorumfund" "shares" "[I") (by decide +kernel)) (fun _ h9 => h9) rfl dX0_share_22 ?_
  refine lv_iload_n hx hb dX0_share_25 rfl (lv_at hl 1 rfl) ?_
  refine va_iald (D := D) hx hb hK hP 10 0 rfl rfl (q_g_in hg) dX0_share_26 ?_
  exact W.iret (v := (q_fill (q_sh f0 (f7 v1.toNatClampNeg)) f9 8) p0.toNatClampNeg) hx hb hr (fun t ht hW => ⟨⟨(q_fill (q_sh f0 (f7 v1.toNatClampNeg)) f9 8) p0.toNatClampNeg, (q_fill (q_sh f0 (f7 v1.toNatClampNeg)) f9 8), rfl, ⟨z_fill_lt (z_gN hg), rfl⟩, ⟨by rw [ht]; exact hP, va_K.moved hW.alike hK, hD⟩⟩, hS.F ht⟩) hS.2.2 dX0_share_27
set_option maxHeartbeats 4000000 in
set_option maxRecDepth 100000 in
theorem c_X0_share_t1 (l : Launch) (hl0 : l.stackTraces = false) (D : va_G) (cI cZ cJ : ClassId) (h a0 a1 a2 a3 a4 a5 a6 a7 a8 a9 a10 : Nat) (f0 f1 f2 f3 f4 f5 f6 f7 f8 f9 f10 : Nat → Int32) (v0 v1 v2 v3 : Int32) (p0 : Int32) (hg : q_g p0 = false) : vx_Met l yX0_share wsX0_share ({ frames := 7, cells := 1, slots := 6, locals := 110 }) (va_Pc [.ref h, .int p0] (zPX D cI cZ cJ (wQ cI cZ h a0 a1 a2 a3 a4 a5 a6 a7 a8 a9 a10 f0 f1 f2 f3 f4 f5 f6 f7 f8 f9 f10 v0 v1 v2 v3))) zNo (zXC (fun E => E = "java/lang/IndexOutOfBoundsException")) 1 6 (fun _ => False) := by
  refine vx_ofW (cc := cX0_share) (maxL := 2) (ret := (some .int)) (by decide) rfl ?_
  intro p e s m args below meth c s₁ B hml hout hv
  obtain ⟨rfl, hZ, hP, hK⟩ := hv
  have hx := B.exec
  have hb := B.bytes
  have hr := B.returns
  have hts := atoms_spec (ws := wsX0_share) B.pre
  have hown : s.vm.findClass RX0 = some m.cls := findClass_of_methodNamed B.named
  have hlocks := B.notSynchronized
  have hin : ∀ w ∈ wsX00, w ∈ wsX0_share := by decide +kernel
  have hl := lv_entry ([.ref h, .int p0]) (n := 2) (Nat.le_of_ble_eq_true rfl)
  rw [lg_entry_eq]
  generalize (lg_sl ([.ref h, .int p0]) ++ List.replicate (2 - (lg_sl ([.ref h, .int p0])).length) Slot.unset).toArray = ls at hl ⊢
  have hl : lv_has ls 2 [(0, .ref h), (1, .int p0)] := hl
  refine lv_iload_n hx hb dX0_share_0 rfl (lv_at hl 1 rfl) ?_
  exact z_thru (vx_runS (As := [.int p0]) (rest := []) ⟨hx, hb, hml, hown, hts⟩ (c_X0_requireGiver_t l hl0 p0 hg) (va_cwS 1 hts gX0_share_X0_requireGiver rfl rfl rfl (by decide +kernel) ⟨Nat.le_of_ble_eq_true rfl, Nat.le_of_ble_eq_true rfl⟩) ⟨zXs_blind, fun U hU hW => ⟨rfl, zX_at hZ hU hW⟩⟩ rfl rfl hl.1 rfl (lv_room (Nat.le_of_ble_eq_true rfl)) dX0_share_1 ⟨Nat.le_of_ble_eq_true rfl, Nat.le_of_ble_eq_true rfl⟩) (fun _ h => h) hout hlocks (fun _ h => h)
set_option maxHeartbeats 4000000 in
set_option maxRecDepth 100000 in
theorem c_X0_share_t2 (l : Launch) (hl0 : l.stackTraces = false) (D : va_G) (cI cZ cJ : ClassId) (h a0 a1 a2 a3 a4 a5 a6 a7 a8 a9 a10 : Nat) (f0 f1 f2 f3 f4 f5 f6 f7 f8 f9 f10 : Nat → Int32) (v0 v1 v2 v3 : Int32) (p0 : Int32) (hg : q_g p0 = true) (hb3 : 0 ≤ v1.toInt ∧ v1.toInt ≤ v0.toInt ∧ v0.toInt ≤ 6) (hc : q_cov f0 f7 v0 v1 = false) : vx_Met l yX0_share wsX0_share ({ frames := 7, cells := 1, slots := 6, locals := 110 }) (va_Pc [.ref h, .int p0] (zPX D cI cZ cJ (wQ cI cZ h a0 a1 a2 a3 a4 a5 a6 a7 a8 a9 a10 f0 f1 f2 f3 f4 f5 f6 f7 f8 f9 f10 v0 v1 v2 v3))) zNo (zXC (fun E => E = "java/util/NoSuchElementException")) 1 6 (fun _ => False) := by
  refine vx_ofW (cc := cX0_share) (maxL := 2) (ret := (some .int)) (by decide) rfl ?_
  intro p e s m args below meth c s₁ B hml hout hv
  obtain ⟨rfl, hZ, hP, hK⟩ := hv
  have hx := B.exec
  have hb := B.bytes
  have hr := B.returns
  have hts := atoms_spec (ws := wsX0_share) B.pre
  have hown : s.vm.findClass RX0 = some m.cls := findClass_of_methodNamed B.named
  have hlocks := B.notSynchronized
  have hin : ∀ w ∈ wsX00, w ∈ wsX0_share := by decide +kernel
  have hl := lv_entry ([.ref h, .int p0]) (n := 2) (Nat.le_of_ble_eq_true rfl)
  rw [lg_entry_eq]
  generalize (lg_sl ([.ref h, .int p0]) ++ List.replicate (2 - (lg_sl ([.ref h, .int p0])).length) Slot.unset).toArray = ls at hl ⊢
  have hl : lv_has ls 2 [(0, .ref h), (1, .int p0)] := hl
  refine lv_iload_n hx hb dX0_share_0 rfl (lv_at hl 1 rfl) ?_
  refine va_csv (W.runS (As := [.int p0]) (rest := []) ⟨hx, hb, hml, hown, hts⟩ (c_X0_requireGiver l p0 hg) (va_cwS 1 hts gX0_share_X0_requireGiver rfl rfl rfl (by decide +kernel) ⟨Nat.le_of_ble_eq_true rfl, Nat.le_of_ble_eq_true rfl⟩) ⟨zN_blind, fun U hU hW => ⟨rfl, trivial⟩⟩ rfl rfl hl.1 rfl (lv_room (Nat.le_of_ble_eq_true rfl)) dX0_share_1 ⟨Nat.le_of_ble_eq_true rfl, Nat.le_of_ble_eq_true rfl⟩) (fun w1 => ?_)
  refine lv_aload_n hx hb dX0_share_4 rfl (lv_at hl 0 rfl) ?_
  exact z_thru (vx_runV (As := []) (rest := []) ⟨hx, hb, hml, hown, hts⟩ (c_X0_requireCovered_t l hl0 D cI cZ cJ h a0 a1 a2 a3 a4 a5 a6 a7 a8 a9 a10 f0 f1 f2 f3 f4 f5 f6 f7 f8 f9 f10 v0 v1 v2 v3 hb3 hc) (cwV 0 hts gX0_share_X0_requireCovered rfl rfl rfl (by decide +kernel) ⟨Nat.le_of_ble_eq_true rfl, Nat.le_of_ble_eq_true rfl⟩) ⟨zPX_blind, va_recv hK hP (ci := 0) (q0 := 0) rfl rfl, fun U hU hW => ⟨rfl, zX_at hZ hU hW, zP_mk hP hK hU hW⟩⟩ rfl rfl hl.1 rfl (lv_room (Nat.le_of_ble_eq_true rfl)) dX0_share_5 ⟨Nat.le_of_ble_eq_true rfl, Nat.le_of_ble_eq_true rfl⟩) (fun _ h => h) hout hlocks (fun _ h => h)
set_option maxHeartbeats 4000000 in
set_option maxRecDepth 100000 in
theorem c_X0_match (l : Launch) (D : va_G) (cI cZ cJ : ClassId) (sz : Nat) (h a0 a1 a2 a3 a4 a5 a6 a7 a8 a9 a10 : Nat) (f0 f1 f2 f3 f4 f5 f6 f7 f8 f9 f10 : Nat → Int32) (v0 v1 v2 v3 : Int32) (hb3 : 0 ≤ v1.toInt ∧ v1.toInt ≤ v0.toInt ∧ v0.toInt ≤ 6) (hc : q_cov f0 f7 v0 v1 = true) (hv1 : vp_in v1 6) (hpb : ∀ w, w < 8 → 0 ≤ (q_part f5 (q_sh f0 (f7 v1.toNatClampNeg)) (nI w) 8).toInt ∧ (q_part f5 (q_sh f0 (f7 v1.toNatClampNeg)) (nI w) 8).toInt < 262144) (hp2 : ¬ v2 < 0) : Met l yX0_match wsX0_match ({ frames := 3, cells := 0, slots := 0, locals := 67 }) (va_Pc [.ref h] (zD D cI cZ cJ sz (wQ cI cZ h a0 a1 a2 a3 a4 a5 a6 a7 a8 a9 a10 f0 f1 f2 f3 f4 f5 f6 f7 f8 f9 f10 v0 v1 v2 v3))) (va_Qi (fun (r : Int32) (u : (Nat → Int32) × (Nat → Int32)) => r = q_mt f5 (q_sh f0 (f7 v1.toNatClampNeg)) (f7 v1.toNatClampNeg) v2 ∧ u.1 = q_fill (q_sh f0 (f7 v1.toNatClampNeg)) f9 8 ∧ u.2 = q_fill (q_rts f5 (q_sh f0 (f7 v1.toNatClampNeg))) f10 8) (fun u t => zB D cI cZ cJ (va_A (wQ cI cZ h a0 a1 a2 a3 a4 a5 a6 a7 a8 a9 a10 f0 f1 f2 f3 f4 f5 f6 f7 f8 f9 f10 v0 v1 v2 v3) sz) (wQ cI cZ h a0 a1 a2 a3 a4 a5 a6 a7 a8 a9 a10 f0 f1 f2 f3 f4 f5 f6 f7 f8 u.1 u.2 v0 v1 v2 v3) t) (va_A (wQ cI cZ h a0 a1 a2 a3 a4 a5 a6 a7 a8 a9 a10 f0 f1 f2 f3 f4 f5 f6 f7 f8 f9 f10 v0 v1 v2 v3) sz)) 0 0 (va_A (wQ cI cZ h a0 a1 a2 a3 a4 a5 a6 a7 a8 a9 a10 f0 f1 f2 f3 f4 f5 f6 f7 f8 f9 f10 v0 v1 v2 v3) sz) := by
  refine Met.ofW (cc := cX0_match) (maxL := 1) (ret := (some .int)) (by decide) rfl ?_
  intro p e s m args below meth c s₁ B hml hv
  obtain ⟨rfl, hsz, hP, hK, hD0⟩ := hv
  have hx := B.exec
  have hb := B.bytes
  have hr := B.returns
  have hts := atoms_spec (ws := wsX0_match) B.pre
  have hown : s.vm.findClass RX0 = some m.cls := findClass_of_methodNamed B.named
  have hlocks := B.notSynchronized
  subst hsz
  have hD := hD0.self (sz := s.heap.size)
  generalize hAe : va_A (wQ cI cZ h a0 a1 a2 a3 a4 a5 a6 a7 a8 a9 a10 f0 f1 f2 f3 f4 f5 f6 f7 f8 f9 f10 v0 v1 v2 v3) s.heap.size = A at hD ⊢
  have hA : ∀ q : Nat, s.heap.size ≤ q → A q := fun q h => by rw [← hAe]; exact Or.inr h
  have hS : va_S A s.heap s.heap [] := va_S.rf
  have hl := lv_entry ([.ref h]) (n := 1) (Nat.le_of_ble_eq_true rfl)
  rw [lg_entry_eq]
  generalize (lg_sl ([.ref h]) ++ List.replicate (1 - (lg_sl ([.ref h])).length) Slot.unset).toArray = ls at hl ⊢
  have hl : lv_has ls 1 [(0, .ref h)] := hl
  refine lv_aload_n hx hb dX0_match_0 rfl (lv_at hl 0 rfl) ?_
  refine va_csv (W.runV (As := []) (rest := []) ⟨hx, hb, hml, hown, hts⟩ (c_X0_requireCovered l D cI cZ cJ h a0 a1 a2 a3 a4 a5 a6 a7 a8 a9 a10 f0 f1 f2 f3 f4 f5 f6 f7 f8 f9 f10 v0 v1 v2 v3 hb3 hc) (cwV 0 hts gX0_match_X0_requireCovered rfl rfl rfl (by decide +kernel) ⟨Nat.le_of_ble_eq_true rfl, Nat.le_of_ble_eq_true rfl⟩) ⟨zP_blind, va_recv hK hP (ci := 0) (q0 := 0) rfl rfl, fun U hU hW => ⟨rfl, zP_mk hP hK hU hW⟩⟩ rfl rfl hl.1 rfl (lv_room (Nat.le_of_ble_eq_true rfl)) dX0_match_1 ⟨Nat.le_of_ble_eq_true rfl, Nat.le_of_ble_eq_true rfl⟩) (fun w1 => ?_)
  refine lv_aload_n hx hb dX0_match_4 rfl (lv_at hl 0 rfl) ?_
  have hFc := va_free (wc := wQ cI cZ h a0 a1 a2 a3 a4 a5 a6 a7 a8 a9 a10 f0 f1 f2 f3 f4 f5 f6 f7 f8 f9 f10 v0 v1 v2 v3) hD hS hA [0, 1, 2, 3, 4, 5, 6, 7, 8, 9, 10, 11] rfl
  refine va_calli (va_runV (As := []) (rest := []) ⟨hx, hb, hml, hown, hts⟩ (c_X0_currentMatch l D cI cZ cJ s.heap.size h a0 a1 a2 a3 a4 a5 a6 a7 a8 a9 a10 f0 f1 f2 f3 f4 f5 f6 f7 f8 f9 f10 v0 v1 v2 v3 hv1 hpb hp2) (cwV 0 hts gX0_match_X0_currentMatch rfl rfl rfl (by decide +kernel) ⟨Nat.le_of_ble_eq_true rfl, Nat.le_of_ble_eq_true rfl⟩) ⟨zD_blind, va_recv hK hP (ci := 0) (q0 := 0) rfl rfl, fun U hU hW => ⟨rfl, zD_mk hP hK hD hU hW⟩⟩ rfl rfl hl.1 rfl (lv_room (Nat.le_of_ble_eq_true rfl)) dX0_match_5 ⟨Nat.le_of_ble_eq_true rfl, Nat.le_of_ble_eq_true rfl⟩) hS (fun q _ h => hFc q h) hFc (fun r2 u2 t H1 locs ht hvm w2 hB hz1 hk1 hS => ?_)
  obtain ⟨u2_0, u2_1⟩ := u2
  obtain ⟨hP1, hK1, hD1⟩ := hB
  rw [ht] at hP1
  generalize H1 = H at hP1 hS ⊢
  try dsimp only at w2
  obtain ⟨w2_p, w2_0, w2_1⟩ := w2
  subst w2_0
  subst w2_1
  have hP : va_P D vwCl (wQ cI cZ h a0 a1 a2 a3 a4 a5 a6 a7 a8 a9 a10 f0 f1 f2 f3 f4 f5 f6 f7 f8 (q_fill (q_sh f0 (f7 v1.toNatClampNeg)) f9 8) (q_fill (q_rts f5 (q_sh f0 (f7 v1.toNatClampNeg))) f10 8) v0 v1 v2 v3) H := hP1
  have hD : va_D A (wQ cI cZ h a0 a1 a2 a3 a4 a5 a6 a7 a8 a9 a10 f0 f1 f2 f3 f4 f5 f6 f7 f8 (q_fill (q_sh f0 (f7 v1.toNatClampNeg)) f9 8) (q_fill (q_rts f5 (q_sh f0 (f7 v1.toNatClampNeg))) f10 8) v0 v1 v2 v3) := hD1.weaken (fun _ _ _ h => hFc _ h)
  exact W.iret (v := r2) hx hb hr (fun t ht hW => ⟨⟨r2, ⟨(q_fill (q_sh f0 (f7 v1.toNatClampNeg)) f9 8), (q_fill (q_rts f5 (q_sh f0 (f7 v1.toNatClampNeg))) f10 8)⟩, rfl, ⟨w2_p, rfl, rfl⟩, ⟨by rw [ht]; exact hP, va_K.moved hW.alike hK, hD⟩⟩, hS.F ht⟩) hS.2.2 dX0_match_8
set_option maxHeartbeats 4000000 in
set_option maxRecDepth 100000 in
theorem c_X0_match_t (l : Launch) (hl0 : l.stackTraces = false) (D : va_G) (cI cZ cJ : ClassId) (h a0 a1 a2 a3 a4 a5 a6 a7 a8 a9 a10 : Nat) (f0 f1 f2 f3 f4 f5 f6 f7 f8 f9 f10 : Nat → Int32) (v0 v1 v2 v3 : Int32) (hb3 : 0 ≤ v1.toInt ∧ v1.toInt ≤ v0.toInt ∧ v0.toInt ≤ 6) (hc : q_cov f0 f7 v0 v1 = false) : vx_Met l yX0_match wsX0_match ({ frames := 7, cells := 1, slots := 6, locals := 110 }) (va_Pc [.ref h] (zPX D cI cZ cJ (wQ cI cZ h a0 a1 a2 a3 a4 a5 a6 a7 a8 a9 a10 f0 f1 f2 f3 f4 f5 f6 f7 f8 f9 f10 v0 v1 v2 v3))) zNo (zXC (fun E => E = "java/util/NoSuchElementException")) 1 6 (fun _ => False) := by
  refine vx_ofW (cc := cX0_match) (maxL := 1) (ret := (some .int)) (by decide) rfl ?_
  intro p e s m args below meth c s₁ B hml hout hv
  obtain ⟨rfl, hZ, hP, hK⟩ := hv
  have hx := B.exec
  have hb := B.bytes
  have hr := B.returns
  have hts := atoms_spec (ws := wsX0_match) B.pre
  have hown : s.vm.findClass RX0 = some m.cls := findClass_of_methodNamed B.named
  have hlocks := B.notSynchronized
  have hl := lv_entry ([.ref h]) (n := 1) (Nat.le_of_ble_eq_true rfl)
  rw [lg_entry_eq]
  generalize (lg_sl ([.ref h]) ++ List.replicate (1 - (lg_sl ([.ref h])).length) Slot.unset).toArray = ls at hl ⊢
  have hl : lv_has ls 1 [(0, .ref h)] := hl
  refine lv_aload_n hx hb dX0_match_0 rfl (lv_at hl 0 rfl) ?_
  exact z_thru (vx_runV (As := []) (rest := []) ⟨hx, hb, hml, hown, hts⟩ (c_X0_requireCovered_t l hl0 D cI cZ cJ h a0 a1 a2 a3 a4 a5 a6 a7 a8 a9 a10 f0 f1 f2 f3 f4 f5 f6 f7 f8 f9 f10 v0 v1 v2 v3 hb3 hc) (cwV 0 hts gX0_match_X0_requireCovered rfl rfl rfl (by decide +kernel) ⟨Nat.le_of_ble_eq_true rfl, Nat.le_of_ble_eq_true rfl⟩) ⟨zPX_blind, va_recv hK hP (ci := 0) (q0 := 0) rfl rfl, fun U hU hW => ⟨rfl, zX_at hZ hU hW, zP_mk hP hK hU hW⟩⟩ rfl rfl hl.1 rfl (lv_room (Nat.le_of_ble_eq_true rfl)) dX0_match_1 ⟨Nat.le_of_ble_eq_true rfl, Nat.le_of_ble_eq_true rfl⟩) (fun _ h => h) hout hlocks (fun _ h => h)
set_option maxHeartbeats 4000000 in
set_option maxRecDepth 100000 in
theorem c_X0_matchByPairs (l : Launch) (D : va_G) (cI cZ cJ : ClassId) (sz : Nat) (h a0 a1 a2 a3 a4 a5 a6 a7 a8 a9 a10 : Nat) (f0 f1 f2 f3 f4 f5 f6 f7 f8 f9 f10 : Nat → Int32) (v0 v1 v2 v3 : Int32) (hb3 : 0 ≤ v1.toInt ∧ v1.toInt ≤ v0.toInt ∧ v0.toInt ≤ 6) (hc : q_cov f0 f7 v0 v1 = true) (hv1 : vp_in v1 6) (hpb : ∀ w, w < 8 → 0 ≤ (q_part f5 (q_sh f0 (f7 v1.toNatClampNeg)) (nI w) 8).toInt ∧ (q_part f5 (q_sh f0 (f7 v1.toNatClampNeg)) (nI w) 8).toInt < 262144) (hp2 : ¬ v2 < 0) : Met l yX0_matchByPairs wsX0_matchByPairs ({ frames := 3, cells := 0, slots := 0, locals := 62 }) (va_Pc [.ref h] (zD D cI cZ cJ sz (wQ cI cZ h a0 a1 a2 a3 a4 a5 a6 a7 a8 a9 a10 f0 f1 f2 f3 f4 f5 f6 f7 f8 f9 f10 v0 v1 v2 v3))) (va_Qi (fun (r : Int32) (u : (Nat → Int32) × (Nat → Int32)) => r = q_mt f5 (q_sh f0 (f7 v1.toNatClampNeg)) (f7 v1.toNatClampNeg) v2 ∧ u.1 = q_fill (q_sh f0 (f7 v1.toNatClampNeg)) f9 8 ∧ u.2 = q_fill (q_rts f5 (q_sh f0 (f7 v1.toNatClampNeg))) f10 8) (fun u t => zB D cI cZ cJ (va_A (wQ cI cZ h a0 a1 a2 a3 a4 a5 a6 a7 a8 a9 a10 f0 f1 f2 f3 f4 f5 f6 f7 f8 f9 f10 v0 v1 v2 v3) sz) (wQ cI cZ h a0 a1 a2 a3 a4 a5 a6 a7 a8 a9 a10 f0 f1 f2 f3 f4 f5 f6 f7 f8 u.1 u.2 v0 v1 v2 v3) t) (va_A (wQ cI cZ h a0 a1 a2 a3 a4 a5 a6 a7 a8 a9 a10 f0 f1 f2 f3 f4 f5 f6 f7 f8 f9 f10 v0 v1 v2 v3) sz)) 0 0 (va_A (wQ cI cZ h a0 a1 a2 a3 a4 a5 a6 a7 a8 a9 a10 f0 f1 f2 f3 f4 f5 f6 f7 f8 f9 f10 v0 v1 v2 v3) sz) := by
  refine Met.ofW (cc := cX0_matchByPairs) (maxL := 2) (ret := (some .int)) (by decide) rfl ?_
  intro p e s m args below meth c s₁ B hml hv
  obtain ⟨rfl, hsz, hP, hK, hD0⟩ := hv
  have hx := B.exec
  have hb := B.bytes
  have hr := B.returns
  have hts := atoms_spec (ws := wsX0_matchByPairs) B.pre
  have hown : s.vm.findClass RX0 = some m.cls := findClass_of_methodNamed B.named
  have hlocks := B.notSynchronized
  have hin : ∀ w ∈ wsX00, w ∈ wsX0_matchByPairs := by decide +kernel
  subst hsz
  have hD := hD0.self (sz := s.heap.size)
  generalize hAe : va_A (wQ cI cZ h a0 a1 a2 a3 a4 a5 a6 a7 a8 a9 a10 f0 f1 f2 f3 f4 f5 f6 f7 f8 f9 f10 v0 v1 v2 v3) s.heap.size = A at hD ⊢
  have hA : ∀ q : Nat, s.heap.size ≤ q → A q := fun q h => by rw [← hAe]; exact Or.inr h
  have hS : va_S A s.heap s.heap [] := va_S.rf
  have hl := lv_entry ([.ref h]) (n := 2) (Nat.le_of_ble_eq_true rfl)
  rw [lg_entry_eq]
  generalize (lg_sl ([.ref h]) ++ List.replicate (2 - (lg_sl ([.ref h])).length) Slot.unset).toArray = ls at hl ⊢
  have hl : lv_has ls 2 [(0, .ref h)] := hl
  refine lv_aload_n hx hb dX0_matchByPairs_0 rfl (lv_at hl 0 rfl) ?_
  refine va_csv (W.runV (As := []) (rest := []) ⟨hx, hb, hml, hown, hts⟩ (c_X0_requireCovered l D cI cZ cJ h a0 a1 a2 a3 a4 a5 a6 a7 a8 a9 a10 f0 f1 f2 f3 f4 f5 f6 f7 f8 f9 f10 v0 v1 v2 v3 hb3 hc) (cwV 0 hts gX0_matchByPairs_X0_requireCovered rfl rfl rfl (by decide +kernel) ⟨Nat.le_of_ble_eq_true rfl, Nat.le_of_ble_eq_true rfl⟩) ⟨zP_blind, va_recv hK hP (ci := 0) (q0 := 0) rfl rfl, fun U hU hW => ⟨rfl, zP_mk hP hK hU hW⟩⟩ rfl rfl hl.1 rfl (lv_room (Nat.le_of_ble_eq_true rfl)) dX0_matchByPairs_1 ⟨Nat.le_of_ble_eq_true rfl, Nat.le_of_ble_eq_true rfl⟩) (fun w1 => ?_)
  refine lv_aload_n hx hb dX0_matchByPairs_4 rfl (lv_at hl 0 rfl) ?_
  refine va_get (D := D) (ci := 0) (v := .ref a7) (C := RX0) (T := TX0) (N := 15) hx hb hts hin hown hK hP 0 rfl rfl 7 (by decide) (hts (.fieldLink RX0 31 "Quorumfund" "amounts" "[I") (by decide +kernel)) (fun _ h9 => h9) rfl dX0_matchByPairs_5 ?_
  refine lv_aload_n hx hb dX0_matchByPairs_8 rfl (lv_at hl 0 rfl) ?_
  refine va_get (D := D) (ci := 0) (v := .int v1) (C := RX0) (T := TX0) (N := 15) hx hb hts hin hown hK hP 0 rfl rfl 10 (by decide) (hts (.fieldLink RX0 85 "Quorumfund" "released" "I") (by decide +kernel)) (fun _ h9 => h9) rfl dX0_matchByPairs_9 ?_
  refine va_iald (D := D) hx hb hK hP 8 0 rfl rfl hv1 dX0_matchByPairs_12 ?_
  refine lv_istore_n (lv' := [(1, .int (f7 v1.toNatClampNeg)), (0, .ref h)]) hx hb dX0_matchByPairs_13 rfl hl (by decide) rfl (fun ls hl => ?_)
  refine lv_aload_n hx hb dX0_matchByPairs_14 rfl (lv_at hl 1 rfl) ?_
  refine lv_iload_n hx hb dX0_matchByPairs_15 rfl (lv_at hl 0 rfl) ?_
  have hFc := va_free (wc := wQ cI cZ h a0 a1 a2 a3 a4 a5 a6 a7 a8 a9 a10 f0 f1 f2 f3 f4 f5 f6 f7 f8 f9 f10 v0 v1 v2 v3) hD hS hA [0, 1, 2, 3, 4, 5, 6, 7, 8, 9, 10, 11] rfl
  refine va_callv (va_runV (As := [.int (f7 v1.toNatClampNeg)]) (rest := []) ⟨hx, hb, hml, hown, hts⟩ (c_X0_findShares l D cI cZ cJ s.heap.size h a0 a1 a2 a3 a4 a5 a6 a7 a8 a9 a10 f0 f1 f2 f3 f4 f5 f6 f7 f8 f9 f10 v0 v1 v2 v3 (f7 v1.toNatClampNeg)) (cwV 1 hts gX0_matchByPairs_X0_findShares rfl rfl rfl (by decide +kernel) ⟨Nat.le_of_ble_eq_true rfl, Nat.le_of_ble_eq_true rfl⟩) ⟨zD_blind, va_recv hK hP (ci := 0) (q0 := 0) rfl rfl, fun U hU hW => ⟨rfl, zD_mk hP hK hD hU hW⟩⟩ rfl rfl hl.1 rfl (lv_room (Nat.le_of_ble_eq_true rfl)) dX0_matchByPairs_16 ⟨Nat.le_of_ble_eq_true rfl, Nat.le_of_ble_eq_true rfl⟩) hS (fun q _ h => hFc q h) hFc (fun u2 t H1 locs ht hvm w2 hB hz1 hk1 hS => ?_)
  obtain ⟨hP1, hK1, hD1⟩ := hB
  rw [ht] at hP1
  generalize H1 = H at hP1 hS ⊢
  try dsimp only at w2
  have w2_0 := w2
  subst w2_0
  have hP : va_P D vwCl (wQ cI cZ h a0 a1 a2 a3 a4 a5 a6 a7 a8 a9 a10 f0 f1 f2 f3 f4 f5 f6 f7 f8 (q_fill (q_sh f0 (f7 v1.toNatClampNeg)) f9 8) f10 v0 v1 v2 v3) H := hP1
  have hD : va_D A (wQ cI cZ h a0 a1 a2 a3 a4 a5 a6 a7 a8 a9 a10 f0 f1 f2 f3 f4 f5 f6 f7 f8 (q_fill (q_sh f0 (f7 v1.toNatClampNeg)) f9 8) f10 v0 v1 v2 v3) := hD1.weaken (fun _ _ _ h => hFc _ h)
  refine lv_aload_n hx hb dX0_matchByPairs_19 rfl (lv_at hl 1 rfl) ?_
  have hFc := va_free (wc := wQ cI cZ h a0 a1 a2 a3 a4 a5 a6 a7 a8 a9 a10 f0 f1 f2 f3 f4 f5 f6 f7 f8 (q_fill (q_sh f0 (f7 v1.toNatClampNeg)) f9 8) f10 v0 v1 v2 v3) hD hS hA [0, 1, 2, 3, 4, 5, 6, 7, 8, 9, 10, 11] rfl
  refine va_callv (va_runV (As := []) (rest := []) ⟨hx, hb, hml, hown, hts⟩ (c_X0_findRoots l D cI cZ cJ H.size h a0 a1 a2 a3 a4 a5 a6 a7 a8 a9 a10 f0 f1 f2 f3 f4 f5 f6 f7 f8 (q_fill (q_sh f0 (f7 v1.toNatClampNeg)) f9 8) f10 v0 v1 v2 v3 (fun w hw => by rw [z_partF]; exact hpb w hw)) (cwV 0 hts gX0_matchByPairs_X0_findRoots rfl rfl rfl (by decide +kernel) ⟨Nat.le_of_ble_eq_true rfl, Nat.le_of_ble_eq_true rfl⟩) ⟨zD_blind, va_recv hK hP (ci := 0) (q0 := 0) rfl rfl, fun U hU hW => ⟨rfl, zD_mk hP hK hD hU hW⟩⟩ rfl rfl hl.1 rfl (lv_room (Nat.le_of_ble_eq_true rfl)) dX0_matchByPairs_20 ⟨Nat.le_of_ble_eq_true rfl, Nat.le_of_ble_eq_true rfl⟩) hS (fun q _ h => hFc q h) hFc (fun u3 t H1 locs ht hvm w3 hB hz1 hk1 hS => ?_)
  obtain ⟨hP1, hK1, hD1⟩ := hB
  rw [ht] at hP1
  generalize H1 = H at hP1 hS ⊢
  try dsimp only at w3
  have w3_0 := w3
  subst w3_0
  have hP : va_P D vwCl (wQ cI cZ h a0 a1 a2 a3 a4 a5 a6 a7 a8 a9 a10 f0 f1 f2 f3 f4 f5 f6 f7 f8 (q_fill (q_sh f0 (f7 v1.toNatClampNeg)) f9 8) (q_fill (q_rts f5 (q_fill (q_sh f0 (f7 v1.toNatClampNeg)) f9 8)) f10 8) v0 v1 v2 v3) H := hP1
  have hD : va_D A (wQ cI cZ h a0 a1 a2 a3 a4 a5 a6 a7 a8 a9 a10 f0 f1 f2 f3 f4 f5 f6 f7 f8 (q_fill (q_sh f0 (f7 v1.toNatClampNeg)) f9 8) (q_fill (q_rts f5 (q_fill (q_sh f0 (f7 v1.toNatClampNeg)) f9 8)) f10 8) v0 v1 v2 v3) := hD1.weaken (fun _ _ _ h => hFc _ h)
  refine lv_aload_n hx hb dX0_matchByPairs_23 rfl (lv_at hl 1 rfl) ?_
  refine lv_aload_n hx hb dX0_matchByPairs_24 rfl (lv_at hl 1 rfl) ?_
  refine vp_callSi (W.runV (As := []) (rest := [.ref h]) ⟨hx, hb, hml, hown, hts⟩ (c_X0_squareByPairs l D cI cZ cJ h a0 a1 a2 a3 a4 a5 a6 a7 a8 a9 a10 f0 f1 f2 f3 f4 f5 f6 f7 f8 (q_fill (q_sh f0 (f7 v1.toNatClampNeg)) f9 8) (q_fill (q_rts f5 (q_fill (q_sh f0 (f7 v1.toNatClampNeg)) f9 8)) f10 8) v0 v1 v2 v3) (cwV 0 hts gX0_matchByPairs_X0_squareByPairs rfl rfl rfl (by decide +kernel) ⟨Nat.le_of_ble_eq_true rfl, Nat.le_of_ble_eq_true rfl⟩) ⟨zP_blind, va_recv hK hP (ci := 0) (q0 := 0) rfl rfl, fun U hU hW => ⟨rfl, zP_mk hP hK hU hW⟩⟩ rfl rfl hl.1 rfl (lv_room (Nat.le_of_ble_eq_true rfl)) dX0_matchByPairs_25 ⟨Nat.le_of_ble_eq_true rfl, Nat.le_of_ble_eq_true rfl⟩) (fun r4 w4 => ?_)
  subst w4
  refine lv_iload_n hx hb dX0_matchByPairs_28 rfl (lv_at hl 0 rfl) ?_
  refine lv_isub hx hb dX0_matchByPairs_29 ?_
  refine vp_callSi (W.runV (As := [.int ((q_sq (q_fill (q_rts f5 (q_fill (q_sh f0 (f7 v1.toNatClampNeg)) f9 8)) f10 8)) - (f7 v1.toNatClampNeg))]) (rest := []) ⟨hx, hb, hml, hown, hts⟩ (c_X0_withinPot l D cI cZ cJ h a0 a1 a2 a3 a4 a5 a6 a7 a8 a9 a10 f0 f1 f2 f3 f4 f5 f6 f7 f8 (q_fill (q_sh f0 (f7 v1.toNatClampNeg)) f9 8) (q_fill (q_rts f5 (q_fill (q_sh f0 (f7 v1.toNatClampNeg)) f9 8)) f10 8) v0 v1 v2 v3 ((q_sq (q_fill (q_rts f5 (q_fill (q_sh f0 (f7 v1.toNatClampNeg)) f9 8)) f10 8)) - (f7 v1.toNatClampNeg)) hp2) (cwV 1 hts gX0_matchByPairs_X0_withinPot rfl rfl rfl (by decide +kernel) ⟨Nat.le_of_ble_eq_true rfl, Nat.le_of_ble_eq_true rfl⟩) ⟨zP_blind, va_recv hK hP (ci := 0) (q0 := 0) rfl rfl, fun U hU hW => ⟨rfl, zP_mk hP hK hU hW⟩⟩ rfl rfl hl.1 rfl (lv_room (Nat.le_of_ble_eq_true rfl)) dX0_matchByPairs_30 ⟨Nat.le_of_ble_eq_true rfl, Nat.le_of_ble_eq_true rfl⟩) (fun r5 w5 => ?_)
  subst w5
  exact W.iret (v := q_won ((q_sq (q_fill (q_rts f5 (q_fill (q_sh f0 (f7 v1.toNatClampNeg)) f9 8)) f10 8)) - (f7 v1.toNatClampNeg)) v2) hx hb hr (fun t ht hW => ⟨⟨q_won ((q_sq (q_fill (q_rts f5 (q_fill (q_sh f0 (f7 v1.toNatClampNeg)) f9 8)) f10 8)) - (f7 v1.toNatClampNeg)) v2, ⟨(q_fill (q_sh f0 (f7 v1.toNatClampNeg)) f9 8), (q_fill (q_rts f5 (q_fill (q_sh f0 (f7 v1.toNatClampNeg)) f9 8)) f10 8)⟩, rfl, ⟨by rw [z_sqF, z_rtsF]; rfl, rfl, by rw [z_rtsF]⟩, ⟨by rw [ht]; exact hP, va_K.moved hW.alike hK, hD⟩⟩, hS.F ht⟩) hS.2.2 dX0_matchByPairs_33
set_option maxHeartbeats 4000000 in
set_option maxRecDepth 100000 in
theorem c_X0_matchByPairs_t (l : Launch) (hl0 : l.stackTraces = false) (D : va_G) (cI cZ cJ : ClassId) (h a0 a1 a2 a3 a4 a5 a6 a7 a8 a9 a10 : Nat) (f0 f1 f2 f3 f4 f5 f6 f7 f8 f9 f10 : Nat → Int32) (v0 v1 v2 v3 : Int32) (hb3 : 0 ≤ v1.toInt ∧ v1.toInt ≤ v0.toInt ∧ v0.toInt ≤ 6) (hc : q_cov f0 f7 v0 v1 = false) : vx_Met l yX0_matchByPairs wsX0_matchByPairs ({ frames := 7, cells := 1, slots := 6, locals := 110 }) (va_Pc [.ref h] (zPX D cI cZ cJ (wQ cI cZ h a0 a1 a2 a3 a4 a5 a6 a7 a8 a9 a10 f0 f1 f2 f3 f4 f5 f6 f7 f8 f9 f10 v0 v1 v2 v3))) zNo (zXC (fun E => E = "java/util/NoSuchElementException")) 1 6 (fun _ => False) := by
  refine vx_ofW (cc := cX0_matchByPairs) (maxL := 2) (ret := (some .int)) (by decide) rfl ?_
  intro p e s m args below meth c s₁ B hml hout hv
  obtain ⟨rfl, hZ, hP, hK⟩ := hv
  have hx := B.exec
  have hb := B.bytes
  have hr := B.returns
  have hts := atoms_spec (ws := wsX0_matchByPairs) B.pre
  have hown : s.vm.findClass RX0 = some m.cls := findClass_of_methodNamed B.named
  have hlocks := B.notSynchronized
  have hin : ∀ w ∈ wsX00, w ∈ wsX0_matchByPairs := by decide +kernel
  have hl := lv_entry ([.ref h]) (n := 2) (Nat.le_of_ble_eq_true rfl)
  rw [lg_entry_eq]
  generalize (lg_sl ([.ref h]) ++ List.replicate (2 - (lg_sl ([.ref h])).length) Slot.unset).toArray = ls at hl ⊢
  have hl : lv_has ls 2 [(0, .ref h)] := hl
  refine lv_aload_n hx hb dX0_matchByPairs_0 rfl (lv_at hl 0 rfl) ?_
  exact z_thru (vx_runV (As := []) (rest := []) ⟨hx, hb, hml, hown, hts⟩ (c_X0_requireCovered_t l hl0 D cI cZ cJ h a0 a1 a2 a3 a4 a5 a6 a7 a8 a9 a10 f0 f1 f2 f3 f4 f5 f6 f7 f8 f9 f10 v0 v1 v2 v3 hb3 hc) (cwV 0 hts gX0_matchByPairs_X0_requireCovered rfl rfl rfl (by decide +kernel) ⟨Nat.le_of_ble_eq_true rfl, Nat.le_of_ble_eq_true rfl⟩) ⟨zPX_blind, va_recv hK hP (ci := 0) (q0 := 0) rfl rfl, fun U hU hW => ⟨rfl, zX_at hZ hU hW, zP_mk hP hK hU hW⟩⟩ rfl rfl hl.1 rfl (lv_room (Nat.le_of_ble_eq_true rfl)) dX0_matchByPairs_1 ⟨Nat.le_of_ble_eq_true rfl, Nat.le_of_ble_eq_true rfl⟩) (fun _ h => h) hout hlocks (fun _ h => h)
set_option maxHeartbeats 4000000 in
set_option maxRecDepth 100000 in
theorem c_X0_release (l : Launch) (D : va_G) (cI cZ cJ : ClassId) (sz : Nat) (h a0 a1 a2 a3 a4 a5 a6 a7 a8 a9 a10 : Nat) (f0 f1 f2 f3 f4 f5 f6 f7 f8 f9 f10 : Nat → Int32) (v0 v1 v2 v3 : Int32) (hb3 : 0 ≤ v1.toInt ∧ v1.toInt ≤ v0.toInt ∧ v0.toInt ≤ 6) (hc : q_cov f0 f7 v0 v1 = true) (hv1 : vp_in v1 6) (hpb : ∀ w, w < 8 → 0 ≤ (q_part f5 (q_sh f0 (f7 v1.toNatClampNeg)) (nI w) 8).toInt ∧ (q_part f5 (q_sh f0 (f7 v1.toNatClampNeg)) (nI w) 8).toInt < 262144) (hp2 : ¬ v2 < 0) (hpf : ¬ f8 v1.toNatClampNeg = 0) (hk : q_sum f0 8 < 2 * q_wt f0 f4 f6 1 8) : Met l yX0_release wsX0_release ({ frames := 4, cells := 0, slots := 0, locals := 88 }) (va_Pc [.ref h] (zD D cI cZ cJ sz (wQ cI cZ h a0 a1 a2 a3 a4 a5 a6 a7 a8 a9 a10 f0 f1 f2 f3 f4 f5 f6 f7 f8 f9 f10 v0 v1 v2 v3))) (va_Qi (fun (r : Int32) (u : (Nat → Int32) × (Nat → Int32) × (Nat → Int32) × Int32 × Int32 × Int32 × (Nat → Int32) × (Nat → Int32)) => r = (f7 v1.toNatClampNeg) + q_mt f5 (q_sh f0 (f7 v1.toNatClampNeg)) (f7 v1.toNatClampNeg) v2 ∧ u.1 = q_fill (fun n => f0 n - q_sh f0 (f7 v1.toNatClampNeg) n) f0 8 ∧ u.2.1 = q_fill (fun n => f3 n + q_sh f0 (f7 v1.toNatClampNeg) n) f3 8 ∧ u.2.2.1 = q_fill (fun _ => 0) f6 8 ∧ u.2.2.2.1 = v1 + 1 ∧ u.2.2.2.2.1 = v2 - q_mt f5 (q_sh f0 (f7 v1.toNatClampNeg)) (f7 v1.toNatClampNeg) v2 ∧ u.2.2.2.2.2.1 = v3 + ((f7 v1.toNatClampNeg) + q_mt f5 (q_sh f0 (f7 v1.toNatClampNeg)) (f7 v1.toNatClampNeg) v2) ∧ u.2.2.2.2.2.2.1 = q_fill (q_sh f0 (f7 v1.toNatClampNeg)) f9 8 ∧ u.2.2.2.2.2.2.2 = q_fill (q_rts f5 (q_sh f0 (f7 v1.toNatClampNeg))) f10 8) (fun u t => zB D cI cZ cJ (va_A (wQ cI cZ h a0 a1 a2 a3 a4 a5 a6 a7 a8 a9 a10 f0 f1 f2 f3 f4 f5 f6 f7 f8 f9 f10 v0 v1 v2 v3) sz) (wQ cI cZ h a0 a1 a2 a3 a4 a5 a6 a7 a8 a9 a10 u.1 f1 f2 u.2.1 f4 f5 u.2.2.1 f7 f8 u.2.2.2.2.2.2.1 u.2.2.2.2.2.2.2 v0 u.2.2.2.1 u.2.2.2.2.1 u.2.2.2.2.2.1) t) (va_A (wQ cI cZ h a0 a1 a2 a3 a4 a5 a6 a7 a8 a9 a10 f0 f1 f2 f3 f4 f5 f6 f7 f8 f9 f10 v0 v1 v2 v3) sz)) 0 0 (va_A (wQ cI cZ h a0 a1 a2 a3 a4 a5 a6 a7 a8 a9 a10 f0 f1 f2 f3 f4 f5 f6 f7 f8 f9 f10 v0 v1 v2 v3) sz) := by
  refine Met.ofW (cc := cX0_release) (maxL := 3) (ret := (some .int)) (by decide) rfl ?_
  intro p e s m args below meth c s₁ B hml hv
  obtain ⟨rfl, hsz, hP, hK, hD0⟩ := hv
  have hx := B.exec
  have hb := B.bytes
  have hr := B.returns
  have hts := atoms_spec (ws := wsX0_release) B.pre
  have hown : s.vm.findClass RX0 = some m.cls := findClass_of_methodNamed B.named
  have hlocks := B.notSynchronized
  have hin : ∀ w ∈ wsX00, w ∈ wsX0_release := by decide +kernel
  subst hsz
  have hD := hD0.self (sz := s.heap.size)
  generalize hAe : va_A (wQ cI cZ h a0 a1 a2 a3 a4 a5 a6 a7 a8 a9 a10 f0 f1 f2 f3 f4 f5 f6 f7 f8 f9 f10 v0 v1 v2 v3) s.heap.size = A at hD ⊢
  have hA : ∀ q : Nat, s.heap.size ≤ q → A q := fun q h => by rw [← hAe]; exact Or.inr h
  have hS : va_S A s.heap s.heap [] := va_S.rf
  have hl := lv_entry ([.ref h]) (n := 3) (Nat.le_of_ble_eq_true rfl)
  rw [lg_entry_eq]
  generalize (lg_sl ([.ref h]) ++ List.replicate (3 - (lg_sl ([.ref h])).length) Slot.unset).toArray = ls at hl ⊢
  have hl : lv_has ls 3 [(0, .ref h)] := hl
  refine lv_aload_n hx hb dX0_release_0 rfl (lv_at hl 0 rfl) ?_
  refine vp_callSi (W.runV (As := []) (rest := []) ⟨hx, hb, hml, hown, hts⟩ (c_X0_isCovered l D cI cZ cJ h a0 a1 a2 a3 a4 a5 a6 a7 a8 a9 a10 f0 f1 f2 f3 f4 f5 f6 f7 f8 f9 f10 v0 v1 v2 v3 hb3) (cwV 0 hts gX0_release_X0_isCovered rfl rfl rfl (by decide +kernel) ⟨Nat.le_of_ble_eq_true rfl, Nat.le_of_ble_eq_true rfl⟩) ⟨zP_blind, va_recv hK hP (ci := 0) (q0 := 0) rfl rfl, fun U hU hW => ⟨rfl, zP_mk hP hK hU hW⟩⟩ rfl rfl hl.1 rfl (lv_room (Nat.le_of_ble_eq_true rfl)) dX0_release_1 ⟨Nat.le_of_ble_eq_true rfl, Nat.le_of_ble_eq_true rfl⟩) (fun r1 w1 => ?_)
  have w1 : r1 = 1 := by rw [w1, hc]; rfl
  subst w1
  refine lv_if_eq (tgt := 19) hx hb dX0_release_4 (by decide) (fun c9 => False.elim (by revert c9; decide)) (fun _ => ?_)
  refine lv_aload_n hx hb dX0_release_7 rfl (lv_at hl 0 rfl) ?_
  refine va_get (D := D) (ci := 0) (v := .ref a8) (C := RX0) (T := TX0) (N := 15) hx hb hts hin hown hK hP 0 rfl rfl 8 (by decide) (hts (.fieldLink RX0 34 "Quorumfund" "proofs" "[Z") (by decide +kernel)) (fun _ h9 => h9) rfl dX0_release_8 ?_
  refine lv_aload_n hx hb dX0_release_11 rfl (lv_at hl 0 rfl) ?_
  refine va_get (D := D) (ci := 0) (v := .int v1) (C := RX0) (T := TX0) (N := 15) hx hb hts hin hown hK hP 0 rfl rfl 10 (by decide) (hts (.fieldLink RX0 85 "Quorumfund" "released" "I") (by decide +kernel)) (fun _ h9 => h9) rfl dX0_release_12 ?_
  refine va_zald (D := D) hx hb hK hP 9 1 rfl rfl hv1 dX0_release_15 ?_
  refine lv_if_ne (tgt := 29) hx hb dX0_release_16 (by decide) (fun c3 => ?_) (fun c3 => False.elim (by exact hpf c3))
  refine lv_iconst (v := 2) hx hb dX0_release_29 (by decide) ?_
  refine lv_aload_n hx hb dX0_release_30 rfl (lv_at hl 0 rfl) ?_
  refine lv_iconst (v := 1) hx hb dX0_release_31 (by decide) ?_
  refine vp_callSi (W.runV (As := [.int 1]) (rest := [.int 2]) ⟨hx, hb, hml, hown, hts⟩ (c_X0_weight l D cI cZ cJ h a0 a1 a2 a3 a4 a5 a6 a7 a8 a9 a10 f0 f1 f2 f3 f4 f5 f6 f7 f8 f9 f10 v0 v1 v2 v3 1 (by decide)) (cwV 1 hts gX0_release_X0_weight rfl rfl rfl (by decide +kernel) ⟨Nat.le_of_ble_eq_true rfl, Nat.le_of_ble_eq_true rfl⟩) ⟨zP_blind, va_recv hK hP (ci := 0) (q0 := 0) rfl rfl, fun U hU hW => ⟨rfl, zP_mk hP hK hU hW⟩⟩ rfl rfl hl.1 rfl (lv_room (Nat.le_of_ble_eq_true rfl)) dX0_release_32 ⟨Nat.le_of_ble_eq_true rfl, Nat.le_of_ble_eq_true rfl⟩) (fun r4 w4 => ?_)
  subst w4
  refine lv_imul hx hb dX0_release_35 ?_
  refine lv_aload_n hx hb dX0_release_36 rfl (lv_at hl 0 rfl) ?_
  refine vp_callSi (W.runV (As := []) (rest := [.int (2 * (q_wt f0 f4 f6 1 8))]) ⟨hx, hb, hml, hown, hts⟩ (c_X0_total l D cI cZ cJ h a0 a1 a2 a3 a4 a5 a6 a7 a8 a9 a10 f0 f1 f2 f3 f4 f5 f6 f7 f8 f9 f10 v0 v1 v2 v3) (cwV 0 hts gX0_release_X0_total rfl rfl rfl (by decide +kernel) ⟨Nat.le_of_ble_eq_true rfl, Nat.le_of_ble_eq_true rfl⟩) ⟨zP_blind, va_recv hK hP (ci := 0) (q0 := 0) rfl rfl, fun U hU hW => ⟨rfl, zP_mk hP hK hU hW⟩⟩ rfl rfl hl.1 rfl (lv_room (Nat.le_of_ble_eq_true rfl)) dX0_release_37 ⟨Nat.le_of_ble_eq_true rfl, Nat.le_of_ble_eq_true rfl⟩) (fun r5 w5 => ?_)
  subst w5
  refine lv_icmp_gt (tgt := 53) hx hb dX0_release_40 (by decide) (fun c6 => ?_) (fun c6 => False.elim (by exact c6 hk))
  refine lv_aload_n hx hb dX0_release_53 rfl (lv_at hl 0 rfl) ?_
  refine va_get (D := D) (ci := 0) (v := .ref a7) (C := RX0) (T := TX0) (N := 15) hx hb hts hin hown hK hP 0 rfl rfl 7 (by decide) (hts (.fieldLink RX0 31 "Quorumfund" "amounts" "[I") (by decide +kernel)) (fun _ h9 => h9) rfl dX0_release_54 ?_
  refine lv_aload_n hx hb dX0_release_57 rfl (lv_at hl 0 rfl) ?_
  refine va_get (D := D) (ci := 0) (v := .int v1) (C := RX0) (T := TX0) (N := 15) hx hb hts hin hown hK hP 0 rfl rfl 10 (by decide) (hts (.fieldLink RX0 85 "Quorumfund" "released" "I") (by decide +kernel)) (fun _ h9 => h9) rfl dX0_release_58 ?_
  refine va_iald (D := D) hx hb hK hP 8 0 rfl rfl hv1 dX0_release_61 ?_
  refine lv_istore_n (lv' := [(1, .int (f7 v1.toNatClampNeg)), (0, .ref h)]) hx hb dX0_release_62 rfl hl (by decide) rfl (fun ls hl => ?_)
  refine lv_aload_n hx hb dX0_release_63 rfl (lv_at hl 1 rfl) ?_
  have hFc := va_free (wc := wQ cI cZ h a0 a1 a2 a3 a4 a5 a6 a7 a8 a9 a10 f0 f1 f2 f3 f4 f5 f6 f7 f8 f9 f10 v0 v1 v2 v3) hD hS hA [0, 1, 2, 3, 4, 5, 6, 7, 8, 9, 10, 11] rfl
  refine va_calli (va_runV (As := []) (rest := []) ⟨hx, hb, hml, hown, hts⟩ (c_X0_currentMatch l D cI cZ cJ s.heap.size h a0 a1 a2 a3 a4 a5 a6 a7 a8 a9 a10 f0 f1 f2 f3 f4 f5 f6 f7 f8 f9 f10 v0 v1 v2 v3 hv1 hpb hp2) (cwV 0 hts gX0_release_X0_currentMatch rfl rfl rfl (by decide +kernel) ⟨Nat.le_of_ble_eq_true rfl, Nat.le_of_ble_eq_true rfl⟩) ⟨zD_blind, va_recv hK hP (ci := 0) (q0 := 0) rfl rfl, fun U hU hW => ⟨rfl, zD_mk hP hK hD hU hW⟩⟩ rfl rfl hl.1 rfl (lv_room (Nat.le_of_ble_eq_true rfl)) dX0_release_64 ⟨Nat.le_of_ble_eq_true rfl, Nat.le_of_ble_eq_true rfl⟩) hS (fun q _ h => hFc q h) hFc (fun r7 u7 t H1 locs ht hvm w7 hB hz1 hk1 hS => ?_)
  obtain ⟨u7_0, u7_1⟩ := u7
  obtain ⟨hP1, hK1, hD1⟩ := hB
  rw [ht] at hP1
  generalize H1 = H at hP1 hS ⊢
  try dsimp only at w7
  obtain ⟨w7_p, w7_0, w7_1⟩ := w7
  subst w7_0
  subst w7_1
  have hP : va_P D vwCl (wQ cI cZ h a0 a1 a2 a3 a4 a5 a6 a7 a8 a9 a10 f0 f1 f2 f3 f4 f5 f6 f7 f8 (q_fill (q_sh f0 (f7 v1.toNatClampNeg)) f9 8) (q_fill (q_rts f5 (q_sh f0 (f7 v1.toNatClampNeg))) f10 8) v0 v1 v2 v3) H := hP1
  have hD : va_D A (wQ cI cZ h a0 a1 a2 a3 a4 a5 a6 a7 a8 a9 a10 f0 f1 f2 f3 f4 f5 f6 f7 f8 (q_fill (q_sh f0 (f7 v1.toNatClampNeg)) f9 8) (q_fill (q_rts f5 (q_sh f0 (f7 v1.toNatClampNeg))) f10 8) v0 v1 v2 v3) := hD1.weaken (fun _ _ _ h => hFc _ h)
  subst w7_p
  refine lv_istore_n (lv' := [(2, .int (q_mt f5 (q_sh f0 (f7 v1.toNatClampNeg)) (f7 v1.toNatClampNeg) v2)), (1, .int (f7 v1.toNatClampNeg)), (0, .ref h)]) hx hb dX0_release_67 rfl hl (by decide) rfl (fun ls hl => ?_)
  refine lv_aload_n hx hb dX0_release_68 rfl (lv_at hl 2 rfl) ?_
  have hFc := va_free (wc := wQ cI cZ h a0 a1 a2 a3 a4 a5 a6 a7 a8 a9 a10 f0 f1 f2 f3 f4 f5 f6 f7 f8 (q_fill (q_sh f0 (f7 v1.toNatClampNeg)) f9 8) (q_fill (q_rts f5 (q_sh f0 (f7 v1.toNatClampNeg))) f10 8) v0 v1 v2 v3) hD hS hA [0, 1, 2, 3, 4, 5, 6, 7, 8, 9, 10, 11] rfl
  refine va_callv (va_runV (As := []) (rest := []) ⟨hx, hb, hml, hown, hts⟩ (c_X0_payShares l D cI cZ cJ H.size h a0 a1 a2 a3 a4 a5 a6 a7 a8 a9 a10 f0 f1 f2 f3 f4 f5 f6 f7 f8 (q_fill (q_sh f0 (f7 v1.toNatClampNeg)) f9 8) (q_fill (q_rts f5 (q_sh f0 (f7 v1.toNatClampNeg))) f10 8) v0 v1 v2 v3) (cwV 0 hts gX0_release_X0_payShares rfl rfl rfl (by decide +kernel) ⟨Nat.le_of_ble_eq_true rfl, Nat.le_of_ble_eq_true rfl⟩) ⟨zD_blind, va_recv hK hP (ci := 0) (q0 := 0) rfl rfl, fun U hU hW => ⟨rfl, zD_mk hP hK hD hU hW⟩⟩ rfl rfl hl.1 rfl (lv_room (Nat.le_of_ble_eq_true rfl)) dX0_release_69 ⟨Nat.le_of_ble_eq_true rfl, Nat.le_of_ble_eq_true rfl⟩) hS (fun q _ h => hFc q h) hFc (fun u8 t H1 locs ht hvm w8 hB hz1 hk1 hS => ?_)
  obtain ⟨u8_0, u8_1⟩ := u8
  obtain ⟨hP1, hK1, hD1⟩ := hB
  rw [ht] at hP1
  generalize H1 = H at hP1 hS ⊢
  try dsimp only at w8
  obtain ⟨w8_0, w8_1⟩ := w8
  subst w8_0
  subst w8_1
  have hP : va_P D vwCl (wQ cI cZ h a0 a1 a2 a3 a4 a5 a6 a7 a8 a9 a10 (q_fill (fun n => f0 n - (q_fill (q_sh f0 (f7 v1.toNatClampNeg)) f9 8) n) f0 8) f1 f2 (q_fill (fun n => f3 n + (q_fill (q_sh f0 (f7 v1.toNatClampNeg)) f9 8) n) f3 8) f4 f5 f6 f7 f8 (q_fill (q_sh f0 (f7 v1.toNatClampNeg)) f9 8) (q_fill (q_rts f5 (q_sh f0 (f7 v1.toNatClampNeg))) f10 8) v0 v1 v2 v3) H := hP1
  have hD : va_D A (wQ cI cZ h a0 a1 a2 a3 a4 a5 a6 a7 a8 a9 a10 (q_fill (fun n => f0 n - (q_fill (q_sh f0 (f7 v1.toNatClampNeg)) f9 8) n) f0 8) f1 f2 (q_fill (fun n => f3 n + (q_fill (q_sh f0 (f7 v1.toNatClampNeg)) f9 8) n) f3 8) f4 f5 f6 f7 f8 (q_fill (q_sh f0 (f7 v1.toNatClampNeg)) f9 8) (q_fill (q_rts f5 (q_sh f0 (f7 v1.toNatClampNeg))) f10 8) v0 v1 v2 v3) := hD1.weaken (fun _ _ _ h => hFc _ h)
  refine lv_aload_n hx hb dX0_release_72 rfl (lv_at hl 2 rfl) ?_
  refine lv_dup hx hb dX0_release_73 rfl ?_
  refine va_get (D := D) (ci := 0) (v := .int v2) (C := RX0) (T := TX0) (N := 15) hx hb hts hin hown hK hP 0 rfl rfl 11 (by decide) (hts (.fieldLink RX0 71 "Quorumfund" "potMoney" "I") (by decide +kernel)) (fun _ h9 => h9) rfl dX0_release_74 ?_
  refine lv_iload_n hx hb dX0_release_77 rfl (lv_at hl 0 rfl) ?_
  refine lv_isub hx hb dX0_release_78 ?_
  refine va_put (D := D) (ci := 0) (v := .int (v2 - (q_mt f5 (q_sh f0 (f7 v1.toNatClampNeg)) (f7 v1.toNatClampNeg) v2))) (ty := .int) (C := RX0) (T := TX0) (N := 15) hx hb hts hin tyX0 tyX0_ok nmX0 hown hK hP hD hS 0 rfl rfl 11 (by decide) (hts (.fieldLink RX0 71 "Quorumfund" "potMoney" "I") (by decide +kernel)) (fun _ h9 => h9) rfl (by decide +kernel) rfl rfl (Nat.le_of_ble_eq_true rfl) dX0_release_79 (fun H locs hP hD hS => ?_)
  have hP : va_P D vwCl (wQ cI cZ h a0 a1 a2 a3 a4 a5 a6 a7 a8 a9 a10 (q_fill (fun n => f0 n - (q_fill (q_sh f0 (f7 v1.toNatClampNeg)) f9 8) n) f0 8) f1 f2 (q_fill (fun n => f3 n + (q_fill (q_sh f0 (f7 v1.toNatClampNeg)) f9 8) n) f3 8) f4 f5 f6 f7 f8 (q_fill (q_sh f0 (f7 v1.toNatClampNeg)) f9 8) (q_fill (q_rts f5 (q_sh f0 (f7 v1.toNatClampNeg))) f10 8) v0 v1 (v2 - (q_mt f5 (q_sh f0 (f7 v1.toNatClampNeg)) (f7 v1.toNatClampNeg) v2)) v3) H := hP
  have hD : va_D A (wQ cI cZ h a0 a1 a2 a3 a4 a5 a6 a7 a8 a9 a10 (q_fill (fun n => f0 n - (q_fill (q_sh f0 (f7 v1.toNatClampNeg)) f9 8) n) f0 8) f1 f2 (q_fill (fun n => f3 n + (q_fill (q_sh f0 (f7 v1.toNatClampNeg)) f9 8) n) f3 8) f4 f5 f6 f7 f8 (q_fill (q_sh f0 (f7 v1.toNatClampNeg)) f9 8) (q_fill (q_rts f5 (q_sh f0 (f7 v1.toNatClampNeg))) f10 8) v0 v1 (v2 - (q_mt f5 (q_sh f0 (f7 v1.toNatClampNeg)) (f7 v1.toNatClampNeg) v2)) v3) := hD
  refine lv_aload_n hx hb dX0_release_82 rfl (lv_at hl 2 rfl) ?_
  refine lv_dup hx hb dX0_release_83 rfl ?_
  refine va_get (D := D) (ci := 0) (v := .int v3) (C := RX0) (T := TX0) (N := 15) hx hb hts hin hown hK hP 0 rfl rfl 12 (by decide) (hts (.fieldLink RX0 145 "Quorumfund" "outMoney" "I") (by decide +kernel)) (fun _ h9 => h9) rfl dX0_release_84 ?_
  refine lv_iload_n hx hb dX0_release_87 rfl (lv_at hl 1 rfl) ?_
  refine lv_iload_n hx hb dX0_release_88 rfl (lv_at hl 0 rfl) ?_
  refine lv_iadd hx hb dX0_release_89 ?_
  refine lv_iadd hx hb dX0_release_90 ?_
  refine va_put (D := D) (ci := 0) (v := .int (v3 + ((f7 v1.toNatClampNeg) + (q_mt f5 (q_sh f0 (f7 v1.toNatClampNeg)) (f7 v1.toNatClampNeg) v2)))) (ty := .int) (C := RX0) (T := TX0) (N := 15) hx hb hts hin tyX0 tyX0_ok nmX0 hown hK hP hD hS 0 rfl rfl 12 (by decide) (hts (.fieldLink RX0 145 "Quorumfund" "outMoney" "I") (by decide +kernel)) (fun _ h9 => h9) rfl (by decide +kernel) rfl rfl (Nat.le_of_ble_eq_true rfl) dX0_release_91 (fun H locs hP hD hS => ?_)
  have hP : va_P D vwCl (wQ cI cZ h a0 a1 a2 a3 a4 a5 a6 a7 a8 a9 a10 (q_fill (fun n => f0 n - (q_fill (q_sh f0 (f7 v1.toNatClampNeg)) f9 8) n) f0 8) f1 f2 (q_fill (fun n => f3 n + (q_fill (q_sh f0 (f7 v1.toNatClampNeg)) f9 8) n) f3 8) f4 f5 f6 f7 f8 (q_fill (q_sh f0 (f7 v1.toNatClampNeg)) f9 8) (q_fill (q_rts f5 (q_sh f0 (f7 v1.toNatClampNeg))) f10 8) v0 v1 (v2 - (q_mt f5 (q_sh f0 (f7 v1.toNatClampNeg)) (f7 v1.toNatClampNeg) v2)) (v3 + ((f7 v1.toNatClampNeg) + (q_mt f5 (q_sh f0 (f7 v1.toNatClampNeg)) (f7 v1.toNatClampNeg) v2)))) H := hP
  have hD : va_D A (wQ cI cZ h a0 a1 a2 a3 a4 a5 a6 a7 a8 a9 a10 (q_fill (fun n => f0 n - (q_fill (q_sh f0 (f7 v1.toNatClampNeg)) f9 8) n) f0 8) f1 f2 (q_fill (fun n => f3 n + (q_fill (q_sh f0 (f7 v1.toNatClampNeg)) f9 8) n) f3 8) f4 f5 f6 f7 f8 (q_fill (q_sh f0 (f7 v1.toNatClampNeg)) f9 8) (q_fill (q_rts f5 (q_sh f0 (f7 v1.toNatClampNeg))) f10 8) v0 v1 (v2 - (q_mt f5 (q_sh f0 (f7 v1.toNatClampNeg)) (f7 v1.toNatClampNeg) v2)) (v3 + ((f7 v1.toNatClampNeg) + (q_mt f5 (q_sh f0 (f7 v1.toNatClampNeg)) (f7 v1.toNatClampNeg) v2)))) := hD
  refine lv_aload_n hx hb dX0_release_94 rfl (lv_at hl 2 rfl) ?_
  refine lv_dup hx hb dX0_release_95 rfl ?_
  refine va_get (D := D) (ci := 0) (v := .int v1) (C := RX0) (T := TX0) (N := 15) hx hb hts hin hown hK hP 0 rfl rfl 10 (by decide) (hts (.fieldLink RX0 85 "Quorumfund" "released" "I") (by decide +kernel)) (fun _ h9 => h9) rfl dX0_release_96 ?_
  refine lv_iconst (v := 1) hx hb dX0_release_99 (by decide) ?_
  refine lv_iadd hx hb dX0_release_100 ?_
  refine va_put (D := D) (ci := 0) (v := .int (v1 + 1)) (ty := .int) (C := RX0) (T := TX0) (N := 15) hx hb hts hin tyX0 tyX0_ok nmX0 hown hK hP hD hS 0 rfl rfl 10 (by decide) (hts (.fieldLink RX0 85 "Quorumfund" "released" "I") (by decide +kernel)) (fun _ h9 => h9) rfl (by decide +kernel) rfl rfl (Nat.le_of_ble_eq_true rfl) dX0_release_101 (fun H locs hP hD hS => ?_)
  have hP : va_P D vwCl (wQ cI cZ h a0 a1 a2 a3 a4 a5 a6 a7 a8 a9 a10 (q_fill (fun n => f0 n - (q_fill (q_sh f0 (f7 v1.toNatClampNeg)) f9 8) n) f0 8) f1 f2 (q_fill (fun n => f3 n + (q_fill (q_sh f0 (f7 v1.toNatClampNeg)) f9 8) n) f3 8) f4 f5 f6 f7 f8 (q_fill (q_sh f0 (f7 v1.toNatClampNeg)) f9 8) (q_fill (q_rts f5 (q_sh f0 (f7 v1.toNatClampNeg))) f10 8) v0 (v1 + 1) (v2 - (q_mt f5 (q_sh f0 (f7 v1.toNatClampNeg)) (f7 v1.toNatClampNeg) v2)) (v3 + ((f7 v1.toNatClampNeg) + (q_mt f5 (q_sh f0 (f7 v1.toNatClampNeg)) (f7 v1.toNatClampNeg) v2)))) H := hP
  have hD : va_D A (wQ cI cZ h a0 a1 a2 a3 a4 a5 a6 a7 a8 a9 a10 (q_fill (fun n => f0 n - (q_fill (q_sh f0 (f7 v1.toNatClampNeg)) f9 8) n) f0 8) f1 f2 (q_fill (fun n => f3 n + (q_fill (q_sh f0 (f7 v1.toNatClampNeg)) f9 8) n) f3 8) f4 f5 f6 f7 f8 (q_fill (q_sh f0 (f7 v1.toNatClampNeg)) f9 8) (q_fill (q_rts f5 (q_sh f0 (f7 v1.toNatClampNeg))) f10 8) v0 (v1 + 1) (v2 - (q_mt f5 (q_sh f0 (f7 v1.toNatClampNeg)) (f7 v1.toNatClampNeg) v2)) (v3 + ((f7 v1.toNatClampNeg) + (q_mt f5 (q_sh f0 (f7 v1.toNatClampNeg)) (f7 v1.toNatClampNeg) v2)))) := hD
  refine lv_aload_n hx hb dX0_release_104 rfl (lv_at hl 2 rfl) ?_
  have hFc := va_free (wc := wQ cI cZ h a0 a1 a2 a3 a4 a5 a6 a7 a8 a9 a10 (q_fill (fun n => f0 n - (q_fill (q_sh f0 (f7 v1.toNatClampNeg)) f9 8) n) f0 8) f1 f2 (q_fill (fun n => f3 n + (q_fill (q_sh f0 (f7 v1.toNatClampNeg)) f9 8) n) f3 8) f4 f5 f6 f7 f8 (q_fill (q_sh f0 (f7 v1.toNatClampNeg)) f9 8) (q_fill (q_rts f5 (q_sh f0 (f7 v1.toNatClampNeg))) f10 8) v0 (v1 + 1) (v2 - (q_mt f5 (q_sh f0 (f7 v1.toNatClampNeg)) (f7 v1.toNatClampNeg) v2)) (v3 + ((f7 v1.toNatClampNeg) + (q_mt f5 (q_sh f0 (f7 v1.toNatClampNeg)) (f7 v1.toNatClampNeg) v2)))) hD hS hA [0, 1, 2, 3, 4, 5, 6, 7, 8, 9, 10, 11] rfl
  refine va_callv (va_runV (As := []) (rest := []) ⟨hx, hb, hml, hown, hts⟩ (c_X0_clearVotes l D cI cZ cJ H.size h a0 a1 a2 a3 a4 a5 a6 a7 a8 a9 a10 (q_fill (fun n => f0 n - (q_fill (q_sh f0 (f7 v1.toNatClampNeg)) f9 8) n) f0 8) f1 f2 (q_fill (fun n => f3 n + (q_fill (q_sh f0 (f7 v1.toNatClampNeg)) f9 8) n) f3 8) f4 f5 f6 f7 f8 (q_fill (q_sh f0 (f7 v1.toNatClampNeg)) f9 8) (q_fill (q_rts f5 (q_sh f0 (f7 v1.toNatClampNeg))) f10 8) v0 (v1 + 1) (v2 - (q_mt f5 (q_sh f0 (f7 v1.toNatClampNeg)) (f7 v1.toNatClampNeg) v2)) (v3 + ((f7 v1.toNatClampNeg) + (q_mt f5 (q_sh f0 (f7 v1.toNatClampNeg)) (f7 v1.toNatClampNeg) v2)))) (cwV 0 hts gX0_release_X0_clearVotes rfl rfl rfl (by decide +kernel) ⟨Nat.le_of_ble_eq_true rfl, Nat.le_of_ble_eq_true rfl⟩) ⟨zD_blind, va_recv hK hP (ci := 0) (q0 := 0) rfl rfl, fun U hU hW => ⟨rfl, zD_mk hP hK hD hU hW⟩⟩ rfl rfl hl.1 rfl (lv_room (Nat.le_of_ble_eq_true rfl)) dX0_release_105 ⟨Nat.le_of_ble_eq_true rfl, Nat.le_of_ble_eq_true rfl⟩) hS (fun q _ h => hFc q h) hFc (fun u9 t H1 locs ht hvm w9 hB hz1 hk1 hS => ?_)
  obtain ⟨hP1, hK1, hD1⟩ := hB
  rw [ht] at hP1
  generalize H1 = H at hP1 hS ⊢
  try dsimp only at w9
  have w9_0 := w9
  subst w9_0
  have hP : va_P D vwCl (wQ cI cZ h a0 a1 a2 a3 a4 a5 a6 a7 a8 a9 a10 (q_fill (fun n => f0 n - (q_fill (q_sh f0 (f7 v1.toNatClampNeg)) f9 8) n) f0 8) f1 f2 (q_fill (fun n => f3 n + (q_fill (q_sh f0 (f7 v1.toNatClampNeg)) f9 8) n) f3 8) f4 f5 (q_fill (fun _ => 0) f6 8) f7 f8 (q_fill (q_sh f0 (f7 v1.toNatClampNeg)) f9 8) (q_fill (q_rts f5 (q_sh f0 (f7 v1.toNatClampNeg))) f10 8) v0 (v1 + 1) (v2 - (q_mt f5 (q_sh f0 (f7 v1.toNatClampNeg)) (f7 v1.toNatClampNeg) v2)) (v3 + ((f7 v1.toNatClampNeg) + (q_mt f5 (q_sh f0 (f7 v1.toNatClampNeg)) (f7 v1.toNatClampNeg) v2)))) H := hP1
  have hD : va_D A (wQ cI cZ h a0 a1 a2 a3 a4 a5 a6 a7 a8 a9 a10 (q_fill (fun n => f0 n - (q_fill (q_sh f0 (f7 v1.toNatClampNeg)) f9 8) n) f0 8) f1 f2 (q_fill (fun n => f3 n + (q_fill (q_sh f0 (f7 v1.toNatClampNeg)) f9 8) n) f3 8) f4 f5 (q_fill (fun _ => 0) f6 8) f7 f8 (q_fill (q_sh f0 (f7 v1.toNatClampNeg)) f9 8) (q_fill (q_rts f5 (q_sh f0 (f7 v1.toNatClampNeg))) f10 8) v0 (v1 + 1) (v2 - (q_mt f5 (q_sh f0 (f7 v1.toNatClampNeg)) (f7 v1.toNatClampNeg) v2)) (v3 + ((f7 v1.toNatClampNeg) + (q_mt f5 (q_sh f0 (f7 v1.toNatClampNeg)) (f7 v1.toNatClampNeg) v2)))) := hD1.weaken (fun _ _ _ h => hFc _ h)
  refine lv_iload_n hx hb dX0_release_108 rfl (lv_at hl 1 rfl) ?_
  refine lv_iload_n hx hb dX0_release_109 rfl (lv_at hl 0 rfl) ?_
  refine lv_iadd hx hb dX0_release_110 ?_
  exact W.iret (v := (f7 v1.toNatClampNeg) + (q_mt f5 (q_sh f0 (f7 v1.toNatClampNeg)) (f7 v1.toNatClampNeg) v2)) hx hb hr (fun t ht hW => ⟨⟨(f7 v1.toNatClampNeg) + (q_mt f5 (q_sh f0 (f7 v1.toNatClampNeg)) (f7 v1.toNatClampNeg) v2), ⟨(q_fill (fun n => f0 n - (q_fill (q_sh f0 (f7 v1.toNatClampNeg)) f9 8) n) f0 8), (q_fill (fun n => f3 n + (q_fill (q_sh f0 (f7 v1.toNatClampNeg)) f9 8) n) f3 8), (q_fill (fun _ => 0) f6 8), (v1 + 1), (v2 - (q_mt f5 (q_sh f0 (f7 v1.toNatClampNeg)) (f7 v1.toNatClampNeg) v2)), (v3 + ((f7 v1.toNatClampNeg) + (q_mt f5 (q_sh f0 (f7 v1.toNatClampNeg)) (f7 v1.toNatClampNeg) v2))), (q_fill (q_sh f0 (f7 v1.toNatClampNeg)) f9 8), (q_fill (q_rts f5 (q_sh f0 (f7 v1.toNatClampNeg))) f10 8)⟩, rfl, ⟨rfl, z_fill_ext (fun k hk9 => by rw [z_fill_lt hk9]), z_fill_ext (fun k hk9 => by rw [z_fill_lt hk9]), rfl, rfl, rfl, rfl, rfl, rfl⟩, ⟨by rw [ht]; exact hP, va_K.moved hW.alike hK, hD⟩⟩, hS.F ht⟩) hS.2.2 dX0_release_111
set_option maxHeartbeats 4000000 in
set_option maxRecDepth 100000 in
theorem c_X0_release_t (l : Launch) (hl0 : l.stackTraces = false) (D : va_G) (cI cZ cJ : ClassId) (h a0 a1 a2 a3 a4 a5 a6 a7 a8 a9 a10 : Nat) (f0 f1 f2 f3 f4 f5 f6 f7 f8 f9 f10 : Nat → Int32) (v0 v1 v2 v3 : Int32) (hb3 : 0 ≤ v1.toInt ∧ v1.toInt ≤ v0.toInt ∧ v0.toInt ≤ 6) (hk : ¬ (q_cov f0 f7 v0 v1 = true ∧ ¬ f8 v1.toNatClampNeg = 0 ∧ q_sum f0 8 < 2 * q_wt f0 f4 f6 1 8)) : vx_Met l yX0_release wsX0_release ({ frames := 6, cells := 1, slots := 6, locals := 90 }) (va_Pc [.ref h] (zPX D cI cZ cJ (wQ cI cZ h a0 a1 a2 a3 a4 a5 a6 a7 a8 a9 a10 f0 f1 f2 f3 f4 f5 f6 f7 f8 f9 f10 v0 v1 v2 v3))) zNo (zXC (fun E => E = "java/lang/IllegalStateException")) 1 6 (fun _ => False) := by
  refine vx_ofW (cc := cX0_release) (maxL := 3) (ret := (some .int)) (by decide) rfl ?_
  intro p e s m args below meth c s₁ B hml hout hv
  obtain ⟨rfl, hZ, hP, hK⟩ := hv
  have hx := B.exec
  have hb := B.bytes
  have hr := B.returns
  have hts := atoms_spec (ws := wsX0_release) B.pre
  have hown : s.vm.findClass RX0 = some m.cls := findClass_of_methodNamed B.named
  have hlocks := B.notSynchronized
  have hin : ∀ w ∈ wsX00, w ∈ wsX0_release := by decide +kernel
  have hl := lv_entry ([.ref h]) (n := 3) (Nat.le_of_ble_eq_true rfl)
  rw [lg_entry_eq]
  generalize (lg_sl ([.ref h]) ++ List.replicate (3 - (lg_sl ([.ref h])).length) Slot.unset).toArray = ls at hl ⊢
  have hl : lv_has ls 3 [(0, .ref h)] := hl
  refine lv_aload_n hx hb dX0_release_0 rfl (lv_at hl 0 rfl) ?_
  refine vp_callSi (W.runV (As := []) (rest := []) ⟨hx, hb, hml, hown, hts⟩ (c_X0_isCovered l D cI cZ cJ h a0 a1 a2 a3 a4 a5 a6 a7 a8 a9 a10 f0 f1 f2 f3 f4 f5 f6 f7 f8 f9 f10 v0 v1 v2 v3 hb3) (cwV 0 hts gX0_release_X0_isCovered rfl rfl rfl (by decide +kernel) ⟨Nat.le_of_ble_eq_true rfl, Nat.le_of_ble_eq_true rfl⟩) ⟨zP_blind, va_recv hK hP (ci := 0) (q0 := 0) rfl rfl, fun U hU hW => ⟨rfl, zP_mk hP hK hU hW⟩⟩ rfl rfl hl.1 rfl (lv_room (Nat.le_of_ble_eq_true rfl)) dX0_release_1 ⟨Nat.le_of_ble_eq_true rfl, Nat.le_of_ble_eq_true rfl⟩) (fun r1 w1 => ?_)
  cases hq1 : q_cov f0 f7 v0 v1
  · skip
    rw [hq1] at w1
    have w1 : r1 = 0 := w1
    subst w1
    refine lv_if_eq (tgt := 19) hx hb dX0_release_4 (by decide) (fun _ => ?_) (fun c9 => False.elim (by revert c9; decide))
    obtain ⟨sa, hsa⟩ := hZ.2.1 (132, "no current milestone, or not proved, or not enough in") (by decide)
    exact z_throw (Qc := zNo) (own := RX0) (cls := "java/lang/IllegalStateException") (ik := 53) (is := 132) (ic := 57) (text := "no current milestone, or not proved, or not enough in") hx hb hl0 hown (by decide +kernel) (hts (.classLink RX0 53 "java/lang/IllegalStateException") (by decide +kernel)) (hts (.initialized "java/lang/IllegalStateException") (by decide +kernel)) hsa hts (by decide +kernel) (by decide +kernel) hZ.1 hZ.2.2.2.1 hZ.2.2.2.2 hl.1 hml dX0_release_19 dX0_release_22 dX0_release_23 dX0_release_25 dX0_release_28 (fun x h => (hout x h).elim) (Nat.le_of_ble_eq_true rfl) (Nat.le_of_ble_eq_true rfl) (Nat.le_of_ble_eq_true rfl) (Nat.le_of_ble_eq_true rfl) hlocks
  · skip
    rw [hq1] at w1
    have w1 : r1 = 1 := w1
    subst w1
    have hv1 : vp_in v1 6 := z_covin hb3 hq1
    have hcv := hq1
    refine lv_if_eq (tgt := 19) hx hb dX0_release_4 (by decide) (fun c9 => False.elim (by revert c9; decide)) (fun _ => ?_)
    refine lv_aload_n hx hb dX0_release_7 rfl (lv_at hl 0 rfl) ?_
    refine va_get (D := D) (ci := 0) (v := .ref a8) (C := RX0) (T := TX0) (N := 15) hx hb hts hin hown hK hP 0 rfl rfl 8 (by decide) (hts (.fieldLink RX0 34 "Quorumfund" "proofs" "[Z") (by decide +kernel)) (fun _ h9 => h9) rfl dX0_release_8 ?_
    refine lv_aload_n hx hb dX0_release_11 rfl (lv_at hl 0 rfl) ?_
    refine va_get (D := D) (ci := 0) (v := .int v1) (C := RX0) (T := TX0) (N := 15) hx hb hts hin hown hK hP 0 rfl rfl 10 (by decide) (hts (.fieldLink RX0 85 "Quorumfund" "released" "I") (by decide +kernel)) (fun _ h9 => h9) rfl dX0_release_12 ?_
    refine va_zald (D := D) hx hb hK hP 9 1 rfl rfl hv1 dX0_release_15 ?_
    refine lv_if_ne (tgt := 29) hx hb dX0_release_16 (by decide) (fun c4 => ?_) (fun c4 => ?_)
    · skip
      have hpf := c4
      refine lv_iconst (v := 2) hx hb dX0_release_29 (by decide) ?_
      refine lv_aload_n hx hb dX0_release_30 rfl (lv_at hl 0 rfl) ?_
      refine lv_iconst (v := 1) hx hb dX0_release_31 (by decide) ?_
      refine vp_callSi (W.runV (As := [.int 1]) (rest := [.int 2]) ⟨hx, hb, hml, hown, hts⟩ (c_X0_weight l D cI cZ cJ h a0 a1 a2 a3 a4 a5 a6 a7 a8 a9 a10 f0 f1 f2 f3 f4 f5 f6 f7 f8 f9 f10 v0 v1 v2 v3 1 (by decide)) (cwV 1 hts gX0_release_X0_weight rfl rfl rfl (by decide +kernel) ⟨Nat.le_of_ble_eq_true rfl, Nat.le_of_ble_eq_true rfl⟩) ⟨zP_blind, va_recv hK hP (ci := 0) (q0 := 0) rfl rfl, fun U hU hW => ⟨rfl, zP_mk hP hK hU hW⟩⟩ rfl rfl hl.1 rfl (lv_room (Nat.le_of_ble_eq_true rfl)) dX0_release_32 ⟨Nat.le_of_ble_eq_true rfl, Nat.le_of_ble_eq_true rfl⟩) (fun r5 w5 => ?_)
      subst w5
      refine lv_imul hx hb dX0_release_35 ?_
      refine lv_aload_n hx hb dX0_release_36 rfl (lv_at hl 0 rfl) ?_
      refine vp_callSi (W.runV (As := []) (rest := [.int (2 * (q_wt f0 f4 f6 1 8))]) ⟨hx, hb, hml, hown, hts⟩ (c_X0_total l D cI cZ cJ h a0 a1 a2 a3 a4 a5 a6 a7 a8 a9 a10 f0 f1 f2 f3 f4 f5 f6 f7 f8 f9 f10 v0 v1 v2 v3) (cwV 0 hts gX0_release_X0_total rfl rfl rfl (by decide +kernel) ⟨Nat.le_of_ble_eq_true rfl, Nat.le_of_ble_eq_true rfl⟩) ⟨zP_blind, va_recv hK hP (ci := 0) (q0 := 0) rfl rfl, fun U hU hW => ⟨rfl, zP_mk hP hK hU hW⟩⟩ rfl rfl hl.1 rfl (lv_room (Nat.le_of_ble_eq_true rfl)) dX0_release_37 ⟨Nat.le_of_ble_eq_true rfl, Nat.le_of_ble_eq_true rfl⟩) (fun r6 w6 => ?_)
      subst w6
      refine lv_icmp_gt (tgt := 53) hx hb dX0_release_40 (by decide) (fun c7 => False.elim (by exact hk ⟨hcv, hpf, c7⟩)) (fun c7 => ?_)
      obtain ⟨sa, hsa⟩ := hZ.2.1 (140, "not enough votes for yes") (by decide)
      exact z_throw (Qc := zNo) (own := RX0) (cls := "java/lang/IllegalStateException") (ik := 53) (is := 140) (ic := 57) (text := "not enough votes for yes") hx hb hl0 hown (by decide +kernel) (hts (.classLink RX0 53 "java/lang/IllegalStateException") (by decide +kernel)) (hts (.initialized "java/lang/IllegalStateException") (by decide +kernel)) hsa hts (by decide +kernel) (by decide +kernel) hZ.1 hZ.2.2.2.1 hZ.2.2.2.2 hl.1 hml dX0_release_43 dX0_release_46 dX0_release_47 dX0_release_49 dX0_release_52 (fun x h => (hout x h).elim) (Nat.le_of_ble_eq_true rfl) (Nat.le_of_ble_eq_true rfl) (Nat.le_of_ble_eq_true rfl) (Nat.le_of_ble_eq_true rfl) hlocks
    · skip
      skip
      obtain ⟨sa, hsa⟩ := hZ.2.1 (132, "no current milestone, or not proved, or not enough in") (by decide)
      exact z_throw (Qc := zNo) (own := RX0) (cls := "java/lang/IllegalStateException") (ik := 53) (is := 132) (ic := 57) (text := "no current milestone, or not proved, or not enough in") hx hb hl0 hown (by decide +kernel) (hts (.classLink RX0 53 "java/lang/IllegalStateException") (by decide +kernel)) (hts (.initialized "java/lang/IllegalStateException") (by decide +kernel)) hsa hts (by decide +kernel) (by decide +kernel) hZ.1 hZ.2.2.2.1 hZ.2.2.2.2 hl.1 hml dX0_release_19 dX0_release_22 dX0_release_23 dX0_release_25 dX0_release_28 (fun x h => (hout x h).elim) (Nat.le_of_ble_eq_true rfl) (Nat.le_of_ble_eq_true rfl) (Nat.le_of_ble_eq_true rfl) (Nat.le_of_ble_eq_true rfl) hlocks
