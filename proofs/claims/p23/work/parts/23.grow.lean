set_option maxHeartbeats 4000000 in
set_option maxRecDepth 100000 in
theorem c_X0_requireCovered_g (l : Launch) (hl0 : l.stackTraces = false) (D : va_G) (cI cZ cJ : ClassId) (sz : Nat) (h a0 a1 a2 a3 a4 a5 a6 a7 a8 a9 a10 : Nat) (f0 f1 f2 f3 f4 f5 f6 f7 f8 f9 f10 : Nat → Int32) (v0 v1 v2 v3 : Int32) (hb3 : 0 ≤ v1.toInt ∧ v1.toInt ≤ v0.toInt ∧ v0.toInt ≤ 6) (hc : q_cov f0 f7 v0 v1 = false) : vx_Met l yX0_requireCovered wsX0_requireCovered ({ frames := 6, cells := 1, slots := 6, locals := 90 }) (va_Pc [.ref h] (zKX D cI cZ cJ sz (wQ cI cZ h a0 a1 a2 a3 a4 a5 a6 a7 a8 a9 a10 f0 f1 f2 f3 f4 f5 f6 f7 f8 f9 f10 v0 v1 v2 v3))) zNo (zXG sz) 1 6 (fun _ => False) := by
  refine vx_ofW (cc := cX0_requireCovered) (maxL := 1) (ret := none) (by decide) rfl ?_
  intro p e s m args below meth c s₁ B hml hout hv
  obtain ⟨rfl, hsz, hZ, hP, hK⟩ := hv
  subst hsz
  have hx := B.exec
  have hb := B.bytes
  have hr := B.returns
  have hts := atoms_spec (ws := wsX0_requireCovered) B.pre
  have hown : s.vm.findClass RX0 = some m.cls := findClass_of_methodNamed B.named
  have hlocks := B.notSynchronized
  have hl := lv_entry ([.ref h]) (n := 1) (Nat.le_of_ble_eq_true rfl)
  rw [lg_entry_eq]
  generalize (lg_sl ([.ref h]) ++ List.replicate (1 - (lg_sl ([.ref h])).length) Slot.unset).toArray = ls at hl ⊢
  have hl : lv_has ls 1 [(0, .ref h)] := hl
  refine lv_aload_n hx hb dX0_requireCovered_0 rfl (lv_at hl 0 rfl) ?_
  refine vp_callSi (W.runV (As := []) (rest := []) ⟨hx, hb, hml, hown, hts⟩ (c_X0_isCovered l D cI cZ cJ h a0 a1 a2 a3 a4 a5 a6 a7 a8 a9 a10 f0 f1 f2 f3 f4 f5 f6 f7 f8 f9 f10 v0 v1 v2 v3 hb3) (cwV 0 hts gX0_requireCovered_X0_isCovered rfl rfl rfl (by decide +kernel) ⟨Nat.le_of_ble_eq_true rfl, Nat.le_of_ble_eq_true rfl⟩) ⟨zP_blind, va_recv hK hP (ci := 0) (q0 := 0) rfl rfl, fun U hU hW => ⟨rfl, zP_mk hP hK hU hW⟩⟩ rfl rfl hl.1 rfl (lv_room (Nat.le_of_ble_eq_true rfl)) dX0_requireCovered_1 ⟨Nat.le_of_ble_eq_true rfl, Nat.le_of_ble_eq_true rfl⟩) (fun r1 w1 => ?_)
  have w1 : r1 = 0 := by rw [w1, hc]; rfl
  subst w1
  refine lv_if_ne (tgt := 17) hx hb dX0_requireCovered_4 (by decide) (fun c9 => False.elim (by revert c9; decide)) (fun _ => ?_)
  obtain ⟨sa, hsa⟩ := hZ.2.1 (161, "no current milestone, or not enough in") (by decide)
  exact zn_throwG (Qc := zNo) (own := RX0) (ik := 159) (is := 161) (ic := 163) (text := "no current milestone, or not enough in") hx hb hl0 hown (hts (.classLink RX0 159 "java/util/NoSuchElementException") (by decide +kernel)) (hts (.initialized "java/util/NoSuchElementException") (by decide +kernel)) hsa hts (by decide +kernel) hZ.1 hZ.2.2.2.1 hZ.2.2.2.2 hl.1 hml dX0_requireCovered_7 dX0_requireCovered_10 dX0_requireCovered_11 dX0_requireCovered_13 dX0_requireCovered_16 (fun x h => (hout x h).elim) (Nat.le_of_ble_eq_true rfl) (Nat.le_of_ble_eq_true rfl) (Nat.le_of_ble_eq_true rfl) (Nat.le_of_ble_eq_true rfl) hlocks
set_option maxHeartbeats 4000000 in
set_option maxRecDepth 100000 in
theorem c_X0_match_g (l : Launch) (hl0 : l.stackTraces = false) (D : va_G) (cI cZ cJ : ClassId) (sz : Nat) (h a0 a1 a2 a3 a4 a5 a6 a7 a8 a9 a10 : Nat) (f0 f1 f2 f3 f4 f5 f6 f7 f8 f9 f10 : Nat → Int32) (v0 v1 v2 v3 : Int32) (hb3 : 0 ≤ v1.toInt ∧ v1.toInt ≤ v0.toInt ∧ v0.toInt ≤ 6) (hc : q_cov f0 f7 v0 v1 = false) : vx_Met l yX0_match wsX0_match ({ frames := 7, cells := 1, slots := 6, locals := 110 }) (va_Pc [.ref h] (zKX D cI cZ cJ sz (wQ cI cZ h a0 a1 a2 a3 a4 a5 a6 a7 a8 a9 a10 f0 f1 f2 f3 f4 f5 f6 f7 f8 f9 f10 v0 v1 v2 v3))) zNo (zXG sz) 1 6 (fun _ => False) := by
  refine vx_ofW (cc := cX0_match) (maxL := 1) (ret := (some .int)) (by decide) rfl ?_
  intro p e s m args below meth c s₁ B hml hout hv
  obtain ⟨rfl, hsz, hZ, hP, hK⟩ := hv
  subst hsz
  have hx := B.exec
  have hb := B.bytes
  have hr := B.returns
  have hts := atoms_spec (ws := wsX0_match) B.pre
  have hown : s.vm.findClass RX0 = some m.cls := findClass_of_methodNamed B.named
  have hlocks := B.notSynchronized
  have hl := lv_entry ([.ref h]) (n := 1) (Nat.le_of_ble_eq_true rfl)
  rw [lg_entry_eq]
  generalize (lg_sl ([.ref h]) ++ List.replicate (1 - (lg_sl ([.ref h])).length) Slot.unset).toArray = ls at hl ⊢
  have hl : lv_has ls 1 [(0, .ref h)] := hl
  refine lv_aload_n hx hb dX0_match_0 rfl (lv_at hl 0 rfl) ?_
  exact z_thruG (vx_runV (As := []) (rest := []) ⟨hx, hb, hml, hown, hts⟩ (c_X0_requireCovered_g l hl0 D cI cZ cJ s.heap.size h a0 a1 a2 a3 a4 a5 a6 a7 a8 a9 a10 f0 f1 f2 f3 f4 f5 f6 f7 f8 f9 f10 v0 v1 v2 v3 hb3 hc) (cwV 0 hts gX0_match_X0_requireCovered rfl rfl rfl (by decide +kernel) ⟨Nat.le_of_ble_eq_true rfl, Nat.le_of_ble_eq_true rfl⟩) ⟨zKX_blind, va_recv hK hP (ci := 0) (q0 := 0) rfl rfl, fun U hU hW => ⟨rfl, by rw [hU], zX_at hZ hU hW, zP_mk hP hK hU hW⟩⟩ rfl rfl hl.1 rfl (lv_room (Nat.le_of_ble_eq_true rfl)) dX0_match_1 ⟨Nat.le_of_ble_eq_true rfl, Nat.le_of_ble_eq_true rfl⟩) (fun _ h => h) hout hlocks
set_option maxHeartbeats 4000000 in
set_option maxRecDepth 100000 in
theorem c_X0_matchByPairs_g (l : Launch) (hl0 : l.stackTraces = false) (D : va_G) (cI cZ cJ : ClassId) (sz : Nat) (h a0 a1 a2 a3 a4 a5 a6 a7 a8 a9 a10 : Nat) (f0 f1 f2 f3 f4 f5 f6 f7 f8 f9 f10 : Nat → Int32) (v0 v1 v2 v3 : Int32) (hb3 : 0 ≤ v1.toInt ∧ v1.toInt ≤ v0.toInt ∧ v0.toInt ≤ 6) (hc : q_cov f0 f7 v0 v1 = false) : vx_Met l yX0_matchByPairs wsX0_matchByPairs ({ frames := 7, cells := 1, slots := 6, locals := 110 }) (va_Pc [.ref h] (zKX D cI cZ cJ sz (wQ cI cZ h a0 a1 a2 a3 a4 a5 a6 a7 a8 a9 a10 f0 f1 f2 f3 f4 f5 f6 f7 f8 f9 f10 v0 v1 v2 v3))) zNo (zXG sz) 1 6 (fun _ => False) := by
  refine vx_ofW (cc := cX0_matchByPairs) (maxL := 2) (ret := (some .int)) (by decide) rfl ?_
  intro p e s m args below meth c s₁ B hml hout hv
  obtain ⟨rfl, hsz, hZ, hP, hK⟩ := hv
  subst hsz
  have hx := B.exec
  have hb := B.bytes
  have hr := B.returns
  have hts := atoms_spec (ws := wsX0_matchByPairs) B.pre
  have hown : s.vm.findClass RX0 = some m.cls := findClass_of_methodNamed B.named
  have hlocks := B.notSynchronized
  have hin : ∀ w ∈ wsX00, w ∈ wsX0_matchByPairs := by decide +kernel
  have hl := lv_entry ([.ref h]) (n := 2) (Nat.le_of_ble_eq_true rfl)
  rw [lg_entry_eq]
  generalize (lg_sl ([.ref h]) ++ List.replicate (2 - (lg_sl ([.ref h])).length) Slot.unset).toArray = ls at hl ⊢
  have hl : lv_has ls 2 [(0, .ref h)] := hl
  refine lv_aload_n hx hb dX0_matchByPairs_0 rfl (lv_at hl 0 rfl) ?_
  exact z_thruG (vx_runV (As := []) (rest := []) ⟨hx, hb, hml, hown, hts⟩ (c_X0_requireCovered_g l hl0 D cI cZ cJ s.heap.size h a0 a1 a2 a3 a4 a5 a6 a7 a8 a9 a10 f0 f1 f2 f3 f4 f5 f6 f7 f8 f9 f10 v0 v1 v2 v3 hb3 hc) (cwV 0 hts gX0_matchByPairs_X0_requireCovered rfl rfl rfl (by decide +kernel) ⟨Nat.le_of_ble_eq_true rfl, Nat.le_of_ble_eq_true rfl⟩) ⟨zKX_blind, va_recv hK hP (ci := 0) (q0 := 0) rfl rfl, fun U hU hW => ⟨rfl, by rw [hU], zX_at hZ hU hW, zP_mk hP hK hU hW⟩⟩ rfl rfl hl.1 rfl (lv_room (Nat.le_of_ble_eq_true rfl)) dX0_matchByPairs_1 ⟨Nat.le_of_ble_eq_true rfl, Nat.le_of_ble_eq_true rfl⟩) (fun _ h => h) hout hlocks
