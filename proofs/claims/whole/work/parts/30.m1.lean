set_option maxHeartbeats 4000000 in
set_option maxRecDepth 100000 in
theorem c_X1_thrown (l : Launch) (D : va_G) (cI cZ cJ : ClassId) (h a0 a4 a5 a6 a7 a8 a9 : Nat) (f0 f4 f5 f6 f7 f8 f9 : Nat → Int32) (v0 v1 v2 v3 v4 : Int32) : Met l yX1_thrown wsX1_thrown ({ frames := 0, cells := 0, slots := 0, locals := 0 }) (va_Pc [.ref h] (zP D cI cZ cJ (wM cI cZ h a0 a4 a5 a6 a7 a8 a9 f0 f4 f5 f6 f7 f8 f9 v0 v1 v2 v3 v4))) (vp_Si (fun r : Int32 => r = v4)) 0 0 (fun _ => False) := by
  refine Met.ofW (cc := cX1_thrown) (maxL := 1) (ret := (some .int)) (by decide) rfl ?_
  intro p e s m args below meth c s₁ B hml hv
  obtain ⟨rfl, hP, hK⟩ := hv
  have hx := B.exec
  have hb := B.bytes
  have hr := B.returns
  have hts := atoms_spec (ws := wsX1_thrown) B.pre
  have hown : s.vm.findClass RX1 = some m.cls := findClass_of_methodNamed B.named
  have hlocks := B.notSynchronized
  have hin : ∀ w ∈ wsX10, w ∈ wsX1_thrown := by decide +kernel
  have hl := lv_entry ([.ref h]) (n := 1) (Nat.le_of_ble_eq_true rfl)
  rw [lg_entry_eq]
  generalize (lg_sl ([.ref h]) ++ List.replicate (1 - (lg_sl ([.ref h])).length) Slot.unset).toArray = ls at hl ⊢
  have hl : lv_has ls 1 [(0, .ref h)] := hl
  refine lv_aload_n hx hb dX1_thrown_0 rfl (lv_at hl 0 rfl) ?_
  refine va_get (D := D) (ci := 1) (v := .int v4) (C := RX1) (T := TX1) (N := 12) hx hb hts hin hown hK hP 0 rfl rfl 11 (by decide) (hts (.fieldLink RX1 32 "QuorumfundModel" "thrown" "I") (by decide +kernel)) (fun _ h9 => h9) rfl dX1_thrown_1 ?_
  exact W.iret (v := v4) hx hb hr (fun t ht hW => ⟨v4, rfl, rfl, ht⟩) (fun _ h => nomatch h) dX1_thrown_4
set_option maxHeartbeats 4000000 in
set_option maxRecDepth 100000 in
theorem c_X1_goes (l : Launch) (D : va_G) (cI cZ cJ : ClassId) (sz : Nat) (h a0 a4 a5 a6 a7 a8 a9 : Nat) (f0 f4 f5 f6 f7 f8 f9 : Nat → Int32) (v0 v1 v2 v3 v4 : Int32) (p0 : Int32) : Met l yX1_goes wsX1_goes ({ frames := 0, cells := 0, slots := 0, locals := 0 }) (va_Pc [.ref h, .int p0] (zD D cI cZ cJ sz (wM cI cZ h a0 a4 a5 a6 a7 a8 a9 f0 f4 f5 f6 f7 f8 f9 v0 v1 v2 v3 v4))) (va_Qi (fun (r : Int32) (u : Int32) => (r = bif decide (p0 = 0) then 1 else 0) ∧ u = p0) (fun u t => zB D cI cZ cJ (va_A (wM cI cZ h a0 a4 a5 a6 a7 a8 a9 f0 f4 f5 f6 f7 f8 f9 v0 v1 v2 v3 v4) sz) (wM cI cZ h a0 a4 a5 a6 a7 a8 a9 f0 f4 f5 f6 f7 f8 f9 v0 v1 v2 v3 u) t) (va_A (wM cI cZ h a0 a4 a5 a6 a7 a8 a9 f0 f4 f5 f6 f7 f8 f9 v0 v1 v2 v3 v4) sz)) 0 0 (va_A (wM cI cZ h a0 a4 a5 a6 a7 a8 a9 f0 f4 f5 f6 f7 f8 f9 v0 v1 v2 v3 v4) sz) := by
  refine Met.ofW (cc := cX1_goes) (maxL := 2) (ret := (some .boolean)) (by decide) rfl ?_
  intro p e s m args below meth c s₁ B hml hv
  obtain ⟨rfl, hsz, hP, hK, hD0⟩ := hv
  have hx := B.exec
  have hb := B.bytes
  have hr := B.returns
  have hts := atoms_spec (ws := wsX1_goes) B.pre
  have hown : s.vm.findClass RX1 = some m.cls := findClass_of_methodNamed B.named
  have hlocks := B.notSynchronized
  have hin : ∀ w ∈ wsX10, w ∈ wsX1_goes := by decide +kernel
  subst hsz
  have hD := hD0.self (sz := s.heap.size)
  generalize hAe : va_A (wM cI cZ h a0 a4 a5 a6 a7 a8 a9 f0 f4 f5 f6 f7 f8 f9 v0 v1 v2 v3 v4) s.heap.size = A at hD ⊢
  have hA : ∀ q : Nat, s.heap.size ≤ q → A q := fun q h => by rw [← hAe]; exact Or.inr h
  have hS : va_S A s.heap s.heap [] := va_S.rf
  have hl := lv_entry ([.ref h, .int p0]) (n := 2) (Nat.le_of_ble_eq_true rfl)
  rw [lg_entry_eq]
  generalize (lg_sl ([.ref h, .int p0]) ++ List.replicate (2 - (lg_sl ([.ref h, .int p0])).length) Slot.unset).toArray = ls at hl ⊢
  have hl : lv_has ls 2 [(0, .ref h), (1, .int p0)] := hl
  refine lv_aload_n hx hb dX1_goes_0 rfl (lv_at hl 0 rfl) ?_
  refine lv_iload_n hx hb dX1_goes_1 rfl (lv_at hl 1 rfl) ?_
  refine va_put (D := D) (ci := 1) (v := .int p0) (ty := .int) (C := RX1) (T := TX1) (N := 12) hx hb hts hin tyX1 tyX1_ok nmX1 hown hK hP hD hS 0 rfl rfl 11 (by decide) (hts (.fieldLink RX1 32 "QuorumfundModel" "thrown" "I") (by decide +kernel)) (fun _ h9 => h9) rfl (by decide +kernel) rfl rfl (Nat.le_of_ble_eq_true rfl) dX1_goes_2 (fun H locs hP hD hS => ?_)
  have hP : va_P D vwCl (wM cI cZ h a0 a4 a5 a6 a7 a8 a9 f0 f4 f5 f6 f7 f8 f9 v0 v1 v2 v3 p0) H := hP
  have hD : va_D A (wM cI cZ h a0 a4 a5 a6 a7 a8 a9 f0 f4 f5 f6 f7 f8 f9 v0 v1 v2 v3 p0) := hD
  refine lv_iload_n hx hb dX1_goes_5 rfl (lv_at hl 1 rfl) ?_
  refine lv_if_ne (tgt := 13) hx hb dX1_goes_6 (by decide) (fun c1 => ?_) (fun c1 => ?_)
  · skip
    refine lv_iconst (v := 0) hx hb dX1_goes_13 (by decide) ?_
    exact W.zret (v := 0) hx hb hr rfl (fun t ht hW => ⟨⟨0, p0, rfl, ⟨by simp [c1], rfl⟩, ⟨by rw [ht]; exact hP, va_K.moved hW.alike hK, hD⟩⟩, hS.F ht⟩) hS.2.2 dX1_goes_14
  · skip
    refine lv_iconst (v := 1) hx hb dX1_goes_9 (by decide) ?_
    refine lv_goto (tgt := 14) hx hb dX1_goes_10 (by decide) ?_
    exact W.zret (v := 1) hx hb hr rfl (fun t ht hW => ⟨⟨1, p0, rfl, ⟨by simp [c1], rfl⟩, ⟨by rw [ht]; exact hP, va_K.moved hW.alike hK, hD⟩⟩, hS.F ht⟩) hS.2.2 dX1_goes_14
set_option maxHeartbeats 4000000 in
set_option maxRecDepth 100000 in
theorem c_X1_isIn (l : Launch) (p0 p1 p2 : Int32) : Met l yX1_isIn wsX1_isIn ({ frames := 0, cells := 0, slots := 0, locals := 0 }) (va_Pc [.int p0, .int p1, .int p2] (fun _ => True)) (vp_Si (fun r : Int32 => (r = bif q_i p0 p1 p2 then 1 else 0))) 0 0 (fun _ => False) := by
  refine Met.ofW (cc := cX1_isIn) (maxL := 3) (ret := (some .boolean)) (by decide) rfl ?_
  intro p e s m args below meth c s₁ B hml hv
  obtain ⟨rfl, -⟩ := hv
  have hx := B.exec
  have hb := B.bytes
  have hr := B.returns
  have hts := atoms_spec (ws := wsX1_isIn) B.pre
  have hown : s.vm.findClass RX1 = some m.cls := findClass_of_methodNamed B.named
  have hlocks := B.notSynchronized
  have hl := lv_entry ([.int p0, .int p1, .int p2]) (n := 3) (Nat.le_of_ble_eq_true rfl)
  rw [lg_entry_eq]
  generalize (lg_sl ([.int p0, .int p1, .int p2]) ++ List.replicate (3 - (lg_sl ([.int p0, .int p1, .int p2])).length) Slot.unset).toArray = ls at hl ⊢
  have hl : lv_has ls 3 [(0, .int p0), (1, .int p1), (2, .int p2)] := hl
  refine lv_iload_n hx hb dX1_isIn_0 rfl (lv_at hl 0 rfl) ?_
  refine lv_iload_n hx hb dX1_isIn_1 rfl (lv_at hl 1 rfl) ?_
  refine lv_icmp_lt (tgt := 14) hx hb dX1_isIn_2 (by decide) (fun c1 => ?_) (fun c1 => ?_)
  · skip
    refine lv_iconst (v := 0) hx hb dX1_isIn_14 (by decide) ?_
    exact W.zret (v := 0) hx hb hr rfl (fun t ht hW => ⟨0, rfl, (by simp [q_i, c1]), ht⟩) (fun _ h => nomatch h) dX1_isIn_15
  · skip
    refine lv_iload_n hx hb dX1_isIn_5 rfl (lv_at hl 0 rfl) ?_
    refine lv_iload_n hx hb dX1_isIn_6 rfl (lv_at hl 2 rfl) ?_
    refine lv_icmp_gt (tgt := 14) hx hb dX1_isIn_7 (by decide) (fun c2 => ?_) (fun c2 => ?_)
    · skip
      refine lv_iconst (v := 0) hx hb dX1_isIn_14 (by decide) ?_
      exact W.zret (v := 0) hx hb hr rfl (fun t ht hW => ⟨0, rfl, (by simp [q_i, c1, c2]), ht⟩) (fun _ h => nomatch h) dX1_isIn_15
    · skip
      refine lv_iconst (v := 1) hx hb dX1_isIn_10 (by decide) ?_
      refine lv_goto (tgt := 15) hx hb dX1_isIn_11 (by decide) ?_
      exact W.zret (v := 1) hx hb hr rfl (fun t ht hW => ⟨1, rfl, (by simp [q_i, c1, c2]), ht⟩) (fun _ h => nomatch h) dX1_isIn_15
set_option maxHeartbeats 4000000 in
set_option maxRecDepth 100000 in
theorem c_X1_isGiver (l : Launch) (p0 : Int32) : Met l yX1_isGiver wsX1_isGiver ({ frames := 1, cells := 0, slots := 0, locals := 22 }) (va_Pc [.int p0] (fun _ => True)) (vp_Si (fun r : Int32 => (r = bif q_g p0 then 1 else 0))) 0 0 (fun _ => False) := by
  refine Met.ofW (cc := cX1_isGiver) (maxL := 1) (ret := (some .boolean)) (by decide) rfl ?_
  intro p e s m args below meth c s₁ B hml hv
  obtain ⟨rfl, -⟩ := hv
  have hx := B.exec
  have hb := B.bytes
  have hr := B.returns
  have hts := atoms_spec (ws := wsX1_isGiver) B.pre
  have hown : s.vm.findClass RX1 = some m.cls := findClass_of_methodNamed B.named
  have hlocks := B.notSynchronized
  have hl := lv_entry ([.int p0]) (n := 1) (Nat.le_of_ble_eq_true rfl)
  rw [lg_entry_eq]
  generalize (lg_sl ([.int p0]) ++ List.replicate (1 - (lg_sl ([.int p0])).length) Slot.unset).toArray = ls at hl ⊢
  have hl : lv_has ls 1 [(0, .int p0)] := hl
  refine lv_iload_n hx hb dX1_isGiver_0 rfl (lv_at hl 0 rfl) ?_
  refine lv_iconst (v := 0) hx hb dX1_isGiver_1 (by decide) ?_
  refine lv_bipush (v := 7) hx hb dX1_isGiver_2 (by decide) ?_
  refine vp_callSi (W.runS (As := [.int p0, .int 0, .int 7]) (rest := []) ⟨hx, hb, hml, hown, hts⟩ (c_X1_isIn l p0 0 7) (va_cwS 3 hts gX1_isGiver_X1_isIn rfl rfl rfl (by decide +kernel) ⟨Nat.le_of_ble_eq_true rfl, Nat.le_of_ble_eq_true rfl⟩) ⟨zN_blind, fun U hU hW => ⟨rfl, trivial⟩⟩ rfl rfl hl.1 rfl (lv_room (Nat.le_of_ble_eq_true rfl)) dX1_isGiver_4 ⟨Nat.le_of_ble_eq_true rfl, Nat.le_of_ble_eq_true rfl⟩) (fun r1 w1 => ?_)
  cases hq1 : q_i p0 0 7
  · skip
    rw [hq1] at w1
    have w1 : r1 = 0 := w1
    subst w1
    exact W.zret (v := 0) hx hb hr rfl (fun t ht hW => ⟨0, rfl, (by simp [← q_i_g, hq1]), ht⟩) (fun _ h => nomatch h) dX1_isGiver_7
  · skip
    rw [hq1] at w1
    have w1 : r1 = 1 := w1
    subst w1
    exact W.zret (v := 1) hx hb hr rfl (fun t ht hW => ⟨1, rfl, (by simp [← q_i_g, hq1]), ht⟩) (fun _ h => nomatch h) dX1_isGiver_7
set_option maxHeartbeats 4000000 in
set_option maxRecDepth 100000 in
theorem c_X1_give (l : Launch) (D : va_G) (cI cZ cJ : ClassId) (sz : Nat) (h a0 a4 a5 a6 a7 a8 a9 : Nat) (f0 f4 f5 f6 f7 f8 f9 : Nat → Int32) (v0 v1 v2 v3 v4 : Int32) (p0 p1 : Int32) : Met l yX1_give wsX1_give ({ frames := 2, cells := 0, slots := 0, locals := 42 }) (va_Pc [.ref h, .int p0, .int p1] (zD D cI cZ cJ sz (wM cI cZ h a0 a4 a5 a6 a7 a8 a9 f0 f4 f5 f6 f7 f8 f9 v0 v1 v2 v3 v4))) (va_Qi (fun (r : Int32) (u : (Nat → Int32) × Int32) => (q_giveK f0 p0 p1 = 0 → r = f0 p0.toNatClampNeg + p1) ∧ u.1 = q_up (q_giveK f0 p0 p1) f0 p0.toNatClampNeg (f0 p0.toNatClampNeg + p1) ∧ u.2 = q_giveK f0 p0 p1) (fun u t => zB D cI cZ cJ (va_A (wM cI cZ h a0 a4 a5 a6 a7 a8 a9 f0 f4 f5 f6 f7 f8 f9 v0 v1 v2 v3 v4) sz) (wM cI cZ h a0 a4 a5 a6 a7 a8 a9 u.1 f4 f5 f6 f7 f8 f9 v0 v1 v2 v3 u.2) t) (va_A (wM cI cZ h a0 a4 a5 a6 a7 a8 a9 f0 f4 f5 f6 f7 f8 f9 v0 v1 v2 v3 v4) sz)) 0 0 (va_A (wM cI cZ h a0 a4 a5 a6 a7 a8 a9 f0 f4 f5 f6 f7 f8 f9 v0 v1 v2 v3 v4) sz) := by
  refine Met.ofW (cc := cX1_give) (maxL := 4) (ret := (some .int)) (by decide) rfl ?_
  intro p e s m args below meth c s₁ B hml hv
  obtain ⟨rfl, hsz, hP, hK, hD0⟩ := hv
  have hx := B.exec
  have hb := B.bytes
  have hr := B.returns
  have hts := atoms_spec (ws := wsX1_give) B.pre
  have hown : s.vm.findClass RX1 = some m.cls := findClass_of_methodNamed B.named
  have hlocks := B.notSynchronized
  have hin : ∀ w ∈ wsX10, w ∈ wsX1_give := by decide +kernel
  subst hsz
  have hD := hD0.self (sz := s.heap.size)
  generalize hAe : va_A (wM cI cZ h a0 a4 a5 a6 a7 a8 a9 f0 f4 f5 f6 f7 f8 f9 v0 v1 v2 v3 v4) s.heap.size = A at hD ⊢
  have hA : ∀ q : Nat, s.heap.size ≤ q → A q := fun q h => by rw [← hAe]; exact Or.inr h
  have hS : va_S A s.heap s.heap [] := va_S.rf
  have hl := lv_entry ([.ref h, .int p0, .int p1]) (n := 4) (Nat.le_of_ble_eq_true rfl)
  rw [lg_entry_eq]
  generalize (lg_sl ([.ref h, .int p0, .int p1]) ++ List.replicate (4 - (lg_sl ([.ref h, .int p0, .int p1])).length) Slot.unset).toArray = ls at hl ⊢
  have hl : lv_has ls 4 [(0, .ref h), (1, .int p0), (2, .int p1)] := hl
  refine lv_iload_n hx hb dX1_give_0 rfl (lv_at hl 2 rfl) ?_
  refine lv_iconst (v := 1) hx hb dX1_give_1 (by decide) ?_
  refine lv_sipush (v := 10000) hx hb dX1_give_2 (by decide) ?_
  refine vp_callSi (W.runS (As := [.int p1, .int 1, .int 10000]) (rest := []) ⟨hx, hb, hml, hown, hts⟩ (c_X1_isIn l p1 1 10000) (va_cwS 3 hts gX1_give_X1_isIn rfl rfl rfl (by decide +kernel) ⟨Nat.le_of_ble_eq_true rfl, Nat.le_of_ble_eq_true rfl⟩) ⟨zN_blind, fun U hU hW => ⟨rfl, trivial⟩⟩ rfl rfl hl.1 rfl (lv_room (Nat.le_of_ble_eq_true rfl)) dX1_give_5 ⟨Nat.le_of_ble_eq_true rfl, Nat.le_of_ble_eq_true rfl⟩) (fun r1 w1 => ?_)
  cases hq1 : q_i p1 1 10000
  · skip
    rw [hq1] at w1
    have w1 : r1 = 0 := w1
    subst w1
    refine lv_istore_n (lv' := [(3, .int 0), (0, .ref h), (1, .int p0), (2, .int p1)]) hx hb dX1_give_8 rfl hl (by decide) rfl (fun ls hl => ?_)
    refine lv_aload_n hx hb dX1_give_9 rfl (lv_at hl 1 rfl) ?_
    refine lv_iload_n hx hb dX1_give_10 rfl (lv_at hl 2 rfl) ?_
    refine vp_callSi (W.runS (As := [.int p0]) (rest := [.ref h]) ⟨hx, hb, hml, hown, hts⟩ (c_X1_isGiver l p0) (va_cwS 1 hts gX1_give_X1_isGiver rfl rfl rfl (by decide +kernel) ⟨Nat.le_of_ble_eq_true rfl, Nat.le_of_ble_eq_true rfl⟩) ⟨zN_blind, fun U hU hW => ⟨rfl, trivial⟩⟩ rfl rfl hl.1 rfl (lv_room (Nat.le_of_ble_eq_true rfl)) dX1_give_11 ⟨Nat.le_of_ble_eq_true rfl, Nat.le_of_ble_eq_true rfl⟩) (fun r2 w2 => ?_)
    cases hq2 : q_g p0
    · skip
      rw [hq2] at w2
      have w2 : r2 = 0 := w2
      subst w2
      refine lv_if_ne (tgt := 21) hx hb dX1_give_14 (by decide) (fun c9 => False.elim (by revert c9; decide)) (fun _ => ?_)
      refine lv_iconst (v := 1) hx hb dX1_give_17 (by decide) ?_
      refine lv_goto (tgt := 47) hx hb dX1_give_18 (by decide) ?_
      have hFc := va_free (wc := wM cI cZ h a0 a4 a5 a6 a7 a8 a9 f0 f4 f5 f6 f7 f8 f9 v0 v1 v2 v3 v4) hD hS hA [0, 1, 2, 3, 4, 5, 6, 7] rfl
      refine va_calli (va_runV (As := [.int 1]) (rest := []) ⟨hx, hb, hml, hown, hts⟩ (c_X1_goes l D cI cZ cJ s.heap.size h a0 a4 a5 a6 a7 a8 a9 f0 f4 f5 f6 f7 f8 f9 v0 v1 v2 v3 v4 1) (cwV 1 hts gX1_give_X1_goes rfl rfl rfl (by decide +kernel) ⟨Nat.le_of_ble_eq_true rfl, Nat.le_of_ble_eq_true rfl⟩) ⟨zD_blind, va_recv hK hP (ci := 1) (q0 := 0) rfl rfl, fun U hU hW => ⟨rfl, zD_mk hP hK hD hU hW⟩⟩ rfl rfl hl.1 rfl (lv_room (Nat.le_of_ble_eq_true rfl)) dX1_give_47 ⟨Nat.le_of_ble_eq_true rfl, Nat.le_of_ble_eq_true rfl⟩) hS (fun q _ h => hFc q h) hFc (fun r4 u4 t H1 locs ht hvm w4 hB hz1 hk1 hS => ?_)
      obtain ⟨hP1, hK1, hD1⟩ := hB
      rw [ht] at hP1
      generalize H1 = H at hP1 hS ⊢
      try dsimp only at w4
      obtain ⟨w4_p, w4_0⟩ := w4
      subst w4_0
      have hP : va_P D vwCl (wM cI cZ h a0 a4 a5 a6 a7 a8 a9 f0 f4 f5 f6 f7 f8 f9 v0 v1 v2 v3 1) H := hP1
      have hD : va_D A (wM cI cZ h a0 a4 a5 a6 a7 a8 a9 f0 f4 f5 f6 f7 f8 f9 v0 v1 v2 v3 1) := hD1.weaken (fun _ _ _ h => hFc _ h)
      have w4_p : r4 = 0 := w4_p.trans (by decide)
      subst w4_p
      refine lv_if_ne (tgt := 55) hx hb dX1_give_50 (by decide) (fun c9 => False.elim (by revert c9; decide)) (fun _ => ?_)
      refine lv_iconst (v := 0) hx hb dX1_give_53 (by decide) ?_
      exact W.iret (v := 0) hx hb hr (fun t ht hW => ⟨⟨0, ⟨f0, 1⟩, rfl, ⟨fun hz9 => by simp [q_giveK, hq1, hq2] at hz9, by simp [q_up, q_us, q_uA, q_giveK, hq1, hq2], by simp [q_up, q_us, q_uA, q_giveK, hq1, hq2]⟩, ⟨by rw [ht]; exact hP, va_K.moved hW.alike hK, hD⟩⟩, hS.F ht⟩) hS.2.2 dX1_give_54
    · skip
      rw [hq2] at w2
      have w2 : r2 = 1 := w2
      subst w2
      refine lv_if_ne (tgt := 21) hx hb dX1_give_14 (by decide) (fun _ => ?_) (fun c9 => False.elim (by revert c9; decide))
      refine lv_iload_n hx hb dX1_give_21 rfl (lv_at hl 0 rfl) ?_
      refine lv_if_ne (tgt := 29) hx hb dX1_give_22 (by decide) (fun c9 => False.elim (by revert c9; decide)) (fun _ => ?_)
      refine lv_iconst (v := 2) hx hb dX1_give_25 (by decide) ?_
      refine lv_goto (tgt := 47) hx hb dX1_give_26 (by decide) ?_
      have hFc := va_free (wc := wM cI cZ h a0 a4 a5 a6 a7 a8 a9 f0 f4 f5 f6 f7 f8 f9 v0 v1 v2 v3 v4) hD hS hA [0, 1, 2, 3, 4, 5, 6, 7] rfl
      refine va_calli (va_runV (As := [.int 2]) (rest := []) ⟨hx, hb, hml, hown, hts⟩ (c_X1_goes l D cI cZ cJ s.heap.size h a0 a4 a5 a6 a7 a8 a9 f0 f4 f5 f6 f7 f8 f9 v0 v1 v2 v3 v4 2) (cwV 1 hts gX1_give_X1_goes rfl rfl rfl (by decide +kernel) ⟨Nat.le_of_ble_eq_true rfl, Nat.le_of_ble_eq_true rfl⟩) ⟨zD_blind, va_recv hK hP (ci := 1) (q0 := 0) rfl rfl, fun U hU hW => ⟨rfl, zD_mk hP hK hD hU hW⟩⟩ rfl rfl hl.1 rfl (lv_room (Nat.le_of_ble_eq_true rfl)) dX1_give_47 ⟨Nat.le_of_ble_eq_true rfl, Nat.le_of_ble_eq_true rfl⟩) hS (fun q _ h => hFc q h) hFc (fun r8 u8 t H1 locs ht hvm w8 hB hz1 hk1 hS => ?_)
      obtain ⟨hP1, hK1, hD1⟩ := hB
      rw [ht] at hP1
      generalize H1 = H at hP1 hS ⊢
      try dsimp only at w8
      obtain ⟨w8_p, w8_0⟩ := w8
      subst w8_0
      have hP : va_P D vwCl (wM cI cZ h a0 a4 a5 a6 a7 a8 a9 f0 f4 f5 f6 f7 f8 f9 v0 v1 v2 v3 2) H := hP1
      have hD : va_D A (wM cI cZ h a0 a4 a5 a6 a7 a8 a9 f0 f4 f5 f6 f7 f8 f9 v0 v1 v2 v3 2) := hD1.weaken (fun _ _ _ h => hFc _ h)
      have w8_p : r8 = 0 := w8_p.trans (by decide)
      subst w8_p
      refine lv_if_ne (tgt := 55) hx hb dX1_give_50 (by decide) (fun c9 => False.elim (by revert c9; decide)) (fun _ => ?_)
      refine lv_iconst (v := 0) hx hb dX1_give_53 (by decide) ?_
      exact W.iret (v := 0) hx hb hr (fun t ht hW => ⟨⟨0, ⟨f0, 2⟩, rfl, ⟨fun hz9 => by simp [q_giveK, hq1, hq2] at hz9, by simp [q_up, q_us, q_uA, q_giveK, hq1, hq2], by simp [q_up, q_us, q_uA, q_giveK, hq1, hq2]⟩, ⟨by rw [ht]; exact hP, va_K.moved hW.alike hK, hD⟩⟩, hS.F ht⟩) hS.2.2 dX1_give_54
  · skip
    rw [hq1] at w1
    have w1 : r1 = 1 := w1
    subst w1
    refine lv_istore_n (lv' := [(3, .int 1), (0, .ref h), (1, .int p0), (2, .int p1)]) hx hb dX1_give_8 rfl hl (by decide) rfl (fun ls hl => ?_)
    refine lv_aload_n hx hb dX1_give_9 rfl (lv_at hl 1 rfl) ?_
    refine lv_iload_n hx hb dX1_give_10 rfl (lv_at hl 2 rfl) ?_
    refine vp_callSi (W.runS (As := [.int p0]) (rest := [.ref h]) ⟨hx, hb, hml, hown, hts⟩ (c_X1_isGiver l p0) (va_cwS 1 hts gX1_give_X1_isGiver rfl rfl rfl (by decide +kernel) ⟨Nat.le_of_ble_eq_true rfl, Nat.le_of_ble_eq_true rfl⟩) ⟨zN_blind, fun U hU hW => ⟨rfl, trivial⟩⟩ rfl rfl hl.1 rfl (lv_room (Nat.le_of_ble_eq_true rfl)) dX1_give_11 ⟨Nat.le_of_ble_eq_true rfl, Nat.le_of_ble_eq_true rfl⟩) (fun r10 w10 => ?_)
    cases hq10 : q_g p0
    · skip
      rw [hq10] at w10
      have w10 : r10 = 0 := w10
      subst w10
      refine lv_if_ne (tgt := 21) hx hb dX1_give_14 (by decide) (fun c9 => False.elim (by revert c9; decide)) (fun _ => ?_)
      refine lv_iconst (v := 1) hx hb dX1_give_17 (by decide) ?_
      refine lv_goto (tgt := 47) hx hb dX1_give_18 (by decide) ?_
      have hFc := va_free (wc := wM cI cZ h a0 a4 a5 a6 a7 a8 a9 f0 f4 f5 f6 f7 f8 f9 v0 v1 v2 v3 v4) hD hS hA [0, 1, 2, 3, 4, 5, 6, 7] rfl
      refine va_calli (va_runV (As := [.int 1]) (rest := []) ⟨hx, hb, hml, hown, hts⟩ (c_X1_goes l D cI cZ cJ s.heap.size h a0 a4 a5 a6 a7 a8 a9 f0 f4 f5 f6 f7 f8 f9 v0 v1 v2 v3 v4 1) (cwV 1 hts gX1_give_X1_goes rfl rfl rfl (by decide +kernel) ⟨Nat.le_of_ble_eq_true rfl, Nat.le_of_ble_eq_true rfl⟩) ⟨zD_blind, va_recv hK hP (ci := 1) (q0 := 0) rfl rfl, fun U hU hW => ⟨rfl, zD_mk hP hK hD hU hW⟩⟩ rfl rfl hl.1 rfl (lv_room (Nat.le_of_ble_eq_true rfl)) dX1_give_47 ⟨Nat.le_of_ble_eq_true rfl, Nat.le_of_ble_eq_true rfl⟩) hS (fun q _ h => hFc q h) hFc (fun r12 u12 t H1 locs ht hvm w12 hB hz1 hk1 hS => ?_)
      obtain ⟨hP1, hK1, hD1⟩ := hB
      rw [ht] at hP1
      generalize H1 = H at hP1 hS ⊢
      try dsimp only at w12
      obtain ⟨w12_p, w12_0⟩ := w12
      subst w12_0
      have hP : va_P D vwCl (wM cI cZ h a0 a4 a5 a6 a7 a8 a9 f0 f4 f5 f6 f7 f8 f9 v0 v1 v2 v3 1) H := hP1
      have hD : va_D A (wM cI cZ h a0 a4 a5 a6 a7 a8 a9 f0 f4 f5 f6 f7 f8 f9 v0 v1 v2 v3 1) := hD1.weaken (fun _ _ _ h => hFc _ h)
      have w12_p : r12 = 0 := w12_p.trans (by decide)
      subst w12_p
      refine lv_if_ne (tgt := 55) hx hb dX1_give_50 (by decide) (fun c9 => False.elim (by revert c9; decide)) (fun _ => ?_)
      refine lv_iconst (v := 0) hx hb dX1_give_53 (by decide) ?_
      exact W.iret (v := 0) hx hb hr (fun t ht hW => ⟨⟨0, ⟨f0, 1⟩, rfl, ⟨fun hz9 => by simp [q_giveK, hq1, hq10] at hz9, by simp [q_up, q_us, q_uA, q_giveK, hq1, hq10], by simp [q_up, q_us, q_uA, q_giveK, hq1, hq10]⟩, ⟨by rw [ht]; exact hP, va_K.moved hW.alike hK, hD⟩⟩, hS.F ht⟩) hS.2.2 dX1_give_54
    · skip
      rw [hq10] at w10
      have w10 : r10 = 1 := w10
      subst w10
      refine lv_if_ne (tgt := 21) hx hb dX1_give_14 (by decide) (fun _ => ?_) (fun c9 => False.elim (by revert c9; decide))
      refine lv_iload_n hx hb dX1_give_21 rfl (lv_at hl 0 rfl) ?_
      refine lv_if_ne (tgt := 29) hx hb dX1_give_22 (by decide) (fun _ => ?_) (fun c9 => False.elim (by revert c9; decide))
      refine lv_aload_n hx hb dX1_give_29 rfl (lv_at hl 1 rfl) ?_
      refine va_get (D := D) (ci := 1) (v := .ref a0) (C := RX1) (T := TX1) (N := 12) hx hb hts hin hown hK hP 0 rfl rfl 0 (by decide) (hts (.fieldLink RX1 7 "QuorumfundModel" "ins" "[I") (by decide +kernel)) (fun _ h9 => h9) rfl dX1_give_30 ?_
      refine lv_iload_n hx hb dX1_give_33 rfl (lv_at hl 2 rfl) ?_
      refine va_iald (D := D) hx hb hK hP 1 0 rfl rfl (q_g_in hq10) dX1_give_34 ?_
      refine lv_iload_n hx hb dX1_give_35 rfl (lv_at hl 3 rfl) ?_
      refine lv_iadd hx hb dX1_give_36 ?_
      refine lv_ldc hx hb hown (hts (.constant RX1 44 (100000)) (by decide +kernel)) dX1_give_37 ?_
      refine lv_icmp_le (tgt := 46) hx hb dX1_give_39 (by decide) (fun c16 => ?_) (fun c16 => ?_)
      · skip
        have hm := z_nlt.mpr c16
        refine lv_iconst (v := 0) hx hb dX1_give_46 (by decide) ?_
        have hFc := va_free (wc := wM cI cZ h a0 a4 a5 a6 a7 a8 a9 f0 f4 f5 f6 f7 f8 f9 v0 v1 v2 v3 v4) hD hS hA [0, 1, 2, 3, 4, 5, 6, 7] rfl
        refine va_calli (va_runV (As := [.int 0]) (rest := []) ⟨hx, hb, hml, hown, hts⟩ (c_X1_goes l D cI cZ cJ s.heap.size h a0 a4 a5 a6 a7 a8 a9 f0 f4 f5 f6 f7 f8 f9 v0 v1 v2 v3 v4 0) (cwV 1 hts gX1_give_X1_goes rfl rfl rfl (by decide +kernel) ⟨Nat.le_of_ble_eq_true rfl, Nat.le_of_ble_eq_true rfl⟩) ⟨zD_blind, va_recv hK hP (ci := 1) (q0 := 0) rfl rfl, fun U hU hW => ⟨rfl, zD_mk hP hK hD hU hW⟩⟩ rfl rfl hl.1 rfl (lv_room (Nat.le_of_ble_eq_true rfl)) dX1_give_47 ⟨Nat.le_of_ble_eq_true rfl, Nat.le_of_ble_eq_true rfl⟩) hS (fun q _ h => hFc q h) hFc (fun r17 u17 t H1 locs ht hvm w17 hB hz1 hk1 hS => ?_)
        obtain ⟨hP1, hK1, hD1⟩ := hB
        rw [ht] at hP1
        generalize H1 = H at hP1 hS ⊢
        try dsimp only at w17
        obtain ⟨w17_p, w17_0⟩ := w17
        subst w17_0
        have hP : va_P D vwCl (wM cI cZ h a0 a4 a5 a6 a7 a8 a9 f0 f4 f5 f6 f7 f8 f9 v0 v1 v2 v3 0) H := hP1
        have hD : va_D A (wM cI cZ h a0 a4 a5 a6 a7 a8 a9 f0 f4 f5 f6 f7 f8 f9 v0 v1 v2 v3 0) := hD1.weaken (fun _ _ _ h => hFc _ h)
        have w17_p : r17 = 1 := w17_p.trans (by decide)
        subst w17_p
        refine lv_if_ne (tgt := 55) hx hb dX1_give_50 (by decide) (fun _ => ?_) (fun c9 => False.elim (by revert c9; decide))
        refine lv_aload_n hx hb dX1_give_55 rfl (lv_at hl 1 rfl) ?_
        refine va_get (D := D) (ci := 1) (v := .ref a0) (C := RX1) (T := TX1) (N := 12) hx hb hts hin hown hK hP 0 rfl rfl 0 (by decide) (hts (.fieldLink RX1 7 "QuorumfundModel" "ins" "[I") (by decide +kernel)) (fun _ h9 => h9) rfl dX1_give_56 ?_
        refine lv_iload_n hx hb dX1_give_59 rfl (lv_at hl 2 rfl) ?_
        refine lv_dup2_11 hx hb dX1_give_60 rfl rfl ?_
        refine va_iald (D := D) hx hb hK hP 1 0 rfl rfl (q_g_in hq10) dX1_give_61 ?_
        refine lv_iload_n hx hb dX1_give_62 rfl (lv_at hl 3 rfl) ?_
        refine lv_iadd hx hb dX1_give_63 ?_
        refine va_iast (D := D) hx hb hK hP hD hS 1 0 rfl rfl (q_g_in hq10) dX1_give_64 (fun H locs hP hD hS => ?_)
        have hP : va_P D vwCl (wM cI cZ h a0 a4 a5 a6 a7 a8 a9 (upd f0 p0.toNatClampNeg ((f0 p0.toNatClampNeg) + p1)) f4 f5 f6 f7 f8 f9 v0 v1 v2 v3 0) H := hP
        have hD : va_D A (wM cI cZ h a0 a4 a5 a6 a7 a8 a9 (upd f0 p0.toNatClampNeg ((f0 p0.toNatClampNeg) + p1)) f4 f5 f6 f7 f8 f9 v0 v1 v2 v3 0) := hD
        refine lv_aload_n hx hb dX1_give_65 rfl (lv_at hl 1 rfl) ?_
        refine va_get (D := D) (ci := 1) (v := .ref a0) (C := RX1) (T := TX1) (N := 12) hx hb hts hin hown hK hP 0 rfl rfl 0 (by decide) (hts (.fieldLink RX1 7 "QuorumfundModel" "ins" "[I") (by decide +kernel)) (fun _ h9 => h9) rfl dX1_give_66 ?_
        refine lv_iload_n hx hb dX1_give_69 rfl (lv_at hl 2 rfl) ?_
        refine va_iald (D := D) hx hb hK hP 1 0 rfl rfl (q_g_in hq10) dX1_give_70 ?_
        exact W.iret (v := (upd f0 p0.toNatClampNeg ((f0 p0.toNatClampNeg) + p1)) p0.toNatClampNeg) hx hb hr (fun t ht hW => ⟨⟨(upd f0 p0.toNatClampNeg ((f0 p0.toNatClampNeg) + p1)) p0.toNatClampNeg, ⟨(upd f0 p0.toNatClampNeg ((f0 p0.toNatClampNeg) + p1)), 0⟩, rfl, ⟨fun _ => pk_us, by simp [q_up, q_us, q_uA, q_giveK, hq1, hq10, c16, hm], by simp [q_up, q_us, q_uA, q_giveK, hq1, hq10, c16, hm]⟩, ⟨by rw [ht]; exact hP, va_K.moved hW.alike hK, hD⟩⟩, hS.F ht⟩) hS.2.2 dX1_give_71
      · skip
        have hm := z_nle.mp c16
        refine lv_iconst (v := 3) hx hb dX1_give_42 (by decide) ?_
        refine lv_goto (tgt := 47) hx hb dX1_give_43 (by decide) ?_
        have hFc := va_free (wc := wM cI cZ h a0 a4 a5 a6 a7 a8 a9 f0 f4 f5 f6 f7 f8 f9 v0 v1 v2 v3 v4) hD hS hA [0, 1, 2, 3, 4, 5, 6, 7] rfl
        refine va_calli (va_runV (As := [.int 3]) (rest := []) ⟨hx, hb, hml, hown, hts⟩ (c_X1_goes l D cI cZ cJ s.heap.size h a0 a4 a5 a6 a7 a8 a9 f0 f4 f5 f6 f7 f8 f9 v0 v1 v2 v3 v4 3) (cwV 1 hts gX1_give_X1_goes rfl rfl rfl (by decide +kernel) ⟨Nat.le_of_ble_eq_true rfl, Nat.le_of_ble_eq_true rfl⟩) ⟨zD_blind, va_recv hK hP (ci := 1) (q0 := 0) rfl rfl, fun U hU hW => ⟨rfl, zD_mk hP hK hD hU hW⟩⟩ rfl rfl hl.1 rfl (lv_room (Nat.le_of_ble_eq_true rfl)) dX1_give_47 ⟨Nat.le_of_ble_eq_true rfl, Nat.le_of_ble_eq_true rfl⟩) hS (fun q _ h => hFc q h) hFc (fun r19 u19 t H1 locs ht hvm w19 hB hz1 hk1 hS => ?_)
        obtain ⟨hP1, hK1, hD1⟩ := hB
        rw [ht] at hP1
        generalize H1 = H at hP1 hS ⊢
        try dsimp only at w19
        obtain ⟨w19_p, w19_0⟩ := w19
        subst w19_0
        have hP : va_P D vwCl (wM cI cZ h a0 a4 a5 a6 a7 a8 a9 f0 f4 f5 f6 f7 f8 f9 v0 v1 v2 v3 3) H := hP1
        have hD : va_D A (wM cI cZ h a0 a4 a5 a6 a7 a8 a9 f0 f4 f5 f6 f7 f8 f9 v0 v1 v2 v3 3) := hD1.weaken (fun _ _ _ h => hFc _ h)
        have w19_p : r19 = 0 := w19_p.trans (by decide)
        subst w19_p
        refine lv_if_ne (tgt := 55) hx hb dX1_give_50 (by decide) (fun c9 => False.elim (by revert c9; decide)) (fun _ => ?_)
        refine lv_iconst (v := 0) hx hb dX1_give_53 (by decide) ?_
        exact W.iret (v := 0) hx hb hr (fun t ht hW => ⟨⟨0, ⟨f0, 3⟩, rfl, ⟨fun hz9 => by simp [q_giveK, hq1, hq10, c16, hm] at hz9, by simp [q_up, q_us, q_uA, q_giveK, hq1, hq10, c16, hm], by simp [q_up, q_us, q_uA, q_giveK, hq1, hq10, c16, hm]⟩, ⟨by rw [ht]; exact hP, va_K.moved hW.alike hK, hD⟩⟩, hS.F ht⟩) hS.2.2 dX1_give_54
set_option maxHeartbeats 4000000 in
set_option maxRecDepth 100000 in
theorem c_X1_leave (l : Launch) (D : va_G) (cI cZ cJ : ClassId) (sz : Nat) (h a0 a4 a5 a6 a7 a8 a9 : Nat) (f0 f4 f5 f6 f7 f8 f9 : Nat → Int32) (v0 v1 v2 v3 v4 : Int32) (p0 : Int32) : Met l yX1_leave wsX1_leave ({ frames := 2, cells := 0, slots := 0, locals := 42 }) (va_Pc [.ref h, .int p0] (zD D cI cZ cJ sz (wM cI cZ h a0 a4 a5 a6 a7 a8 a9 f0 f4 f5 f6 f7 f8 f9 v0 v1 v2 v3 v4))) (va_Qi (fun (r : Int32) (u : (Nat → Int32) × (Nat → Int32) × Int32) => (q_gK p0 = 0 → r = f0 p0.toNatClampNeg) ∧ u.1 = q_up (q_gK p0) f0 p0.toNatClampNeg 0 ∧ u.2.1 = q_up (q_gK p0) f6 p0.toNatClampNeg 0 ∧ u.2.2 = q_gK p0) (fun u t => zB D cI cZ cJ (va_A (wM cI cZ h a0 a4 a5 a6 a7 a8 a9 f0 f4 f5 f6 f7 f8 f9 v0 v1 v2 v3 v4) sz) (wM cI cZ h a0 a4 a5 a6 a7 a8 a9 u.1 f4 f5 u.2.1 f7 f8 f9 v0 v1 v2 v3 u.2.2) t) (va_A (wM cI cZ h a0 a4 a5 a6 a7 a8 a9 f0 f4 f5 f6 f7 f8 f9 v0 v1 v2 v3 v4) sz)) 0 0 (va_A (wM cI cZ h a0 a4 a5 a6 a7 a8 a9 f0 f4 f5 f6 f7 f8 f9 v0 v1 v2 v3 v4) sz) := by
  refine Met.ofW (cc := cX1_leave) (maxL := 3) (ret := (some .int)) (by decide) rfl ?_
  intro p e s m args below meth c s₁ B hml hv
  obtain ⟨rfl, hsz, hP, hK, hD0⟩ := hv
  have hx := B.exec
  have hb := B.bytes
  have hr := B.returns
  have hts := atoms_spec (ws := wsX1_leave) B.pre
  have hown : s.vm.findClass RX1 = some m.cls := findClass_of_methodNamed B.named
  have hlocks := B.notSynchronized
  have hin : ∀ w ∈ wsX10, w ∈ wsX1_leave := by decide +kernel
  subst hsz
  have hD := hD0.self (sz := s.heap.size)
  generalize hAe : va_A (wM cI cZ h a0 a4 a5 a6 a7 a8 a9 f0 f4 f5 f6 f7 f8 f9 v0 v1 v2 v3 v4) s.heap.size = A at hD ⊢
  have hA : ∀ q : Nat, s.heap.size ≤ q → A q := fun q h => by rw [← hAe]; exact Or.inr h
  have hS : va_S A s.heap s.heap [] := va_S.rf
  have hl := lv_entry ([.ref h, .int p0]) (n := 3) (Nat.le_of_ble_eq_true rfl)
  rw [lg_entry_eq]
  generalize (lg_sl ([.ref h, .int p0]) ++ List.replicate (3 - (lg_sl ([.ref h, .int p0])).length) Slot.unset).toArray = ls at hl ⊢
  have hl : lv_has ls 3 [(0, .ref h), (1, .int p0)] := hl
  refine lv_aload_n hx hb dX1_leave_0 rfl (lv_at hl 0 rfl) ?_
  refine lv_iload_n hx hb dX1_leave_1 rfl (lv_at hl 1 rfl) ?_
  refine vp_callSi (W.runS (As := [.int p0]) (rest := [.ref h]) ⟨hx, hb, hml, hown, hts⟩ (c_X1_isGiver l p0) (va_cwS 1 hts gX1_leave_X1_isGiver rfl rfl rfl (by decide +kernel) ⟨Nat.le_of_ble_eq_true rfl, Nat.le_of_ble_eq_true rfl⟩) ⟨zN_blind, fun U hU hW => ⟨rfl, trivial⟩⟩ rfl rfl hl.1 rfl (lv_room (Nat.le_of_ble_eq_true rfl)) dX1_leave_2 ⟨Nat.le_of_ble_eq_true rfl, Nat.le_of_ble_eq_true rfl⟩) (fun r1 w1 => ?_)
  cases hq1 : q_g p0
  · skip
    rw [hq1] at w1
    have w1 : r1 = 0 := w1
    subst w1
    refine lv_if_eq (tgt := 12) hx hb dX1_leave_5 (by decide) (fun _ => ?_) (fun c9 => False.elim (by revert c9; decide))
    refine lv_iconst (v := 1) hx hb dX1_leave_12 (by decide) ?_
    have hFc := va_free (wc := wM cI cZ h a0 a4 a5 a6 a7 a8 a9 f0 f4 f5 f6 f7 f8 f9 v0 v1 v2 v3 v4) hD hS hA [0, 1, 2, 3, 4, 5, 6, 7] rfl
    refine va_calli (va_runV (As := [.int 1]) (rest := []) ⟨hx, hb, hml, hown, hts⟩ (c_X1_goes l D cI cZ cJ s.heap.size h a0 a4 a5 a6 a7 a8 a9 f0 f4 f5 f6 f7 f8 f9 v0 v1 v2 v3 v4 1) (cwV 1 hts gX1_leave_X1_goes rfl rfl rfl (by decide +kernel) ⟨Nat.le_of_ble_eq_true rfl, Nat.le_of_ble_eq_true rfl⟩) ⟨zD_blind, va_recv hK hP (ci := 1) (q0 := 0) rfl rfl, fun U hU hW => ⟨rfl, zD_mk hP hK hD hU hW⟩⟩ rfl rfl hl.1 rfl (lv_room (Nat.le_of_ble_eq_true rfl)) dX1_leave_13 ⟨Nat.le_of_ble_eq_true rfl, Nat.le_of_ble_eq_true rfl⟩) hS (fun q _ h => hFc q h) hFc (fun r3 u3 t H1 locs ht hvm w3 hB hz1 hk1 hS => ?_)
    obtain ⟨hP1, hK1, hD1⟩ := hB
    rw [ht] at hP1
    generalize H1 = H at hP1 hS ⊢
    try dsimp only at w3
    obtain ⟨w3_p, w3_0⟩ := w3
    subst w3_0
    have hP : va_P D vwCl (wM cI cZ h a0 a4 a5 a6 a7 a8 a9 f0 f4 f5 f6 f7 f8 f9 v0 v1 v2 v3 1) H := hP1
    have hD : va_D A (wM cI cZ h a0 a4 a5 a6 a7 a8 a9 f0 f4 f5 f6 f7 f8 f9 v0 v1 v2 v3 1) := hD1.weaken (fun _ _ _ h => hFc _ h)
    have w3_p : r3 = 0 := w3_p.trans (by decide)
    subst w3_p
    refine lv_if_ne (tgt := 21) hx hb dX1_leave_16 (by decide) (fun c9 => False.elim (by revert c9; decide)) (fun _ => ?_)
    refine lv_iconst (v := 0) hx hb dX1_leave_19 (by decide) ?_
    exact W.iret (v := 0) hx hb hr (fun t ht hW => ⟨⟨0, ⟨f0, f6, 1⟩, rfl, ⟨fun hz9 => by simp [q_gK, hq1] at hz9, by simp [q_up, q_us, q_uA, q_gK, hq1], by simp [q_up, q_us, q_uA, q_gK, hq1], by simp [q_up, q_us, q_uA, q_gK, hq1]⟩, ⟨by rw [ht]; exact hP, va_K.moved hW.alike hK, hD⟩⟩, hS.F ht⟩) hS.2.2 dX1_leave_20
  · skip
    rw [hq1] at w1
    have w1 : r1 = 1 := w1
    subst w1
    refine lv_if_eq (tgt := 12) hx hb dX1_leave_5 (by decide) (fun c9 => False.elim (by revert c9; decide)) (fun _ => ?_)
    refine lv_iconst (v := 0) hx hb dX1_leave_8 (by decide) ?_
    refine lv_goto (tgt := 13) hx hb dX1_leave_9 (by decide) ?_
    have hFc := va_free (wc := wM cI cZ h a0 a4 a5 a6 a7 a8 a9 f0 f4 f5 f6 f7 f8 f9 v0 v1 v2 v3 v4) hD hS hA [0, 1, 2, 3, 4, 5, 6, 7] rfl
    refine va_calli (va_runV (As := [.int 0]) (rest := []) ⟨hx, hb, hml, hown, hts⟩ (c_X1_goes l D cI cZ cJ s.heap.size h a0 a4 a5 a6 a7 a8 a9 f0 f4 f5 f6 f7 f8 f9 v0 v1 v2 v3 v4 0) (cwV 1 hts gX1_leave_X1_goes rfl rfl rfl (by decide +kernel) ⟨Nat.le_of_ble_eq_true rfl, Nat.le_of_ble_eq_true rfl⟩) ⟨zD_blind, va_recv hK hP (ci := 1) (q0 := 0) rfl rfl, fun U hU hW => ⟨rfl, zD_mk hP hK hD hU hW⟩⟩ rfl rfl hl.1 rfl (lv_room (Nat.le_of_ble_eq_true rfl)) dX1_leave_13 ⟨Nat.le_of_ble_eq_true rfl, Nat.le_of_ble_eq_true rfl⟩) hS (fun q _ h => hFc q h) hFc (fun r6 u6 t H1 locs ht hvm w6 hB hz1 hk1 hS => ?_)
    obtain ⟨hP1, hK1, hD1⟩ := hB
    rw [ht] at hP1
    generalize H1 = H at hP1 hS ⊢
    try dsimp only at w6
    obtain ⟨w6_p, w6_0⟩ := w6
    subst w6_0
    have hP : va_P D vwCl (wM cI cZ h a0 a4 a5 a6 a7 a8 a9 f0 f4 f5 f6 f7 f8 f9 v0 v1 v2 v3 0) H := hP1
    have hD : va_D A (wM cI cZ h a0 a4 a5 a6 a7 a8 a9 f0 f4 f5 f6 f7 f8 f9 v0 v1 v2 v3 0) := hD1.weaken (fun _ _ _ h => hFc _ h)
    have w6_p : r6 = 1 := w6_p.trans (by decide)
    subst w6_p
    refine lv_if_ne (tgt := 21) hx hb dX1_leave_16 (by decide) (fun _ => ?_) (fun c9 => False.elim (by revert c9; decide))
    refine lv_aload_n hx hb dX1_leave_21 rfl (lv_at hl 0 rfl) ?_
    refine va_get (D := D) (ci := 1) (v := .ref a0) (C := RX1) (T := TX1) (N := 12) hx hb hts hin hown hK hP 0 rfl rfl 0 (by decide) (hts (.fieldLink RX1 7 "QuorumfundModel" "ins" "[I") (by decide +kernel)) (fun _ h9 => h9) rfl dX1_leave_22 ?_
    refine lv_iload_n hx hb dX1_leave_25 rfl (lv_at hl 1 rfl) ?_
    refine va_iald (D := D) hx hb hK hP 1 0 rfl rfl (q_g_in hq1) dX1_leave_26 ?_
    refine lv_istore_n (lv' := [(2, .int (f0 p0.toNatClampNeg)), (0, .ref h), (1, .int p0)]) hx hb dX1_leave_27 rfl hl (by decide) rfl (fun ls hl => ?_)
    refine lv_aload_n hx hb dX1_leave_28 rfl (lv_at hl 1 rfl) ?_
    refine va_get (D := D) (ci := 1) (v := .ref a0) (C := RX1) (T := TX1) (N := 12) hx hb hts hin hown hK hP 0 rfl rfl 0 (by decide) (hts (.fieldLink RX1 7 "QuorumfundModel" "ins" "[I") (by decide +kernel)) (fun _ h9 => h9) rfl dX1_leave_29 ?_
    refine lv_iload_n hx hb dX1_leave_32 rfl (lv_at hl 2 rfl) ?_
    refine lv_iconst (v := 0) hx hb dX1_leave_33 (by decide) ?_
    refine va_iast (D := D) hx hb hK hP hD hS 1 0 rfl rfl (q_g_in hq1) dX1_leave_34 (fun H locs hP hD hS => ?_)
    have hP : va_P D vwCl (wM cI cZ h a0 a4 a5 a6 a7 a8 a9 (upd f0 p0.toNatClampNeg 0) f4 f5 f6 f7 f8 f9 v0 v1 v2 v3 0) H := hP
    have hD : va_D A (wM cI cZ h a0 a4 a5 a6 a7 a8 a9 (upd f0 p0.toNatClampNeg 0) f4 f5 f6 f7 f8 f9 v0 v1 v2 v3 0) := hD
    refine lv_aload_n hx hb dX1_leave_35 rfl (lv_at hl 1 rfl) ?_
    refine va_get (D := D) (ci := 1) (v := .ref a6) (C := RX1) (T := TX1) (N := 12) hx hb hts hin hown hK hP 0 rfl rfl 3 (by decide) (hts (.fieldLink RX1 19 "QuorumfundModel" "votes" "[I") (by decide +kernel)) (fun _ h9 => h9) rfl dX1_leave_36 ?_
    refine lv_iload_n hx hb dX1_leave_39 rfl (lv_at hl 2 rfl) ?_
    refine lv_iconst (v := 0) hx hb dX1_leave_40 (by decide) ?_
    refine va_iast (D := D) hx hb hK hP hD hS 4 0 rfl rfl (q_g_in hq1) dX1_leave_41 (fun H locs hP hD hS => ?_)
    have hP : va_P D vwCl (wM cI cZ h a0 a4 a5 a6 a7 a8 a9 (upd f0 p0.toNatClampNeg 0) f4 f5 (upd f6 p0.toNatClampNeg 0) f7 f8 f9 v0 v1 v2 v3 0) H := hP
    have hD : va_D A (wM cI cZ h a0 a4 a5 a6 a7 a8 a9 (upd f0 p0.toNatClampNeg 0) f4 f5 (upd f6 p0.toNatClampNeg 0) f7 f8 f9 v0 v1 v2 v3 0) := hD
    refine lv_iload_n hx hb dX1_leave_42 rfl (lv_at hl 0 rfl) ?_
    exact W.iret (v := f0 p0.toNatClampNeg) hx hb hr (fun t ht hW => ⟨⟨f0 p0.toNatClampNeg, ⟨(upd f0 p0.toNatClampNeg 0), (upd f6 p0.toNatClampNeg 0), 0⟩, rfl, ⟨fun _ => rfl, by simp [q_up, q_us, q_uA, q_gK, hq1], by simp [q_up, q_us, q_uA, q_gK, hq1], by simp [q_up, q_us, q_uA, q_gK, hq1]⟩, ⟨by rw [ht]; exact hP, va_K.moved hW.alike hK, hD⟩⟩, hS.F ht⟩) hS.2.2 dX1_leave_43
set_option maxHeartbeats 4000000 in
set_option maxRecDepth 100000 in
theorem c_X1_isInRow (l : Launch) (D : va_G) (cI cZ cJ : ClassId) (h a0 a4 a5 a6 a7 a8 a9 : Nat) (f0 f4 f5 f6 f7 f8 f9 : Nat → Int32) (v0 v1 v2 v3 v4 : Int32) (p0 p1 : Int32) (he : q_ends f4 8 p1) : Met l yX1_isInRow wsX1_isInRow ({ frames := 0, cells := 0, slots := 0, locals := 0 }) (va_Pc [.ref h, .int p0, .int p1] (zP D cI cZ cJ (wM cI cZ h a0 a4 a5 a6 a7 a8 a9 f0 f4 f5 f6 f7 f8 f9 v0 v1 v2 v3 v4))) (vp_Si (fun r : Int32 => (r = bif q_lead f4 8 p1 p0 then 1 else 0))) 0 0 (fun _ => False) := by
  refine Met.ofW (cc := cX1_isInRow) (maxL := 5) (ret := (some .boolean)) (by decide) rfl ?_
  intro p e s m args below meth c s₁ B hml hv
  obtain ⟨rfl, hP, hK⟩ := hv
  have hx := B.exec
  have hb := B.bytes
  have hr := B.returns
  have hts := atoms_spec (ws := wsX1_isInRow) B.pre
  have hown : s.vm.findClass RX1 = some m.cls := findClass_of_methodNamed B.named
  have hlocks := B.notSynchronized
  have hin : ∀ w ∈ wsX10, w ∈ wsX1_isInRow := by decide +kernel
  have hl := lv_entry ([.ref h, .int p0, .int p1]) (n := 5) (Nat.le_of_ble_eq_true rfl)
  rw [lg_entry_eq]
  generalize (lg_sl ([.ref h, .int p0, .int p1]) ++ List.replicate (5 - (lg_sl ([.ref h, .int p0, .int p1])).length) Slot.unset).toArray = ls at hl ⊢
  have hl : lv_has ls 5 [(0, .ref h), (1, .int p0), (2, .int p1)] := hl
  refine lv_iconst (v := 0) hx hb dX1_isInRow_0 (by decide) ?_
  refine lv_istore_n (lv' := [(3, .int 0), (0, .ref h), (1, .int p0), (2, .int p1)]) hx hb dX1_isInRow_1 rfl hl (by decide) rfl (fun ls hl => ?_)
  refine lv_iload_n hx hb dX1_isInRow_2 rfl (lv_at hl 3 rfl) ?_
  refine lv_istore (lv' := [(4, .int p1), (3, .int 0), (0, .ref h), (1, .int p0), (2, .int p1)]) hx hb dX1_isInRow_3 hl (by decide) rfl (fun ls hl => ?_)
  have hloop5 : ∀ (n5 : Nat) (j : Nat) (a : Int32) (b : Int32), (j < n5) → (q_ends f4 j a) → (b = 0 ∨ b = 1) → (q_lead f4 8 p1 p0 = (decide (b = 1) || q_lead f4 j a p0)) → ∀ (ls : Array Slot), lv_has ls 5 [(4, .int a), (3, .int b), (0, .ref h), (1, .int p0), (2, .int p1)] → W p l e (headSpec wsX1_isInRow ({ frames := 0, cells := 0, slots := 0, locals := 0 })).room s m ([Value.ref h, Value.int p0, Value.int p1] : List Value).toArray below meth c s.heap [] 0 0 (MQ below (vp_Si (fun r : Int32 => (r = bif q_lead f4 8 p1 p0 then 1 else 0))) ([Value.ref h, Value.int p0, Value.int p1] : List Value).toArray s 0 0 (fun _ => False)) (F0 m 5 ls []) := by
    intro n5
    induction n5 with
    | zero => intro j a b hn hj9 hb1 ex; exact False.elim (by omega)
    | succ n5 ih5 =>
      intro j a b hn hj9 hb1 ex ls hl
      refine lv_iload hx hb dX1_isInRow_5 (lv_at hl 0 rfl) ?_
      refine lv_iconst (v := (-1)) hx hb dX1_isInRow_7 (by decide) ?_
      refine lv_icmp_eq (tgt := 39) hx hb dX1_isInRow_8 (by decide) (fun c1 => ?_) (fun c1 => ?_)
      · skip
        have hm1 : q_lead f4 j (-1) p0 = false := z_lead_m1 f4 p0 j
        subst c1
        refine lv_iload_n hx hb dX1_isInRow_39 rfl (lv_at hl 1 rfl) ?_
        exact W.zret (v := b) hx hb hr (by rcases hb1 with h9 | h9 <;> rw [h9] <;> rfl) (fun t ht hW => ⟨b, rfl, (by rw [ex, hm1]; rcases hb1 with h9 | h9 <;> rw [h9] <;> rfl), ht⟩) (fun _ h => nomatch h) dX1_isInRow_40
      · skip
        obtain ⟨j, rfl, hga, he9⟩ := z_ends_step hj9 c1
        refine lv_iload_n hx hb dX1_isInRow_11 rfl (lv_at hl 1 rfl) ?_
        refine lv_if_ne (tgt := 21) hx hb dX1_isInRow_12 (by decide) (fun c2 => ?_) (fun c2 => ?_)
        · skip
          have hb2 : b = 1 := by rcases hb1 with h9 | h9; exact absurd h9 c2; exact h9
          refine lv_iconst (v := 1) hx hb dX1_isInRow_21 (by decide) ?_
          refine lv_goto (tgt := 26) hx hb dX1_isInRow_22 (by decide) ?_
          refine lv_istore_n (lv' := [(3, .int 1), (4, .int a), (0, .ref h), (1, .int p0), (2, .int p1)]) hx hb dX1_isInRow_26 rfl hl (by decide) rfl (fun ls hl => ?_)
          refine lv_aload_n hx hb dX1_isInRow_27 rfl (lv_at hl 2 rfl) ?_
          refine va_get (D := D) (ci := 1) (v := .ref a4) (C := RX1) (T := TX1) (N := 12) hx hb hts hin hown hK hP 0 rfl rfl 1 (by decide) (hts (.fieldLink RX1 13 "QuorumfundModel" "trusted" "[I") (by decide +kernel)) (fun _ h9 => h9) rfl dX1_isInRow_28 ?_
          refine lv_iload hx hb dX1_isInRow_31 (lv_at hl 1 rfl) ?_
          refine va_iald (D := D) hx hb hK hP 2 0 rfl rfl (q_g_in hga) dX1_isInRow_33 ?_
          refine lv_istore (lv' := [(4, .int (f4 a.toNatClampNeg)), (3, .int 1), (0, .ref h), (1, .int p0), (2, .int p1)]) hx hb dX1_isInRow_34 hl (by decide) rfl (fun ls hl => ?_)
          refine lv_goto (tgt := 5) hx hb dX1_isInRow_36 (by decide) ?_
          exact ih5 j (f4 a.toNatClampNeg) 1 (by omega) he9 (Or.inr rfl) (by rw [ex, q_lead, hga]; simp [c2, hb2]) ls (lv_sub hl [0, 1, 2, 3, 4] rfl)
        · skip
          have hb2 : ¬ b = 1 := by rw [c2]; decide
          refine lv_iload hx hb dX1_isInRow_15 (lv_at hl 0 rfl) ?_
          refine lv_iload_n hx hb dX1_isInRow_17 rfl (lv_at hl 3 rfl) ?_
          refine lv_icmp_ne (tgt := 25) hx hb dX1_isInRow_18 (by decide) (fun c3 => ?_) (fun c3 => ?_)
          · skip
            refine lv_iconst (v := 0) hx hb dX1_isInRow_25 (by decide) ?_
            refine lv_istore_n (lv' := [(3, .int 0), (4, .int a), (0, .ref h), (1, .int p0), (2, .int p1)]) hx hb dX1_isInRow_26 rfl hl (by decide) rfl (fun ls hl => ?_)
            refine lv_aload_n hx hb dX1_isInRow_27 rfl (lv_at hl 2 rfl) ?_
            refine va_get (D := D) (ci := 1) (v := .ref a4) (C := RX1) (T := TX1) (N := 12) hx hb hts hin hown hK hP 0 rfl rfl 1 (by decide) (hts (.fieldLink RX1 13 "QuorumfundModel" "trusted" "[I") (by decide +kernel)) (fun _ h9 => h9) rfl dX1_isInRow_28 ?_
            refine lv_iload hx hb dX1_isInRow_31 (lv_at hl 1 rfl) ?_
            refine va_iald (D := D) hx hb hK hP 2 0 rfl rfl (q_g_in hga) dX1_isInRow_33 ?_
            refine lv_istore (lv' := [(4, .int (f4 a.toNatClampNeg)), (3, .int 0), (0, .ref h), (1, .int p0), (2, .int p1)]) hx hb dX1_isInRow_34 hl (by decide) rfl (fun ls hl => ?_)
            refine lv_goto (tgt := 5) hx hb dX1_isInRow_36 (by decide) ?_
            exact ih5 j (f4 a.toNatClampNeg) 0 (by omega) he9 (Or.inl rfl) (by rw [ex, q_lead, hga]; simp [c2, hb2, c3]) ls (lv_sub hl [0, 1, 2, 3, 4] rfl)
          · skip
            refine lv_iconst (v := 1) hx hb dX1_isInRow_21 (by decide) ?_
            refine lv_goto (tgt := 26) hx hb dX1_isInRow_22 (by decide) ?_
            refine lv_istore_n (lv' := [(3, .int 1), (4, .int a), (0, .ref h), (1, .int p0), (2, .int p1)]) hx hb dX1_isInRow_26 rfl hl (by decide) rfl (fun ls hl => ?_)
            refine lv_aload_n hx hb dX1_isInRow_27 rfl (lv_at hl 2 rfl) ?_
            refine va_get (D := D) (ci := 1) (v := .ref a4) (C := RX1) (T := TX1) (N := 12) hx hb hts hin hown hK hP 0 rfl rfl 1 (by decide) (hts (.fieldLink RX1 13 "QuorumfundModel" "trusted" "[I") (by decide +kernel)) (fun _ h9 => h9) rfl dX1_isInRow_28 ?_
            refine lv_iload hx hb dX1_isInRow_31 (lv_at hl 1 rfl) ?_
            refine va_iald (D := D) hx hb hK hP 2 0 rfl rfl (q_g_in hga) dX1_isInRow_33 ?_
            refine lv_istore (lv' := [(4, .int (f4 a.toNatClampNeg)), (3, .int 1), (0, .ref h), (1, .int p0), (2, .int p1)]) hx hb dX1_isInRow_34 hl (by decide) rfl (fun ls hl => ?_)
            refine lv_goto (tgt := 5) hx hb dX1_isInRow_36 (by decide) ?_
            exact ih5 j (f4 a.toNatClampNeg) 1 (by omega) he9 (Or.inr rfl) (by rw [ex, q_lead, hga]; simp [c2, hb2, c3]) ls (lv_sub hl [0, 1, 2, 3, 4] rfl)
  exact hloop5 9 8 p1 0 (by omega) he (Or.inl rfl) (by simp) ls (lv_sub hl [0, 1, 2, 3, 4] rfl)
set_option maxHeartbeats 4000000 in
set_option maxRecDepth 100000 in
theorem c_X1_trust (l : Launch) (D : va_G) (cI cZ cJ : ClassId) (sz : Nat) (h a0 a4 a5 a6 a7 a8 a9 : Nat) (f0 f4 f5 f6 f7 f8 f9 : Nat → Int32) (v0 v1 v2 v3 v4 : Int32) (p0 p1 : Int32) (he : q_g p1 = true → q_ends f4 8 p1) : Met l yX1_trust wsX1_trust ({ frames := 2, cells := 0, slots := 0, locals := 42 }) (va_Pc [.ref h, .int p0, .int p1] (zD D cI cZ cJ sz (wM cI cZ h a0 a4 a5 a6 a7 a8 a9 f0 f4 f5 f6 f7 f8 f9 v0 v1 v2 v3 v4))) (va_Qi (fun (r : Int32) (u : (Nat → Int32) × Int32) => (q_trK f4 p0 p1 = 0 → r = f4 p0.toNatClampNeg) ∧ u.1 = q_up (q_trK f4 p0 p1) f4 p0.toNatClampNeg p1 ∧ u.2 = q_trK f4 p0 p1) (fun u t => zB D cI cZ cJ (va_A (wM cI cZ h a0 a4 a5 a6 a7 a8 a9 f0 f4 f5 f6 f7 f8 f9 v0 v1 v2 v3 v4) sz) (wM cI cZ h a0 a4 a5 a6 a7 a8 a9 f0 u.1 f5 f6 f7 f8 f9 v0 v1 v2 v3 u.2) t) (va_A (wM cI cZ h a0 a4 a5 a6 a7 a8 a9 f0 f4 f5 f6 f7 f8 f9 v0 v1 v2 v3 v4) sz)) 0 0 (va_A (wM cI cZ h a0 a4 a5 a6 a7 a8 a9 f0 f4 f5 f6 f7 f8 f9 v0 v1 v2 v3 v4) sz) := by
  refine Met.ofW (cc := cX1_trust) (maxL := 5) (ret := (some .int)) (by decide) rfl ?_
  intro p e s m args below meth c s₁ B hml hv
  obtain ⟨rfl, hsz, hP, hK, hD0⟩ := hv
  have hx := B.exec
  have hb := B.bytes
  have hr := B.returns
  have hts := atoms_spec (ws := wsX1_trust) B.pre
  have hown : s.vm.findClass RX1 = some m.cls := findClass_of_methodNamed B.named
  have hlocks := B.notSynchronized
  have hin : ∀ w ∈ wsX10, w ∈ wsX1_trust := by decide +kernel
  subst hsz
  have hD := hD0.self (sz := s.heap.size)
  generalize hAe : va_A (wM cI cZ h a0 a4 a5 a6 a7 a8 a9 f0 f4 f5 f6 f7 f8 f9 v0 v1 v2 v3 v4) s.heap.size = A at hD ⊢
  have hA : ∀ q : Nat, s.heap.size ≤ q → A q := fun q h => by rw [← hAe]; exact Or.inr h
  have hS : va_S A s.heap s.heap [] := va_S.rf
  have hl := lv_entry ([.ref h, .int p0, .int p1]) (n := 5) (Nat.le_of_ble_eq_true rfl)
  rw [lg_entry_eq]
  generalize (lg_sl ([.ref h, .int p0, .int p1]) ++ List.replicate (5 - (lg_sl ([.ref h, .int p0, .int p1])).length) Slot.unset).toArray = ls at hl ⊢
  have hl : lv_has ls 5 [(0, .ref h), (1, .int p0), (2, .int p1)] := hl
  refine lv_iload_n hx hb dX1_trust_0 rfl (lv_at hl 1 rfl) ?_
  refine vp_callSi (W.runS (As := [.int p0]) (rest := []) ⟨hx, hb, hml, hown, hts⟩ (c_X1_isGiver l p0) (va_cwS 1 hts gX1_trust_X1_isGiver rfl rfl rfl (by decide +kernel) ⟨Nat.le_of_ble_eq_true rfl, Nat.le_of_ble_eq_true rfl⟩) ⟨zN_blind, fun U hU hW => ⟨rfl, trivial⟩⟩ rfl rfl hl.1 rfl (lv_room (Nat.le_of_ble_eq_true rfl)) dX1_trust_1 ⟨Nat.le_of_ble_eq_true rfl, Nat.le_of_ble_eq_true rfl⟩) (fun r1 w1 => ?_)
  cases hq1 : q_g p0
  · skip
    rw [hq1] at w1
    have w1 : r1 = 0 := w1
    subst w1
    refine lv_if_eq (tgt := 23) hx hb dX1_trust_4 (by decide) (fun _ => ?_) (fun c9 => False.elim (by revert c9; decide))
    refine lv_iconst (v := 0) hx hb dX1_trust_23 (by decide) ?_
    refine lv_istore_n (lv' := [(3, .int 0), (0, .ref h), (1, .int p0), (2, .int p1)]) hx hb dX1_trust_24 rfl hl (by decide) rfl (fun ls hl => ?_)
    refine lv_aload_n hx hb dX1_trust_25 rfl (lv_at hl 1 rfl) ?_
    refine lv_iload_n hx hb dX1_trust_26 rfl (lv_at hl 0 rfl) ?_
    refine lv_if_ne (tgt := 34) hx hb dX1_trust_27 (by decide) (fun c9 => False.elim (by revert c9; decide)) (fun _ => ?_)
    refine lv_iconst (v := 1) hx hb dX1_trust_30 (by decide) ?_
    refine lv_goto (tgt := 48) hx hb dX1_trust_31 (by decide) ?_
    have hFc := va_free (wc := wM cI cZ h a0 a4 a5 a6 a7 a8 a9 f0 f4 f5 f6 f7 f8 f9 v0 v1 v2 v3 v4) hD hS hA [0, 1, 2, 3, 4, 5, 6, 7] rfl
    refine va_calli (va_runV (As := [.int 1]) (rest := []) ⟨hx, hb, hml, hown, hts⟩ (c_X1_goes l D cI cZ cJ s.heap.size h a0 a4 a5 a6 a7 a8 a9 f0 f4 f5 f6 f7 f8 f9 v0 v1 v2 v3 v4 1) (cwV 1 hts gX1_trust_X1_goes rfl rfl rfl (by decide +kernel) ⟨Nat.le_of_ble_eq_true rfl, Nat.le_of_ble_eq_true rfl⟩) ⟨zD_blind, va_recv hK hP (ci := 1) (q0 := 0) rfl rfl, fun U hU hW => ⟨rfl, zD_mk hP hK hD hU hW⟩⟩ rfl rfl hl.1 rfl (lv_room (Nat.le_of_ble_eq_true rfl)) dX1_trust_48 ⟨Nat.le_of_ble_eq_true rfl, Nat.le_of_ble_eq_true rfl⟩) hS (fun q _ h => hFc q h) hFc (fun r4 u4 t H1 locs ht hvm w4 hB hz1 hk1 hS => ?_)
    obtain ⟨hP1, hK1, hD1⟩ := hB
    rw [ht] at hP1
    generalize H1 = H at hP1 hS ⊢
    try dsimp only at w4
    obtain ⟨w4_p, w4_0⟩ := w4
    subst w4_0
    have hP : va_P D vwCl (wM cI cZ h a0 a4 a5 a6 a7 a8 a9 f0 f4 f5 f6 f7 f8 f9 v0 v1 v2 v3 1) H := hP1
    have hD : va_D A (wM cI cZ h a0 a4 a5 a6 a7 a8 a9 f0 f4 f5 f6 f7 f8 f9 v0 v1 v2 v3 1) := hD1.weaken (fun _ _ _ h => hFc _ h)
    have w4_p : r4 = 0 := w4_p.trans (by decide)
    subst w4_p
    refine lv_if_ne (tgt := 56) hx hb dX1_trust_51 (by decide) (fun c9 => False.elim (by revert c9; decide)) (fun _ => ?_)
    refine lv_iconst (v := 0) hx hb dX1_trust_54 (by decide) ?_
    exact W.iret (v := 0) hx hb hr (fun t ht hW => ⟨⟨0, ⟨f4, 1⟩, rfl, ⟨fun hz9 => by simp [q_trK, hq1] at hz9, by simp [q_up, q_us, q_uA, q_trK, hq1], by simp [q_up, q_us, q_uA, q_trK, hq1]⟩, ⟨by rw [ht]; exact hP, va_K.moved hW.alike hK, hD⟩⟩, hS.F ht⟩) hS.2.2 dX1_trust_55
  · skip
    rw [hq1] at w1
    have w1 : r1 = 1 := w1
    subst w1
    refine lv_if_eq (tgt := 23) hx hb dX1_trust_4 (by decide) (fun c9 => False.elim (by revert c9; decide)) (fun _ => ?_)
    refine lv_iload_n hx hb dX1_trust_7 rfl (lv_at hl 2 rfl) ?_
    refine lv_iconst (v := (-1)) hx hb dX1_trust_8 (by decide) ?_
    refine lv_icmp_eq (tgt := 19) hx hb dX1_trust_9 (by decide) (fun c7 => ?_) (fun c7 => ?_)
    · skip
      have hen : q_ends f4 8 p1 := by rw [c7]; exact Or.inl rfl
      have hd9 : decide (p1 = -1) = true := decide_eq_true c7
      refine lv_iconst (v := 1) hx hb dX1_trust_19 (by decide) ?_
      refine lv_goto (tgt := 24) hx hb dX1_trust_20 (by decide) ?_
      refine lv_istore_n (lv' := [(3, .int 1), (0, .ref h), (1, .int p0), (2, .int p1)]) hx hb dX1_trust_24 rfl hl (by decide) rfl (fun ls hl => ?_)
      refine lv_aload_n hx hb dX1_trust_25 rfl (lv_at hl 1 rfl) ?_
      refine lv_iload_n hx hb dX1_trust_26 rfl (lv_at hl 0 rfl) ?_
      refine lv_if_ne (tgt := 34) hx hb dX1_trust_27 (by decide) (fun _ => ?_) (fun c9 => False.elim (by revert c9; decide))
      refine lv_aload_n hx hb dX1_trust_34 rfl (lv_at hl 1 rfl) ?_
      refine lv_iload_n hx hb dX1_trust_35 rfl (lv_at hl 2 rfl) ?_
      refine lv_iload_n hx hb dX1_trust_36 rfl (lv_at hl 3 rfl) ?_
      refine vp_callSi (W.runV (As := [.int p0, .int p1]) (rest := [.ref h]) ⟨hx, hb, hml, hown, hts⟩ (c_X1_isInRow l D cI cZ cJ h a0 a4 a5 a6 a7 a8 a9 f0 f4 f5 f6 f7 f8 f9 v0 v1 v2 v3 v4 p0 p1 hen) (cwV 2 hts gX1_trust_X1_isInRow rfl rfl rfl (by decide +kernel) ⟨Nat.le_of_ble_eq_true rfl, Nat.le_of_ble_eq_true rfl⟩) ⟨zP_blind, va_recv hK hP (ci := 1) (q0 := 0) rfl rfl, fun U hU hW => ⟨rfl, zP_mk hP hK hU hW⟩⟩ rfl rfl hl.1 rfl (lv_room (Nat.le_of_ble_eq_true rfl)) dX1_trust_37 ⟨Nat.le_of_ble_eq_true rfl, Nat.le_of_ble_eq_true rfl⟩) (fun r9 w9 => ?_)
      cases hq9 : q_lead f4 8 p1 p0
      · skip
        rw [hq9] at w9
        have w9 : r9 = 0 := w9
        subst w9
        refine lv_if_eq (tgt := 47) hx hb dX1_trust_40 (by decide) (fun _ => ?_) (fun c9 => False.elim (by revert c9; decide))
        refine lv_iconst (v := 0) hx hb dX1_trust_47 (by decide) ?_
        have hFc := va_free (wc := wM cI cZ h a0 a4 a5 a6 a7 a8 a9 f0 f4 f5 f6 f7 f8 f9 v0 v1 v2 v3 v4) hD hS hA [0, 1, 2, 3, 4, 5, 6, 7] rfl
        refine va_calli (va_runV (As := [.int 0]) (rest := []) ⟨hx, hb, hml, hown, hts⟩ (c_X1_goes l D cI cZ cJ s.heap.size h a0 a4 a5 a6 a7 a8 a9 f0 f4 f5 f6 f7 f8 f9 v0 v1 v2 v3 v4 0) (cwV 1 hts gX1_trust_X1_goes rfl rfl rfl (by decide +kernel) ⟨Nat.le_of_ble_eq_true rfl, Nat.le_of_ble_eq_true rfl⟩) ⟨zD_blind, va_recv hK hP (ci := 1) (q0 := 0) rfl rfl, fun U hU hW => ⟨rfl, zD_mk hP hK hD hU hW⟩⟩ rfl rfl hl.1 rfl (lv_room (Nat.le_of_ble_eq_true rfl)) dX1_trust_48 ⟨Nat.le_of_ble_eq_true rfl, Nat.le_of_ble_eq_true rfl⟩) hS (fun q _ h => hFc q h) hFc (fun r11 u11 t H1 locs ht hvm w11 hB hz1 hk1 hS => ?_)
        obtain ⟨hP1, hK1, hD1⟩ := hB
        rw [ht] at hP1
        generalize H1 = H at hP1 hS ⊢
        try dsimp only at w11
        obtain ⟨w11_p, w11_0⟩ := w11
        subst w11_0
        have hP : va_P D vwCl (wM cI cZ h a0 a4 a5 a6 a7 a8 a9 f0 f4 f5 f6 f7 f8 f9 v0 v1 v2 v3 0) H := hP1
        have hD : va_D A (wM cI cZ h a0 a4 a5 a6 a7 a8 a9 f0 f4 f5 f6 f7 f8 f9 v0 v1 v2 v3 0) := hD1.weaken (fun _ _ _ h => hFc _ h)
        have w11_p : r11 = 1 := w11_p.trans (by decide)
        subst w11_p
        refine lv_if_ne (tgt := 56) hx hb dX1_trust_51 (by decide) (fun _ => ?_) (fun c9 => False.elim (by revert c9; decide))
        refine lv_aload_n hx hb dX1_trust_56 rfl (lv_at hl 1 rfl) ?_
        refine va_get (D := D) (ci := 1) (v := .ref a4) (C := RX1) (T := TX1) (N := 12) hx hb hts hin hown hK hP 0 rfl rfl 1 (by decide) (hts (.fieldLink RX1 13 "QuorumfundModel" "trusted" "[I") (by decide +kernel)) (fun _ h9 => h9) rfl dX1_trust_57 ?_
        refine lv_iload_n hx hb dX1_trust_60 rfl (lv_at hl 2 rfl) ?_
        refine va_iald (D := D) hx hb hK hP 2 0 rfl rfl (q_g_in hq1) dX1_trust_61 ?_
        refine lv_istore (lv' := [(4, .int (f4 p0.toNatClampNeg)), (3, .int 1), (0, .ref h), (1, .int p0), (2, .int p1)]) hx hb dX1_trust_62 hl (by decide) rfl (fun ls hl => ?_)
        refine lv_aload_n hx hb dX1_trust_64 rfl (lv_at hl 2 rfl) ?_
        refine va_get (D := D) (ci := 1) (v := .ref a4) (C := RX1) (T := TX1) (N := 12) hx hb hts hin hown hK hP 0 rfl rfl 1 (by decide) (hts (.fieldLink RX1 13 "QuorumfundModel" "trusted" "[I") (by decide +kernel)) (fun _ h9 => h9) rfl dX1_trust_65 ?_
        refine lv_iload_n hx hb dX1_trust_68 rfl (lv_at hl 3 rfl) ?_
        refine lv_iload_n hx hb dX1_trust_69 rfl (lv_at hl 4 rfl) ?_
        refine va_iast (D := D) hx hb hK hP hD hS 2 0 rfl rfl (q_g_in hq1) dX1_trust_70 (fun H locs hP hD hS => ?_)
        have hP : va_P D vwCl (wM cI cZ h a0 a4 a5 a6 a7 a8 a9 f0 (upd f4 p0.toNatClampNeg p1) f5 f6 f7 f8 f9 v0 v1 v2 v3 0) H := hP
        have hD : va_D A (wM cI cZ h a0 a4 a5 a6 a7 a8 a9 f0 (upd f4 p0.toNatClampNeg p1) f5 f6 f7 f8 f9 v0 v1 v2 v3 0) := hD
        refine lv_iload hx hb dX1_trust_71 (lv_at hl 0 rfl) ?_
        exact W.iret (v := f4 p0.toNatClampNeg) hx hb hr (fun t ht hW => ⟨⟨f4 p0.toNatClampNeg, ⟨(upd f4 p0.toNatClampNeg p1), 0⟩, rfl, ⟨fun _ => rfl, by simp [q_up, q_us, q_uA, q_trK, hq1, hd9, hq9], by simp [q_up, q_us, q_uA, q_trK, hq1, hd9, hq9]⟩, ⟨by rw [ht]; exact hP, va_K.moved hW.alike hK, hD⟩⟩, hS.F ht⟩) hS.2.2 dX1_trust_73
      · skip
        rw [hq9] at w9
        have w9 : r9 = 1 := w9
        subst w9
        refine lv_if_eq (tgt := 47) hx hb dX1_trust_40 (by decide) (fun c9 => False.elim (by revert c9; decide)) (fun _ => ?_)
        refine lv_iconst (v := 2) hx hb dX1_trust_43 (by decide) ?_
        refine lv_goto (tgt := 48) hx hb dX1_trust_44 (by decide) ?_
        have hFc := va_free (wc := wM cI cZ h a0 a4 a5 a6 a7 a8 a9 f0 f4 f5 f6 f7 f8 f9 v0 v1 v2 v3 v4) hD hS hA [0, 1, 2, 3, 4, 5, 6, 7] rfl
        refine va_calli (va_runV (As := [.int 2]) (rest := []) ⟨hx, hb, hml, hown, hts⟩ (c_X1_goes l D cI cZ cJ s.heap.size h a0 a4 a5 a6 a7 a8 a9 f0 f4 f5 f6 f7 f8 f9 v0 v1 v2 v3 v4 2) (cwV 1 hts gX1_trust_X1_goes rfl rfl rfl (by decide +kernel) ⟨Nat.le_of_ble_eq_true rfl, Nat.le_of_ble_eq_true rfl⟩) ⟨zD_blind, va_recv hK hP (ci := 1) (q0 := 0) rfl rfl, fun U hU hW => ⟨rfl, zD_mk hP hK hD hU hW⟩⟩ rfl rfl hl.1 rfl (lv_room (Nat.le_of_ble_eq_true rfl)) dX1_trust_48 ⟨Nat.le_of_ble_eq_true rfl, Nat.le_of_ble_eq_true rfl⟩) hS (fun q _ h => hFc q h) hFc (fun r14 u14 t H1 locs ht hvm w14 hB hz1 hk1 hS => ?_)
        obtain ⟨hP1, hK1, hD1⟩ := hB
        rw [ht] at hP1
        generalize H1 = H at hP1 hS ⊢
        try dsimp only at w14
        obtain ⟨w14_p, w14_0⟩ := w14
        subst w14_0
        have hP : va_P D vwCl (wM cI cZ h a0 a4 a5 a6 a7 a8 a9 f0 f4 f5 f6 f7 f8 f9 v0 v1 v2 v3 2) H := hP1
        have hD : va_D A (wM cI cZ h a0 a4 a5 a6 a7 a8 a9 f0 f4 f5 f6 f7 f8 f9 v0 v1 v2 v3 2) := hD1.weaken (fun _ _ _ h => hFc _ h)
        have w14_p : r14 = 0 := w14_p.trans (by decide)
        subst w14_p
        refine lv_if_ne (tgt := 56) hx hb dX1_trust_51 (by decide) (fun c9 => False.elim (by revert c9; decide)) (fun _ => ?_)
        refine lv_iconst (v := 0) hx hb dX1_trust_54 (by decide) ?_
        exact W.iret (v := 0) hx hb hr (fun t ht hW => ⟨⟨0, ⟨f4, 2⟩, rfl, ⟨fun hz9 => by simp [q_trK, hq1, hd9, hq9] at hz9, by simp [q_up, q_us, q_uA, q_trK, hq1, hd9, hq9], by simp [q_up, q_us, q_uA, q_trK, hq1, hd9, hq9]⟩, ⟨by rw [ht]; exact hP, va_K.moved hW.alike hK, hD⟩⟩, hS.F ht⟩) hS.2.2 dX1_trust_55
    · skip
      have hd9 : decide (p1 = -1) = false := decide_eq_false c7
      refine lv_iload_n hx hb dX1_trust_12 rfl (lv_at hl 2 rfl) ?_
      refine vp_callSi (W.runS (As := [.int p1]) (rest := []) ⟨hx, hb, hml, hown, hts⟩ (c_X1_isGiver l p1) (va_cwS 1 hts gX1_trust_X1_isGiver rfl rfl rfl (by decide +kernel) ⟨Nat.le_of_ble_eq_true rfl, Nat.le_of_ble_eq_true rfl⟩) ⟨zN_blind, fun U hU hW => ⟨rfl, trivial⟩⟩ rfl rfl hl.1 rfl (lv_room (Nat.le_of_ble_eq_true rfl)) dX1_trust_13 ⟨Nat.le_of_ble_eq_true rfl, Nat.le_of_ble_eq_true rfl⟩) (fun r16 w16 => ?_)
      cases hq16 : q_g p1
      · skip
        rw [hq16] at w16
        have w16 : r16 = 0 := w16
        subst w16
        refine lv_if_eq (tgt := 23) hx hb dX1_trust_16 (by decide) (fun _ => ?_) (fun c9 => False.elim (by revert c9; decide))
        refine lv_iconst (v := 0) hx hb dX1_trust_23 (by decide) ?_
        refine lv_istore_n (lv' := [(3, .int 0), (0, .ref h), (1, .int p0), (2, .int p1)]) hx hb dX1_trust_24 rfl hl (by decide) rfl (fun ls hl => ?_)
        refine lv_aload_n hx hb dX1_trust_25 rfl (lv_at hl 1 rfl) ?_
        refine lv_iload_n hx hb dX1_trust_26 rfl (lv_at hl 0 rfl) ?_
        refine lv_if_ne (tgt := 34) hx hb dX1_trust_27 (by decide) (fun c9 => False.elim (by revert c9; decide)) (fun _ => ?_)
        refine lv_iconst (v := 1) hx hb dX1_trust_30 (by decide) ?_
        refine lv_goto (tgt := 48) hx hb dX1_trust_31 (by decide) ?_
        have hFc := va_free (wc := wM cI cZ h a0 a4 a5 a6 a7 a8 a9 f0 f4 f5 f6 f7 f8 f9 v0 v1 v2 v3 v4) hD hS hA [0, 1, 2, 3, 4, 5, 6, 7] rfl
        refine va_calli (va_runV (As := [.int 1]) (rest := []) ⟨hx, hb, hml, hown, hts⟩ (c_X1_goes l D cI cZ cJ s.heap.size h a0 a4 a5 a6 a7 a8 a9 f0 f4 f5 f6 f7 f8 f9 v0 v1 v2 v3 v4 1) (cwV 1 hts gX1_trust_X1_goes rfl rfl rfl (by decide +kernel) ⟨Nat.le_of_ble_eq_true rfl, Nat.le_of_ble_eq_true rfl⟩) ⟨zD_blind, va_recv hK hP (ci := 1) (q0 := 0) rfl rfl, fun U hU hW => ⟨rfl, zD_mk hP hK hD hU hW⟩⟩ rfl rfl hl.1 rfl (lv_room (Nat.le_of_ble_eq_true rfl)) dX1_trust_48 ⟨Nat.le_of_ble_eq_true rfl, Nat.le_of_ble_eq_true rfl⟩) hS (fun q _ h => hFc q h) hFc (fun r19 u19 t H1 locs ht hvm w19 hB hz1 hk1 hS => ?_)
        obtain ⟨hP1, hK1, hD1⟩ := hB
        rw [ht] at hP1
        generalize H1 = H at hP1 hS ⊢
        try dsimp only at w19
        obtain ⟨w19_p, w19_0⟩ := w19
        subst w19_0
        have hP : va_P D vwCl (wM cI cZ h a0 a4 a5 a6 a7 a8 a9 f0 f4 f5 f6 f7 f8 f9 v0 v1 v2 v3 1) H := hP1
        have hD : va_D A (wM cI cZ h a0 a4 a5 a6 a7 a8 a9 f0 f4 f5 f6 f7 f8 f9 v0 v1 v2 v3 1) := hD1.weaken (fun _ _ _ h => hFc _ h)
        have w19_p : r19 = 0 := w19_p.trans (by decide)
        subst w19_p
        refine lv_if_ne (tgt := 56) hx hb dX1_trust_51 (by decide) (fun c9 => False.elim (by revert c9; decide)) (fun _ => ?_)
        refine lv_iconst (v := 0) hx hb dX1_trust_54 (by decide) ?_
        exact W.iret (v := 0) hx hb hr (fun t ht hW => ⟨⟨0, ⟨f4, 1⟩, rfl, ⟨fun hz9 => by simp [q_trK, hq1, hd9, hq16] at hz9, by simp [q_up, q_us, q_uA, q_trK, hq1, hd9, hq16], by simp [q_up, q_us, q_uA, q_trK, hq1, hd9, hq16]⟩, ⟨by rw [ht]; exact hP, va_K.moved hW.alike hK, hD⟩⟩, hS.F ht⟩) hS.2.2 dX1_trust_55
      · skip
        rw [hq16] at w16
        have w16 : r16 = 1 := w16
        subst w16
        have hen := he hq16
        refine lv_if_eq (tgt := 23) hx hb dX1_trust_16 (by decide) (fun c9 => False.elim (by revert c9; decide)) (fun _ => ?_)
        refine lv_iconst (v := 1) hx hb dX1_trust_19 (by decide) ?_
        refine lv_goto (tgt := 24) hx hb dX1_trust_20 (by decide) ?_
        refine lv_istore_n (lv' := [(3, .int 1), (0, .ref h), (1, .int p0), (2, .int p1)]) hx hb dX1_trust_24 rfl hl (by decide) rfl (fun ls hl => ?_)
        refine lv_aload_n hx hb dX1_trust_25 rfl (lv_at hl 1 rfl) ?_
        refine lv_iload_n hx hb dX1_trust_26 rfl (lv_at hl 0 rfl) ?_
        refine lv_if_ne (tgt := 34) hx hb dX1_trust_27 (by decide) (fun _ => ?_) (fun c9 => False.elim (by revert c9; decide))
        refine lv_aload_n hx hb dX1_trust_34 rfl (lv_at hl 1 rfl) ?_
        refine lv_iload_n hx hb dX1_trust_35 rfl (lv_at hl 2 rfl) ?_
        refine lv_iload_n hx hb dX1_trust_36 rfl (lv_at hl 3 rfl) ?_
        refine vp_callSi (W.runV (As := [.int p0, .int p1]) (rest := [.ref h]) ⟨hx, hb, hml, hown, hts⟩ (c_X1_isInRow l D cI cZ cJ h a0 a4 a5 a6 a7 a8 a9 f0 f4 f5 f6 f7 f8 f9 v0 v1 v2 v3 v4 p0 p1 hen) (cwV 2 hts gX1_trust_X1_isInRow rfl rfl rfl (by decide +kernel) ⟨Nat.le_of_ble_eq_true rfl, Nat.le_of_ble_eq_true rfl⟩) ⟨zP_blind, va_recv hK hP (ci := 1) (q0 := 0) rfl rfl, fun U hU hW => ⟨rfl, zP_mk hP hK hU hW⟩⟩ rfl rfl hl.1 rfl (lv_room (Nat.le_of_ble_eq_true rfl)) dX1_trust_37 ⟨Nat.le_of_ble_eq_true rfl, Nat.le_of_ble_eq_true rfl⟩) (fun r23 w23 => ?_)
        cases hq23 : q_lead f4 8 p1 p0
        · skip
          rw [hq23] at w23
          have w23 : r23 = 0 := w23
          subst w23
          refine lv_if_eq (tgt := 47) hx hb dX1_trust_40 (by decide) (fun _ => ?_) (fun c9 => False.elim (by revert c9; decide))
          refine lv_iconst (v := 0) hx hb dX1_trust_47 (by decide) ?_
          have hFc := va_free (wc := wM cI cZ h a0 a4 a5 a6 a7 a8 a9 f0 f4 f5 f6 f7 f8 f9 v0 v1 v2 v3 v4) hD hS hA [0, 1, 2, 3, 4, 5, 6, 7] rfl
          refine va_calli (va_runV (As := [.int 0]) (rest := []) ⟨hx, hb, hml, hown, hts⟩ (c_X1_goes l D cI cZ cJ s.heap.size h a0 a4 a5 a6 a7 a8 a9 f0 f4 f5 f6 f7 f8 f9 v0 v1 v2 v3 v4 0) (cwV 1 hts gX1_trust_X1_goes rfl rfl rfl (by decide +kernel) ⟨Nat.le_of_ble_eq_true rfl, Nat.le_of_ble_eq_true rfl⟩) ⟨zD_blind, va_recv hK hP (ci := 1) (q0 := 0) rfl rfl, fun U hU hW => ⟨rfl, zD_mk hP hK hD hU hW⟩⟩ rfl rfl hl.1 rfl (lv_room (Nat.le_of_ble_eq_true rfl)) dX1_trust_48 ⟨Nat.le_of_ble_eq_true rfl, Nat.le_of_ble_eq_true rfl⟩) hS (fun q _ h => hFc q h) hFc (fun r25 u25 t H1 locs ht hvm w25 hB hz1 hk1 hS => ?_)
          obtain ⟨hP1, hK1, hD1⟩ := hB
          rw [ht] at hP1
          generalize H1 = H at hP1 hS ⊢
          try dsimp only at w25
          obtain ⟨w25_p, w25_0⟩ := w25
          subst w25_0
          have hP : va_P D vwCl (wM cI cZ h a0 a4 a5 a6 a7 a8 a9 f0 f4 f5 f6 f7 f8 f9 v0 v1 v2 v3 0) H := hP1
          have hD : va_D A (wM cI cZ h a0 a4 a5 a6 a7 a8 a9 f0 f4 f5 f6 f7 f8 f9 v0 v1 v2 v3 0) := hD1.weaken (fun _ _ _ h => hFc _ h)
          have w25_p : r25 = 1 := w25_p.trans (by decide)
          subst w25_p
          refine lv_if_ne (tgt := 56) hx hb dX1_trust_51 (by decide) (fun _ => ?_) (fun c9 => False.elim (by revert c9; decide))
          refine lv_aload_n hx hb dX1_trust_56 rfl (lv_at hl 1 rfl) ?_
          refine va_get (D := D) (ci := 1) (v := .ref a4) (C := RX1) (T := TX1) (N := 12) hx hb hts hin hown hK hP 0 rfl rfl 1 (by decide) (hts (.fieldLink RX1 13 "QuorumfundModel" "trusted" "[I") (by decide +kernel)) (fun _ h9 => h9) rfl dX1_trust_57 ?_
          refine lv_iload_n hx hb dX1_trust_60 rfl (lv_at hl 2 rfl) ?_
          refine va_iald (D := D) hx hb hK hP 2 0 rfl rfl (q_g_in hq1) dX1_trust_61 ?_
          refine lv_istore (lv' := [(4, .int (f4 p0.toNatClampNeg)), (3, .int 1), (0, .ref h), (1, .int p0), (2, .int p1)]) hx hb dX1_trust_62 hl (by decide) rfl (fun ls hl => ?_)
          refine lv_aload_n hx hb dX1_trust_64 rfl (lv_at hl 2 rfl) ?_
          refine va_get (D := D) (ci := 1) (v := .ref a4) (C := RX1) (T := TX1) (N := 12) hx hb hts hin hown hK hP 0 rfl rfl 1 (by decide) (hts (.fieldLink RX1 13 "QuorumfundModel" "trusted" "[I") (by decide +kernel)) (fun _ h9 => h9) rfl dX1_trust_65 ?_
          refine lv_iload_n hx hb dX1_trust_68 rfl (lv_at hl 3 rfl) ?_
          refine lv_iload_n hx hb dX1_trust_69 rfl (lv_at hl 4 rfl) ?_
          refine va_iast (D := D) hx hb hK hP hD hS 2 0 rfl rfl (q_g_in hq1) dX1_trust_70 (fun H locs hP hD hS => ?_)
          have hP : va_P D vwCl (wM cI cZ h a0 a4 a5 a6 a7 a8 a9 f0 (upd f4 p0.toNatClampNeg p1) f5 f6 f7 f8 f9 v0 v1 v2 v3 0) H := hP
          have hD : va_D A (wM cI cZ h a0 a4 a5 a6 a7 a8 a9 f0 (upd f4 p0.toNatClampNeg p1) f5 f6 f7 f8 f9 v0 v1 v2 v3 0) := hD
          refine lv_iload hx hb dX1_trust_71 (lv_at hl 0 rfl) ?_
          exact W.iret (v := f4 p0.toNatClampNeg) hx hb hr (fun t ht hW => ⟨⟨f4 p0.toNatClampNeg, ⟨(upd f4 p0.toNatClampNeg p1), 0⟩, rfl, ⟨fun _ => rfl, by simp [q_up, q_us, q_uA, q_trK, hq1, hd9, hq16, hq23], by simp [q_up, q_us, q_uA, q_trK, hq1, hd9, hq16, hq23]⟩, ⟨by rw [ht]; exact hP, va_K.moved hW.alike hK, hD⟩⟩, hS.F ht⟩) hS.2.2 dX1_trust_73
        · skip
          rw [hq23] at w23
          have w23 : r23 = 1 := w23
          subst w23
          refine lv_if_eq (tgt := 47) hx hb dX1_trust_40 (by decide) (fun c9 => False.elim (by revert c9; decide)) (fun _ => ?_)
          refine lv_iconst (v := 2) hx hb dX1_trust_43 (by decide) ?_
          refine lv_goto (tgt := 48) hx hb dX1_trust_44 (by decide) ?_
          have hFc := va_free (wc := wM cI cZ h a0 a4 a5 a6 a7 a8 a9 f0 f4 f5 f6 f7 f8 f9 v0 v1 v2 v3 v4) hD hS hA [0, 1, 2, 3, 4, 5, 6, 7] rfl
          refine va_calli (va_runV (As := [.int 2]) (rest := []) ⟨hx, hb, hml, hown, hts⟩ (c_X1_goes l D cI cZ cJ s.heap.size h a0 a4 a5 a6 a7 a8 a9 f0 f4 f5 f6 f7 f8 f9 v0 v1 v2 v3 v4 2) (cwV 1 hts gX1_trust_X1_goes rfl rfl rfl (by decide +kernel) ⟨Nat.le_of_ble_eq_true rfl, Nat.le_of_ble_eq_true rfl⟩) ⟨zD_blind, va_recv hK hP (ci := 1) (q0 := 0) rfl rfl, fun U hU hW => ⟨rfl, zD_mk hP hK hD hU hW⟩⟩ rfl rfl hl.1 rfl (lv_room (Nat.le_of_ble_eq_true rfl)) dX1_trust_48 ⟨Nat.le_of_ble_eq_true rfl, Nat.le_of_ble_eq_true rfl⟩) hS (fun q _ h => hFc q h) hFc (fun r28 u28 t H1 locs ht hvm w28 hB hz1 hk1 hS => ?_)
          obtain ⟨hP1, hK1, hD1⟩ := hB
          rw [ht] at hP1
          generalize H1 = H at hP1 hS ⊢
          try dsimp only at w28
          obtain ⟨w28_p, w28_0⟩ := w28
          subst w28_0
          have hP : va_P D vwCl (wM cI cZ h a0 a4 a5 a6 a7 a8 a9 f0 f4 f5 f6 f7 f8 f9 v0 v1 v2 v3 2) H := hP1
          have hD : va_D A (wM cI cZ h a0 a4 a5 a6 a7 a8 a9 f0 f4 f5 f6 f7 f8 f9 v0 v1 v2 v3 2) := hD1.weaken (fun _ _ _ h => hFc _ h)
          have w28_p : r28 = 0 := w28_p.trans (by decide)
          subst w28_p
          refine lv_if_ne (tgt := 56) hx hb dX1_trust_51 (by decide) (fun c9 => False.elim (by revert c9; decide)) (fun _ => ?_)
          refine lv_iconst (v := 0) hx hb dX1_trust_54 (by decide) ?_
          exact W.iret (v := 0) hx hb hr (fun t ht hW => ⟨⟨0, ⟨f4, 2⟩, rfl, ⟨fun hz9 => by simp [q_trK, hq1, hd9, hq16, hq23] at hz9, by simp [q_up, q_us, q_uA, q_trK, hq1, hd9, hq16, hq23], by simp [q_up, q_us, q_uA, q_trK, hq1, hd9, hq16, hq23]⟩, ⟨by rw [ht]; exact hP, va_K.moved hW.alike hK, hD⟩⟩, hS.F ht⟩) hS.2.2 dX1_trust_55
set_option maxHeartbeats 4000000 in
set_option maxRecDepth 100000 in
theorem c_X1_setPerson (l : Launch) (D : va_G) (cI cZ cJ : ClassId) (sz : Nat) (h a0 a4 a5 a6 a7 a8 a9 : Nat) (f0 f4 f5 f6 f7 f8 f9 : Nat → Int32) (v0 v1 v2 v3 v4 : Int32) (p0 p1 : Int32) : Met l yX1_setPerson wsX1_setPerson ({ frames := 2, cells := 0, slots := 0, locals := 42 }) (va_Pc [.ref h, .int p0, .int p1] (zD D cI cZ cJ sz (wM cI cZ h a0 a4 a5 a6 a7 a8 a9 f0 f4 f5 f6 f7 f8 f9 v0 v1 v2 v3 v4))) (va_Qi (fun (r : Int32) (u : (Nat → Int32) × Int32) => (q_ggK p0 p1 = 0 → r = f5 p0.toNatClampNeg) ∧ u.1 = q_up (q_ggK p0 p1) f5 p0.toNatClampNeg p1 ∧ u.2 = q_ggK p0 p1) (fun u t => zB D cI cZ cJ (va_A (wM cI cZ h a0 a4 a5 a6 a7 a8 a9 f0 f4 f5 f6 f7 f8 f9 v0 v1 v2 v3 v4) sz) (wM cI cZ h a0 a4 a5 a6 a7 a8 a9 f0 f4 u.1 f6 f7 f8 f9 v0 v1 v2 v3 u.2) t) (va_A (wM cI cZ h a0 a4 a5 a6 a7 a8 a9 f0 f4 f5 f6 f7 f8 f9 v0 v1 v2 v3 v4) sz)) 0 0 (va_A (wM cI cZ h a0 a4 a5 a6 a7 a8 a9 f0 f4 f5 f6 f7 f8 f9 v0 v1 v2 v3 v4) sz) := by
  refine Met.ofW (cc := cX1_setPerson) (maxL := 4) (ret := (some .int)) (by decide) rfl ?_
  intro p e s m args below meth c s₁ B hml hv
  obtain ⟨rfl, hsz, hP, hK, hD0⟩ := hv
  have hx := B.exec
  have hb := B.bytes
  have hr := B.returns
  have hts := atoms_spec (ws := wsX1_setPerson) B.pre
  have hown : s.vm.findClass RX1 = some m.cls := findClass_of_methodNamed B.named
  have hlocks := B.notSynchronized
  have hin : ∀ w ∈ wsX10, w ∈ wsX1_setPerson := by decide +kernel
  subst hsz
  have hD := hD0.self (sz := s.heap.size)
  generalize hAe : va_A (wM cI cZ h a0 a4 a5 a6 a7 a8 a9 f0 f4 f5 f6 f7 f8 f9 v0 v1 v2 v3 v4) s.heap.size = A at hD ⊢
  have hA : ∀ q : Nat, s.heap.size ≤ q → A q := fun q h => by rw [← hAe]; exact Or.inr h
  have hS : va_S A s.heap s.heap [] := va_S.rf
  have hl := lv_entry ([.ref h, .int p0, .int p1]) (n := 4) (Nat.le_of_ble_eq_true rfl)
  rw [lg_entry_eq]
  generalize (lg_sl ([.ref h, .int p0, .int p1]) ++ List.replicate (4 - (lg_sl ([.ref h, .int p0, .int p1])).length) Slot.unset).toArray = ls at hl ⊢
  have hl : lv_has ls 4 [(0, .ref h), (1, .int p0), (2, .int p1)] := hl
  refine lv_aload_n hx hb dX1_setPerson_0 rfl (lv_at hl 0 rfl) ?_
  refine lv_iload_n hx hb dX1_setPerson_1 rfl (lv_at hl 1 rfl) ?_
  refine vp_callSi (W.runS (As := [.int p0]) (rest := [.ref h]) ⟨hx, hb, hml, hown, hts⟩ (c_X1_isGiver l p0) (va_cwS 1 hts gX1_setPerson_X1_isGiver rfl rfl rfl (by decide +kernel) ⟨Nat.le_of_ble_eq_true rfl, Nat.le_of_ble_eq_true rfl⟩) ⟨zN_blind, fun U hU hW => ⟨rfl, trivial⟩⟩ rfl rfl hl.1 rfl (lv_room (Nat.le_of_ble_eq_true rfl)) dX1_setPerson_2 ⟨Nat.le_of_ble_eq_true rfl, Nat.le_of_ble_eq_true rfl⟩) (fun r1 w1 => ?_)
  cases hq1 : q_g p0
  · skip
    rw [hq1] at w1
    have w1 : r1 = 0 := w1
    subst w1
    refine lv_if_eq (tgt := 19) hx hb dX1_setPerson_5 (by decide) (fun _ => ?_) (fun c9 => False.elim (by revert c9; decide))
    refine lv_iconst (v := 1) hx hb dX1_setPerson_19 (by decide) ?_
    have hFc := va_free (wc := wM cI cZ h a0 a4 a5 a6 a7 a8 a9 f0 f4 f5 f6 f7 f8 f9 v0 v1 v2 v3 v4) hD hS hA [0, 1, 2, 3, 4, 5, 6, 7] rfl
    refine va_calli (va_runV (As := [.int 1]) (rest := []) ⟨hx, hb, hml, hown, hts⟩ (c_X1_goes l D cI cZ cJ s.heap.size h a0 a4 a5 a6 a7 a8 a9 f0 f4 f5 f6 f7 f8 f9 v0 v1 v2 v3 v4 1) (cwV 1 hts gX1_setPerson_X1_goes rfl rfl rfl (by decide +kernel) ⟨Nat.le_of_ble_eq_true rfl, Nat.le_of_ble_eq_true rfl⟩) ⟨zD_blind, va_recv hK hP (ci := 1) (q0 := 0) rfl rfl, fun U hU hW => ⟨rfl, zD_mk hP hK hD hU hW⟩⟩ rfl rfl hl.1 rfl (lv_room (Nat.le_of_ble_eq_true rfl)) dX1_setPerson_20 ⟨Nat.le_of_ble_eq_true rfl, Nat.le_of_ble_eq_true rfl⟩) hS (fun q _ h => hFc q h) hFc (fun r3 u3 t H1 locs ht hvm w3 hB hz1 hk1 hS => ?_)
    obtain ⟨hP1, hK1, hD1⟩ := hB
    rw [ht] at hP1
    generalize H1 = H at hP1 hS ⊢
    try dsimp only at w3
    obtain ⟨w3_p, w3_0⟩ := w3
    subst w3_0
    have hP : va_P D vwCl (wM cI cZ h a0 a4 a5 a6 a7 a8 a9 f0 f4 f5 f6 f7 f8 f9 v0 v1 v2 v3 1) H := hP1
    have hD : va_D A (wM cI cZ h a0 a4 a5 a6 a7 a8 a9 f0 f4 f5 f6 f7 f8 f9 v0 v1 v2 v3 1) := hD1.weaken (fun _ _ _ h => hFc _ h)
    have w3_p : r3 = 0 := w3_p.trans (by decide)
    subst w3_p
    refine lv_if_ne (tgt := 28) hx hb dX1_setPerson_23 (by decide) (fun c9 => False.elim (by revert c9; decide)) (fun _ => ?_)
    refine lv_iconst (v := 0) hx hb dX1_setPerson_26 (by decide) ?_
    exact W.iret (v := 0) hx hb hr (fun t ht hW => ⟨⟨0, ⟨f5, 1⟩, rfl, ⟨fun hz9 => by simp [q_ggK, hq1] at hz9, by simp [q_up, q_us, q_uA, q_ggK, hq1], by simp [q_up, q_us, q_uA, q_ggK, hq1]⟩, ⟨by rw [ht]; exact hP, va_K.moved hW.alike hK, hD⟩⟩, hS.F ht⟩) hS.2.2 dX1_setPerson_27
  · skip
    rw [hq1] at w1
    have w1 : r1 = 1 := w1
    subst w1
    refine lv_if_eq (tgt := 19) hx hb dX1_setPerson_5 (by decide) (fun c9 => False.elim (by revert c9; decide)) (fun _ => ?_)
    refine lv_iload_n hx hb dX1_setPerson_8 rfl (lv_at hl 2 rfl) ?_
    refine vp_callSi (W.runS (As := [.int p1]) (rest := [.ref h]) ⟨hx, hb, hml, hown, hts⟩ (c_X1_isGiver l p1) (va_cwS 1 hts gX1_setPerson_X1_isGiver rfl rfl rfl (by decide +kernel) ⟨Nat.le_of_ble_eq_true rfl, Nat.le_of_ble_eq_true rfl⟩) ⟨zN_blind, fun U hU hW => ⟨rfl, trivial⟩⟩ rfl rfl hl.1 rfl (lv_room (Nat.le_of_ble_eq_true rfl)) dX1_setPerson_9 ⟨Nat.le_of_ble_eq_true rfl, Nat.le_of_ble_eq_true rfl⟩) (fun r6 w6 => ?_)
    cases hq6 : q_g p1
    · skip
      rw [hq6] at w6
      have w6 : r6 = 0 := w6
      subst w6
      refine lv_if_eq (tgt := 19) hx hb dX1_setPerson_12 (by decide) (fun _ => ?_) (fun c9 => False.elim (by revert c9; decide))
      refine lv_iconst (v := 1) hx hb dX1_setPerson_19 (by decide) ?_
      have hFc := va_free (wc := wM cI cZ h a0 a4 a5 a6 a7 a8 a9 f0 f4 f5 f6 f7 f8 f9 v0 v1 v2 v3 v4) hD hS hA [0, 1, 2, 3, 4, 5, 6, 7] rfl
      refine va_calli (va_runV (As := [.int 1]) (rest := []) ⟨hx, hb, hml, hown, hts⟩ (c_X1_goes l D cI cZ cJ s.heap.size h a0 a4 a5 a6 a7 a8 a9 f0 f4 f5 f6 f7 f8 f9 v0 v1 v2 v3 v4 1) (cwV 1 hts gX1_setPerson_X1_goes rfl rfl rfl (by decide +kernel) ⟨Nat.le_of_ble_eq_true rfl, Nat.le_of_ble_eq_true rfl⟩) ⟨zD_blind, va_recv hK hP (ci := 1) (q0 := 0) rfl rfl, fun U hU hW => ⟨rfl, zD_mk hP hK hD hU hW⟩⟩ rfl rfl hl.1 rfl (lv_room (Nat.le_of_ble_eq_true rfl)) dX1_setPerson_20 ⟨Nat.le_of_ble_eq_true rfl, Nat.le_of_ble_eq_true rfl⟩) hS (fun q _ h => hFc q h) hFc (fun r8 u8 t H1 locs ht hvm w8 hB hz1 hk1 hS => ?_)
      obtain ⟨hP1, hK1, hD1⟩ := hB
      rw [ht] at hP1
      generalize H1 = H at hP1 hS ⊢
      try dsimp only at w8
      obtain ⟨w8_p, w8_0⟩ := w8
      subst w8_0
      have hP : va_P D vwCl (wM cI cZ h a0 a4 a5 a6 a7 a8 a9 f0 f4 f5 f6 f7 f8 f9 v0 v1 v2 v3 1) H := hP1
      have hD : va_D A (wM cI cZ h a0 a4 a5 a6 a7 a8 a9 f0 f4 f5 f6 f7 f8 f9 v0 v1 v2 v3 1) := hD1.weaken (fun _ _ _ h => hFc _ h)
      have w8_p : r8 = 0 := w8_p.trans (by decide)
      subst w8_p
      refine lv_if_ne (tgt := 28) hx hb dX1_setPerson_23 (by decide) (fun c9 => False.elim (by revert c9; decide)) (fun _ => ?_)
      refine lv_iconst (v := 0) hx hb dX1_setPerson_26 (by decide) ?_
      exact W.iret (v := 0) hx hb hr (fun t ht hW => ⟨⟨0, ⟨f5, 1⟩, rfl, ⟨fun hz9 => by simp [q_ggK, hq1, hq6] at hz9, by simp [q_up, q_us, q_uA, q_ggK, hq1, hq6], by simp [q_up, q_us, q_uA, q_ggK, hq1, hq6]⟩, ⟨by rw [ht]; exact hP, va_K.moved hW.alike hK, hD⟩⟩, hS.F ht⟩) hS.2.2 dX1_setPerson_27
    · skip
      rw [hq6] at w6
      have w6 : r6 = 1 := w6
      subst w6
      refine lv_if_eq (tgt := 19) hx hb dX1_setPerson_12 (by decide) (fun c9 => False.elim (by revert c9; decide)) (fun _ => ?_)
      refine lv_iconst (v := 0) hx hb dX1_setPerson_15 (by decide) ?_
      refine lv_goto (tgt := 20) hx hb dX1_setPerson_16 (by decide) ?_
      have hFc := va_free (wc := wM cI cZ h a0 a4 a5 a6 a7 a8 a9 f0 f4 f5 f6 f7 f8 f9 v0 v1 v2 v3 v4) hD hS hA [0, 1, 2, 3, 4, 5, 6, 7] rfl
      refine va_calli (va_runV (As := [.int 0]) (rest := []) ⟨hx, hb, hml, hown, hts⟩ (c_X1_goes l D cI cZ cJ s.heap.size h a0 a4 a5 a6 a7 a8 a9 f0 f4 f5 f6 f7 f8 f9 v0 v1 v2 v3 v4 0) (cwV 1 hts gX1_setPerson_X1_goes rfl rfl rfl (by decide +kernel) ⟨Nat.le_of_ble_eq_true rfl, Nat.le_of_ble_eq_true rfl⟩) ⟨zD_blind, va_recv hK hP (ci := 1) (q0 := 0) rfl rfl, fun U hU hW => ⟨rfl, zD_mk hP hK hD hU hW⟩⟩ rfl rfl hl.1 rfl (lv_room (Nat.le_of_ble_eq_true rfl)) dX1_setPerson_20 ⟨Nat.le_of_ble_eq_true rfl, Nat.le_of_ble_eq_true rfl⟩) hS (fun q _ h => hFc q h) hFc (fun r11 u11 t H1 locs ht hvm w11 hB hz1 hk1 hS => ?_)
      obtain ⟨hP1, hK1, hD1⟩ := hB
      rw [ht] at hP1
      generalize H1 = H at hP1 hS ⊢
      try dsimp only at w11
      obtain ⟨w11_p, w11_0⟩ := w11
      subst w11_0
      have hP : va_P D vwCl (wM cI cZ h a0 a4 a5 a6 a7 a8 a9 f0 f4 f5 f6 f7 f8 f9 v0 v1 v2 v3 0) H := hP1
      have hD : va_D A (wM cI cZ h a0 a4 a5 a6 a7 a8 a9 f0 f4 f5 f6 f7 f8 f9 v0 v1 v2 v3 0) := hD1.weaken (fun _ _ _ h => hFc _ h)
      have w11_p : r11 = 1 := w11_p.trans (by decide)
      subst w11_p
      refine lv_if_ne (tgt := 28) hx hb dX1_setPerson_23 (by decide) (fun _ => ?_) (fun c9 => False.elim (by revert c9; decide))
      refine lv_aload_n hx hb dX1_setPerson_28 rfl (lv_at hl 0 rfl) ?_
      refine va_get (D := D) (ci := 1) (v := .ref a5) (C := RX1) (T := TX1) (N := 12) hx hb hts hin hown hK hP 0 rfl rfl 2 (by decide) (hts (.fieldLink RX1 16 "QuorumfundModel" "persons" "[I") (by decide +kernel)) (fun _ h9 => h9) rfl dX1_setPerson_29 ?_
      refine lv_iload_n hx hb dX1_setPerson_32 rfl (lv_at hl 1 rfl) ?_
      refine va_iald (D := D) hx hb hK hP 3 0 rfl rfl (q_g_in hq1) dX1_setPerson_33 ?_
      refine lv_istore_n (lv' := [(3, .int (f5 p0.toNatClampNeg)), (0, .ref h), (1, .int p0), (2, .int p1)]) hx hb dX1_setPerson_34 rfl hl (by decide) rfl (fun ls hl => ?_)
      refine lv_aload_n hx hb dX1_setPerson_35 rfl (lv_at hl 1 rfl) ?_
      refine va_get (D := D) (ci := 1) (v := .ref a5) (C := RX1) (T := TX1) (N := 12) hx hb hts hin hown hK hP 0 rfl rfl 2 (by decide) (hts (.fieldLink RX1 16 "QuorumfundModel" "persons" "[I") (by decide +kernel)) (fun _ h9 => h9) rfl dX1_setPerson_36 ?_
      refine lv_iload_n hx hb dX1_setPerson_39 rfl (lv_at hl 2 rfl) ?_
      refine lv_iload_n hx hb dX1_setPerson_40 rfl (lv_at hl 3 rfl) ?_
      refine va_iast (D := D) hx hb hK hP hD hS 3 0 rfl rfl (q_g_in hq1) dX1_setPerson_41 (fun H locs hP hD hS => ?_)
      have hP : va_P D vwCl (wM cI cZ h a0 a4 a5 a6 a7 a8 a9 f0 f4 (upd f5 p0.toNatClampNeg p1) f6 f7 f8 f9 v0 v1 v2 v3 0) H := hP
      have hD : va_D A (wM cI cZ h a0 a4 a5 a6 a7 a8 a9 f0 f4 (upd f5 p0.toNatClampNeg p1) f6 f7 f8 f9 v0 v1 v2 v3 0) := hD
      refine lv_iload_n hx hb dX1_setPerson_42 rfl (lv_at hl 0 rfl) ?_
      exact W.iret (v := f5 p0.toNatClampNeg) hx hb hr (fun t ht hW => ⟨⟨f5 p0.toNatClampNeg, ⟨(upd f5 p0.toNatClampNeg p1), 0⟩, rfl, ⟨fun _ => rfl, by simp [q_up, q_us, q_uA, q_ggK, hq1, hq6], by simp [q_up, q_us, q_uA, q_ggK, hq1, hq6]⟩, ⟨by rw [ht]; exact hP, va_K.moved hW.alike hK, hD⟩⟩, hS.F ht⟩) hS.2.2 dX1_setPerson_43
set_option maxHeartbeats 4000000 in
set_option maxRecDepth 100000 in
theorem c_X1_in (l : Launch) (D : va_G) (cI cZ cJ : ClassId) (sz : Nat) (h a0 a4 a5 a6 a7 a8 a9 : Nat) (f0 f4 f5 f6 f7 f8 f9 : Nat → Int32) (v0 v1 v2 v3 v4 : Int32) (p0 : Int32) : Met l yX1_in wsX1_in ({ frames := 2, cells := 0, slots := 0, locals := 42 }) (va_Pc [.ref h, .int p0] (zD D cI cZ cJ sz (wM cI cZ h a0 a4 a5 a6 a7 a8 a9 f0 f4 f5 f6 f7 f8 f9 v0 v1 v2 v3 v4))) (va_Qi (fun (r : Int32) (u : Int32) => (q_gK p0 = 0 → r = f0 p0.toNatClampNeg) ∧ u = q_gK p0) (fun u t => zB D cI cZ cJ (va_A (wM cI cZ h a0 a4 a5 a6 a7 a8 a9 f0 f4 f5 f6 f7 f8 f9 v0 v1 v2 v3 v4) sz) (wM cI cZ h a0 a4 a5 a6 a7 a8 a9 f0 f4 f5 f6 f7 f8 f9 v0 v1 v2 v3 u) t) (va_A (wM cI cZ h a0 a4 a5 a6 a7 a8 a9 f0 f4 f5 f6 f7 f8 f9 v0 v1 v2 v3 v4) sz)) 0 0 (va_A (wM cI cZ h a0 a4 a5 a6 a7 a8 a9 f0 f4 f5 f6 f7 f8 f9 v0 v1 v2 v3 v4) sz) := by
  refine Met.ofW (cc := cX1_in) (maxL := 2) (ret := (some .int)) (by decide) rfl ?_
  intro p e s m args below meth c s₁ B hml hv
  obtain ⟨rfl, hsz, hP, hK, hD0⟩ := hv
  have hx := B.exec
  have hb := B.bytes
  have hr := B.returns
  have hts := atoms_spec (ws := wsX1_in) B.pre
  have hown : s.vm.findClass RX1 = some m.cls := findClass_of_methodNamed B.named
  have hlocks := B.notSynchronized
  have hin : ∀ w ∈ wsX10, w ∈ wsX1_in := by decide +kernel
  subst hsz
  have hD := hD0.self (sz := s.heap.size)
  generalize hAe : va_A (wM cI cZ h a0 a4 a5 a6 a7 a8 a9 f0 f4 f5 f6 f7 f8 f9 v0 v1 v2 v3 v4) s.heap.size = A at hD ⊢
  have hA : ∀ q : Nat, s.heap.size ≤ q → A q := fun q h => by rw [← hAe]; exact Or.inr h
  have hS : va_S A s.heap s.heap [] := va_S.rf
  have hl := lv_entry ([.ref h, .int p0]) (n := 2) (Nat.le_of_ble_eq_true rfl)
  rw [lg_entry_eq]
  generalize (lg_sl ([.ref h, .int p0]) ++ List.replicate (2 - (lg_sl ([.ref h, .int p0])).length) Slot.unset).toArray = ls at hl ⊢
  have hl : lv_has ls 2 [(0, .ref h), (1, .int p0)] := hl
  refine lv_aload_n hx hb dX1_in_0 rfl (lv_at hl 0 rfl) ?_
  refine lv_iload_n hx hb dX1_in_1 rfl (lv_at hl 1 rfl) ?_
  refine vp_callSi (W.runS (As := [.int p0]) (rest := [.ref h]) ⟨hx, hb, hml, hown, hts⟩ (c_X1_isGiver l p0) (va_cwS 1 hts gX1_in_X1_isGiver rfl rfl rfl (by decide +kernel) ⟨Nat.le_of_ble_eq_true rfl, Nat.le_of_ble_eq_true rfl⟩) ⟨zN_blind, fun U hU hW => ⟨rfl, trivial⟩⟩ rfl rfl hl.1 rfl (lv_room (Nat.le_of_ble_eq_true rfl)) dX1_in_2 ⟨Nat.le_of_ble_eq_true rfl, Nat.le_of_ble_eq_true rfl⟩) (fun r1 w1 => ?_)
  cases hq1 : q_g p0
  · skip
    rw [hq1] at w1
    have w1 : r1 = 0 := w1
    subst w1
    refine lv_if_eq (tgt := 12) hx hb dX1_in_5 (by decide) (fun _ => ?_) (fun c9 => False.elim (by revert c9; decide))
    refine lv_iconst (v := 1) hx hb dX1_in_12 (by decide) ?_
    have hFc := va_free (wc := wM cI cZ h a0 a4 a5 a6 a7 a8 a9 f0 f4 f5 f6 f7 f8 f9 v0 v1 v2 v3 v4) hD hS hA [0, 1, 2, 3, 4, 5, 6, 7] rfl
    refine va_calli (va_runV (As := [.int 1]) (rest := []) ⟨hx, hb, hml, hown, hts⟩ (c_X1_goes l D cI cZ cJ s.heap.size h a0 a4 a5 a6 a7 a8 a9 f0 f4 f5 f6 f7 f8 f9 v0 v1 v2 v3 v4 1) (cwV 1 hts gX1_in_X1_goes rfl rfl rfl (by decide +kernel) ⟨Nat.le_of_ble_eq_true rfl, Nat.le_of_ble_eq_true rfl⟩) ⟨zD_blind, va_recv hK hP (ci := 1) (q0 := 0) rfl rfl, fun U hU hW => ⟨rfl, zD_mk hP hK hD hU hW⟩⟩ rfl rfl hl.1 rfl (lv_room (Nat.le_of_ble_eq_true rfl)) dX1_in_13 ⟨Nat.le_of_ble_eq_true rfl, Nat.le_of_ble_eq_true rfl⟩) hS (fun q _ h => hFc q h) hFc (fun r3 u3 t H1 locs ht hvm w3 hB hz1 hk1 hS => ?_)
    obtain ⟨hP1, hK1, hD1⟩ := hB
    rw [ht] at hP1
    generalize H1 = H at hP1 hS ⊢
    try dsimp only at w3
    obtain ⟨w3_p, w3_0⟩ := w3
    subst w3_0
    have hP : va_P D vwCl (wM cI cZ h a0 a4 a5 a6 a7 a8 a9 f0 f4 f5 f6 f7 f8 f9 v0 v1 v2 v3 1) H := hP1
    have hD : va_D A (wM cI cZ h a0 a4 a5 a6 a7 a8 a9 f0 f4 f5 f6 f7 f8 f9 v0 v1 v2 v3 1) := hD1.weaken (fun _ _ _ h => hFc _ h)
    have w3_p : r3 = 0 := w3_p.trans (by decide)
    subst w3_p
    refine lv_if_eq (tgt := 28) hx hb dX1_in_16 (by decide) (fun _ => ?_) (fun c9 => False.elim (by revert c9; decide))
    refine lv_iconst (v := 0) hx hb dX1_in_28 (by decide) ?_
    exact W.iret (v := 0) hx hb hr (fun t ht hW => ⟨⟨0, 1, rfl, ⟨fun hz9 => by simp [q_gK, hq1] at hz9, by simp [q_up, q_us, q_uA, q_gK, hq1]⟩, ⟨by rw [ht]; exact hP, va_K.moved hW.alike hK, hD⟩⟩, hS.F ht⟩) hS.2.2 dX1_in_29
  · skip
    rw [hq1] at w1
    have w1 : r1 = 1 := w1
    subst w1
    refine lv_if_eq (tgt := 12) hx hb dX1_in_5 (by decide) (fun c9 => False.elim (by revert c9; decide)) (fun _ => ?_)
    refine lv_iconst (v := 0) hx hb dX1_in_8 (by decide) ?_
    refine lv_goto (tgt := 13) hx hb dX1_in_9 (by decide) ?_
    have hFc := va_free (wc := wM cI cZ h a0 a4 a5 a6 a7 a8 a9 f0 f4 f5 f6 f7 f8 f9 v0 v1 v2 v3 v4) hD hS hA [0, 1, 2, 3, 4, 5, 6, 7] rfl
    refine va_calli (va_runV (As := [.int 0]) (rest := []) ⟨hx, hb, hml, hown, hts⟩ (c_X1_goes l D cI cZ cJ s.heap.size h a0 a4 a5 a6 a7 a8 a9 f0 f4 f5 f6 f7 f8 f9 v0 v1 v2 v3 v4 0) (cwV 1 hts gX1_in_X1_goes rfl rfl rfl (by decide +kernel) ⟨Nat.le_of_ble_eq_true rfl, Nat.le_of_ble_eq_true rfl⟩) ⟨zD_blind, va_recv hK hP (ci := 1) (q0 := 0) rfl rfl, fun U hU hW => ⟨rfl, zD_mk hP hK hD hU hW⟩⟩ rfl rfl hl.1 rfl (lv_room (Nat.le_of_ble_eq_true rfl)) dX1_in_13 ⟨Nat.le_of_ble_eq_true rfl, Nat.le_of_ble_eq_true rfl⟩) hS (fun q _ h => hFc q h) hFc (fun r6 u6 t H1 locs ht hvm w6 hB hz1 hk1 hS => ?_)
    obtain ⟨hP1, hK1, hD1⟩ := hB
    rw [ht] at hP1
    generalize H1 = H at hP1 hS ⊢
    try dsimp only at w6
    obtain ⟨w6_p, w6_0⟩ := w6
    subst w6_0
    have hP : va_P D vwCl (wM cI cZ h a0 a4 a5 a6 a7 a8 a9 f0 f4 f5 f6 f7 f8 f9 v0 v1 v2 v3 0) H := hP1
    have hD : va_D A (wM cI cZ h a0 a4 a5 a6 a7 a8 a9 f0 f4 f5 f6 f7 f8 f9 v0 v1 v2 v3 0) := hD1.weaken (fun _ _ _ h => hFc _ h)
    have w6_p : r6 = 1 := w6_p.trans (by decide)
    subst w6_p
    refine lv_if_eq (tgt := 28) hx hb dX1_in_16 (by decide) (fun c9 => False.elim (by revert c9; decide)) (fun _ => ?_)
    refine lv_aload_n hx hb dX1_in_19 rfl (lv_at hl 0 rfl) ?_
    refine va_get (D := D) (ci := 1) (v := .ref a0) (C := RX1) (T := TX1) (N := 12) hx hb hts hin hown hK hP 0 rfl rfl 0 (by decide) (hts (.fieldLink RX1 7 "QuorumfundModel" "ins" "[I") (by decide +kernel)) (fun _ h9 => h9) rfl dX1_in_20 ?_
    refine lv_iload_n hx hb dX1_in_23 rfl (lv_at hl 1 rfl) ?_
    refine va_iald (D := D) hx hb hK hP 1 0 rfl rfl (q_g_in hq1) dX1_in_24 ?_
    refine lv_goto (tgt := 29) hx hb dX1_in_25 (by decide) ?_
    exact W.iret (v := f0 p0.toNatClampNeg) hx hb hr (fun t ht hW => ⟨⟨f0 p0.toNatClampNeg, 0, rfl, ⟨fun _ => rfl, by simp [q_up, q_us, q_uA, q_gK, hq1]⟩, ⟨by rw [ht]; exact hP, va_K.moved hW.alike hK, hD⟩⟩, hS.F ht⟩) hS.2.2 dX1_in_29
set_option maxHeartbeats 4000000 in
set_option maxRecDepth 100000 in
theorem c_X1_inByBook (l : Launch) (D : va_G) (cI cZ cJ : ClassId) (sz : Nat) (h a0 a4 a5 a6 a7 a8 a9 : Nat) (f0 f4 f5 f6 f7 f8 f9 : Nat → Int32) (v0 v1 v2 v3 v4 : Int32) (p0 : Int32) : Met l yX1_inByBook wsX1_inByBook ({ frames := 2, cells := 0, slots := 0, locals := 42 }) (va_Pc [.ref h, .int p0] (zD D cI cZ cJ sz (wM cI cZ h a0 a4 a5 a6 a7 a8 a9 f0 f4 f5 f6 f7 f8 f9 v0 v1 v2 v3 v4))) (va_Qi (fun (r : Int32) (u : Int32) => (q_gK p0 = 0 → r = f0 p0.toNatClampNeg) ∧ u = q_gK p0) (fun u t => zB D cI cZ cJ (va_A (wM cI cZ h a0 a4 a5 a6 a7 a8 a9 f0 f4 f5 f6 f7 f8 f9 v0 v1 v2 v3 v4) sz) (wM cI cZ h a0 a4 a5 a6 a7 a8 a9 f0 f4 f5 f6 f7 f8 f9 v0 v1 v2 v3 u) t) (va_A (wM cI cZ h a0 a4 a5 a6 a7 a8 a9 f0 f4 f5 f6 f7 f8 f9 v0 v1 v2 v3 v4) sz)) 0 0 (va_A (wM cI cZ h a0 a4 a5 a6 a7 a8 a9 f0 f4 f5 f6 f7 f8 f9 v0 v1 v2 v3 v4) sz) := by
  refine Met.ofW (cc := cX1_inByBook) (maxL := 2) (ret := (some .int)) (by decide) rfl ?_
  intro p e s m args below meth c s₁ B hml hv
  obtain ⟨rfl, hsz, hP, hK, hD0⟩ := hv
  have hx := B.exec
  have hb := B.bytes
  have hr := B.returns
  have hts := atoms_spec (ws := wsX1_inByBook) B.pre
  have hown : s.vm.findClass RX1 = some m.cls := findClass_of_methodNamed B.named
  have hlocks := B.notSynchronized
  have hin : ∀ w ∈ wsX10, w ∈ wsX1_inByBook := by decide +kernel
  subst hsz
  have hD := hD0.self (sz := s.heap.size)
  generalize hAe : va_A (wM cI cZ h a0 a4 a5 a6 a7 a8 a9 f0 f4 f5 f6 f7 f8 f9 v0 v1 v2 v3 v4) s.heap.size = A at hD ⊢
  have hA : ∀ q : Nat, s.heap.size ≤ q → A q := fun q h => by rw [← hAe]; exact Or.inr h
  have hS : va_S A s.heap s.heap [] := va_S.rf
  have hl := lv_entry ([.ref h, .int p0]) (n := 2) (Nat.le_of_ble_eq_true rfl)
  rw [lg_entry_eq]
  generalize (lg_sl ([.ref h, .int p0]) ++ List.replicate (2 - (lg_sl ([.ref h, .int p0])).length) Slot.unset).toArray = ls at hl ⊢
  have hl : lv_has ls 2 [(0, .ref h), (1, .int p0)] := hl
  refine lv_aload_n hx hb dX1_inByBook_0 rfl (lv_at hl 0 rfl) ?_
  refine lv_iload_n hx hb dX1_inByBook_1 rfl (lv_at hl 1 rfl) ?_
  refine vp_callSi (W.runS (As := [.int p0]) (rest := [.ref h]) ⟨hx, hb, hml, hown, hts⟩ (c_X1_isGiver l p0) (va_cwS 1 hts gX1_inByBook_X1_isGiver rfl rfl rfl (by decide +kernel) ⟨Nat.le_of_ble_eq_true rfl, Nat.le_of_ble_eq_true rfl⟩) ⟨zN_blind, fun U hU hW => ⟨rfl, trivial⟩⟩ rfl rfl hl.1 rfl (lv_room (Nat.le_of_ble_eq_true rfl)) dX1_inByBook_2 ⟨Nat.le_of_ble_eq_true rfl, Nat.le_of_ble_eq_true rfl⟩) (fun r1 w1 => ?_)
  cases hq1 : q_g p0
  · skip
    rw [hq1] at w1
    have w1 : r1 = 0 := w1
    subst w1
    refine lv_if_eq (tgt := 12) hx hb dX1_inByBook_5 (by decide) (fun _ => ?_) (fun c9 => False.elim (by revert c9; decide))
    refine lv_iconst (v := 1) hx hb dX1_inByBook_12 (by decide) ?_
    have hFc := va_free (wc := wM cI cZ h a0 a4 a5 a6 a7 a8 a9 f0 f4 f5 f6 f7 f8 f9 v0 v1 v2 v3 v4) hD hS hA [0, 1, 2, 3, 4, 5, 6, 7] rfl
    refine va_calli (va_runV (As := [.int 1]) (rest := []) ⟨hx, hb, hml, hown, hts⟩ (c_X1_goes l D cI cZ cJ s.heap.size h a0 a4 a5 a6 a7 a8 a9 f0 f4 f5 f6 f7 f8 f9 v0 v1 v2 v3 v4 1) (cwV 1 hts gX1_inByBook_X1_goes rfl rfl rfl (by decide +kernel) ⟨Nat.le_of_ble_eq_true rfl, Nat.le_of_ble_eq_true rfl⟩) ⟨zD_blind, va_recv hK hP (ci := 1) (q0 := 0) rfl rfl, fun U hU hW => ⟨rfl, zD_mk hP hK hD hU hW⟩⟩ rfl rfl hl.1 rfl (lv_room (Nat.le_of_ble_eq_true rfl)) dX1_inByBook_13 ⟨Nat.le_of_ble_eq_true rfl, Nat.le_of_ble_eq_true rfl⟩) hS (fun q _ h => hFc q h) hFc (fun r3 u3 t H1 locs ht hvm w3 hB hz1 hk1 hS => ?_)
    obtain ⟨hP1, hK1, hD1⟩ := hB
    rw [ht] at hP1
    generalize H1 = H at hP1 hS ⊢
    try dsimp only at w3
    obtain ⟨w3_p, w3_0⟩ := w3
    subst w3_0
    have hP : va_P D vwCl (wM cI cZ h a0 a4 a5 a6 a7 a8 a9 f0 f4 f5 f6 f7 f8 f9 v0 v1 v2 v3 1) H := hP1
    have hD : va_D A (wM cI cZ h a0 a4 a5 a6 a7 a8 a9 f0 f4 f5 f6 f7 f8 f9 v0 v1 v2 v3 1) := hD1.weaken (fun _ _ _ h => hFc _ h)
    have w3_p : r3 = 0 := w3_p.trans (by decide)
    subst w3_p
    refine lv_if_eq (tgt := 28) hx hb dX1_inByBook_16 (by decide) (fun _ => ?_) (fun c9 => False.elim (by revert c9; decide))
    refine lv_iconst (v := 0) hx hb dX1_inByBook_28 (by decide) ?_
    exact W.iret (v := 0) hx hb hr (fun t ht hW => ⟨⟨0, 1, rfl, ⟨fun hz9 => by simp [q_gK, hq1] at hz9, by simp [q_up, q_us, q_uA, q_gK, hq1]⟩, ⟨by rw [ht]; exact hP, va_K.moved hW.alike hK, hD⟩⟩, hS.F ht⟩) hS.2.2 dX1_inByBook_29
  · skip
    rw [hq1] at w1
    have w1 : r1 = 1 := w1
    subst w1
    refine lv_if_eq (tgt := 12) hx hb dX1_inByBook_5 (by decide) (fun c9 => False.elim (by revert c9; decide)) (fun _ => ?_)
    refine lv_iconst (v := 0) hx hb dX1_inByBook_8 (by decide) ?_
    refine lv_goto (tgt := 13) hx hb dX1_inByBook_9 (by decide) ?_
    have hFc := va_free (wc := wM cI cZ h a0 a4 a5 a6 a7 a8 a9 f0 f4 f5 f6 f7 f8 f9 v0 v1 v2 v3 v4) hD hS hA [0, 1, 2, 3, 4, 5, 6, 7] rfl
    refine va_calli (va_runV (As := [.int 0]) (rest := []) ⟨hx, hb, hml, hown, hts⟩ (c_X1_goes l D cI cZ cJ s.heap.size h a0 a4 a5 a6 a7 a8 a9 f0 f4 f5 f6 f7 f8 f9 v0 v1 v2 v3 v4 0) (cwV 1 hts gX1_inByBook_X1_goes rfl rfl rfl (by decide +kernel) ⟨Nat.le_of_ble_eq_true rfl, Nat.le_of_ble_eq_true rfl⟩) ⟨zD_blind, va_recv hK hP (ci := 1) (q0 := 0) rfl rfl, fun U hU hW => ⟨rfl, zD_mk hP hK hD hU hW⟩⟩ rfl rfl hl.1 rfl (lv_room (Nat.le_of_ble_eq_true rfl)) dX1_inByBook_13 ⟨Nat.le_of_ble_eq_true rfl, Nat.le_of_ble_eq_true rfl⟩) hS (fun q _ h => hFc q h) hFc (fun r6 u6 t H1 locs ht hvm w6 hB hz1 hk1 hS => ?_)
    obtain ⟨hP1, hK1, hD1⟩ := hB
    rw [ht] at hP1
    generalize H1 = H at hP1 hS ⊢
    try dsimp only at w6
    obtain ⟨w6_p, w6_0⟩ := w6
    subst w6_0
    have hP : va_P D vwCl (wM cI cZ h a0 a4 a5 a6 a7 a8 a9 f0 f4 f5 f6 f7 f8 f9 v0 v1 v2 v3 0) H := hP1
    have hD : va_D A (wM cI cZ h a0 a4 a5 a6 a7 a8 a9 f0 f4 f5 f6 f7 f8 f9 v0 v1 v2 v3 0) := hD1.weaken (fun _ _ _ h => hFc _ h)
    have w6_p : r6 = 1 := w6_p.trans (by decide)
    subst w6_p
    refine lv_if_eq (tgt := 28) hx hb dX1_inByBook_16 (by decide) (fun c9 => False.elim (by revert c9; decide)) (fun _ => ?_)
    refine lv_aload_n hx hb dX1_inByBook_19 rfl (lv_at hl 0 rfl) ?_
    refine va_get (D := D) (ci := 1) (v := .ref a0) (C := RX1) (T := TX1) (N := 12) hx hb hts hin hown hK hP 0 rfl rfl 0 (by decide) (hts (.fieldLink RX1 7 "QuorumfundModel" "ins" "[I") (by decide +kernel)) (fun _ h9 => h9) rfl dX1_inByBook_20 ?_
    refine lv_iload_n hx hb dX1_inByBook_23 rfl (lv_at hl 1 rfl) ?_
    refine va_iald (D := D) hx hb hK hP 1 0 rfl rfl (q_g_in hq1) dX1_inByBook_24 ?_
    refine lv_goto (tgt := 29) hx hb dX1_inByBook_25 (by decide) ?_
    exact W.iret (v := f0 p0.toNatClampNeg) hx hb hr (fun t ht hW => ⟨⟨f0 p0.toNatClampNeg, 0, rfl, ⟨fun _ => rfl, by simp [q_up, q_us, q_uA, q_gK, hq1]⟩, ⟨by rw [ht]; exact hP, va_K.moved hW.alike hK, hD⟩⟩, hS.F ht⟩) hS.2.2 dX1_inByBook_29
set_option maxHeartbeats 4000000 in
set_option maxRecDepth 100000 in
theorem c_X1_all (l : Launch) (D : va_G) (cI cZ cJ : ClassId) (h a0 a4 a5 a6 a7 a8 a9 : Nat) (f0 f4 f5 f6 f7 f8 f9 : Nat → Int32) (v0 v1 v2 v3 v4 : Int32) : Met l yX1_all wsX1_all ({ frames := 0, cells := 0, slots := 0, locals := 0 }) (va_Pc [.ref h] (zP D cI cZ cJ (wM cI cZ h a0 a4 a5 a6 a7 a8 a9 f0 f4 f5 f6 f7 f8 f9 v0 v1 v2 v3 v4))) (vp_Si (fun r : Int32 => r = q_sum f0 8)) 0 0 (fun _ => False) := by
  refine Met.ofW (cc := cX1_all) (maxL := 3) (ret := (some .int)) (by decide) rfl ?_
  intro p e s m args below meth c s₁ B hml hv
  obtain ⟨rfl, hP, hK⟩ := hv
  have hx := B.exec
  have hb := B.bytes
  have hr := B.returns
  have hts := atoms_spec (ws := wsX1_all) B.pre
  have hown : s.vm.findClass RX1 = some m.cls := findClass_of_methodNamed B.named
  have hlocks := B.notSynchronized
  have hin : ∀ w ∈ wsX10, w ∈ wsX1_all := by decide +kernel
  have hl := lv_entry ([.ref h]) (n := 3) (Nat.le_of_ble_eq_true rfl)
  rw [lg_entry_eq]
  generalize (lg_sl ([.ref h]) ++ List.replicate (3 - (lg_sl ([.ref h])).length) Slot.unset).toArray = ls at hl ⊢
  have hl : lv_has ls 3 [(0, .ref h)] := hl
  refine lv_iconst (v := 0) hx hb dX1_all_0 (by decide) ?_
  refine lv_istore_n (lv' := [(1, .int 0), (0, .ref h)]) hx hb dX1_all_1 rfl hl (by decide) rfl (fun ls hl => ?_)
  refine lv_iconst (v := 0) hx hb dX1_all_2 (by decide) ?_
  refine lv_istore_n (lv' := [(2, .int 0), (1, .int 0), (0, .ref h)]) hx hb dX1_all_3 rfl hl (by decide) rfl (fun ls hl => ?_)
  have hloop4 : ∀ (n4 : Nat) (i : Nat) (x : Int32), (9 ≤ i + n4) → (i ≤ 8) → (x = q_sum f0 i) → ∀ (ls : Array Slot), lv_has ls 3 [(2, .int (nI i)), (1, .int x), (0, .ref h)] → W p l e (headSpec wsX1_all ({ frames := 0, cells := 0, slots := 0, locals := 0 })).room s m ([Value.ref h] : List Value).toArray below meth c s.heap [] 0 0 (MQ below (vp_Si (fun r : Int32 => r = q_sum f0 8)) ([Value.ref h] : List Value).toArray s 0 0 (fun _ => False)) (F0 m 4 ls []) := by
    intro n4
    induction n4 with
    | zero => intro i x hn hi ex; exact False.elim (by omega)
    | succ n4 ih4 =>
      intro i x hn hi ex ls hl
      refine lv_iload_n hx hb dX1_all_4 rfl (lv_at hl 0 rfl) ?_
      refine lv_bipush (v := 8) hx hb dX1_all_5 (by decide) ?_
      refine lv_icmp_ge (tgt := 25) hx hb dX1_all_7 (by decide) (fun c1 => ?_) (fun c1 => ?_)
      · skip
        have hj := z_ge8 hi c1
        subst hj
        refine lv_iload_n hx hb dX1_all_25 rfl (lv_at hl 1 rfl) ?_
        exact W.iret (v := x) hx hb hr (fun t ht hW => ⟨x, rfl, ex, ht⟩) (fun _ h => nomatch h) dX1_all_26
      · skip
        have hj := z_lt8 hi c1
        refine lv_iload_n hx hb dX1_all_10 rfl (lv_at hl 1 rfl) ?_
        refine lv_aload_n hx hb dX1_all_11 rfl (lv_at hl 2 rfl) ?_
        refine va_get (D := D) (ci := 1) (v := .ref a0) (C := RX1) (T := TX1) (N := 12) hx hb hts hin hown hK hP 0 rfl rfl 0 (by decide) (hts (.fieldLink RX1 7 "QuorumfundModel" "ins" "[I") (by decide +kernel)) (fun _ h9 => h9) rfl dX1_all_12 ?_
        refine lv_iload_n hx hb dX1_all_15 rfl (lv_at hl 0 rfl) ?_
        refine va_iald (D := D) hx hb hK hP 1 0 rfl rfl (z_in8 hj) dX1_all_16 ?_
        refine lv_iadd hx hb dX1_all_17 ?_
        refine lv_istore_n (lv' := [(1, .int (x + (f0 (nI i).toNatClampNeg))), (2, .int (nI i)), (0, .ref h)]) hx hb dX1_all_18 rfl hl (by decide) rfl (fun ls hl => ?_)
        refine lv_iinc (v := nI (i + 1)) (lv' := [(2, .int (nI (i + 1))), (1, .int (x + (f0 (nI i).toNatClampNeg))), (0, .ref h)]) hx hb dX1_all_19 hl (k := 1) rfl (nI_1 _) (by decide) rfl (fun ls hl => ?_)
        refine lv_goto (tgt := 4) hx hb dX1_all_22 (by decide) ?_
        exact ih4 (i + 1) (x + (f0 (nI i).toNatClampNeg)) (by omega) (by omega) (by rw [ex, z_cl hj]; rfl) ls (lv_sub hl [0, 1, 2] rfl)
  exact hloop4 9 0 0 (by omega) (by omega) rfl ls (lv_sub hl [0, 1, 2] rfl)
set_option maxHeartbeats 4000000 in
set_option maxRecDepth 100000 in
theorem c_X1_total (l : Launch) (D : va_G) (cI cZ cJ : ClassId) (sz : Nat) (h a0 a4 a5 a6 a7 a8 a9 : Nat) (f0 f4 f5 f6 f7 f8 f9 : Nat → Int32) (v0 v1 v2 v3 v4 : Int32) : Met l yX1_total wsX1_total ({ frames := 1, cells := 0, slots := 0, locals := 22 }) (va_Pc [.ref h] (zD D cI cZ cJ sz (wM cI cZ h a0 a4 a5 a6 a7 a8 a9 f0 f4 f5 f6 f7 f8 f9 v0 v1 v2 v3 v4))) (va_Qi (fun (r : Int32) (u : Int32) => r = q_sum f0 8 ∧ u = 0) (fun u t => zB D cI cZ cJ (va_A (wM cI cZ h a0 a4 a5 a6 a7 a8 a9 f0 f4 f5 f6 f7 f8 f9 v0 v1 v2 v3 v4) sz) (wM cI cZ h a0 a4 a5 a6 a7 a8 a9 f0 f4 f5 f6 f7 f8 f9 v0 v1 v2 v3 u) t) (va_A (wM cI cZ h a0 a4 a5 a6 a7 a8 a9 f0 f4 f5 f6 f7 f8 f9 v0 v1 v2 v3 v4) sz)) 0 0 (va_A (wM cI cZ h a0 a4 a5 a6 a7 a8 a9 f0 f4 f5 f6 f7 f8 f9 v0 v1 v2 v3 v4) sz) := by
  refine Met.ofW (cc := cX1_total) (maxL := 1) (ret := (some .int)) (by decide) rfl ?_
  intro p e s m args below meth c s₁ B hml hv
  obtain ⟨rfl, hsz, hP, hK, hD0⟩ := hv
  have hx := B.exec
  have hb := B.bytes
  have hr := B.returns
  have hts := atoms_spec (ws := wsX1_total) B.pre
  have hown : s.vm.findClass RX1 = some m.cls := findClass_of_methodNamed B.named
  have hlocks := B.notSynchronized
  have hin : ∀ w ∈ wsX10, w ∈ wsX1_total := by decide +kernel
  subst hsz
  have hD := hD0.self (sz := s.heap.size)
  generalize hAe : va_A (wM cI cZ h a0 a4 a5 a6 a7 a8 a9 f0 f4 f5 f6 f7 f8 f9 v0 v1 v2 v3 v4) s.heap.size = A at hD ⊢
  have hA : ∀ q : Nat, s.heap.size ≤ q → A q := fun q h => by rw [← hAe]; exact Or.inr h
  have hS : va_S A s.heap s.heap [] := va_S.rf
  have hl := lv_entry ([.ref h]) (n := 1) (Nat.le_of_ble_eq_true rfl)
  rw [lg_entry_eq]
  generalize (lg_sl ([.ref h]) ++ List.replicate (1 - (lg_sl ([.ref h])).length) Slot.unset).toArray = ls at hl ⊢
  have hl : lv_has ls 1 [(0, .ref h)] := hl
  refine lv_aload_n hx hb dX1_total_0 rfl (lv_at hl 0 rfl) ?_
  refine lv_iconst (v := 0) hx hb dX1_total_1 (by decide) ?_
  refine va_put (D := D) (ci := 1) (v := .int 0) (ty := .int) (C := RX1) (T := TX1) (N := 12) hx hb hts hin tyX1 tyX1_ok nmX1 hown hK hP hD hS 0 rfl rfl 11 (by decide) (hts (.fieldLink RX1 32 "QuorumfundModel" "thrown" "I") (by decide +kernel)) (fun _ h9 => h9) rfl (by decide +kernel) rfl rfl (Nat.le_of_ble_eq_true rfl) dX1_total_2 (fun H locs hP hD hS => ?_)
  have hP : va_P D vwCl (wM cI cZ h a0 a4 a5 a6 a7 a8 a9 f0 f4 f5 f6 f7 f8 f9 v0 v1 v2 v3 0) H := hP
  have hD : va_D A (wM cI cZ h a0 a4 a5 a6 a7 a8 a9 f0 f4 f5 f6 f7 f8 f9 v0 v1 v2 v3 0) := hD
  refine lv_aload_n hx hb dX1_total_5 rfl (lv_at hl 0 rfl) ?_
  refine vp_callSi (W.runV (As := []) (rest := []) ⟨hx, hb, hml, hown, hts⟩ (c_X1_all l D cI cZ cJ h a0 a4 a5 a6 a7 a8 a9 f0 f4 f5 f6 f7 f8 f9 v0 v1 v2 v3 0) (cwV 0 hts gX1_total_X1_all rfl rfl rfl (by decide +kernel) ⟨Nat.le_of_ble_eq_true rfl, Nat.le_of_ble_eq_true rfl⟩) ⟨zP_blind, va_recv hK hP (ci := 1) (q0 := 0) rfl rfl, fun U hU hW => ⟨rfl, zP_mk hP hK hU hW⟩⟩ rfl rfl hl.1 rfl (lv_room (Nat.le_of_ble_eq_true rfl)) dX1_total_6 ⟨Nat.le_of_ble_eq_true rfl, Nat.le_of_ble_eq_true rfl⟩) (fun r1 w1 => ?_)
  subst w1
  exact W.iret (v := q_sum f0 8) hx hb hr (fun t ht hW => ⟨⟨q_sum f0 8, 0, rfl, ⟨rfl, rfl⟩, ⟨by rw [ht]; exact hP, va_K.moved hW.alike hK, hD⟩⟩, hS.F ht⟩) hS.2.2 dX1_total_9
set_option maxHeartbeats 4000000 in
set_option maxRecDepth 100000 in
theorem c_X1_fillPot (l : Launch) (D : va_G) (cI cZ cJ : ClassId) (sz : Nat) (h a0 a4 a5 a6 a7 a8 a9 : Nat) (f0 f4 f5 f6 f7 f8 f9 : Nat → Int32) (v0 v1 v2 v3 v4 : Int32) (p0 : Int32) : Met l yX1_fillPot wsX1_fillPot ({ frames := 1, cells := 0, slots := 0, locals := 22 }) (va_Pc [.ref h, .int p0] (zD D cI cZ cJ sz (wM cI cZ h a0 a4 a5 a6 a7 a8 a9 f0 f4 f5 f6 f7 f8 f9 v0 v1 v2 v3 v4))) (va_Qi (fun (r : Int32) (u : Int32 × Int32) => (q_fpK v2 p0 = 0 → r = v2 + p0) ∧ u.1 = q_us (q_fpK v2 p0) v2 (v2 + p0) ∧ u.2 = q_fpK v2 p0) (fun u t => zB D cI cZ cJ (va_A (wM cI cZ h a0 a4 a5 a6 a7 a8 a9 f0 f4 f5 f6 f7 f8 f9 v0 v1 v2 v3 v4) sz) (wM cI cZ h a0 a4 a5 a6 a7 a8 a9 f0 f4 f5 f6 f7 f8 f9 v0 v1 u.1 v3 u.2) t) (va_A (wM cI cZ h a0 a4 a5 a6 a7 a8 a9 f0 f4 f5 f6 f7 f8 f9 v0 v1 v2 v3 v4) sz)) 0 0 (va_A (wM cI cZ h a0 a4 a5 a6 a7 a8 a9 f0 f4 f5 f6 f7 f8 f9 v0 v1 v2 v3 v4) sz) := by
  refine Met.ofW (cc := cX1_fillPot) (maxL := 2) (ret := (some .int)) (by decide) rfl ?_
  intro p e s m args below meth c s₁ B hml hv
  obtain ⟨rfl, hsz, hP, hK, hD0⟩ := hv
  have hx := B.exec
  have hb := B.bytes
  have hr := B.returns
  have hts := atoms_spec (ws := wsX1_fillPot) B.pre
  have hown : s.vm.findClass RX1 = some m.cls := findClass_of_methodNamed B.named
  have hlocks := B.notSynchronized
  have hin : ∀ w ∈ wsX10, w ∈ wsX1_fillPot := by decide +kernel
  subst hsz
  have hD := hD0.self (sz := s.heap.size)
  generalize hAe : va_A (wM cI cZ h a0 a4 a5 a6 a7 a8 a9 f0 f4 f5 f6 f7 f8 f9 v0 v1 v2 v3 v4) s.heap.size = A at hD ⊢
  have hA : ∀ q : Nat, s.heap.size ≤ q → A q := fun q h => by rw [← hAe]; exact Or.inr h
  have hS : va_S A s.heap s.heap [] := va_S.rf
  have hl := lv_entry ([.ref h, .int p0]) (n := 2) (Nat.le_of_ble_eq_true rfl)
  rw [lg_entry_eq]
  generalize (lg_sl ([.ref h, .int p0]) ++ List.replicate (2 - (lg_sl ([.ref h, .int p0])).length) Slot.unset).toArray = ls at hl ⊢
  have hl : lv_has ls 2 [(0, .ref h), (1, .int p0)] := hl
  refine lv_aload_n hx hb dX1_fillPot_0 rfl (lv_at hl 0 rfl) ?_
  refine lv_iload_n hx hb dX1_fillPot_1 rfl (lv_at hl 1 rfl) ?_
  refine lv_iconst (v := 1) hx hb dX1_fillPot_2 (by decide) ?_
  refine lv_ldc hx hb hown (hts (.constant RX1 44 (100000)) (by decide +kernel)) dX1_fillPot_3 ?_
  refine vp_callSi (W.runS (As := [.int p0, .int 1, .int 100000]) (rest := [.ref h]) ⟨hx, hb, hml, hown, hts⟩ (c_X1_isIn l p0 1 100000) (va_cwS 3 hts gX1_fillPot_X1_isIn rfl rfl rfl (by decide +kernel) ⟨Nat.le_of_ble_eq_true rfl, Nat.le_of_ble_eq_true rfl⟩) ⟨zN_blind, fun U hU hW => ⟨rfl, trivial⟩⟩ rfl rfl hl.1 rfl (lv_room (Nat.le_of_ble_eq_true rfl)) dX1_fillPot_5 ⟨Nat.le_of_ble_eq_true rfl, Nat.le_of_ble_eq_true rfl⟩) (fun r1 w1 => ?_)
  cases hq1 : q_i p0 1 100000
  · skip
    rw [hq1] at w1
    have w1 : r1 = 0 := w1
    subst w1
    refine lv_if_ne (tgt := 15) hx hb dX1_fillPot_8 (by decide) (fun c9 => False.elim (by revert c9; decide)) (fun _ => ?_)
    refine lv_iconst (v := 1) hx hb dX1_fillPot_11 (by decide) ?_
    refine lv_goto (tgt := 31) hx hb dX1_fillPot_12 (by decide) ?_
    have hFc := va_free (wc := wM cI cZ h a0 a4 a5 a6 a7 a8 a9 f0 f4 f5 f6 f7 f8 f9 v0 v1 v2 v3 v4) hD hS hA [0, 1, 2, 3, 4, 5, 6, 7] rfl
    refine va_calli (va_runV (As := [.int 1]) (rest := []) ⟨hx, hb, hml, hown, hts⟩ (c_X1_goes l D cI cZ cJ s.heap.size h a0 a4 a5 a6 a7 a8 a9 f0 f4 f5 f6 f7 f8 f9 v0 v1 v2 v3 v4 1) (cwV 1 hts gX1_fillPot_X1_goes rfl rfl rfl (by decide +kernel) ⟨Nat.le_of_ble_eq_true rfl, Nat.le_of_ble_eq_true rfl⟩) ⟨zD_blind, va_recv hK hP (ci := 1) (q0 := 0) rfl rfl, fun U hU hW => ⟨rfl, zD_mk hP hK hD hU hW⟩⟩ rfl rfl hl.1 rfl (lv_room (Nat.le_of_ble_eq_true rfl)) dX1_fillPot_31 ⟨Nat.le_of_ble_eq_true rfl, Nat.le_of_ble_eq_true rfl⟩) hS (fun q _ h => hFc q h) hFc (fun r3 u3 t H1 locs ht hvm w3 hB hz1 hk1 hS => ?_)
    obtain ⟨hP1, hK1, hD1⟩ := hB
    rw [ht] at hP1
    generalize H1 = H at hP1 hS ⊢
    try dsimp only at w3
    obtain ⟨w3_p, w3_0⟩ := w3
    subst w3_0
    have hP : va_P D vwCl (wM cI cZ h a0 a4 a5 a6 a7 a8 a9 f0 f4 f5 f6 f7 f8 f9 v0 v1 v2 v3 1) H := hP1
    have hD : va_D A (wM cI cZ h a0 a4 a5 a6 a7 a8 a9 f0 f4 f5 f6 f7 f8 f9 v0 v1 v2 v3 1) := hD1.weaken (fun _ _ _ h => hFc _ h)
    have w3_p : r3 = 0 := w3_p.trans (by decide)
    subst w3_p
    refine lv_if_ne (tgt := 39) hx hb dX1_fillPot_34 (by decide) (fun c9 => False.elim (by revert c9; decide)) (fun _ => ?_)
    refine lv_iconst (v := 0) hx hb dX1_fillPot_37 (by decide) ?_
    exact W.iret (v := 0) hx hb hr (fun t ht hW => ⟨⟨0, ⟨v2, 1⟩, rfl, ⟨fun hz9 => by simp [q_fpK, hq1] at hz9, by simp [q_up, q_us, q_uA, q_fpK, hq1], by simp [q_up, q_us, q_uA, q_fpK, hq1]⟩, ⟨by rw [ht]; exact hP, va_K.moved hW.alike hK, hD⟩⟩, hS.F ht⟩) hS.2.2 dX1_fillPot_38
  · skip
    rw [hq1] at w1
    have w1 : r1 = 1 := w1
    subst w1
    refine lv_if_ne (tgt := 15) hx hb dX1_fillPot_8 (by decide) (fun _ => ?_) (fun c9 => False.elim (by revert c9; decide))
    refine lv_aload_n hx hb dX1_fillPot_15 rfl (lv_at hl 0 rfl) ?_
    refine va_get (D := D) (ci := 1) (v := .int v2) (C := RX1) (T := TX1) (N := 12) hx hb hts hin hown hK hP 0 rfl rfl 8 (by decide) (hts (.fieldLink RX1 56 "QuorumfundModel" "pot" "I") (by decide +kernel)) (fun _ h9 => h9) rfl dX1_fillPot_16 ?_
    refine lv_iload_n hx hb dX1_fillPot_19 rfl (lv_at hl 1 rfl) ?_
    refine lv_iadd hx hb dX1_fillPot_20 ?_
    refine lv_ldc hx hb hown (hts (.constant RX1 59 (1000000)) (by decide +kernel)) dX1_fillPot_21 ?_
    refine lv_icmp_le (tgt := 30) hx hb dX1_fillPot_23 (by decide) (fun c6 => ?_) (fun c6 => ?_)
    · skip
      have hm := z_nlt.mpr c6
      refine lv_iconst (v := 0) hx hb dX1_fillPot_30 (by decide) ?_
      have hFc := va_free (wc := wM cI cZ h a0 a4 a5 a6 a7 a8 a9 f0 f4 f5 f6 f7 f8 f9 v0 v1 v2 v3 v4) hD hS hA [0, 1, 2, 3, 4, 5, 6, 7] rfl
      refine va_calli (va_runV (As := [.int 0]) (rest := []) ⟨hx, hb, hml, hown, hts⟩ (c_X1_goes l D cI cZ cJ s.heap.size h a0 a4 a5 a6 a7 a8 a9 f0 f4 f5 f6 f7 f8 f9 v0 v1 v2 v3 v4 0) (cwV 1 hts gX1_fillPot_X1_goes rfl rfl rfl (by decide +kernel) ⟨Nat.le_of_ble_eq_true rfl, Nat.le_of_ble_eq_true rfl⟩) ⟨zD_blind, va_recv hK hP (ci := 1) (q0 := 0) rfl rfl, fun U hU hW => ⟨rfl, zD_mk hP hK hD hU hW⟩⟩ rfl rfl hl.1 rfl (lv_room (Nat.le_of_ble_eq_true rfl)) dX1_fillPot_31 ⟨Nat.le_of_ble_eq_true rfl, Nat.le_of_ble_eq_true rfl⟩) hS (fun q _ h => hFc q h) hFc (fun r7 u7 t H1 locs ht hvm w7 hB hz1 hk1 hS => ?_)
      obtain ⟨hP1, hK1, hD1⟩ := hB
      rw [ht] at hP1
      generalize H1 = H at hP1 hS ⊢
      try dsimp only at w7
      obtain ⟨w7_p, w7_0⟩ := w7
      subst w7_0
      have hP : va_P D vwCl (wM cI cZ h a0 a4 a5 a6 a7 a8 a9 f0 f4 f5 f6 f7 f8 f9 v0 v1 v2 v3 0) H := hP1
      have hD : va_D A (wM cI cZ h a0 a4 a5 a6 a7 a8 a9 f0 f4 f5 f6 f7 f8 f9 v0 v1 v2 v3 0) := hD1.weaken (fun _ _ _ h => hFc _ h)
      have w7_p : r7 = 1 := w7_p.trans (by decide)
      subst w7_p
      refine lv_if_ne (tgt := 39) hx hb dX1_fillPot_34 (by decide) (fun _ => ?_) (fun c9 => False.elim (by revert c9; decide))
      refine lv_aload_n hx hb dX1_fillPot_39 rfl (lv_at hl 0 rfl) ?_
      refine lv_dup hx hb dX1_fillPot_40 rfl ?_
      refine va_get (D := D) (ci := 1) (v := .int v2) (C := RX1) (T := TX1) (N := 12) hx hb hts hin hown hK hP 0 rfl rfl 8 (by decide) (hts (.fieldLink RX1 56 "QuorumfundModel" "pot" "I") (by decide +kernel)) (fun _ h9 => h9) rfl dX1_fillPot_41 ?_
      refine lv_iload_n hx hb dX1_fillPot_44 rfl (lv_at hl 1 rfl) ?_
      refine lv_iadd hx hb dX1_fillPot_45 ?_
      refine va_put (D := D) (ci := 1) (v := .int (v2 + p0)) (ty := .int) (C := RX1) (T := TX1) (N := 12) hx hb hts hin tyX1 tyX1_ok nmX1 hown hK hP hD hS 0 rfl rfl 8 (by decide) (hts (.fieldLink RX1 56 "QuorumfundModel" "pot" "I") (by decide +kernel)) (fun _ h9 => h9) rfl (by decide +kernel) rfl rfl (Nat.le_of_ble_eq_true rfl) dX1_fillPot_46 (fun H locs hP hD hS => ?_)
      have hP : va_P D vwCl (wM cI cZ h a0 a4 a5 a6 a7 a8 a9 f0 f4 f5 f6 f7 f8 f9 v0 v1 (v2 + p0) v3 0) H := hP
      have hD : va_D A (wM cI cZ h a0 a4 a5 a6 a7 a8 a9 f0 f4 f5 f6 f7 f8 f9 v0 v1 (v2 + p0) v3 0) := hD
      refine lv_aload_n hx hb dX1_fillPot_49 rfl (lv_at hl 0 rfl) ?_
      refine va_get (D := D) (ci := 1) (v := .int (v2 + p0)) (C := RX1) (T := TX1) (N := 12) hx hb hts hin hown hK hP 0 rfl rfl 8 (by decide) (hts (.fieldLink RX1 56 "QuorumfundModel" "pot" "I") (by decide +kernel)) (fun _ h9 => h9) rfl dX1_fillPot_50 ?_
      exact W.iret (v := v2 + p0) hx hb hr (fun t ht hW => ⟨⟨v2 + p0, ⟨(v2 + p0), 0⟩, rfl, ⟨fun _ => rfl, by simp [q_up, q_us, q_uA, q_fpK, hq1, c6, hm], by simp [q_up, q_us, q_uA, q_fpK, hq1, c6, hm]⟩, ⟨by rw [ht]; exact hP, va_K.moved hW.alike hK, hD⟩⟩, hS.F ht⟩) hS.2.2 dX1_fillPot_53
    · skip
      have hm := z_nle.mp c6
      refine lv_iconst (v := 2) hx hb dX1_fillPot_26 (by decide) ?_
      refine lv_goto (tgt := 31) hx hb dX1_fillPot_27 (by decide) ?_
      have hFc := va_free (wc := wM cI cZ h a0 a4 a5 a6 a7 a8 a9 f0 f4 f5 f6 f7 f8 f9 v0 v1 v2 v3 v4) hD hS hA [0, 1, 2, 3, 4, 5, 6, 7] rfl
      refine va_calli (va_runV (As := [.int 2]) (rest := []) ⟨hx, hb, hml, hown, hts⟩ (c_X1_goes l D cI cZ cJ s.heap.size h a0 a4 a5 a6 a7 a8 a9 f0 f4 f5 f6 f7 f8 f9 v0 v1 v2 v3 v4 2) (cwV 1 hts gX1_fillPot_X1_goes rfl rfl rfl (by decide +kernel) ⟨Nat.le_of_ble_eq_true rfl, Nat.le_of_ble_eq_true rfl⟩) ⟨zD_blind, va_recv hK hP (ci := 1) (q0 := 0) rfl rfl, fun U hU hW => ⟨rfl, zD_mk hP hK hD hU hW⟩⟩ rfl rfl hl.1 rfl (lv_room (Nat.le_of_ble_eq_true rfl)) dX1_fillPot_31 ⟨Nat.le_of_ble_eq_true rfl, Nat.le_of_ble_eq_true rfl⟩) hS (fun q _ h => hFc q h) hFc (fun r9 u9 t H1 locs ht hvm w9 hB hz1 hk1 hS => ?_)
      obtain ⟨hP1, hK1, hD1⟩ := hB
      rw [ht] at hP1
      generalize H1 = H at hP1 hS ⊢
      try dsimp only at w9
      obtain ⟨w9_p, w9_0⟩ := w9
      subst w9_0
      have hP : va_P D vwCl (wM cI cZ h a0 a4 a5 a6 a7 a8 a9 f0 f4 f5 f6 f7 f8 f9 v0 v1 v2 v3 2) H := hP1
      have hD : va_D A (wM cI cZ h a0 a4 a5 a6 a7 a8 a9 f0 f4 f5 f6 f7 f8 f9 v0 v1 v2 v3 2) := hD1.weaken (fun _ _ _ h => hFc _ h)
      have w9_p : r9 = 0 := w9_p.trans (by decide)
      subst w9_p
      refine lv_if_ne (tgt := 39) hx hb dX1_fillPot_34 (by decide) (fun c9 => False.elim (by revert c9; decide)) (fun _ => ?_)
      refine lv_iconst (v := 0) hx hb dX1_fillPot_37 (by decide) ?_
      exact W.iret (v := 0) hx hb hr (fun t ht hW => ⟨⟨0, ⟨v2, 2⟩, rfl, ⟨fun hz9 => by simp [q_fpK, hq1, c6, hm] at hz9, by simp [q_up, q_us, q_uA, q_fpK, hq1, c6, hm], by simp [q_up, q_us, q_uA, q_fpK, hq1, c6, hm]⟩, ⟨by rw [ht]; exact hP, va_K.moved hW.alike hK, hD⟩⟩, hS.F ht⟩) hS.2.2 dX1_fillPot_38
set_option maxHeartbeats 4000000 in
set_option maxRecDepth 100000 in
theorem c_X1_pot (l : Launch) (D : va_G) (cI cZ cJ : ClassId) (sz : Nat) (h a0 a4 a5 a6 a7 a8 a9 : Nat) (f0 f4 f5 f6 f7 f8 f9 : Nat → Int32) (v0 v1 v2 v3 v4 : Int32) : Met l yX1_pot wsX1_pot ({ frames := 0, cells := 0, slots := 0, locals := 0 }) (va_Pc [.ref h] (zD D cI cZ cJ sz (wM cI cZ h a0 a4 a5 a6 a7 a8 a9 f0 f4 f5 f6 f7 f8 f9 v0 v1 v2 v3 v4))) (va_Qi (fun (r : Int32) (u : Int32) => r = v2 ∧ u = 0) (fun u t => zB D cI cZ cJ (va_A (wM cI cZ h a0 a4 a5 a6 a7 a8 a9 f0 f4 f5 f6 f7 f8 f9 v0 v1 v2 v3 v4) sz) (wM cI cZ h a0 a4 a5 a6 a7 a8 a9 f0 f4 f5 f6 f7 f8 f9 v0 v1 v2 v3 u) t) (va_A (wM cI cZ h a0 a4 a5 a6 a7 a8 a9 f0 f4 f5 f6 f7 f8 f9 v0 v1 v2 v3 v4) sz)) 0 0 (va_A (wM cI cZ h a0 a4 a5 a6 a7 a8 a9 f0 f4 f5 f6 f7 f8 f9 v0 v1 v2 v3 v4) sz) := by
  refine Met.ofW (cc := cX1_pot) (maxL := 1) (ret := (some .int)) (by decide) rfl ?_
  intro p e s m args below meth c s₁ B hml hv
  obtain ⟨rfl, hsz, hP, hK, hD0⟩ := hv
  have hx := B.exec
  have hb := B.bytes
  have hr := B.returns
  have hts := atoms_spec (ws := wsX1_pot) B.pre
  have hown : s.vm.findClass RX1 = some m.cls := findClass_of_methodNamed B.named
  have hlocks := B.notSynchronized
  have hin : ∀ w ∈ wsX10, w ∈ wsX1_pot := by decide +kernel
  subst hsz
  have hD := hD0.self (sz := s.heap.size)
  generalize hAe : va_A (wM cI cZ h a0 a4 a5 a6 a7 a8 a9 f0 f4 f5 f6 f7 f8 f9 v0 v1 v2 v3 v4) s.heap.size = A at hD ⊢
  have hA : ∀ q : Nat, s.heap.size ≤ q → A q := fun q h => by rw [← hAe]; exact Or.inr h
  have hS : va_S A s.heap s.heap [] := va_S.rf
  have hl := lv_entry ([.ref h]) (n := 1) (Nat.le_of_ble_eq_true rfl)
  rw [lg_entry_eq]
  generalize (lg_sl ([.ref h]) ++ List.replicate (1 - (lg_sl ([.ref h])).length) Slot.unset).toArray = ls at hl ⊢
  have hl : lv_has ls 1 [(0, .ref h)] := hl
  refine lv_aload_n hx hb dX1_pot_0 rfl (lv_at hl 0 rfl) ?_
  refine lv_iconst (v := 0) hx hb dX1_pot_1 (by decide) ?_
  refine va_put (D := D) (ci := 1) (v := .int 0) (ty := .int) (C := RX1) (T := TX1) (N := 12) hx hb hts hin tyX1 tyX1_ok nmX1 hown hK hP hD hS 0 rfl rfl 11 (by decide) (hts (.fieldLink RX1 32 "QuorumfundModel" "thrown" "I") (by decide +kernel)) (fun _ h9 => h9) rfl (by decide +kernel) rfl rfl (Nat.le_of_ble_eq_true rfl) dX1_pot_2 (fun H locs hP hD hS => ?_)
  have hP : va_P D vwCl (wM cI cZ h a0 a4 a5 a6 a7 a8 a9 f0 f4 f5 f6 f7 f8 f9 v0 v1 v2 v3 0) H := hP
  have hD : va_D A (wM cI cZ h a0 a4 a5 a6 a7 a8 a9 f0 f4 f5 f6 f7 f8 f9 v0 v1 v2 v3 0) := hD
  refine lv_aload_n hx hb dX1_pot_5 rfl (lv_at hl 0 rfl) ?_
  refine va_get (D := D) (ci := 1) (v := .int v2) (C := RX1) (T := TX1) (N := 12) hx hb hts hin hown hK hP 0 rfl rfl 8 (by decide) (hts (.fieldLink RX1 56 "QuorumfundModel" "pot" "I") (by decide +kernel)) (fun _ h9 => h9) rfl dX1_pot_6 ?_
  exact W.iret (v := v2) hx hb hr (fun t ht hW => ⟨⟨v2, 0, rfl, ⟨rfl, rfl⟩, ⟨by rw [ht]; exact hP, va_K.moved hW.alike hK, hD⟩⟩, hS.F ht⟩) hS.2.2 dX1_pot_9
set_option maxHeartbeats 4000000 in
set_option maxRecDepth 100000 in
theorem c_X1_out (l : Launch) (D : va_G) (cI cZ cJ : ClassId) (sz : Nat) (h a0 a4 a5 a6 a7 a8 a9 : Nat) (f0 f4 f5 f6 f7 f8 f9 : Nat → Int32) (v0 v1 v2 v3 v4 : Int32) : Met l yX1_out wsX1_out ({ frames := 0, cells := 0, slots := 0, locals := 0 }) (va_Pc [.ref h] (zD D cI cZ cJ sz (wM cI cZ h a0 a4 a5 a6 a7 a8 a9 f0 f4 f5 f6 f7 f8 f9 v0 v1 v2 v3 v4))) (va_Qi (fun (r : Int32) (u : Int32) => r = v3 ∧ u = 0) (fun u t => zB D cI cZ cJ (va_A (wM cI cZ h a0 a4 a5 a6 a7 a8 a9 f0 f4 f5 f6 f7 f8 f9 v0 v1 v2 v3 v4) sz) (wM cI cZ h a0 a4 a5 a6 a7 a8 a9 f0 f4 f5 f6 f7 f8 f9 v0 v1 v2 v3 u) t) (va_A (wM cI cZ h a0 a4 a5 a6 a7 a8 a9 f0 f4 f5 f6 f7 f8 f9 v0 v1 v2 v3 v4) sz)) 0 0 (va_A (wM cI cZ h a0 a4 a5 a6 a7 a8 a9 f0 f4 f5 f6 f7 f8 f9 v0 v1 v2 v3 v4) sz) := by
  refine Met.ofW (cc := cX1_out) (maxL := 1) (ret := (some .int)) (by decide) rfl ?_
  intro p e s m args below meth c s₁ B hml hv
  obtain ⟨rfl, hsz, hP, hK, hD0⟩ := hv
  have hx := B.exec
  have hb := B.bytes
  have hr := B.returns
  have hts := atoms_spec (ws := wsX1_out) B.pre
  have hown : s.vm.findClass RX1 = some m.cls := findClass_of_methodNamed B.named
  have hlocks := B.notSynchronized
  have hin : ∀ w ∈ wsX10, w ∈ wsX1_out := by decide +kernel
  subst hsz
  have hD := hD0.self (sz := s.heap.size)
  generalize hAe : va_A (wM cI cZ h a0 a4 a5 a6 a7 a8 a9 f0 f4 f5 f6 f7 f8 f9 v0 v1 v2 v3 v4) s.heap.size = A at hD ⊢
  have hA : ∀ q : Nat, s.heap.size ≤ q → A q := fun q h => by rw [← hAe]; exact Or.inr h
  have hS : va_S A s.heap s.heap [] := va_S.rf
  have hl := lv_entry ([.ref h]) (n := 1) (Nat.le_of_ble_eq_true rfl)
  rw [lg_entry_eq]
  generalize (lg_sl ([.ref h]) ++ List.replicate (1 - (lg_sl ([.ref h])).length) Slot.unset).toArray = ls at hl ⊢
  have hl : lv_has ls 1 [(0, .ref h)] := hl
  refine lv_aload_n hx hb dX1_out_0 rfl (lv_at hl 0 rfl) ?_
  refine lv_iconst (v := 0) hx hb dX1_out_1 (by decide) ?_
  refine va_put (D := D) (ci := 1) (v := .int 0) (ty := .int) (C := RX1) (T := TX1) (N := 12) hx hb hts hin tyX1 tyX1_ok nmX1 hown hK hP hD hS 0 rfl rfl 11 (by decide) (hts (.fieldLink RX1 32 "QuorumfundModel" "thrown" "I") (by decide +kernel)) (fun _ h9 => h9) rfl (by decide +kernel) rfl rfl (Nat.le_of_ble_eq_true rfl) dX1_out_2 (fun H locs hP hD hS => ?_)
  have hP : va_P D vwCl (wM cI cZ h a0 a4 a5 a6 a7 a8 a9 f0 f4 f5 f6 f7 f8 f9 v0 v1 v2 v3 0) H := hP
  have hD : va_D A (wM cI cZ h a0 a4 a5 a6 a7 a8 a9 f0 f4 f5 f6 f7 f8 f9 v0 v1 v2 v3 0) := hD
  refine lv_aload_n hx hb dX1_out_5 rfl (lv_at hl 0 rfl) ?_
  refine va_get (D := D) (ci := 1) (v := .int v3) (C := RX1) (T := TX1) (N := 12) hx hb hts hin hown hK hP 0 rfl rfl 9 (by decide) (hts (.fieldLink RX1 92 "QuorumfundModel" "out" "I") (by decide +kernel)) (fun _ h9 => h9) rfl dX1_out_6 ?_
  exact W.iret (v := v3) hx hb hr (fun t ht hW => ⟨⟨v3, 0, rfl, ⟨rfl, rfl⟩, ⟨by rw [ht]; exact hP, va_K.moved hW.alike hK, hD⟩⟩, hS.F ht⟩) hS.2.2 dX1_out_9
set_option maxHeartbeats 4000000 in
set_option maxRecDepth 100000 in
theorem c_X1_addMilestone (l : Launch) (D : va_G) (cI cZ cJ : ClassId) (sz : Nat) (h a0 a4 a5 a6 a7 a8 a9 : Nat) (f0 f4 f5 f6 f7 f8 f9 : Nat → Int32) (v0 v1 v2 v3 v4 : Int32) (p0 : Int32) (hv : ¬ v0 = 6 → vp_in v0 6) : Met l yX1_addMilestone wsX1_addMilestone ({ frames := 1, cells := 0, slots := 0, locals := 22 }) (va_Pc [.ref h, .int p0] (zD D cI cZ cJ sz (wM cI cZ h a0 a4 a5 a6 a7 a8 a9 f0 f4 f5 f6 f7 f8 f9 v0 v1 v2 v3 v4))) (va_Qi (fun (r : Int32) (u : (Nat → Int32) × (Nat → Int32) × Int32 × Int32) => (q_amK v0 p0 = 0 → r = v0 + 1 - 1) ∧ u.1 = q_up (q_amK v0 p0) f7 v0.toNatClampNeg p0 ∧ u.2.1 = q_up (q_amK v0 p0) f8 v0.toNatClampNeg 0 ∧ u.2.2.1 = q_us (q_amK v0 p0) v0 (v0 + 1) ∧ u.2.2.2 = q_amK v0 p0) (fun u t => zB D cI cZ cJ (va_A (wM cI cZ h a0 a4 a5 a6 a7 a8 a9 f0 f4 f5 f6 f7 f8 f9 v0 v1 v2 v3 v4) sz) (wM cI cZ h a0 a4 a5 a6 a7 a8 a9 f0 f4 f5 f6 u.1 u.2.1 f9 u.2.2.1 v1 v2 v3 u.2.2.2) t) (va_A (wM cI cZ h a0 a4 a5 a6 a7 a8 a9 f0 f4 f5 f6 f7 f8 f9 v0 v1 v2 v3 v4) sz)) 0 0 (va_A (wM cI cZ h a0 a4 a5 a6 a7 a8 a9 f0 f4 f5 f6 f7 f8 f9 v0 v1 v2 v3 v4) sz) := by
  refine Met.ofW (cc := cX1_addMilestone) (maxL := 2) (ret := (some .int)) (by decide) rfl ?_
  intro p e s m args below meth c s₁ B hml hv
  obtain ⟨rfl, hsz, hP, hK, hD0⟩ := hv
  have hx := B.exec
  have hb := B.bytes
  have hr := B.returns
  have hts := atoms_spec (ws := wsX1_addMilestone) B.pre
  have hown : s.vm.findClass RX1 = some m.cls := findClass_of_methodNamed B.named
  have hlocks := B.notSynchronized
  have hin : ∀ w ∈ wsX10, w ∈ wsX1_addMilestone := by decide +kernel
  subst hsz
  have hD := hD0.self (sz := s.heap.size)
  generalize hAe : va_A (wM cI cZ h a0 a4 a5 a6 a7 a8 a9 f0 f4 f5 f6 f7 f8 f9 v0 v1 v2 v3 v4) s.heap.size = A at hD ⊢
  have hA : ∀ q : Nat, s.heap.size ≤ q → A q := fun q h => by rw [← hAe]; exact Or.inr h
  have hS : va_S A s.heap s.heap [] := va_S.rf
  have hl := lv_entry ([.ref h, .int p0]) (n := 2) (Nat.le_of_ble_eq_true rfl)
  rw [lg_entry_eq]
  generalize (lg_sl ([.ref h, .int p0]) ++ List.replicate (2 - (lg_sl ([.ref h, .int p0])).length) Slot.unset).toArray = ls at hl ⊢
  have hl : lv_has ls 2 [(0, .ref h), (1, .int p0)] := hl
  refine lv_aload_n hx hb dX1_addMilestone_0 rfl (lv_at hl 0 rfl) ?_
  refine lv_iload_n hx hb dX1_addMilestone_1 rfl (lv_at hl 1 rfl) ?_
  refine lv_iconst (v := 1) hx hb dX1_addMilestone_2 (by decide) ?_
  refine lv_ldc hx hb hown (hts (.constant RX1 44 (100000)) (by decide +kernel)) dX1_addMilestone_3 ?_
  refine vp_callSi (W.runS (As := [.int p0, .int 1, .int 100000]) (rest := [.ref h]) ⟨hx, hb, hml, hown, hts⟩ (c_X1_isIn l p0 1 100000) (va_cwS 3 hts gX1_addMilestone_X1_isIn rfl rfl rfl (by decide +kernel) ⟨Nat.le_of_ble_eq_true rfl, Nat.le_of_ble_eq_true rfl⟩) ⟨zN_blind, fun U hU hW => ⟨rfl, trivial⟩⟩ rfl rfl hl.1 rfl (lv_room (Nat.le_of_ble_eq_true rfl)) dX1_addMilestone_5 ⟨Nat.le_of_ble_eq_true rfl, Nat.le_of_ble_eq_true rfl⟩) (fun r1 w1 => ?_)
  cases hq1 : q_i p0 1 100000
  · skip
    rw [hq1] at w1
    have w1 : r1 = 0 := w1
    subst w1
    refine lv_if_ne (tgt := 15) hx hb dX1_addMilestone_8 (by decide) (fun c9 => False.elim (by revert c9; decide)) (fun _ => ?_)
    refine lv_iconst (v := 1) hx hb dX1_addMilestone_11 (by decide) ?_
    refine lv_goto (tgt := 29) hx hb dX1_addMilestone_12 (by decide) ?_
    have hFc := va_free (wc := wM cI cZ h a0 a4 a5 a6 a7 a8 a9 f0 f4 f5 f6 f7 f8 f9 v0 v1 v2 v3 v4) hD hS hA [0, 1, 2, 3, 4, 5, 6, 7] rfl
    refine va_calli (va_runV (As := [.int 1]) (rest := []) ⟨hx, hb, hml, hown, hts⟩ (c_X1_goes l D cI cZ cJ s.heap.size h a0 a4 a5 a6 a7 a8 a9 f0 f4 f5 f6 f7 f8 f9 v0 v1 v2 v3 v4 1) (cwV 1 hts gX1_addMilestone_X1_goes rfl rfl rfl (by decide +kernel) ⟨Nat.le_of_ble_eq_true rfl, Nat.le_of_ble_eq_true rfl⟩) ⟨zD_blind, va_recv hK hP (ci := 1) (q0 := 0) rfl rfl, fun U hU hW => ⟨rfl, zD_mk hP hK hD hU hW⟩⟩ rfl rfl hl.1 rfl (lv_room (Nat.le_of_ble_eq_true rfl)) dX1_addMilestone_29 ⟨Nat.le_of_ble_eq_true rfl, Nat.le_of_ble_eq_true rfl⟩) hS (fun q _ h => hFc q h) hFc (fun r3 u3 t H1 locs ht hvm w3 hB hz1 hk1 hS => ?_)
    obtain ⟨hP1, hK1, hD1⟩ := hB
    rw [ht] at hP1
    generalize H1 = H at hP1 hS ⊢
    try dsimp only at w3
    obtain ⟨w3_p, w3_0⟩ := w3
    subst w3_0
    have hP : va_P D vwCl (wM cI cZ h a0 a4 a5 a6 a7 a8 a9 f0 f4 f5 f6 f7 f8 f9 v0 v1 v2 v3 1) H := hP1
    have hD : va_D A (wM cI cZ h a0 a4 a5 a6 a7 a8 a9 f0 f4 f5 f6 f7 f8 f9 v0 v1 v2 v3 1) := hD1.weaken (fun _ _ _ h => hFc _ h)
    have w3_p : r3 = 0 := w3_p.trans (by decide)
    subst w3_p
    refine lv_if_ne (tgt := 37) hx hb dX1_addMilestone_32 (by decide) (fun c9 => False.elim (by revert c9; decide)) (fun _ => ?_)
    refine lv_iconst (v := 0) hx hb dX1_addMilestone_35 (by decide) ?_
    exact W.iret (v := 0) hx hb hr (fun t ht hW => ⟨⟨0, ⟨f7, f8, v0, 1⟩, rfl, ⟨fun hz9 => by simp [q_amK, hq1] at hz9, by simp [q_up, show vp_nar .boolean 0 = 0 from rfl, q_us, q_uA, q_amK, hq1], by simp [q_up, show vp_nar .boolean 0 = 0 from rfl, q_us, q_uA, q_amK, hq1], by simp [q_up, show vp_nar .boolean 0 = 0 from rfl, q_us, q_uA, q_amK, hq1], by simp [q_up, show vp_nar .boolean 0 = 0 from rfl, q_us, q_uA, q_amK, hq1]⟩, ⟨by rw [ht]; exact hP, va_K.moved hW.alike hK, hD⟩⟩, hS.F ht⟩) hS.2.2 dX1_addMilestone_36
  · skip
    rw [hq1] at w1
    have w1 : r1 = 1 := w1
    subst w1
    refine lv_if_ne (tgt := 15) hx hb dX1_addMilestone_8 (by decide) (fun _ => ?_) (fun c9 => False.elim (by revert c9; decide))
    refine lv_aload_n hx hb dX1_addMilestone_15 rfl (lv_at hl 0 rfl) ?_
    refine va_get (D := D) (ci := 1) (v := .int v0) (C := RX1) (T := TX1) (N := 12) hx hb hts hin hown hK hP 0 rfl rfl 4 (by decide) (hts (.fieldLink RX1 60 "QuorumfundModel" "milestones" "I") (by decide +kernel)) (fun _ h9 => h9) rfl dX1_addMilestone_16 ?_
    refine lv_bipush (v := 6) hx hb dX1_addMilestone_19 (by decide) ?_
    refine lv_icmp_ne (tgt := 28) hx hb dX1_addMilestone_21 (by decide) (fun c6 => ?_) (fun c6 => ?_)
    · skip
      refine lv_iconst (v := 0) hx hb dX1_addMilestone_28 (by decide) ?_
      have hFc := va_free (wc := wM cI cZ h a0 a4 a5 a6 a7 a8 a9 f0 f4 f5 f6 f7 f8 f9 v0 v1 v2 v3 v4) hD hS hA [0, 1, 2, 3, 4, 5, 6, 7] rfl
      refine va_calli (va_runV (As := [.int 0]) (rest := []) ⟨hx, hb, hml, hown, hts⟩ (c_X1_goes l D cI cZ cJ s.heap.size h a0 a4 a5 a6 a7 a8 a9 f0 f4 f5 f6 f7 f8 f9 v0 v1 v2 v3 v4 0) (cwV 1 hts gX1_addMilestone_X1_goes rfl rfl rfl (by decide +kernel) ⟨Nat.le_of_ble_eq_true rfl, Nat.le_of_ble_eq_true rfl⟩) ⟨zD_blind, va_recv hK hP (ci := 1) (q0 := 0) rfl rfl, fun U hU hW => ⟨rfl, zD_mk hP hK hD hU hW⟩⟩ rfl rfl hl.1 rfl (lv_room (Nat.le_of_ble_eq_true rfl)) dX1_addMilestone_29 ⟨Nat.le_of_ble_eq_true rfl, Nat.le_of_ble_eq_true rfl⟩) hS (fun q _ h => hFc q h) hFc (fun r7 u7 t H1 locs ht hvm w7 hB hz1 hk1 hS => ?_)
      obtain ⟨hP1, hK1, hD1⟩ := hB
      rw [ht] at hP1
      generalize H1 = H at hP1 hS ⊢
      try dsimp only at w7
      obtain ⟨w7_p, w7_0⟩ := w7
      subst w7_0
      have hP : va_P D vwCl (wM cI cZ h a0 a4 a5 a6 a7 a8 a9 f0 f4 f5 f6 f7 f8 f9 v0 v1 v2 v3 0) H := hP1
      have hD : va_D A (wM cI cZ h a0 a4 a5 a6 a7 a8 a9 f0 f4 f5 f6 f7 f8 f9 v0 v1 v2 v3 0) := hD1.weaken (fun _ _ _ h => hFc _ h)
      have w7_p : r7 = 1 := w7_p.trans (by decide)
      subst w7_p
      refine lv_if_ne (tgt := 37) hx hb dX1_addMilestone_32 (by decide) (fun _ => ?_) (fun c9 => False.elim (by revert c9; decide))
      refine lv_aload_n hx hb dX1_addMilestone_37 rfl (lv_at hl 0 rfl) ?_
      refine va_get (D := D) (ci := 1) (v := .ref a7) (C := RX1) (T := TX1) (N := 12) hx hb hts hin hown hK hP 0 rfl rfl 6 (by decide) (hts (.fieldLink RX1 22 "QuorumfundModel" "amounts" "[I") (by decide +kernel)) (fun _ h9 => h9) rfl dX1_addMilestone_38 ?_
      refine lv_aload_n hx hb dX1_addMilestone_41 rfl (lv_at hl 0 rfl) ?_
      refine va_get (D := D) (ci := 1) (v := .int v0) (C := RX1) (T := TX1) (N := 12) hx hb hts hin hown hK hP 0 rfl rfl 4 (by decide) (hts (.fieldLink RX1 60 "QuorumfundModel" "milestones" "I") (by decide +kernel)) (fun _ h9 => h9) rfl dX1_addMilestone_42 ?_
      refine lv_iload_n hx hb dX1_addMilestone_45 rfl (lv_at hl 1 rfl) ?_
      refine va_iast (D := D) hx hb hK hP hD hS 5 0 rfl rfl (hv c6) dX1_addMilestone_46 (fun H locs hP hD hS => ?_)
      have hP : va_P D vwCl (wM cI cZ h a0 a4 a5 a6 a7 a8 a9 f0 f4 f5 f6 (upd f7 v0.toNatClampNeg p0) f8 f9 v0 v1 v2 v3 0) H := hP
      have hD : va_D A (wM cI cZ h a0 a4 a5 a6 a7 a8 a9 f0 f4 f5 f6 (upd f7 v0.toNatClampNeg p0) f8 f9 v0 v1 v2 v3 0) := hD
      refine lv_aload_n hx hb dX1_addMilestone_47 rfl (lv_at hl 0 rfl) ?_
      refine va_get (D := D) (ci := 1) (v := .ref a8) (C := RX1) (T := TX1) (N := 12) hx hb hts hin hown hK hP 0 rfl rfl 7 (by decide) (hts (.fieldLink RX1 25 "QuorumfundModel" "isProved" "[Z") (by decide +kernel)) (fun _ h9 => h9) rfl dX1_addMilestone_48 ?_
      refine lv_aload_n hx hb dX1_addMilestone_51 rfl (lv_at hl 0 rfl) ?_
      refine va_get (D := D) (ci := 1) (v := .int v0) (C := RX1) (T := TX1) (N := 12) hx hb hts hin hown hK hP 0 rfl rfl 4 (by decide) (hts (.fieldLink RX1 60 "QuorumfundModel" "milestones" "I") (by decide +kernel)) (fun _ h9 => h9) rfl dX1_addMilestone_52 ?_
      refine lv_iconst (v := 0) hx hb dX1_addMilestone_55 (by decide) ?_
      refine va_zast (D := D) hx hb hK hP hD hS 6 1 rfl rfl (hv c6) dX1_addMilestone_56 (fun H locs hP hD hS => ?_)
      have hP : va_P D vwCl (wM cI cZ h a0 a4 a5 a6 a7 a8 a9 f0 f4 f5 f6 (upd f7 v0.toNatClampNeg p0) (upd f8 v0.toNatClampNeg (vp_nar .boolean 0)) f9 v0 v1 v2 v3 0) H := hP
      have hD : va_D A (wM cI cZ h a0 a4 a5 a6 a7 a8 a9 f0 f4 f5 f6 (upd f7 v0.toNatClampNeg p0) (upd f8 v0.toNatClampNeg (vp_nar .boolean 0)) f9 v0 v1 v2 v3 0) := hD
      refine lv_aload_n hx hb dX1_addMilestone_57 rfl (lv_at hl 0 rfl) ?_
      refine lv_dup hx hb dX1_addMilestone_58 rfl ?_
      refine va_get (D := D) (ci := 1) (v := .int v0) (C := RX1) (T := TX1) (N := 12) hx hb hts hin hown hK hP 0 rfl rfl 4 (by decide) (hts (.fieldLink RX1 60 "QuorumfundModel" "milestones" "I") (by decide +kernel)) (fun _ h9 => h9) rfl dX1_addMilestone_59 ?_
      refine lv_iconst (v := 1) hx hb dX1_addMilestone_62 (by decide) ?_
      refine lv_iadd hx hb dX1_addMilestone_63 ?_
      refine va_put (D := D) (ci := 1) (v := .int (v0 + 1)) (ty := .int) (C := RX1) (T := TX1) (N := 12) hx hb hts hin tyX1 tyX1_ok nmX1 hown hK hP hD hS 0 rfl rfl 4 (by decide) (hts (.fieldLink RX1 60 "QuorumfundModel" "milestones" "I") (by decide +kernel)) (fun _ h9 => h9) rfl (by decide +kernel) rfl rfl (Nat.le_of_ble_eq_true rfl) dX1_addMilestone_64 (fun H locs hP hD hS => ?_)
      have hP : va_P D vwCl (wM cI cZ h a0 a4 a5 a6 a7 a8 a9 f0 f4 f5 f6 (upd f7 v0.toNatClampNeg p0) (upd f8 v0.toNatClampNeg (vp_nar .boolean 0)) f9 (v0 + 1) v1 v2 v3 0) H := hP
      have hD : va_D A (wM cI cZ h a0 a4 a5 a6 a7 a8 a9 f0 f4 f5 f6 (upd f7 v0.toNatClampNeg p0) (upd f8 v0.toNatClampNeg (vp_nar .boolean 0)) f9 (v0 + 1) v1 v2 v3 0) := hD
      refine lv_aload_n hx hb dX1_addMilestone_67 rfl (lv_at hl 0 rfl) ?_
      refine va_get (D := D) (ci := 1) (v := .int (v0 + 1)) (C := RX1) (T := TX1) (N := 12) hx hb hts hin hown hK hP 0 rfl rfl 4 (by decide) (hts (.fieldLink RX1 60 "QuorumfundModel" "milestones" "I") (by decide +kernel)) (fun _ h9 => h9) rfl dX1_addMilestone_68 ?_
      refine lv_iconst (v := 1) hx hb dX1_addMilestone_71 (by decide) ?_
      refine lv_isub hx hb dX1_addMilestone_72 ?_
      exact W.iret (v := (v0 + 1) - 1) hx hb hr (fun t ht hW => ⟨⟨(v0 + 1) - 1, ⟨(upd f7 v0.toNatClampNeg p0), (upd f8 v0.toNatClampNeg (vp_nar .boolean 0)), (v0 + 1), 0⟩, rfl, ⟨fun _ => rfl, by simp [q_up, show vp_nar .boolean 0 = 0 from rfl, q_us, q_uA, q_amK, hq1, c6], by simp [q_up, show vp_nar .boolean 0 = 0 from rfl, q_us, q_uA, q_amK, hq1, c6], by simp [q_up, show vp_nar .boolean 0 = 0 from rfl, q_us, q_uA, q_amK, hq1, c6], by simp [q_up, show vp_nar .boolean 0 = 0 from rfl, q_us, q_uA, q_amK, hq1, c6]⟩, ⟨by rw [ht]; exact hP, va_K.moved hW.alike hK, hD⟩⟩, hS.F ht⟩) hS.2.2 dX1_addMilestone_73
    · skip
      skip
      refine lv_iconst (v := 2) hx hb dX1_addMilestone_24 (by decide) ?_
      refine lv_goto (tgt := 29) hx hb dX1_addMilestone_25 (by decide) ?_
      have hFc := va_free (wc := wM cI cZ h a0 a4 a5 a6 a7 a8 a9 f0 f4 f5 f6 f7 f8 f9 v0 v1 v2 v3 v4) hD hS hA [0, 1, 2, 3, 4, 5, 6, 7] rfl
      refine va_calli (va_runV (As := [.int 2]) (rest := []) ⟨hx, hb, hml, hown, hts⟩ (c_X1_goes l D cI cZ cJ s.heap.size h a0 a4 a5 a6 a7 a8 a9 f0 f4 f5 f6 f7 f8 f9 v0 v1 v2 v3 v4 2) (cwV 1 hts gX1_addMilestone_X1_goes rfl rfl rfl (by decide +kernel) ⟨Nat.le_of_ble_eq_true rfl, Nat.le_of_ble_eq_true rfl⟩) ⟨zD_blind, va_recv hK hP (ci := 1) (q0 := 0) rfl rfl, fun U hU hW => ⟨rfl, zD_mk hP hK hD hU hW⟩⟩ rfl rfl hl.1 rfl (lv_room (Nat.le_of_ble_eq_true rfl)) dX1_addMilestone_29 ⟨Nat.le_of_ble_eq_true rfl, Nat.le_of_ble_eq_true rfl⟩) hS (fun q _ h => hFc q h) hFc (fun r9 u9 t H1 locs ht hvm w9 hB hz1 hk1 hS => ?_)
      obtain ⟨hP1, hK1, hD1⟩ := hB
      rw [ht] at hP1
      generalize H1 = H at hP1 hS ⊢
      try dsimp only at w9
      obtain ⟨w9_p, w9_0⟩ := w9
      subst w9_0
      have hP : va_P D vwCl (wM cI cZ h a0 a4 a5 a6 a7 a8 a9 f0 f4 f5 f6 f7 f8 f9 v0 v1 v2 v3 2) H := hP1
      have hD : va_D A (wM cI cZ h a0 a4 a5 a6 a7 a8 a9 f0 f4 f5 f6 f7 f8 f9 v0 v1 v2 v3 2) := hD1.weaken (fun _ _ _ h => hFc _ h)
      have w9_p : r9 = 0 := w9_p.trans (by decide)
      subst w9_p
      refine lv_if_ne (tgt := 37) hx hb dX1_addMilestone_32 (by decide) (fun c9 => False.elim (by revert c9; decide)) (fun _ => ?_)
      refine lv_iconst (v := 0) hx hb dX1_addMilestone_35 (by decide) ?_
      exact W.iret (v := 0) hx hb hr (fun t ht hW => ⟨⟨0, ⟨f7, f8, v0, 2⟩, rfl, ⟨fun hz9 => by simp [q_amK, hq1, c6] at hz9, by simp [q_up, show vp_nar .boolean 0 = 0 from rfl, q_us, q_uA, q_amK, hq1, c6], by simp [q_up, show vp_nar .boolean 0 = 0 from rfl, q_us, q_uA, q_amK, hq1, c6], by simp [q_up, show vp_nar .boolean 0 = 0 from rfl, q_us, q_uA, q_amK, hq1, c6], by simp [q_up, show vp_nar .boolean 0 = 0 from rfl, q_us, q_uA, q_amK, hq1, c6]⟩, ⟨by rw [ht]; exact hP, va_K.moved hW.alike hK, hD⟩⟩, hS.F ht⟩) hS.2.2 dX1_addMilestone_36
set_option maxHeartbeats 4000000 in
set_option maxRecDepth 100000 in
theorem c_X1_prove (l : Launch) (D : va_G) (cI cZ cJ : ClassId) (sz : Nat) (h a0 a4 a5 a6 a7 a8 a9 : Nat) (f0 f4 f5 f6 f7 f8 f9 : Nat → Int32) (v0 v1 v2 v3 v4 : Int32) (p0 : Int32) (hv : 0 ≤ v0.toInt ∧ v0.toInt ≤ 6) : Met l yX1_prove wsX1_prove ({ frames := 1, cells := 0, slots := 0, locals := 22 }) (va_Pc [.ref h, .int p0] (zD D cI cZ cJ sz (wM cI cZ h a0 a4 a5 a6 a7 a8 a9 f0 f4 f5 f6 f7 f8 f9 v0 v1 v2 v3 v4))) (va_Qi (fun (r : Int32) (u : (Nat → Int32) × Int32) => (q_prK v0 v1 p0 = 0 → r = q_tog (f8 p0.toNatClampNeg)) ∧ u.1 = q_up (q_prK v0 v1 p0) f8 p0.toNatClampNeg (q_tog (f8 p0.toNatClampNeg)) ∧ u.2 = q_prK v0 v1 p0) (fun u t => zB D cI cZ cJ (va_A (wM cI cZ h a0 a4 a5 a6 a7 a8 a9 f0 f4 f5 f6 f7 f8 f9 v0 v1 v2 v3 v4) sz) (wM cI cZ h a0 a4 a5 a6 a7 a8 a9 f0 f4 f5 f6 f7 u.1 f9 v0 v1 v2 v3 u.2) t) (va_A (wM cI cZ h a0 a4 a5 a6 a7 a8 a9 f0 f4 f5 f6 f7 f8 f9 v0 v1 v2 v3 v4) sz)) 0 0 (va_A (wM cI cZ h a0 a4 a5 a6 a7 a8 a9 f0 f4 f5 f6 f7 f8 f9 v0 v1 v2 v3 v4) sz) := by
  refine Met.ofW (cc := cX1_prove) (maxL := 2) (ret := (some .boolean)) (by decide) rfl ?_
  intro p e s m args below meth c s₁ B hml hv
  obtain ⟨rfl, hsz, hP, hK, hD0⟩ := hv
  have hx := B.exec
  have hb := B.bytes
  have hr := B.returns
  have hts := atoms_spec (ws := wsX1_prove) B.pre
  have hown : s.vm.findClass RX1 = some m.cls := findClass_of_methodNamed B.named
  have hlocks := B.notSynchronized
  have hin : ∀ w ∈ wsX10, w ∈ wsX1_prove := by decide +kernel
  subst hsz
  have hD := hD0.self (sz := s.heap.size)
  generalize hAe : va_A (wM cI cZ h a0 a4 a5 a6 a7 a8 a9 f0 f4 f5 f6 f7 f8 f9 v0 v1 v2 v3 v4) s.heap.size = A at hD ⊢
  have hA : ∀ q : Nat, s.heap.size ≤ q → A q := fun q h => by rw [← hAe]; exact Or.inr h
  have hS : va_S A s.heap s.heap [] := va_S.rf
  have hl := lv_entry ([.ref h, .int p0]) (n := 2) (Nat.le_of_ble_eq_true rfl)
  rw [lg_entry_eq]
  generalize (lg_sl ([.ref h, .int p0]) ++ List.replicate (2 - (lg_sl ([.ref h, .int p0])).length) Slot.unset).toArray = ls at hl ⊢
  have hl : lv_has ls 2 [(0, .ref h), (1, .int p0)] := hl
  refine lv_aload_n hx hb dX1_prove_0 rfl (lv_at hl 0 rfl) ?_
  refine lv_iload_n hx hb dX1_prove_1 rfl (lv_at hl 1 rfl) ?_
  refine lv_iconst (v := 0) hx hb dX1_prove_2 (by decide) ?_
  refine lv_aload_n hx hb dX1_prove_3 rfl (lv_at hl 0 rfl) ?_
  refine va_get (D := D) (ci := 1) (v := .int v0) (C := RX1) (T := TX1) (N := 12) hx hb hts hin hown hK hP 0 rfl rfl 4 (by decide) (hts (.fieldLink RX1 60 "QuorumfundModel" "milestones" "I") (by decide +kernel)) (fun _ h9 => h9) rfl dX1_prove_4 ?_
  refine lv_iconst (v := 1) hx hb dX1_prove_7 (by decide) ?_
  refine lv_isub hx hb dX1_prove_8 ?_
  refine vp_callSi (W.runS (As := [.int p0, .int 0, .int (v0 - 1)]) (rest := [.ref h]) ⟨hx, hb, hml, hown, hts⟩ (c_X1_isIn l p0 0 (v0 - 1)) (va_cwS 3 hts gX1_prove_X1_isIn rfl rfl rfl (by decide +kernel) ⟨Nat.le_of_ble_eq_true rfl, Nat.le_of_ble_eq_true rfl⟩) ⟨zN_blind, fun U hU hW => ⟨rfl, trivial⟩⟩ rfl rfl hl.1 rfl (lv_room (Nat.le_of_ble_eq_true rfl)) dX1_prove_9 ⟨Nat.le_of_ble_eq_true rfl, Nat.le_of_ble_eq_true rfl⟩) (fun r1 w1 => ?_)
  cases hq1 : q_i p0 0 (v0 - 1)
  · skip
    rw [hq1] at w1
    have w1 : r1 = 0 := w1
    subst w1
    refine lv_if_ne (tgt := 19) hx hb dX1_prove_12 (by decide) (fun c9 => False.elim (by revert c9; decide)) (fun _ => ?_)
    refine lv_iconst (v := 1) hx hb dX1_prove_15 (by decide) ?_
    refine lv_goto (tgt := 32) hx hb dX1_prove_16 (by decide) ?_
    have hFc := va_free (wc := wM cI cZ h a0 a4 a5 a6 a7 a8 a9 f0 f4 f5 f6 f7 f8 f9 v0 v1 v2 v3 v4) hD hS hA [0, 1, 2, 3, 4, 5, 6, 7] rfl
    refine va_calli (va_runV (As := [.int 1]) (rest := []) ⟨hx, hb, hml, hown, hts⟩ (c_X1_goes l D cI cZ cJ s.heap.size h a0 a4 a5 a6 a7 a8 a9 f0 f4 f5 f6 f7 f8 f9 v0 v1 v2 v3 v4 1) (cwV 1 hts gX1_prove_X1_goes rfl rfl rfl (by decide +kernel) ⟨Nat.le_of_ble_eq_true rfl, Nat.le_of_ble_eq_true rfl⟩) ⟨zD_blind, va_recv hK hP (ci := 1) (q0 := 0) rfl rfl, fun U hU hW => ⟨rfl, zD_mk hP hK hD hU hW⟩⟩ rfl rfl hl.1 rfl (lv_room (Nat.le_of_ble_eq_true rfl)) dX1_prove_32 ⟨Nat.le_of_ble_eq_true rfl, Nat.le_of_ble_eq_true rfl⟩) hS (fun q _ h => hFc q h) hFc (fun r3 u3 t H1 locs ht hvm w3 hB hz1 hk1 hS => ?_)
    obtain ⟨hP1, hK1, hD1⟩ := hB
    rw [ht] at hP1
    generalize H1 = H at hP1 hS ⊢
    try dsimp only at w3
    obtain ⟨w3_p, w3_0⟩ := w3
    subst w3_0
    have hP : va_P D vwCl (wM cI cZ h a0 a4 a5 a6 a7 a8 a9 f0 f4 f5 f6 f7 f8 f9 v0 v1 v2 v3 1) H := hP1
    have hD : va_D A (wM cI cZ h a0 a4 a5 a6 a7 a8 a9 f0 f4 f5 f6 f7 f8 f9 v0 v1 v2 v3 1) := hD1.weaken (fun _ _ _ h => hFc _ h)
    have w3_p : r3 = 0 := w3_p.trans (by decide)
    subst w3_p
    refine lv_if_ne (tgt := 40) hx hb dX1_prove_35 (by decide) (fun c9 => False.elim (by revert c9; decide)) (fun _ => ?_)
    refine lv_iconst (v := 0) hx hb dX1_prove_38 (by decide) ?_
    exact W.zret (v := 0) hx hb hr rfl (fun t ht hW => ⟨⟨0, ⟨f8, 1⟩, rfl, ⟨fun hz9 => by simp [q_prK, hq1] at hz9, by simp [q_up, q_tog, show vp_nar .boolean 0 = 0 from rfl, show vp_nar .boolean 1 = 1 from rfl, q_us, q_uA, q_prK, hq1], by simp [q_up, q_tog, show vp_nar .boolean 0 = 0 from rfl, show vp_nar .boolean 1 = 1 from rfl, q_us, q_uA, q_prK, hq1]⟩, ⟨by rw [ht]; exact hP, va_K.moved hW.alike hK, hD⟩⟩, hS.F ht⟩) hS.2.2 dX1_prove_39
  · skip
    rw [hq1] at w1
    have w1 : r1 = 1 := w1
    subst w1
    refine lv_if_ne (tgt := 19) hx hb dX1_prove_12 (by decide) (fun _ => ?_) (fun c9 => False.elim (by revert c9; decide))
    refine lv_iload_n hx hb dX1_prove_19 rfl (lv_at hl 1 rfl) ?_
    refine lv_aload_n hx hb dX1_prove_20 rfl (lv_at hl 0 rfl) ?_
    refine va_get (D := D) (ci := 1) (v := .int v1) (C := RX1) (T := TX1) (N := 12) hx hb hts hin hown hK hP 0 rfl rfl 5 (by decide) (hts (.fieldLink RX1 63 "QuorumfundModel" "released" "I") (by decide +kernel)) (fun _ h9 => h9) rfl dX1_prove_21 ?_
    refine lv_icmp_ge (tgt := 31) hx hb dX1_prove_24 (by decide) (fun c6 => ?_) (fun c6 => ?_)
    · skip
      have hm := z_nlt.mpr c6
      refine lv_iconst (v := 0) hx hb dX1_prove_31 (by decide) ?_
      have hFc := va_free (wc := wM cI cZ h a0 a4 a5 a6 a7 a8 a9 f0 f4 f5 f6 f7 f8 f9 v0 v1 v2 v3 v4) hD hS hA [0, 1, 2, 3, 4, 5, 6, 7] rfl
      refine va_calli (va_runV (As := [.int 0]) (rest := []) ⟨hx, hb, hml, hown, hts⟩ (c_X1_goes l D cI cZ cJ s.heap.size h a0 a4 a5 a6 a7 a8 a9 f0 f4 f5 f6 f7 f8 f9 v0 v1 v2 v3 v4 0) (cwV 1 hts gX1_prove_X1_goes rfl rfl rfl (by decide +kernel) ⟨Nat.le_of_ble_eq_true rfl, Nat.le_of_ble_eq_true rfl⟩) ⟨zD_blind, va_recv hK hP (ci := 1) (q0 := 0) rfl rfl, fun U hU hW => ⟨rfl, zD_mk hP hK hD hU hW⟩⟩ rfl rfl hl.1 rfl (lv_room (Nat.le_of_ble_eq_true rfl)) dX1_prove_32 ⟨Nat.le_of_ble_eq_true rfl, Nat.le_of_ble_eq_true rfl⟩) hS (fun q _ h => hFc q h) hFc (fun r7 u7 t H1 locs ht hvm w7 hB hz1 hk1 hS => ?_)
      obtain ⟨hP1, hK1, hD1⟩ := hB
      rw [ht] at hP1
      generalize H1 = H at hP1 hS ⊢
      try dsimp only at w7
      obtain ⟨w7_p, w7_0⟩ := w7
      subst w7_0
      have hP : va_P D vwCl (wM cI cZ h a0 a4 a5 a6 a7 a8 a9 f0 f4 f5 f6 f7 f8 f9 v0 v1 v2 v3 0) H := hP1
      have hD : va_D A (wM cI cZ h a0 a4 a5 a6 a7 a8 a9 f0 f4 f5 f6 f7 f8 f9 v0 v1 v2 v3 0) := hD1.weaken (fun _ _ _ h => hFc _ h)
      have w7_p : r7 = 1 := w7_p.trans (by decide)
      subst w7_p
      refine lv_if_ne (tgt := 40) hx hb dX1_prove_35 (by decide) (fun _ => ?_) (fun c9 => False.elim (by revert c9; decide))
      refine lv_aload_n hx hb dX1_prove_40 rfl (lv_at hl 0 rfl) ?_
      refine va_get (D := D) (ci := 1) (v := .ref a8) (C := RX1) (T := TX1) (N := 12) hx hb hts hin hown hK hP 0 rfl rfl 7 (by decide) (hts (.fieldLink RX1 25 "QuorumfundModel" "isProved" "[Z") (by decide +kernel)) (fun _ h9 => h9) rfl dX1_prove_41 ?_
      refine lv_iload_n hx hb dX1_prove_44 rfl (lv_at hl 1 rfl) ?_
      refine lv_aload_n hx hb dX1_prove_45 rfl (lv_at hl 0 rfl) ?_
      refine va_get (D := D) (ci := 1) (v := .ref a8) (C := RX1) (T := TX1) (N := 12) hx hb hts hin hown hK hP 0 rfl rfl 7 (by decide) (hts (.fieldLink RX1 25 "QuorumfundModel" "isProved" "[Z") (by decide +kernel)) (fun _ h9 => h9) rfl dX1_prove_46 ?_
      refine lv_iload_n hx hb dX1_prove_49 rfl (lv_at hl 1 rfl) ?_
      refine va_zald (D := D) hx hb hK hP 6 1 rfl rfl (z_prin hv hq1) dX1_prove_50 ?_
      refine lv_if_ne (tgt := 58) hx hb dX1_prove_51 (by decide) (fun c9 => ?_) (fun c9 => ?_)
      · skip
        refine lv_iconst (v := 0) hx hb dX1_prove_58 (by decide) ?_
        refine va_zast (D := D) hx hb hK hP hD hS 6 1 rfl rfl (z_prin hv hq1) dX1_prove_59 (fun H locs hP hD hS => ?_)
        have hP : va_P D vwCl (wM cI cZ h a0 a4 a5 a6 a7 a8 a9 f0 f4 f5 f6 f7 (upd f8 p0.toNatClampNeg (vp_nar .boolean 0)) f9 v0 v1 v2 v3 0) H := hP
        have hD : va_D A (wM cI cZ h a0 a4 a5 a6 a7 a8 a9 f0 f4 f5 f6 f7 (upd f8 p0.toNatClampNeg (vp_nar .boolean 0)) f9 v0 v1 v2 v3 0) := hD
        refine lv_aload_n hx hb dX1_prove_60 rfl (lv_at hl 0 rfl) ?_
        refine va_get (D := D) (ci := 1) (v := .ref a8) (C := RX1) (T := TX1) (N := 12) hx hb hts hin hown hK hP 0 rfl rfl 7 (by decide) (hts (.fieldLink RX1 25 "QuorumfundModel" "isProved" "[Z") (by decide +kernel)) (fun _ h9 => h9) rfl dX1_prove_61 ?_
        refine lv_iload_n hx hb dX1_prove_64 rfl (lv_at hl 1 rfl) ?_
        refine va_zald (D := D) hx hb hK hP 6 1 rfl rfl (z_prin hv hq1) dX1_prove_65 ?_
        rw [show (upd f8 p0.toNatClampNeg (vp_nar .boolean 0)) p0.toNatClampNeg = 0 from (by rw [pk_us]; rfl)]
        exact W.zret (v := 0) hx hb hr rfl (fun t ht hW => ⟨⟨0, ⟨(upd f8 p0.toNatClampNeg (vp_nar .boolean 0)), 0⟩, rfl, ⟨fun _ => (by simp [q_tog, c9]), by simp [q_up, q_tog, show vp_nar .boolean 0 = 0 from rfl, show vp_nar .boolean 1 = 1 from rfl, q_us, q_uA, q_prK, hq1, c6, hm, c9], by simp [q_up, q_tog, show vp_nar .boolean 0 = 0 from rfl, show vp_nar .boolean 1 = 1 from rfl, q_us, q_uA, q_prK, hq1, c6, hm, c9]⟩, ⟨by rw [ht]; exact hP, va_K.moved hW.alike hK, hD⟩⟩, hS.F ht⟩) hS.2.2 dX1_prove_66
      · skip
        refine lv_iconst (v := 1) hx hb dX1_prove_54 (by decide) ?_
        refine lv_goto (tgt := 59) hx hb dX1_prove_55 (by decide) ?_
        refine va_zast (D := D) hx hb hK hP hD hS 6 1 rfl rfl (z_prin hv hq1) dX1_prove_59 (fun H locs hP hD hS => ?_)
        have hP : va_P D vwCl (wM cI cZ h a0 a4 a5 a6 a7 a8 a9 f0 f4 f5 f6 f7 (upd f8 p0.toNatClampNeg (vp_nar .boolean 1)) f9 v0 v1 v2 v3 0) H := hP
        have hD : va_D A (wM cI cZ h a0 a4 a5 a6 a7 a8 a9 f0 f4 f5 f6 f7 (upd f8 p0.toNatClampNeg (vp_nar .boolean 1)) f9 v0 v1 v2 v3 0) := hD
        refine lv_aload_n hx hb dX1_prove_60 rfl (lv_at hl 0 rfl) ?_
        refine va_get (D := D) (ci := 1) (v := .ref a8) (C := RX1) (T := TX1) (N := 12) hx hb hts hin hown hK hP 0 rfl rfl 7 (by decide) (hts (.fieldLink RX1 25 "QuorumfundModel" "isProved" "[Z") (by decide +kernel)) (fun _ h9 => h9) rfl dX1_prove_61 ?_
        refine lv_iload_n hx hb dX1_prove_64 rfl (lv_at hl 1 rfl) ?_
        refine va_zald (D := D) hx hb hK hP 6 1 rfl rfl (z_prin hv hq1) dX1_prove_65 ?_
        rw [show (upd f8 p0.toNatClampNeg (vp_nar .boolean 1)) p0.toNatClampNeg = 1 from (by rw [pk_us]; rfl)]
        exact W.zret (v := 1) hx hb hr rfl (fun t ht hW => ⟨⟨1, ⟨(upd f8 p0.toNatClampNeg (vp_nar .boolean 1)), 0⟩, rfl, ⟨fun _ => (by simp [q_tog, c9]), by simp [q_up, q_tog, show vp_nar .boolean 0 = 0 from rfl, show vp_nar .boolean 1 = 1 from rfl, q_us, q_uA, q_prK, hq1, c6, hm, c9], by simp [q_up, q_tog, show vp_nar .boolean 0 = 0 from rfl, show vp_nar .boolean 1 = 1 from rfl, q_us, q_uA, q_prK, hq1, c6, hm, c9]⟩, ⟨by rw [ht]; exact hP, va_K.moved hW.alike hK, hD⟩⟩, hS.F ht⟩) hS.2.2 dX1_prove_66
    · skip
      have hm := z_nle.mp c6
      refine lv_iconst (v := 2) hx hb dX1_prove_27 (by decide) ?_
      refine lv_goto (tgt := 32) hx hb dX1_prove_28 (by decide) ?_
      have hFc := va_free (wc := wM cI cZ h a0 a4 a5 a6 a7 a8 a9 f0 f4 f5 f6 f7 f8 f9 v0 v1 v2 v3 v4) hD hS hA [0, 1, 2, 3, 4, 5, 6, 7] rfl
      refine va_calli (va_runV (As := [.int 2]) (rest := []) ⟨hx, hb, hml, hown, hts⟩ (c_X1_goes l D cI cZ cJ s.heap.size h a0 a4 a5 a6 a7 a8 a9 f0 f4 f5 f6 f7 f8 f9 v0 v1 v2 v3 v4 2) (cwV 1 hts gX1_prove_X1_goes rfl rfl rfl (by decide +kernel) ⟨Nat.le_of_ble_eq_true rfl, Nat.le_of_ble_eq_true rfl⟩) ⟨zD_blind, va_recv hK hP (ci := 1) (q0 := 0) rfl rfl, fun U hU hW => ⟨rfl, zD_mk hP hK hD hU hW⟩⟩ rfl rfl hl.1 rfl (lv_room (Nat.le_of_ble_eq_true rfl)) dX1_prove_32 ⟨Nat.le_of_ble_eq_true rfl, Nat.le_of_ble_eq_true rfl⟩) hS (fun q _ h => hFc q h) hFc (fun r12 u12 t H1 locs ht hvm w12 hB hz1 hk1 hS => ?_)
      obtain ⟨hP1, hK1, hD1⟩ := hB
      rw [ht] at hP1
      generalize H1 = H at hP1 hS ⊢
      try dsimp only at w12
      obtain ⟨w12_p, w12_0⟩ := w12
      subst w12_0
      have hP : va_P D vwCl (wM cI cZ h a0 a4 a5 a6 a7 a8 a9 f0 f4 f5 f6 f7 f8 f9 v0 v1 v2 v3 2) H := hP1
      have hD : va_D A (wM cI cZ h a0 a4 a5 a6 a7 a8 a9 f0 f4 f5 f6 f7 f8 f9 v0 v1 v2 v3 2) := hD1.weaken (fun _ _ _ h => hFc _ h)
      have w12_p : r12 = 0 := w12_p.trans (by decide)
      subst w12_p
      refine lv_if_ne (tgt := 40) hx hb dX1_prove_35 (by decide) (fun c9 => False.elim (by revert c9; decide)) (fun _ => ?_)
      refine lv_iconst (v := 0) hx hb dX1_prove_38 (by decide) ?_
      exact W.zret (v := 0) hx hb hr rfl (fun t ht hW => ⟨⟨0, ⟨f8, 2⟩, rfl, ⟨fun hz9 => by simp [q_prK, hq1, c6, hm] at hz9, by simp [q_up, q_tog, show vp_nar .boolean 0 = 0 from rfl, show vp_nar .boolean 1 = 1 from rfl, q_us, q_uA, q_prK, hq1, c6, hm], by simp [q_up, q_tog, show vp_nar .boolean 0 = 0 from rfl, show vp_nar .boolean 1 = 1 from rfl, q_us, q_uA, q_prK, hq1, c6, hm]⟩, ⟨by rw [ht]; exact hP, va_K.moved hW.alike hK, hD⟩⟩, hS.F ht⟩) hS.2.2 dX1_prove_39
set_option maxHeartbeats 4000000 in
set_option maxRecDepth 100000 in
theorem c_X1_hasCurrent (l : Launch) (D : va_G) (cI cZ cJ : ClassId) (h a0 a4 a5 a6 a7 a8 a9 : Nat) (f0 f4 f5 f6 f7 f8 f9 : Nat → Int32) (v0 v1 v2 v3 v4 : Int32) : Met l yX1_hasCurrent wsX1_hasCurrent ({ frames := 0, cells := 0, slots := 0, locals := 0 }) (va_Pc [.ref h] (zP D cI cZ cJ (wM cI cZ h a0 a4 a5 a6 a7 a8 a9 f0 f4 f5 f6 f7 f8 f9 v0 v1 v2 v3 v4))) (vp_Si (fun r : Int32 => (r = bif decide (v1 < v0) then 1 else 0))) 0 0 (fun _ => False) := by
  refine Met.ofW (cc := cX1_hasCurrent) (maxL := 1) (ret := (some .boolean)) (by decide) rfl ?_
  intro p e s m args below meth c s₁ B hml hv
  obtain ⟨rfl, hP, hK⟩ := hv
  have hx := B.exec
  have hb := B.bytes
  have hr := B.returns
  have hts := atoms_spec (ws := wsX1_hasCurrent) B.pre
  have hown : s.vm.findClass RX1 = some m.cls := findClass_of_methodNamed B.named
  have hlocks := B.notSynchronized
  have hin : ∀ w ∈ wsX10, w ∈ wsX1_hasCurrent := by decide +kernel
  have hl := lv_entry ([.ref h]) (n := 1) (Nat.le_of_ble_eq_true rfl)
  rw [lg_entry_eq]
  generalize (lg_sl ([.ref h]) ++ List.replicate (1 - (lg_sl ([.ref h])).length) Slot.unset).toArray = ls at hl ⊢
  have hl : lv_has ls 1 [(0, .ref h)] := hl
  refine lv_aload_n hx hb dX1_hasCurrent_0 rfl (lv_at hl 0 rfl) ?_
  refine va_get (D := D) (ci := 1) (v := .int v1) (C := RX1) (T := TX1) (N := 12) hx hb hts hin hown hK hP 0 rfl rfl 5 (by decide) (hts (.fieldLink RX1 63 "QuorumfundModel" "released" "I") (by decide +kernel)) (fun _ h9 => h9) rfl dX1_hasCurrent_1 ?_
  refine lv_aload_n hx hb dX1_hasCurrent_4 rfl (lv_at hl 0 rfl) ?_
  refine va_get (D := D) (ci := 1) (v := .int v0) (C := RX1) (T := TX1) (N := 12) hx hb hts hin hown hK hP 0 rfl rfl 4 (by decide) (hts (.fieldLink RX1 60 "QuorumfundModel" "milestones" "I") (by decide +kernel)) (fun _ h9 => h9) rfl dX1_hasCurrent_5 ?_
  refine lv_icmp_ge (tgt := 15) hx hb dX1_hasCurrent_8 (by decide) (fun c1 => ?_) (fun c1 => ?_)
  · skip
    have hm := z_nlt.mpr c1
    refine lv_iconst (v := 0) hx hb dX1_hasCurrent_15 (by decide) ?_
    exact W.zret (v := 0) hx hb hr rfl (fun t ht hW => ⟨0, rfl, (by simp [c1, hm]), ht⟩) (fun _ h => nomatch h) dX1_hasCurrent_16
  · skip
    have hm := z_nle.mp c1
    refine lv_iconst (v := 1) hx hb dX1_hasCurrent_11 (by decide) ?_
    refine lv_goto (tgt := 16) hx hb dX1_hasCurrent_12 (by decide) ?_
    exact W.zret (v := 1) hx hb hr rfl (fun t ht hW => ⟨1, rfl, (by simp [c1, hm]), ht⟩) (fun _ h => nomatch h) dX1_hasCurrent_16
set_option maxHeartbeats 4000000 in
set_option maxRecDepth 100000 in
theorem c_X1_current (l : Launch) (D : va_G) (cI cZ cJ : ClassId) (sz : Nat) (h a0 a4 a5 a6 a7 a8 a9 : Nat) (f0 f4 f5 f6 f7 f8 f9 : Nat → Int32) (v0 v1 v2 v3 v4 : Int32) : Met l yX1_current wsX1_current ({ frames := 1, cells := 0, slots := 0, locals := 20 }) (va_Pc [.ref h] (zD D cI cZ cJ sz (wM cI cZ h a0 a4 a5 a6 a7 a8 a9 f0 f4 f5 f6 f7 f8 f9 v0 v1 v2 v3 v4))) (va_Qi (fun (r : Int32) (u : Int32) => r = q_cur v0 v1 ∧ u = 0) (fun u t => zB D cI cZ cJ (va_A (wM cI cZ h a0 a4 a5 a6 a7 a8 a9 f0 f4 f5 f6 f7 f8 f9 v0 v1 v2 v3 v4) sz) (wM cI cZ h a0 a4 a5 a6 a7 a8 a9 f0 f4 f5 f6 f7 f8 f9 v0 v1 v2 v3 u) t) (va_A (wM cI cZ h a0 a4 a5 a6 a7 a8 a9 f0 f4 f5 f6 f7 f8 f9 v0 v1 v2 v3 v4) sz)) 0 0 (va_A (wM cI cZ h a0 a4 a5 a6 a7 a8 a9 f0 f4 f5 f6 f7 f8 f9 v0 v1 v2 v3 v4) sz) := by
  refine Met.ofW (cc := cX1_current) (maxL := 1) (ret := (some .int)) (by decide) rfl ?_
  intro p e s m args below meth c s₁ B hml hv
  obtain ⟨rfl, hsz, hP, hK, hD0⟩ := hv
  have hx := B.exec
  have hb := B.bytes
  have hr := B.returns
  have hts := atoms_spec (ws := wsX1_current) B.pre
  have hown : s.vm.findClass RX1 = some m.cls := findClass_of_methodNamed B.named
  have hlocks := B.notSynchronized
  have hin : ∀ w ∈ wsX10, w ∈ wsX1_current := by decide +kernel
  subst hsz
  have hD := hD0.self (sz := s.heap.size)
  generalize hAe : va_A (wM cI cZ h a0 a4 a5 a6 a7 a8 a9 f0 f4 f5 f6 f7 f8 f9 v0 v1 v2 v3 v4) s.heap.size = A at hD ⊢
  have hA : ∀ q : Nat, s.heap.size ≤ q → A q := fun q h => by rw [← hAe]; exact Or.inr h
  have hS : va_S A s.heap s.heap [] := va_S.rf
  have hl := lv_entry ([.ref h]) (n := 1) (Nat.le_of_ble_eq_true rfl)
  rw [lg_entry_eq]
  generalize (lg_sl ([.ref h]) ++ List.replicate (1 - (lg_sl ([.ref h])).length) Slot.unset).toArray = ls at hl ⊢
  have hl : lv_has ls 1 [(0, .ref h)] := hl
  refine lv_aload_n hx hb dX1_current_0 rfl (lv_at hl 0 rfl) ?_
  refine lv_iconst (v := 0) hx hb dX1_current_1 (by decide) ?_
  refine va_put (D := D) (ci := 1) (v := .int 0) (ty := .int) (C := RX1) (T := TX1) (N := 12) hx hb hts hin tyX1 tyX1_ok nmX1 hown hK hP hD hS 0 rfl rfl 11 (by decide) (hts (.fieldLink RX1 32 "QuorumfundModel" "thrown" "I") (by decide +kernel)) (fun _ h9 => h9) rfl (by decide +kernel) rfl rfl (Nat.le_of_ble_eq_true rfl) dX1_current_2 (fun H locs hP hD hS => ?_)
  have hP : va_P D vwCl (wM cI cZ h a0 a4 a5 a6 a7 a8 a9 f0 f4 f5 f6 f7 f8 f9 v0 v1 v2 v3 0) H := hP
  have hD : va_D A (wM cI cZ h a0 a4 a5 a6 a7 a8 a9 f0 f4 f5 f6 f7 f8 f9 v0 v1 v2 v3 0) := hD
  refine lv_aload_n hx hb dX1_current_5 rfl (lv_at hl 0 rfl) ?_
  refine vp_callSi (W.runV (As := []) (rest := []) ⟨hx, hb, hml, hown, hts⟩ (c_X1_hasCurrent l D cI cZ cJ h a0 a4 a5 a6 a7 a8 a9 f0 f4 f5 f6 f7 f8 f9 v0 v1 v2 v3 0) (cwV 0 hts gX1_current_X1_hasCurrent rfl rfl rfl (by decide +kernel) ⟨Nat.le_of_ble_eq_true rfl, Nat.le_of_ble_eq_true rfl⟩) ⟨zP_blind, va_recv hK hP (ci := 1) (q0 := 0) rfl rfl, fun U hU hW => ⟨rfl, zP_mk hP hK hU hW⟩⟩ rfl rfl hl.1 rfl (lv_room (Nat.le_of_ble_eq_true rfl)) dX1_current_6 ⟨Nat.le_of_ble_eq_true rfl, Nat.le_of_ble_eq_true rfl⟩) (fun r1 w1 => ?_)
  cases hq1 : decide (v1 < v0)
  · skip
    rw [hq1] at w1
    have w1 : r1 = 0 := w1
    subst w1
    refine lv_if_eq (tgt := 19) hx hb dX1_current_9 (by decide) (fun _ => ?_) (fun c9 => False.elim (by revert c9; decide))
    refine lv_iconst (v := (-1)) hx hb dX1_current_19 (by decide) ?_
    exact W.iret (v := (-1)) hx hb hr (fun t ht hW => ⟨⟨(-1), 0, rfl, ⟨by simp [q_cur, hq1], rfl⟩, ⟨by rw [ht]; exact hP, va_K.moved hW.alike hK, hD⟩⟩, hS.F ht⟩) hS.2.2 dX1_current_20
  · skip
    rw [hq1] at w1
    have w1 : r1 = 1 := w1
    subst w1
    refine lv_if_eq (tgt := 19) hx hb dX1_current_9 (by decide) (fun c9 => False.elim (by revert c9; decide)) (fun _ => ?_)
    refine lv_aload_n hx hb dX1_current_12 rfl (lv_at hl 0 rfl) ?_
    refine va_get (D := D) (ci := 1) (v := .int v1) (C := RX1) (T := TX1) (N := 12) hx hb hts hin hown hK hP 0 rfl rfl 5 (by decide) (hts (.fieldLink RX1 63 "QuorumfundModel" "released" "I") (by decide +kernel)) (fun _ h9 => h9) rfl dX1_current_13 ?_
    refine lv_goto (tgt := 20) hx hb dX1_current_16 (by decide) ?_
    exact W.iret (v := v1) hx hb hr (fun t ht hW => ⟨⟨v1, 0, rfl, ⟨by simp [q_cur, hq1], rfl⟩, ⟨by rw [ht]; exact hP, va_K.moved hW.alike hK, hD⟩⟩, hS.F ht⟩) hS.2.2 dX1_current_20
set_option maxHeartbeats 4000000 in
set_option maxRecDepth 100000 in
theorem c_X1_vote (l : Launch) (D : va_G) (cI cZ cJ : ClassId) (sz : Nat) (h a0 a4 a5 a6 a7 a8 a9 : Nat) (f0 f4 f5 f6 f7 f8 f9 : Nat → Int32) (v0 v1 v2 v3 v4 : Int32) (p0 p1 : Int32) : Met l yX1_vote wsX1_vote ({ frames := 2, cells := 0, slots := 0, locals := 42 }) (va_Pc [.ref h, .int p0, .int p1] (zD D cI cZ cJ sz (wM cI cZ h a0 a4 a5 a6 a7 a8 a9 f0 f4 f5 f6 f7 f8 f9 v0 v1 v2 v3 v4))) (va_Qi (fun (r : Int32) (u : (Nat → Int32) × Int32) => (q_voK v0 v1 p0 p1 = 0 → r = f6 p0.toNatClampNeg) ∧ u.1 = q_up (q_voK v0 v1 p0 p1) f6 p0.toNatClampNeg p1 ∧ u.2 = q_voK v0 v1 p0 p1) (fun u t => zB D cI cZ cJ (va_A (wM cI cZ h a0 a4 a5 a6 a7 a8 a9 f0 f4 f5 f6 f7 f8 f9 v0 v1 v2 v3 v4) sz) (wM cI cZ h a0 a4 a5 a6 a7 a8 a9 f0 f4 f5 u.1 f7 f8 f9 v0 v1 v2 v3 u.2) t) (va_A (wM cI cZ h a0 a4 a5 a6 a7 a8 a9 f0 f4 f5 f6 f7 f8 f9 v0 v1 v2 v3 v4) sz)) 0 0 (va_A (wM cI cZ h a0 a4 a5 a6 a7 a8 a9 f0 f4 f5 f6 f7 f8 f9 v0 v1 v2 v3 v4) sz) := by
  refine Met.ofW (cc := cX1_vote) (maxL := 4) (ret := (some .int)) (by decide) rfl ?_
  intro p e s m args below meth c s₁ B hml hv
  obtain ⟨rfl, hsz, hP, hK, hD0⟩ := hv
  have hx := B.exec
  have hb := B.bytes
  have hr := B.returns
  have hts := atoms_spec (ws := wsX1_vote) B.pre
  have hown : s.vm.findClass RX1 = some m.cls := findClass_of_methodNamed B.named
  have hlocks := B.notSynchronized
  have hin : ∀ w ∈ wsX10, w ∈ wsX1_vote := by decide +kernel
  subst hsz
  have hD := hD0.self (sz := s.heap.size)
  generalize hAe : va_A (wM cI cZ h a0 a4 a5 a6 a7 a8 a9 f0 f4 f5 f6 f7 f8 f9 v0 v1 v2 v3 v4) s.heap.size = A at hD ⊢
  have hA : ∀ q : Nat, s.heap.size ≤ q → A q := fun q h => by rw [← hAe]; exact Or.inr h
  have hS : va_S A s.heap s.heap [] := va_S.rf
  have hl := lv_entry ([.ref h, .int p0, .int p1]) (n := 4) (Nat.le_of_ble_eq_true rfl)
  rw [lg_entry_eq]
  generalize (lg_sl ([.ref h, .int p0, .int p1]) ++ List.replicate (4 - (lg_sl ([.ref h, .int p0, .int p1])).length) Slot.unset).toArray = ls at hl ⊢
  have hl : lv_has ls 4 [(0, .ref h), (1, .int p0), (2, .int p1)] := hl
  refine lv_aload_n hx hb dX1_vote_0 rfl (lv_at hl 0 rfl) ?_
  refine lv_iload_n hx hb dX1_vote_1 rfl (lv_at hl 1 rfl) ?_
  refine vp_callSi (W.runS (As := [.int p0]) (rest := [.ref h]) ⟨hx, hb, hml, hown, hts⟩ (c_X1_isGiver l p0) (va_cwS 1 hts gX1_vote_X1_isGiver rfl rfl rfl (by decide +kernel) ⟨Nat.le_of_ble_eq_true rfl, Nat.le_of_ble_eq_true rfl⟩) ⟨zN_blind, fun U hU hW => ⟨rfl, trivial⟩⟩ rfl rfl hl.1 rfl (lv_room (Nat.le_of_ble_eq_true rfl)) dX1_vote_2 ⟨Nat.le_of_ble_eq_true rfl, Nat.le_of_ble_eq_true rfl⟩) (fun r1 w1 => ?_)
  cases hq1 : q_g p0
  · skip
    rw [hq1] at w1
    have w1 : r1 = 0 := w1
    subst w1
    refine lv_if_ne (tgt := 12) hx hb dX1_vote_5 (by decide) (fun c9 => False.elim (by revert c9; decide)) (fun _ => ?_)
    refine lv_iconst (v := 1) hx hb dX1_vote_8 (by decide) ?_
    refine lv_goto (tgt := 37) hx hb dX1_vote_9 (by decide) ?_
    have hFc := va_free (wc := wM cI cZ h a0 a4 a5 a6 a7 a8 a9 f0 f4 f5 f6 f7 f8 f9 v0 v1 v2 v3 v4) hD hS hA [0, 1, 2, 3, 4, 5, 6, 7] rfl
    refine va_calli (va_runV (As := [.int 1]) (rest := []) ⟨hx, hb, hml, hown, hts⟩ (c_X1_goes l D cI cZ cJ s.heap.size h a0 a4 a5 a6 a7 a8 a9 f0 f4 f5 f6 f7 f8 f9 v0 v1 v2 v3 v4 1) (cwV 1 hts gX1_vote_X1_goes rfl rfl rfl (by decide +kernel) ⟨Nat.le_of_ble_eq_true rfl, Nat.le_of_ble_eq_true rfl⟩) ⟨zD_blind, va_recv hK hP (ci := 1) (q0 := 0) rfl rfl, fun U hU hW => ⟨rfl, zD_mk hP hK hD hU hW⟩⟩ rfl rfl hl.1 rfl (lv_room (Nat.le_of_ble_eq_true rfl)) dX1_vote_37 ⟨Nat.le_of_ble_eq_true rfl, Nat.le_of_ble_eq_true rfl⟩) hS (fun q _ h => hFc q h) hFc (fun r3 u3 t H1 locs ht hvm w3 hB hz1 hk1 hS => ?_)
    obtain ⟨hP1, hK1, hD1⟩ := hB
    rw [ht] at hP1
    generalize H1 = H at hP1 hS ⊢
    try dsimp only at w3
    obtain ⟨w3_p, w3_0⟩ := w3
    subst w3_0
    have hP : va_P D vwCl (wM cI cZ h a0 a4 a5 a6 a7 a8 a9 f0 f4 f5 f6 f7 f8 f9 v0 v1 v2 v3 1) H := hP1
    have hD : va_D A (wM cI cZ h a0 a4 a5 a6 a7 a8 a9 f0 f4 f5 f6 f7 f8 f9 v0 v1 v2 v3 1) := hD1.weaken (fun _ _ _ h => hFc _ h)
    have w3_p : r3 = 0 := w3_p.trans (by decide)
    subst w3_p
    refine lv_if_ne (tgt := 45) hx hb dX1_vote_40 (by decide) (fun c9 => False.elim (by revert c9; decide)) (fun _ => ?_)
    refine lv_iconst (v := 0) hx hb dX1_vote_43 (by decide) ?_
    exact W.iret (v := 0) hx hb hr (fun t ht hW => ⟨⟨0, ⟨f6, 1⟩, rfl, ⟨fun hz9 => by simp [q_voK, hq1] at hz9, by simp [q_up, q_us, q_uA, q_voK, hq1], by simp [q_up, q_us, q_uA, q_voK, hq1]⟩, ⟨by rw [ht]; exact hP, va_K.moved hW.alike hK, hD⟩⟩, hS.F ht⟩) hS.2.2 dX1_vote_44
  · skip
    rw [hq1] at w1
    have w1 : r1 = 1 := w1
    subst w1
    refine lv_if_ne (tgt := 12) hx hb dX1_vote_5 (by decide) (fun _ => ?_) (fun c9 => False.elim (by revert c9; decide))
    refine lv_iload_n hx hb dX1_vote_12 rfl (lv_at hl 2 rfl) ?_
    refine lv_iconst (v := 0) hx hb dX1_vote_13 (by decide) ?_
    refine lv_iconst (v := 2) hx hb dX1_vote_14 (by decide) ?_
    refine vp_callSi (W.runS (As := [.int p1, .int 0, .int 2]) (rest := [.ref h]) ⟨hx, hb, hml, hown, hts⟩ (c_X1_isIn l p1 0 2) (va_cwS 3 hts gX1_vote_X1_isIn rfl rfl rfl (by decide +kernel) ⟨Nat.le_of_ble_eq_true rfl, Nat.le_of_ble_eq_true rfl⟩) ⟨zN_blind, fun U hU hW => ⟨rfl, trivial⟩⟩ rfl rfl hl.1 rfl (lv_room (Nat.le_of_ble_eq_true rfl)) dX1_vote_15 ⟨Nat.le_of_ble_eq_true rfl, Nat.le_of_ble_eq_true rfl⟩) (fun r6 w6 => ?_)
    cases hq6 : q_i p1 0 2
    · skip
      rw [hq6] at w6
      have w6 : r6 = 0 := w6
      subst w6
      refine lv_if_ne (tgt := 25) hx hb dX1_vote_18 (by decide) (fun c9 => False.elim (by revert c9; decide)) (fun _ => ?_)
      refine lv_iconst (v := 2) hx hb dX1_vote_21 (by decide) ?_
      refine lv_goto (tgt := 37) hx hb dX1_vote_22 (by decide) ?_
      have hFc := va_free (wc := wM cI cZ h a0 a4 a5 a6 a7 a8 a9 f0 f4 f5 f6 f7 f8 f9 v0 v1 v2 v3 v4) hD hS hA [0, 1, 2, 3, 4, 5, 6, 7] rfl
      refine va_calli (va_runV (As := [.int 2]) (rest := []) ⟨hx, hb, hml, hown, hts⟩ (c_X1_goes l D cI cZ cJ s.heap.size h a0 a4 a5 a6 a7 a8 a9 f0 f4 f5 f6 f7 f8 f9 v0 v1 v2 v3 v4 2) (cwV 1 hts gX1_vote_X1_goes rfl rfl rfl (by decide +kernel) ⟨Nat.le_of_ble_eq_true rfl, Nat.le_of_ble_eq_true rfl⟩) ⟨zD_blind, va_recv hK hP (ci := 1) (q0 := 0) rfl rfl, fun U hU hW => ⟨rfl, zD_mk hP hK hD hU hW⟩⟩ rfl rfl hl.1 rfl (lv_room (Nat.le_of_ble_eq_true rfl)) dX1_vote_37 ⟨Nat.le_of_ble_eq_true rfl, Nat.le_of_ble_eq_true rfl⟩) hS (fun q _ h => hFc q h) hFc (fun r8 u8 t H1 locs ht hvm w8 hB hz1 hk1 hS => ?_)
      obtain ⟨hP1, hK1, hD1⟩ := hB
      rw [ht] at hP1
      generalize H1 = H at hP1 hS ⊢
      try dsimp only at w8
      obtain ⟨w8_p, w8_0⟩ := w8
      subst w8_0
      have hP : va_P D vwCl (wM cI cZ h a0 a4 a5 a6 a7 a8 a9 f0 f4 f5 f6 f7 f8 f9 v0 v1 v2 v3 2) H := hP1
      have hD : va_D A (wM cI cZ h a0 a4 a5 a6 a7 a8 a9 f0 f4 f5 f6 f7 f8 f9 v0 v1 v2 v3 2) := hD1.weaken (fun _ _ _ h => hFc _ h)
      have w8_p : r8 = 0 := w8_p.trans (by decide)
      subst w8_p
      refine lv_if_ne (tgt := 45) hx hb dX1_vote_40 (by decide) (fun c9 => False.elim (by revert c9; decide)) (fun _ => ?_)
      refine lv_iconst (v := 0) hx hb dX1_vote_43 (by decide) ?_
      exact W.iret (v := 0) hx hb hr (fun t ht hW => ⟨⟨0, ⟨f6, 2⟩, rfl, ⟨fun hz9 => by simp [q_voK, hq1, hq6] at hz9, by simp [q_up, q_us, q_uA, q_voK, hq1, hq6], by simp [q_up, q_us, q_uA, q_voK, hq1, hq6]⟩, ⟨by rw [ht]; exact hP, va_K.moved hW.alike hK, hD⟩⟩, hS.F ht⟩) hS.2.2 dX1_vote_44
    · skip
      rw [hq6] at w6
      have w6 : r6 = 1 := w6
      subst w6
      refine lv_if_ne (tgt := 25) hx hb dX1_vote_18 (by decide) (fun _ => ?_) (fun c9 => False.elim (by revert c9; decide))
      refine lv_aload_n hx hb dX1_vote_25 rfl (lv_at hl 0 rfl) ?_
      refine vp_callSi (W.runV (As := []) (rest := [.ref h]) ⟨hx, hb, hml, hown, hts⟩ (c_X1_hasCurrent l D cI cZ cJ h a0 a4 a5 a6 a7 a8 a9 f0 f4 f5 f6 f7 f8 f9 v0 v1 v2 v3 v4) (cwV 0 hts gX1_vote_X1_hasCurrent rfl rfl rfl (by decide +kernel) ⟨Nat.le_of_ble_eq_true rfl, Nat.le_of_ble_eq_true rfl⟩) ⟨zP_blind, va_recv hK hP (ci := 1) (q0 := 0) rfl rfl, fun U hU hW => ⟨rfl, zP_mk hP hK hU hW⟩⟩ rfl rfl hl.1 rfl (lv_room (Nat.le_of_ble_eq_true rfl)) dX1_vote_26 ⟨Nat.le_of_ble_eq_true rfl, Nat.le_of_ble_eq_true rfl⟩) (fun r11 w11 => ?_)
      cases hq11 : decide (v1 < v0)
      · skip
        rw [hq11] at w11
        have w11 : r11 = 0 := w11
        subst w11
        refine lv_if_eq (tgt := 36) hx hb dX1_vote_29 (by decide) (fun _ => ?_) (fun c9 => False.elim (by revert c9; decide))
        refine lv_iconst (v := 3) hx hb dX1_vote_36 (by decide) ?_
        have hFc := va_free (wc := wM cI cZ h a0 a4 a5 a6 a7 a8 a9 f0 f4 f5 f6 f7 f8 f9 v0 v1 v2 v3 v4) hD hS hA [0, 1, 2, 3, 4, 5, 6, 7] rfl
        refine va_calli (va_runV (As := [.int 3]) (rest := []) ⟨hx, hb, hml, hown, hts⟩ (c_X1_goes l D cI cZ cJ s.heap.size h a0 a4 a5 a6 a7 a8 a9 f0 f4 f5 f6 f7 f8 f9 v0 v1 v2 v3 v4 3) (cwV 1 hts gX1_vote_X1_goes rfl rfl rfl (by decide +kernel) ⟨Nat.le_of_ble_eq_true rfl, Nat.le_of_ble_eq_true rfl⟩) ⟨zD_blind, va_recv hK hP (ci := 1) (q0 := 0) rfl rfl, fun U hU hW => ⟨rfl, zD_mk hP hK hD hU hW⟩⟩ rfl rfl hl.1 rfl (lv_room (Nat.le_of_ble_eq_true rfl)) dX1_vote_37 ⟨Nat.le_of_ble_eq_true rfl, Nat.le_of_ble_eq_true rfl⟩) hS (fun q _ h => hFc q h) hFc (fun r13 u13 t H1 locs ht hvm w13 hB hz1 hk1 hS => ?_)
        obtain ⟨hP1, hK1, hD1⟩ := hB
        rw [ht] at hP1
        generalize H1 = H at hP1 hS ⊢
        try dsimp only at w13
        obtain ⟨w13_p, w13_0⟩ := w13
        subst w13_0
        have hP : va_P D vwCl (wM cI cZ h a0 a4 a5 a6 a7 a8 a9 f0 f4 f5 f6 f7 f8 f9 v0 v1 v2 v3 3) H := hP1
        have hD : va_D A (wM cI cZ h a0 a4 a5 a6 a7 a8 a9 f0 f4 f5 f6 f7 f8 f9 v0 v1 v2 v3 3) := hD1.weaken (fun _ _ _ h => hFc _ h)
        have w13_p : r13 = 0 := w13_p.trans (by decide)
        subst w13_p
        refine lv_if_ne (tgt := 45) hx hb dX1_vote_40 (by decide) (fun c9 => False.elim (by revert c9; decide)) (fun _ => ?_)
        refine lv_iconst (v := 0) hx hb dX1_vote_43 (by decide) ?_
        exact W.iret (v := 0) hx hb hr (fun t ht hW => ⟨⟨0, ⟨f6, 3⟩, rfl, ⟨fun hz9 => by simp [q_voK, hq1, hq6, hq11] at hz9, by simp [q_up, q_us, q_uA, q_voK, hq1, hq6, hq11], by simp [q_up, q_us, q_uA, q_voK, hq1, hq6, hq11]⟩, ⟨by rw [ht]; exact hP, va_K.moved hW.alike hK, hD⟩⟩, hS.F ht⟩) hS.2.2 dX1_vote_44
      · skip
        rw [hq11] at w11
        have w11 : r11 = 1 := w11
        subst w11
        refine lv_if_eq (tgt := 36) hx hb dX1_vote_29 (by decide) (fun c9 => False.elim (by revert c9; decide)) (fun _ => ?_)
        refine lv_iconst (v := 0) hx hb dX1_vote_32 (by decide) ?_
        refine lv_goto (tgt := 37) hx hb dX1_vote_33 (by decide) ?_
        have hFc := va_free (wc := wM cI cZ h a0 a4 a5 a6 a7 a8 a9 f0 f4 f5 f6 f7 f8 f9 v0 v1 v2 v3 v4) hD hS hA [0, 1, 2, 3, 4, 5, 6, 7] rfl
        refine va_calli (va_runV (As := [.int 0]) (rest := []) ⟨hx, hb, hml, hown, hts⟩ (c_X1_goes l D cI cZ cJ s.heap.size h a0 a4 a5 a6 a7 a8 a9 f0 f4 f5 f6 f7 f8 f9 v0 v1 v2 v3 v4 0) (cwV 1 hts gX1_vote_X1_goes rfl rfl rfl (by decide +kernel) ⟨Nat.le_of_ble_eq_true rfl, Nat.le_of_ble_eq_true rfl⟩) ⟨zD_blind, va_recv hK hP (ci := 1) (q0 := 0) rfl rfl, fun U hU hW => ⟨rfl, zD_mk hP hK hD hU hW⟩⟩ rfl rfl hl.1 rfl (lv_room (Nat.le_of_ble_eq_true rfl)) dX1_vote_37 ⟨Nat.le_of_ble_eq_true rfl, Nat.le_of_ble_eq_true rfl⟩) hS (fun q _ h => hFc q h) hFc (fun r16 u16 t H1 locs ht hvm w16 hB hz1 hk1 hS => ?_)
        obtain ⟨hP1, hK1, hD1⟩ := hB
        rw [ht] at hP1
        generalize H1 = H at hP1 hS ⊢
        try dsimp only at w16
        obtain ⟨w16_p, w16_0⟩ := w16
        subst w16_0
        have hP : va_P D vwCl (wM cI cZ h a0 a4 a5 a6 a7 a8 a9 f0 f4 f5 f6 f7 f8 f9 v0 v1 v2 v3 0) H := hP1
        have hD : va_D A (wM cI cZ h a0 a4 a5 a6 a7 a8 a9 f0 f4 f5 f6 f7 f8 f9 v0 v1 v2 v3 0) := hD1.weaken (fun _ _ _ h => hFc _ h)
        have w16_p : r16 = 1 := w16_p.trans (by decide)
        subst w16_p
        refine lv_if_ne (tgt := 45) hx hb dX1_vote_40 (by decide) (fun _ => ?_) (fun c9 => False.elim (by revert c9; decide))
        refine lv_aload_n hx hb dX1_vote_45 rfl (lv_at hl 0 rfl) ?_
        refine va_get (D := D) (ci := 1) (v := .ref a6) (C := RX1) (T := TX1) (N := 12) hx hb hts hin hown hK hP 0 rfl rfl 3 (by decide) (hts (.fieldLink RX1 19 "QuorumfundModel" "votes" "[I") (by decide +kernel)) (fun _ h9 => h9) rfl dX1_vote_46 ?_
        refine lv_iload_n hx hb dX1_vote_49 rfl (lv_at hl 1 rfl) ?_
        refine va_iald (D := D) hx hb hK hP 4 0 rfl rfl (q_g_in hq1) dX1_vote_50 ?_
        refine lv_istore_n (lv' := [(3, .int (f6 p0.toNatClampNeg)), (0, .ref h), (1, .int p0), (2, .int p1)]) hx hb dX1_vote_51 rfl hl (by decide) rfl (fun ls hl => ?_)
        refine lv_aload_n hx hb dX1_vote_52 rfl (lv_at hl 1 rfl) ?_
        refine va_get (D := D) (ci := 1) (v := .ref a6) (C := RX1) (T := TX1) (N := 12) hx hb hts hin hown hK hP 0 rfl rfl 3 (by decide) (hts (.fieldLink RX1 19 "QuorumfundModel" "votes" "[I") (by decide +kernel)) (fun _ h9 => h9) rfl dX1_vote_53 ?_
        refine lv_iload_n hx hb dX1_vote_56 rfl (lv_at hl 2 rfl) ?_
        refine lv_iload_n hx hb dX1_vote_57 rfl (lv_at hl 3 rfl) ?_
        refine va_iast (D := D) hx hb hK hP hD hS 4 0 rfl rfl (q_g_in hq1) dX1_vote_58 (fun H locs hP hD hS => ?_)
        have hP : va_P D vwCl (wM cI cZ h a0 a4 a5 a6 a7 a8 a9 f0 f4 f5 (upd f6 p0.toNatClampNeg p1) f7 f8 f9 v0 v1 v2 v3 0) H := hP
        have hD : va_D A (wM cI cZ h a0 a4 a5 a6 a7 a8 a9 f0 f4 f5 (upd f6 p0.toNatClampNeg p1) f7 f8 f9 v0 v1 v2 v3 0) := hD
        refine lv_iload_n hx hb dX1_vote_59 rfl (lv_at hl 0 rfl) ?_
        exact W.iret (v := f6 p0.toNatClampNeg) hx hb hr (fun t ht hW => ⟨⟨f6 p0.toNatClampNeg, ⟨(upd f6 p0.toNatClampNeg p1), 0⟩, rfl, ⟨fun _ => rfl, by simp [q_up, q_us, q_uA, q_voK, hq1, hq6, hq11], by simp [q_up, q_us, q_uA, q_voK, hq1, hq6, hq11]⟩, ⟨by rw [ht]; exact hP, va_K.moved hW.alike hK, hD⟩⟩, hS.F ht⟩) hS.2.2 dX1_vote_60
set_option maxHeartbeats 4000000 in
set_option maxRecDepth 100000 in
theorem c_X1_speakerOf (l : Launch) (D : va_G) (cI cZ cJ : ClassId) (h a0 a4 a5 a6 a7 a8 a9 : Nat) (f0 f4 f5 f6 f7 f8 f9 : Nat → Int32) (v0 v1 v2 v3 v4 : Int32) (p0 : Int32) (he : q_ends f4 8 p0) : Met l yX1_speakerOf wsX1_speakerOf ({ frames := 0, cells := 0, slots := 0, locals := 0 }) (va_Pc [.ref h, .int p0] (zP D cI cZ cJ (wM cI cZ h a0 a4 a5 a6 a7 a8 a9 f0 f4 f5 f6 f7 f8 f9 v0 v1 v2 v3 v4))) (vp_Si (fun r : Int32 => r = q_spk f4 f6 8 p0)) 0 0 (fun _ => False) := by
  refine Met.ofW (cc := cX1_speakerOf) (maxL := 3) (ret := (some .int)) (by decide) rfl ?_
  intro p e s m args below meth c s₁ B hml hv
  obtain ⟨rfl, hP, hK⟩ := hv
  have hx := B.exec
  have hb := B.bytes
  have hr := B.returns
  have hts := atoms_spec (ws := wsX1_speakerOf) B.pre
  have hown : s.vm.findClass RX1 = some m.cls := findClass_of_methodNamed B.named
  have hlocks := B.notSynchronized
  have hin : ∀ w ∈ wsX10, w ∈ wsX1_speakerOf := by decide +kernel
  have hl := lv_entry ([.ref h, .int p0]) (n := 3) (Nat.le_of_ble_eq_true rfl)
  rw [lg_entry_eq]
  generalize (lg_sl ([.ref h, .int p0]) ++ List.replicate (3 - (lg_sl ([.ref h, .int p0])).length) Slot.unset).toArray = ls at hl ⊢
  have hl : lv_has ls 3 [(0, .ref h), (1, .int p0)] := hl
  refine lv_iload_n hx hb dX1_speakerOf_0 rfl (lv_at hl 1 rfl) ?_
  refine lv_istore_n (lv' := [(2, .int p0), (0, .ref h), (1, .int p0)]) hx hb dX1_speakerOf_1 rfl hl (by decide) rfl (fun ls hl => ?_)
  have hloop2 : ∀ (n2 : Nat) (j : Nat) (a : Int32), (j < n2) → (q_ends f4 j a) → (q_spk f4 f6 8 p0 = q_spk f4 f6 j a) → ∀ (ls : Array Slot), lv_has ls 3 [(2, .int a), (0, .ref h), (1, .int p0)] → W p l e (headSpec wsX1_speakerOf ({ frames := 0, cells := 0, slots := 0, locals := 0 })).room s m ([Value.ref h, Value.int p0] : List Value).toArray below meth c s.heap [] 0 0 (MQ below (vp_Si (fun r : Int32 => r = q_spk f4 f6 8 p0)) ([Value.ref h, Value.int p0] : List Value).toArray s 0 0 (fun _ => False)) (F0 m 2 ls []) := by
    intro n2
    induction n2 with
    | zero => intro j a hn hj9 ex; exact False.elim (by omega)
    | succ n2 ih2 =>
      intro j a hn hj9 ex ls hl
      refine lv_iload_n hx hb dX1_speakerOf_2 rfl (lv_at hl 0 rfl) ?_
      refine lv_iconst (v := (-1)) hx hb dX1_speakerOf_3 (by decide) ?_
      refine lv_icmp_eq (tgt := 26) hx hb dX1_speakerOf_4 (by decide) (fun c1 => ?_) (fun c1 => ?_)
      · skip
        have hm1 : q_spk f4 f6 j a = a := by rw [c1]; exact z_spk_m1 f4 f6 j
        refine lv_iload_n hx hb dX1_speakerOf_26 rfl (lv_at hl 0 rfl) ?_
        exact W.iret (v := a) hx hb hr (fun t ht hW => ⟨a, rfl, (by rw [ex, hm1]), ht⟩) (fun _ h => nomatch h) dX1_speakerOf_27
      · skip
        obtain ⟨j, rfl, hga, he9⟩ := z_ends_step hj9 c1
        refine lv_aload_n hx hb dX1_speakerOf_7 rfl (lv_at hl 1 rfl) ?_
        refine va_get (D := D) (ci := 1) (v := .ref a6) (C := RX1) (T := TX1) (N := 12) hx hb hts hin hown hK hP 0 rfl rfl 3 (by decide) (hts (.fieldLink RX1 19 "QuorumfundModel" "votes" "[I") (by decide +kernel)) (fun _ h9 => h9) rfl dX1_speakerOf_8 ?_
        refine lv_iload_n hx hb dX1_speakerOf_11 rfl (lv_at hl 0 rfl) ?_
        refine va_iald (D := D) hx hb hK hP 4 0 rfl rfl (q_g_in hga) dX1_speakerOf_12 ?_
        refine lv_if_ne (tgt := 26) hx hb dX1_speakerOf_13 (by decide) (fun c2 => ?_) (fun c2 => ?_)
        · skip
          refine lv_iload_n hx hb dX1_speakerOf_26 rfl (lv_at hl 0 rfl) ?_
          exact W.iret (v := a) hx hb hr (fun t ht hW => ⟨a, rfl, (by rw [ex, q_spk]; simp [hga, c2]), ht⟩) (fun _ h => nomatch h) dX1_speakerOf_27
        · skip
          refine lv_aload_n hx hb dX1_speakerOf_16 rfl (lv_at hl 1 rfl) ?_
          refine va_get (D := D) (ci := 1) (v := .ref a4) (C := RX1) (T := TX1) (N := 12) hx hb hts hin hown hK hP 0 rfl rfl 1 (by decide) (hts (.fieldLink RX1 13 "QuorumfundModel" "trusted" "[I") (by decide +kernel)) (fun _ h9 => h9) rfl dX1_speakerOf_17 ?_
          refine lv_iload_n hx hb dX1_speakerOf_20 rfl (lv_at hl 0 rfl) ?_
          refine va_iald (D := D) hx hb hK hP 2 0 rfl rfl (q_g_in hga) dX1_speakerOf_21 ?_
          refine lv_istore_n (lv' := [(2, .int (f4 a.toNatClampNeg)), (0, .ref h), (1, .int p0)]) hx hb dX1_speakerOf_22 rfl hl (by decide) rfl (fun ls hl => ?_)
          refine lv_goto (tgt := 2) hx hb dX1_speakerOf_23 (by decide) ?_
          exact ih2 j (f4 a.toNatClampNeg) (by omega) he9 (by rw [ex, q_spk]; simp [hga, c2]) ls (lv_sub hl [0, 1, 2] rfl)
  exact hloop2 9 8 p0 (by omega) he rfl ls (lv_sub hl [0, 1, 2] rfl)
set_option maxHeartbeats 4000000 in
set_option maxRecDepth 100000 in
theorem c_X1_speaker (l : Launch) (D : va_G) (cI cZ cJ : ClassId) (sz : Nat) (h a0 a4 a5 a6 a7 a8 a9 : Nat) (f0 f4 f5 f6 f7 f8 f9 : Nat → Int32) (v0 v1 v2 v3 v4 : Int32) (p0 : Int32) (he : q_g p0 = true → q_ends f4 8 p0) : Met l yX1_speaker wsX1_speaker ({ frames := 2, cells := 0, slots := 0, locals := 42 }) (va_Pc [.ref h, .int p0] (zD D cI cZ cJ sz (wM cI cZ h a0 a4 a5 a6 a7 a8 a9 f0 f4 f5 f6 f7 f8 f9 v0 v1 v2 v3 v4))) (va_Qi (fun (r : Int32) (u : Int32) => (q_gK p0 = 0 → r = q_spk f4 f6 8 p0) ∧ u = q_gK p0) (fun u t => zB D cI cZ cJ (va_A (wM cI cZ h a0 a4 a5 a6 a7 a8 a9 f0 f4 f5 f6 f7 f8 f9 v0 v1 v2 v3 v4) sz) (wM cI cZ h a0 a4 a5 a6 a7 a8 a9 f0 f4 f5 f6 f7 f8 f9 v0 v1 v2 v3 u) t) (va_A (wM cI cZ h a0 a4 a5 a6 a7 a8 a9 f0 f4 f5 f6 f7 f8 f9 v0 v1 v2 v3 v4) sz)) 0 0 (va_A (wM cI cZ h a0 a4 a5 a6 a7 a8 a9 f0 f4 f5 f6 f7 f8 f9 v0 v1 v2 v3 v4) sz) := by
  refine Met.ofW (cc := cX1_speaker) (maxL := 2) (ret := (some .int)) (by decide) rfl ?_
  intro p e s m args below meth c s₁ B hml hv
  obtain ⟨rfl, hsz, hP, hK, hD0⟩ := hv
  have hx := B.exec
  have hb := B.bytes
  have hr := B.returns
  have hts := atoms_spec (ws := wsX1_speaker) B.pre
  have hown : s.vm.findClass RX1 = some m.cls := findClass_of_methodNamed B.named
  have hlocks := B.notSynchronized
  subst hsz
  have hD := hD0.self (sz := s.heap.size)
  generalize hAe : va_A (wM cI cZ h a0 a4 a5 a6 a7 a8 a9 f0 f4 f5 f6 f7 f8 f9 v0 v1 v2 v3 v4) s.heap.size = A at hD ⊢
  have hA : ∀ q : Nat, s.heap.size ≤ q → A q := fun q h => by rw [← hAe]; exact Or.inr h
  have hS : va_S A s.heap s.heap [] := va_S.rf
  have hl := lv_entry ([.ref h, .int p0]) (n := 2) (Nat.le_of_ble_eq_true rfl)
  rw [lg_entry_eq]
  generalize (lg_sl ([.ref h, .int p0]) ++ List.replicate (2 - (lg_sl ([.ref h, .int p0])).length) Slot.unset).toArray = ls at hl ⊢
  have hl : lv_has ls 2 [(0, .ref h), (1, .int p0)] := hl
  refine lv_aload_n hx hb dX1_speaker_0 rfl (lv_at hl 0 rfl) ?_
  refine lv_iload_n hx hb dX1_speaker_1 rfl (lv_at hl 1 rfl) ?_
  refine vp_callSi (W.runS (As := [.int p0]) (rest := [.ref h]) ⟨hx, hb, hml, hown, hts⟩ (c_X1_isGiver l p0) (va_cwS 1 hts gX1_speaker_X1_isGiver rfl rfl rfl (by decide +kernel) ⟨Nat.le_of_ble_eq_true rfl, Nat.le_of_ble_eq_true rfl⟩) ⟨zN_blind, fun U hU hW => ⟨rfl, trivial⟩⟩ rfl rfl hl.1 rfl (lv_room (Nat.le_of_ble_eq_true rfl)) dX1_speaker_2 ⟨Nat.le_of_ble_eq_true rfl, Nat.le_of_ble_eq_true rfl⟩) (fun r1 w1 => ?_)
  cases hq1 : q_g p0
  · skip
    rw [hq1] at w1
    have w1 : r1 = 0 := w1
    subst w1
    refine lv_if_eq (tgt := 12) hx hb dX1_speaker_5 (by decide) (fun _ => ?_) (fun c9 => False.elim (by revert c9; decide))
    refine lv_iconst (v := 1) hx hb dX1_speaker_12 (by decide) ?_
    have hFc := va_free (wc := wM cI cZ h a0 a4 a5 a6 a7 a8 a9 f0 f4 f5 f6 f7 f8 f9 v0 v1 v2 v3 v4) hD hS hA [0, 1, 2, 3, 4, 5, 6, 7] rfl
    refine va_calli (va_runV (As := [.int 1]) (rest := []) ⟨hx, hb, hml, hown, hts⟩ (c_X1_goes l D cI cZ cJ s.heap.size h a0 a4 a5 a6 a7 a8 a9 f0 f4 f5 f6 f7 f8 f9 v0 v1 v2 v3 v4 1) (cwV 1 hts gX1_speaker_X1_goes rfl rfl rfl (by decide +kernel) ⟨Nat.le_of_ble_eq_true rfl, Nat.le_of_ble_eq_true rfl⟩) ⟨zD_blind, va_recv hK hP (ci := 1) (q0 := 0) rfl rfl, fun U hU hW => ⟨rfl, zD_mk hP hK hD hU hW⟩⟩ rfl rfl hl.1 rfl (lv_room (Nat.le_of_ble_eq_true rfl)) dX1_speaker_13 ⟨Nat.le_of_ble_eq_true rfl, Nat.le_of_ble_eq_true rfl⟩) hS (fun q _ h => hFc q h) hFc (fun r3 u3 t H1 locs ht hvm w3 hB hz1 hk1 hS => ?_)
    obtain ⟨hP1, hK1, hD1⟩ := hB
    rw [ht] at hP1
    generalize H1 = H at hP1 hS ⊢
    try dsimp only at w3
    obtain ⟨w3_p, w3_0⟩ := w3
    subst w3_0
    have hP : va_P D vwCl (wM cI cZ h a0 a4 a5 a6 a7 a8 a9 f0 f4 f5 f6 f7 f8 f9 v0 v1 v2 v3 1) H := hP1
    have hD : va_D A (wM cI cZ h a0 a4 a5 a6 a7 a8 a9 f0 f4 f5 f6 f7 f8 f9 v0 v1 v2 v3 1) := hD1.weaken (fun _ _ _ h => hFc _ h)
    have w3_p : r3 = 0 := w3_p.trans (by decide)
    subst w3_p
    refine lv_if_eq (tgt := 27) hx hb dX1_speaker_16 (by decide) (fun _ => ?_) (fun c9 => False.elim (by revert c9; decide))
    refine lv_iconst (v := 0) hx hb dX1_speaker_27 (by decide) ?_
    exact W.iret (v := 0) hx hb hr (fun t ht hW => ⟨⟨0, 1, rfl, ⟨fun hz9 => by simp [q_gK, hq1] at hz9, by simp [q_up, q_us, q_uA, q_gK, hq1]⟩, ⟨by rw [ht]; exact hP, va_K.moved hW.alike hK, hD⟩⟩, hS.F ht⟩) hS.2.2 dX1_speaker_28
  · skip
    rw [hq1] at w1
    have w1 : r1 = 1 := w1
    subst w1
    have hen := he hq1
    refine lv_if_eq (tgt := 12) hx hb dX1_speaker_5 (by decide) (fun c9 => False.elim (by revert c9; decide)) (fun _ => ?_)
    refine lv_iconst (v := 0) hx hb dX1_speaker_8 (by decide) ?_
    refine lv_goto (tgt := 13) hx hb dX1_speaker_9 (by decide) ?_
    have hFc := va_free (wc := wM cI cZ h a0 a4 a5 a6 a7 a8 a9 f0 f4 f5 f6 f7 f8 f9 v0 v1 v2 v3 v4) hD hS hA [0, 1, 2, 3, 4, 5, 6, 7] rfl
    refine va_calli (va_runV (As := [.int 0]) (rest := []) ⟨hx, hb, hml, hown, hts⟩ (c_X1_goes l D cI cZ cJ s.heap.size h a0 a4 a5 a6 a7 a8 a9 f0 f4 f5 f6 f7 f8 f9 v0 v1 v2 v3 v4 0) (cwV 1 hts gX1_speaker_X1_goes rfl rfl rfl (by decide +kernel) ⟨Nat.le_of_ble_eq_true rfl, Nat.le_of_ble_eq_true rfl⟩) ⟨zD_blind, va_recv hK hP (ci := 1) (q0 := 0) rfl rfl, fun U hU hW => ⟨rfl, zD_mk hP hK hD hU hW⟩⟩ rfl rfl hl.1 rfl (lv_room (Nat.le_of_ble_eq_true rfl)) dX1_speaker_13 ⟨Nat.le_of_ble_eq_true rfl, Nat.le_of_ble_eq_true rfl⟩) hS (fun q _ h => hFc q h) hFc (fun r6 u6 t H1 locs ht hvm w6 hB hz1 hk1 hS => ?_)
    obtain ⟨hP1, hK1, hD1⟩ := hB
    rw [ht] at hP1
    generalize H1 = H at hP1 hS ⊢
    try dsimp only at w6
    obtain ⟨w6_p, w6_0⟩ := w6
    subst w6_0
    have hP : va_P D vwCl (wM cI cZ h a0 a4 a5 a6 a7 a8 a9 f0 f4 f5 f6 f7 f8 f9 v0 v1 v2 v3 0) H := hP1
    have hD : va_D A (wM cI cZ h a0 a4 a5 a6 a7 a8 a9 f0 f4 f5 f6 f7 f8 f9 v0 v1 v2 v3 0) := hD1.weaken (fun _ _ _ h => hFc _ h)
    have w6_p : r6 = 1 := w6_p.trans (by decide)
    subst w6_p
    refine lv_if_eq (tgt := 27) hx hb dX1_speaker_16 (by decide) (fun c9 => False.elim (by revert c9; decide)) (fun _ => ?_)
    refine lv_aload_n hx hb dX1_speaker_19 rfl (lv_at hl 0 rfl) ?_
    refine lv_iload_n hx hb dX1_speaker_20 rfl (lv_at hl 1 rfl) ?_
    refine vp_callSi (W.runV (As := [.int p0]) (rest := []) ⟨hx, hb, hml, hown, hts⟩ (c_X1_speakerOf l D cI cZ cJ h a0 a4 a5 a6 a7 a8 a9 f0 f4 f5 f6 f7 f8 f9 v0 v1 v2 v3 0 p0 hen) (cwV 1 hts gX1_speaker_X1_speakerOf rfl rfl rfl (by decide +kernel) ⟨Nat.le_of_ble_eq_true rfl, Nat.le_of_ble_eq_true rfl⟩) ⟨zP_blind, va_recv hK hP (ci := 1) (q0 := 0) rfl rfl, fun U hU hW => ⟨rfl, zP_mk hP hK hU hW⟩⟩ rfl rfl hl.1 rfl (lv_room (Nat.le_of_ble_eq_true rfl)) dX1_speaker_21 ⟨Nat.le_of_ble_eq_true rfl, Nat.le_of_ble_eq_true rfl⟩) (fun r8 w8 => ?_)
    subst w8
    refine lv_goto (tgt := 28) hx hb dX1_speaker_24 (by decide) ?_
    exact W.iret (v := q_spk f4 f6 8 p0) hx hb hr (fun t ht hW => ⟨⟨q_spk f4 f6 8 p0, 0, rfl, ⟨fun _ => rfl, by simp [q_up, q_us, q_uA, q_gK, hq1]⟩, ⟨by rw [ht]; exact hP, va_K.moved hW.alike hK, hD⟩⟩, hS.F ht⟩) hS.2.2 dX1_speaker_28
