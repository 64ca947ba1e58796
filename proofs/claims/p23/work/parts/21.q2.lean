set_option maxHeartbeats 4000000 in
set_option maxRecDepth 100000 in
theorem c_X0_leadsTo (l : Launch) (D : va_G) (cI cZ cJ : ClassId) (h a0 a1 a2 a3 a4 a5 a6 a7 a8 a9 a10 : Nat) (f0 f1 f2 f3 f4 f5 f6 f7 f8 f9 f10 : Nat → Int32) (v0 v1 v2 v3 : Int32) (p0 p1 : Int32) : Met l yX0_leadsTo wsX0_leadsTo ({ frames := 1, cells := 0, slots := 0, locals := 20 }) (va_Pc [.ref h, .int p0, .int p1] (zP D cI cZ cJ (wQ cI cZ h a0 a1 a2 a3 a4 a5 a6 a7 a8 a9 a10 f0 f1 f2 f3 f4 f5 f6 f7 f8 f9 f10 v0 v1 v2 v3))) (vp_Si (fun r : Int32 => (r = bif q_lead f4 8 p0 p1 then 1 else 0))) 0 0 (fun _ => False) := by
  refine Met.ofW (cc := cX0_leadsTo) (maxL := 5) (ret := (some .boolean)) (by decide) rfl ?_
  intro p e s m args below meth c s₁ B hml hv
  obtain ⟨rfl, hP, hK⟩ := hv
  have hx := B.exec
  have hb := B.bytes
  have hr := B.returns
  have hts := atoms_spec (ws := wsX0_leadsTo) B.pre
  have hown : s.vm.findClass RX0 = some m.cls := findClass_of_methodNamed B.named
  have hlocks := B.notSynchronized
  have hin : ∀ w ∈ wsX00, w ∈ wsX0_leadsTo := by decide +kernel
  have hl := lv_entry ([.ref h, .int p0, .int p1]) (n := 5) (Nat.le_of_ble_eq_true rfl)
  rw [lg_entry_eq]
  generalize (lg_sl ([.ref h, .int p0, .int p1]) ++ List.replicate (5 - (lg_sl ([.ref h, .int p0, .int p1])).length) Slot.unset).toArray = ls at hl ⊢
  have hl : lv_has ls 5 [(0, .ref h), (1, .int p0), (2, .int p1)] := hl
  refine lv_iload_n hx hb dX0_leadsTo_0 rfl (lv_at hl 1 rfl) ?_
  refine lv_istore_n (lv' := [(3, .int p0), (0, .ref h), (1, .int p0), (2, .int p1)]) hx hb dX0_leadsTo_1 rfl hl (by decide) rfl (fun ls hl => ?_)
  refine lv_iconst (v := 0) hx hb dX0_leadsTo_2 (by decide) ?_
  refine lv_istore (lv' := [(4, .int 0), (3, .int p0), (0, .ref h), (1, .int p0), (2, .int p1)]) hx hb dX0_leadsTo_3 hl (by decide) rfl (fun ls hl => ?_)
  have hloop5 : ∀ (n5 : Nat) (i : Nat) (j : Nat) (a : Int32), (9 ≤ i + n5) → (i ≤ 8) → (i + j = 8) → (q_lead f4 8 p0 p1 = q_lead f4 j a p1) → ∀ (ls : Array Slot), lv_has ls 5 [(4, .int (nI i)), (3, .int a), (0, .ref h), (1, .int p0), (2, .int p1)] → W p l e (headSpec wsX0_leadsTo ({ frames := 1, cells := 0, slots := 0, locals := 20 })).room s m ([Value.ref h, Value.int p0, Value.int p1] : List Value).toArray below meth c s.heap [] 0 0 (MQ below (vp_Si (fun r : Int32 => (r = bif q_lead f4 8 p0 p1 then 1 else 0))) ([Value.ref h, Value.int p0, Value.int p1] : List Value).toArray s 0 0 (fun _ => False)) (F0 m 5 ls []) := by
    intro n5
    induction n5 with
    | zero => intro i j a hn hi hij ex; exact False.elim (by omega)
    | succ n5 ih5 =>
      intro i j a hn hi hij ex ls hl
      refine lv_iload hx hb dX0_leadsTo_5 (lv_at hl 0 rfl) ?_
      refine lv_bipush (v := 8) hx hb dX0_leadsTo_7 (by decide) ?_
      refine lv_icmp_ge (tgt := 39) hx hb dX0_leadsTo_9 (by decide) (fun c1 => ?_) (fun c1 => ?_)
      · skip
        have hj := z_ge8 hi c1
        obtain rfl : j = 0 := by omega
        refine lv_iconst (v := 0) hx hb dX0_leadsTo_39 (by decide) ?_
        exact W.zret (v := 0) hx hb hr rfl (fun t ht hW => ⟨0, rfl, (by rw [ex]; simp [q_lead, c1]), ht⟩) (fun _ h => nomatch h) dX0_leadsTo_40
      · skip
        have hj := z_lt8 hi c1
        obtain ⟨j, rfl⟩ : ∃ j9, j = j9 + 1 := ⟨j - 1, by omega⟩
        refine lv_iload_n hx hb dX0_leadsTo_12 rfl (lv_at hl 1 rfl) ?_
        refine vp_callSi (W.runS (As := [.int a]) (rest := []) ⟨hx, hb, hml, hown, hts⟩ (c_X0_isGiver l a) (va_cwS 1 hts gX0_leadsTo_X0_isGiver rfl rfl rfl (by decide +kernel) ⟨Nat.le_of_ble_eq_true rfl, Nat.le_of_ble_eq_true rfl⟩) ⟨zN_blind, fun U hU hW => ⟨rfl, trivial⟩⟩ rfl rfl hl.1 rfl (lv_room (Nat.le_of_ble_eq_true rfl)) dX0_leadsTo_13 ⟨Nat.le_of_ble_eq_true rfl, Nat.le_of_ble_eq_true rfl⟩) (fun r2 w2 => ?_)
        cases hq2 : q_g a
        · skip
          rw [hq2] at w2
          have w2 : r2 = 0 := w2
          subst w2
          refine lv_if_eq (tgt := 39) hx hb dX0_leadsTo_16 (by decide) (fun _ => ?_) (fun c9 => False.elim (by revert c9; decide))
          refine lv_iconst (v := 0) hx hb dX0_leadsTo_39 (by decide) ?_
          exact W.zret (v := 0) hx hb hr rfl (fun t ht hW => ⟨0, rfl, (by rw [ex]; simp [q_lead, c1, hq2]), ht⟩) (fun _ h => nomatch h) dX0_leadsTo_40
        · skip
          rw [hq2] at w2
          have w2 : r2 = 1 := w2
          subst w2
          refine lv_if_eq (tgt := 39) hx hb dX0_leadsTo_16 (by decide) (fun c9 => False.elim (by revert c9; decide)) (fun _ => ?_)
          refine lv_iload_n hx hb dX0_leadsTo_19 rfl (lv_at hl 1 rfl) ?_
          refine lv_iload_n hx hb dX0_leadsTo_20 rfl (lv_at hl 4 rfl) ?_
          refine lv_icmp_ne (tgt := 26) hx hb dX0_leadsTo_21 (by decide) (fun c5 => ?_) (fun c5 => ?_)
          · skip
            refine lv_aload_n hx hb dX0_leadsTo_26 rfl (lv_at hl 2 rfl) ?_
            refine va_get (D := D) (ci := 0) (v := .ref a4) (C := RX0) (T := TX0) (N := 15) hx hb hts hin hown hK hP 0 rfl rfl 4 (by decide) (hts (.fieldLink RX0 22 "Quorumfund" "trusted" "[I") (by decide +kernel)) (fun _ h9 => h9) rfl dX0_leadsTo_27 ?_
            refine lv_iload_n hx hb dX0_leadsTo_30 rfl (lv_at hl 1 rfl) ?_
            refine va_iald (D := D) hx hb hK hP 5 0 rfl rfl (q_g_in hq2) dX0_leadsTo_31 ?_
            refine lv_istore_n (lv' := [(3, .int (f4 a.toNatClampNeg)), (4, .int (nI i)), (0, .ref h), (1, .int p0), (2, .int p1)]) hx hb dX0_leadsTo_32 rfl hl (by decide) rfl (fun ls hl => ?_)
            refine lv_iinc (v := nI (i + 1)) (lv' := [(4, .int (nI (i + 1))), (3, .int (f4 a.toNatClampNeg)), (0, .ref h), (1, .int p0), (2, .int p1)]) hx hb dX0_leadsTo_33 hl (k := 1) rfl (nI_1 _) (by decide) rfl (fun ls hl => ?_)
            refine lv_goto (tgt := 5) hx hb dX0_leadsTo_36 (by decide) ?_
            exact ih5 (i + 1) j (f4 a.toNatClampNeg) (by omega) (by omega) (by omega) (by rw [ex, q_lead]; simp [hq2, c5]) ls (lv_sub hl [0, 1, 2, 3, 4] rfl)
          · skip
            refine lv_iconst (v := 1) hx hb dX0_leadsTo_24 (by decide) ?_
            exact W.zret (v := 1) hx hb hr rfl (fun t ht hW => ⟨1, rfl, (by rw [ex, q_lead, hq2, c5]; simp), ht⟩) (fun _ h => nomatch h) dX0_leadsTo_25
  exact hloop5 9 0 8 p0 (by omega) (by omega) (by omega) rfl ls (lv_sub hl [0, 1, 2, 3, 4] rfl)
set_option maxHeartbeats 4000000 in
set_option maxRecDepth 100000 in
theorem c_X0_firstVoterFrom (l : Launch) (D : va_G) (cI cZ cJ : ClassId) (h a0 a1 a2 a3 a4 a5 a6 a7 a8 a9 a10 : Nat) (f0 f1 f2 f3 f4 f5 f6 f7 f8 f9 f10 : Nat → Int32) (v0 v1 v2 v3 : Int32) (p0 : Int32) : Met l yX0_firstVoterFrom wsX0_firstVoterFrom ({ frames := 1, cells := 0, slots := 0, locals := 20 }) (va_Pc [.ref h, .int p0] (zP D cI cZ cJ (wQ cI cZ h a0 a1 a2 a3 a4 a5 a6 a7 a8 a9 a10 f0 f1 f2 f3 f4 f5 f6 f7 f8 f9 f10 v0 v1 v2 v3))) (vp_Si (fun r : Int32 => r = q_spk f4 f6 8 p0)) 0 0 (fun _ => False) := by
  refine Met.ofW (cc := cX0_firstVoterFrom) (maxL := 4) (ret := (some .int)) (by decide) rfl ?_
  intro p e s m args below meth c s₁ B hml hv
  obtain ⟨rfl, hP, hK⟩ := hv
  have hx := B.exec
  have hb := B.bytes
  have hr := B.returns
  have hts := atoms_spec (ws := wsX0_firstVoterFrom) B.pre
  have hown : s.vm.findClass RX0 = some m.cls := findClass_of_methodNamed B.named
  have hlocks := B.notSynchronized
  have hin : ∀ w ∈ wsX00, w ∈ wsX0_firstVoterFrom := by decide +kernel
  have hl := lv_entry ([.ref h, .int p0]) (n := 4) (Nat.le_of_ble_eq_true rfl)
  rw [lg_entry_eq]
  generalize (lg_sl ([.ref h, .int p0]) ++ List.replicate (4 - (lg_sl ([.ref h, .int p0])).length) Slot.unset).toArray = ls at hl ⊢
  have hl : lv_has ls 4 [(0, .ref h), (1, .int p0)] := hl
  refine lv_iload_n hx hb dX0_firstVoterFrom_0 rfl (lv_at hl 1 rfl) ?_
  refine lv_istore_n (lv' := [(2, .int p0), (0, .ref h), (1, .int p0)]) hx hb dX0_firstVoterFrom_1 rfl hl (by decide) rfl (fun ls hl => ?_)
  refine lv_iconst (v := 0) hx hb dX0_firstVoterFrom_2 (by decide) ?_
  refine lv_istore_n (lv' := [(3, .int 0), (2, .int p0), (0, .ref h), (1, .int p0)]) hx hb dX0_firstVoterFrom_3 rfl hl (by decide) rfl (fun ls hl => ?_)
  have hloop4 : ∀ (n4 : Nat) (i : Nat) (j : Nat) (a : Int32), (9 ≤ i + n4) → (i ≤ 8) → (i + j = 8) → (q_spk f4 f6 8 p0 = q_spk f4 f6 j a) → ∀ (ls : Array Slot), lv_has ls 4 [(3, .int (nI i)), (2, .int a), (0, .ref h), (1, .int p0)] → W p l e (headSpec wsX0_firstVoterFrom ({ frames := 1, cells := 0, slots := 0, locals := 20 })).room s m ([Value.ref h, Value.int p0] : List Value).toArray below meth c s.heap [] 0 0 (MQ below (vp_Si (fun r : Int32 => r = q_spk f4 f6 8 p0)) ([Value.ref h, Value.int p0] : List Value).toArray s 0 0 (fun _ => False)) (F0 m 4 ls []) := by
    intro n4
    induction n4 with
    | zero => intro i j a hn hi hij ex; exact False.elim (by omega)
    | succ n4 ih4 =>
      intro i j a hn hi hij ex ls hl
      refine lv_iload_n hx hb dX0_firstVoterFrom_4 rfl (lv_at hl 0 rfl) ?_
      refine lv_bipush (v := 8) hx hb dX0_firstVoterFrom_5 (by decide) ?_
      refine lv_icmp_ge (tgt := 41) hx hb dX0_firstVoterFrom_7 (by decide) (fun c1 => ?_) (fun c1 => ?_)
      · skip
        have hj := z_ge8 hi c1
        obtain rfl : j = 0 := by omega
        refine lv_iconst (v := (-1)) hx hb dX0_firstVoterFrom_41 (by decide) ?_
        exact W.iret (v := (-1)) hx hb hr (fun t ht hW => ⟨(-1), rfl, (by rw [ex]; simp [q_spk, c1]), ht⟩) (fun _ h => nomatch h) dX0_firstVoterFrom_42
      · skip
        have hj := z_lt8 hi c1
        obtain ⟨j, rfl⟩ : ∃ j9, j = j9 + 1 := ⟨j - 1, by omega⟩
        refine lv_iload_n hx hb dX0_firstVoterFrom_10 rfl (lv_at hl 1 rfl) ?_
        refine vp_callSi (W.runS (As := [.int a]) (rest := []) ⟨hx, hb, hml, hown, hts⟩ (c_X0_isGiver l a) (va_cwS 1 hts gX0_firstVoterFrom_X0_isGiver rfl rfl rfl (by decide +kernel) ⟨Nat.le_of_ble_eq_true rfl, Nat.le_of_ble_eq_true rfl⟩) ⟨zN_blind, fun U hU hW => ⟨rfl, trivial⟩⟩ rfl rfl hl.1 rfl (lv_room (Nat.le_of_ble_eq_true rfl)) dX0_firstVoterFrom_11 ⟨Nat.le_of_ble_eq_true rfl, Nat.le_of_ble_eq_true rfl⟩) (fun r2 w2 => ?_)
        cases hq2 : q_g a
        · skip
          rw [hq2] at w2
          have w2 : r2 = 0 := w2
          subst w2
          refine lv_if_eq (tgt := 41) hx hb dX0_firstVoterFrom_14 (by decide) (fun _ => ?_) (fun c9 => False.elim (by revert c9; decide))
          refine lv_iconst (v := (-1)) hx hb dX0_firstVoterFrom_41 (by decide) ?_
          exact W.iret (v := (-1)) hx hb hr (fun t ht hW => ⟨(-1), rfl, (by rw [ex]; simp [q_spk, c1, hq2]), ht⟩) (fun _ h => nomatch h) dX0_firstVoterFrom_42
        · skip
          rw [hq2] at w2
          have w2 : r2 = 1 := w2
          subst w2
          refine lv_if_eq (tgt := 41) hx hb dX0_firstVoterFrom_14 (by decide) (fun c9 => False.elim (by revert c9; decide)) (fun _ => ?_)
          refine lv_aload_n hx hb dX0_firstVoterFrom_17 rfl (lv_at hl 2 rfl) ?_
          refine va_get (D := D) (ci := 0) (v := .ref a6) (C := RX0) (T := TX0) (N := 15) hx hb hts hin hown hK hP 0 rfl rfl 6 (by decide) (hts (.fieldLink RX0 28 "Quorumfund" "votes" "[I") (by decide +kernel)) (fun _ h9 => h9) rfl dX0_firstVoterFrom_18 ?_
          refine lv_iload_n hx hb dX0_firstVoterFrom_21 rfl (lv_at hl 1 rfl) ?_
          refine va_iald (D := D) hx hb hK hP 7 0 rfl rfl (q_g_in hq2) dX0_firstVoterFrom_22 ?_
          refine lv_if_eq (tgt := 28) hx hb dX0_firstVoterFrom_23 (by decide) (fun c5 => ?_) (fun c5 => ?_)
          · skip
            refine lv_aload_n hx hb dX0_firstVoterFrom_28 rfl (lv_at hl 2 rfl) ?_
            refine va_get (D := D) (ci := 0) (v := .ref a4) (C := RX0) (T := TX0) (N := 15) hx hb hts hin hown hK hP 0 rfl rfl 4 (by decide) (hts (.fieldLink RX0 22 "Quorumfund" "trusted" "[I") (by decide +kernel)) (fun _ h9 => h9) rfl dX0_firstVoterFrom_29 ?_
            refine lv_iload_n hx hb dX0_firstVoterFrom_32 rfl (lv_at hl 1 rfl) ?_
            refine va_iald (D := D) hx hb hK hP 5 0 rfl rfl (q_g_in hq2) dX0_firstVoterFrom_33 ?_
            refine lv_istore_n (lv' := [(2, .int (f4 a.toNatClampNeg)), (3, .int (nI i)), (0, .ref h), (1, .int p0)]) hx hb dX0_firstVoterFrom_34 rfl hl (by decide) rfl (fun ls hl => ?_)
            refine lv_iinc (v := nI (i + 1)) (lv' := [(3, .int (nI (i + 1))), (2, .int (f4 a.toNatClampNeg)), (0, .ref h), (1, .int p0)]) hx hb dX0_firstVoterFrom_35 hl (k := 1) rfl (nI_1 _) (by decide) rfl (fun ls hl => ?_)
            refine lv_goto (tgt := 4) hx hb dX0_firstVoterFrom_38 (by decide) ?_
            exact ih4 (i + 1) j (f4 a.toNatClampNeg) (by omega) (by omega) (by omega) (by rw [ex, q_spk]; simp [hq2, c5]) ls (lv_sub hl [0, 1, 2, 3] rfl)
          · skip
            refine lv_iload_n hx hb dX0_firstVoterFrom_26 rfl (lv_at hl 1 rfl) ?_
            exact W.iret (v := a) hx hb hr (fun t ht hW => ⟨a, rfl, (by rw [ex]; simp [q_spk, c1, hq2, c5]), ht⟩) (fun _ h => nomatch h) dX0_firstVoterFrom_27
  exact hloop4 9 0 8 p0 (by omega) (by omega) (by omega) rfl ls (lv_sub hl [0, 1, 2, 3] rfl)
set_option maxHeartbeats 4000000 in
set_option maxRecDepth 100000 in
theorem c_X0_heardVote (l : Launch) (D : va_G) (cI cZ cJ : ClassId) (h a0 a1 a2 a3 a4 a5 a6 a7 a8 a9 a10 : Nat) (f0 f1 f2 f3 f4 f5 f6 f7 f8 f9 f10 : Nat → Int32) (v0 v1 v2 v3 : Int32) (p0 : Int32) : Met l yX0_heardVote wsX0_heardVote ({ frames := 2, cells := 0, slots := 0, locals := 43 }) (va_Pc [.ref h, .int p0] (zP D cI cZ cJ (wQ cI cZ h a0 a1 a2 a3 a4 a5 a6 a7 a8 a9 a10 f0 f1 f2 f3 f4 f5 f6 f7 f8 f9 f10 v0 v1 v2 v3))) (vp_Si (fun r : Int32 => r = q_hrd f4 f6 p0)) 0 0 (fun _ => False) := by
  refine Met.ofW (cc := cX0_heardVote) (maxL := 3) (ret := (some .int)) (by decide) rfl ?_
  intro p e s m args below meth c s₁ B hml hv
  obtain ⟨rfl, hP, hK⟩ := hv
  have hx := B.exec
  have hb := B.bytes
  have hr := B.returns
  have hts := atoms_spec (ws := wsX0_heardVote) B.pre
  have hown : s.vm.findClass RX0 = some m.cls := findClass_of_methodNamed B.named
  have hlocks := B.notSynchronized
  have hin : ∀ w ∈ wsX00, w ∈ wsX0_heardVote := by decide +kernel
  have hl := lv_entry ([.ref h, .int p0]) (n := 3) (Nat.le_of_ble_eq_true rfl)
  rw [lg_entry_eq]
  generalize (lg_sl ([.ref h, .int p0]) ++ List.replicate (3 - (lg_sl ([.ref h, .int p0])).length) Slot.unset).toArray = ls at hl ⊢
  have hl : lv_has ls 3 [(0, .ref h), (1, .int p0)] := hl
  refine lv_aload_n hx hb dX0_heardVote_0 rfl (lv_at hl 0 rfl) ?_
  refine lv_iload_n hx hb dX0_heardVote_1 rfl (lv_at hl 1 rfl) ?_
  refine vp_callSi (W.runV (As := [.int p0]) (rest := []) ⟨hx, hb, hml, hown, hts⟩ (c_X0_firstVoterFrom l D cI cZ cJ h a0 a1 a2 a3 a4 a5 a6 a7 a8 a9 a10 f0 f1 f2 f3 f4 f5 f6 f7 f8 f9 f10 v0 v1 v2 v3 p0) (cwV 1 hts gX0_heardVote_X0_firstVoterFrom rfl rfl rfl (by decide +kernel) ⟨Nat.le_of_ble_eq_true rfl, Nat.le_of_ble_eq_true rfl⟩) ⟨zP_blind, va_recv hK hP (ci := 0) (q0 := 0) rfl rfl, fun U hU hW => ⟨rfl, zP_mk hP hK hU hW⟩⟩ rfl rfl hl.1 rfl (lv_room (Nat.le_of_ble_eq_true rfl)) dX0_heardVote_2 ⟨Nat.le_of_ble_eq_true rfl, Nat.le_of_ble_eq_true rfl⟩) (fun r1 w1 => ?_)
  subst w1
  refine lv_istore_n (lv' := [(2, .int (q_spk f4 f6 8 p0)), (0, .ref h), (1, .int p0)]) hx hb dX0_heardVote_5 rfl hl (by decide) rfl (fun ls hl => ?_)
  refine lv_iload_n hx hb dX0_heardVote_6 rfl (lv_at hl 0 rfl) ?_
  refine vp_callSi (W.runS (As := [.int (q_spk f4 f6 8 p0)]) (rest := []) ⟨hx, hb, hml, hown, hts⟩ (c_X0_isGiver l (q_spk f4 f6 8 p0)) (va_cwS 1 hts gX0_heardVote_X0_isGiver rfl rfl rfl (by decide +kernel) ⟨Nat.le_of_ble_eq_true rfl, Nat.le_of_ble_eq_true rfl⟩) ⟨zN_blind, fun U hU hW => ⟨rfl, trivial⟩⟩ rfl rfl hl.1 rfl (lv_room (Nat.le_of_ble_eq_true rfl)) dX0_heardVote_7 ⟨Nat.le_of_ble_eq_true rfl, Nat.le_of_ble_eq_true rfl⟩) (fun r2 w2 => ?_)
  cases hq2 : q_g (q_spk f4 f6 8 p0)
  · skip
    rw [hq2] at w2
    have w2 : r2 = 0 := w2
    subst w2
    refine lv_if_eq (tgt := 22) hx hb dX0_heardVote_10 (by decide) (fun _ => ?_) (fun c9 => False.elim (by revert c9; decide))
    refine lv_iconst (v := 0) hx hb dX0_heardVote_22 (by decide) ?_
    exact W.iret (v := 0) hx hb hr (fun t ht hW => ⟨0, rfl, (by simp [q_hrd, hq2]), ht⟩) (fun _ h => nomatch h) dX0_heardVote_23
  · skip
    rw [hq2] at w2
    have w2 : r2 = 1 := w2
    subst w2
    refine lv_if_eq (tgt := 22) hx hb dX0_heardVote_10 (by decide) (fun c9 => False.elim (by revert c9; decide)) (fun _ => ?_)
    refine lv_aload_n hx hb dX0_heardVote_13 rfl (lv_at hl 1 rfl) ?_
    refine va_get (D := D) (ci := 0) (v := .ref a6) (C := RX0) (T := TX0) (N := 15) hx hb hts hin hown hK hP 0 rfl rfl 6 (by decide) (hts (.fieldLink RX0 28 "Quorumfund" "votes" "[I") (by decide +kernel)) (fun _ h9 => h9) rfl dX0_heardVote_14 ?_
    refine lv_iload_n hx hb dX0_heardVote_17 rfl (lv_at hl 0 rfl) ?_
    refine va_iald (D := D) hx hb hK hP 7 0 rfl rfl (q_g_in hq2) dX0_heardVote_18 ?_
    refine lv_goto (tgt := 23) hx hb dX0_heardVote_19 (by decide) ?_
    exact W.iret (v := f6 (q_spk f4 f6 8 p0).toNatClampNeg) hx hb hr (fun t ht hW => ⟨f6 (q_spk f4 f6 8 p0).toNatClampNeg, rfl, (by simp [q_hrd, hq2]), ht⟩) (fun _ h => nomatch h) dX0_heardVote_23
set_option maxHeartbeats 4000000 in
set_option maxRecDepth 100000 in
theorem c_X0_weight (l : Launch) (D : va_G) (cI cZ cJ : ClassId) (h a0 a1 a2 a3 a4 a5 a6 a7 a8 a9 a10 : Nat) (f0 f1 f2 f3 f4 f5 f6 f7 f8 f9 f10 : Nat → Int32) (v0 v1 v2 v3 : Int32) (p0 : Int32) (hw : q_i p0 1 2 = true) : Met l yX0_weight wsX0_weight ({ frames := 3, cells := 0, slots := 0, locals := 65 }) (va_Pc [.ref h, .int p0] (zP D cI cZ cJ (wQ cI cZ h a0 a1 a2 a3 a4 a5 a6 a7 a8 a9 a10 f0 f1 f2 f3 f4 f5 f6 f7 f8 f9 f10 v0 v1 v2 v3))) (vp_Si (fun r : Int32 => r = q_wt f0 f4 f6 p0 8)) 0 0 (fun _ => False) := by
  refine Met.ofW (cc := cX0_weight) (maxL := 4) (ret := (some .int)) (by decide) rfl ?_
  intro p e s m args below meth c s₁ B hml hv
  obtain ⟨rfl, hP, hK⟩ := hv
  have hx := B.exec
  have hb := B.bytes
  have hr := B.returns
  have hts := atoms_spec (ws := wsX0_weight) B.pre
  have hown : s.vm.findClass RX0 = some m.cls := findClass_of_methodNamed B.named
  have hlocks := B.notSynchronized
  have hin : ∀ w ∈ wsX00, w ∈ wsX0_weight := by decide +kernel
  have hl := lv_entry ([.ref h, .int p0]) (n := 4) (Nat.le_of_ble_eq_true rfl)
  rw [lg_entry_eq]
  generalize (lg_sl ([.ref h, .int p0]) ++ List.replicate (4 - (lg_sl ([.ref h, .int p0])).length) Slot.unset).toArray = ls at hl ⊢
  have hl : lv_has ls 4 [(0, .ref h), (1, .int p0)] := hl
  refine lv_iload_n hx hb dX0_weight_0 rfl (lv_at hl 1 rfl) ?_
  refine lv_iconst (v := 1) hx hb dX0_weight_1 (by decide) ?_
  refine lv_icmp_eq (tgt := 20) hx hb dX0_weight_2 (by decide) (fun c1 => ?_) (fun c1 => ?_)
  · skip
    refine lv_iconst (v := 0) hx hb dX0_weight_20 (by decide) ?_
    refine lv_istore_n (lv' := [(2, .int 0), (0, .ref h), (1, .int p0)]) hx hb dX0_weight_21 rfl hl (by decide) rfl (fun ls hl => ?_)
    refine lv_iconst (v := 0) hx hb dX0_weight_22 (by decide) ?_
    refine lv_istore_n (lv' := [(3, .int 0), (2, .int 0), (0, .ref h), (1, .int p0)]) hx hb dX0_weight_23 rfl hl (by decide) rfl (fun ls hl => ?_)
    have hloop24 : ∀ (n24 : Nat) (i : Nat) (x : Int32), (9 ≤ i + n24) → (i ≤ 8) → (x = q_wt f0 f4 f6 p0 i) → ∀ (ls : Array Slot), lv_has ls 4 [(3, .int (nI i)), (2, .int x), (0, .ref h), (1, .int p0)] → W p l e (headSpec wsX0_weight ({ frames := 3, cells := 0, slots := 0, locals := 65 })).room s m ([Value.ref h, Value.int p0] : List Value).toArray below meth c s.heap [] 0 0 (MQ below (vp_Si (fun r : Int32 => r = q_wt f0 f4 f6 p0 8)) ([Value.ref h, Value.int p0] : List Value).toArray s 0 0 (fun _ => False)) (F0 m 24 ls []) := by
      intro n24
      induction n24 with
      | zero => intro i x hn hi ex; exact False.elim (by omega)
      | succ n24 ih24 =>
        intro i x hn hi ex ls hl
        refine lv_iload_n hx hb dX0_weight_24 rfl (lv_at hl 0 rfl) ?_
        refine lv_bipush (v := 8) hx hb dX0_weight_25 (by decide) ?_
        refine lv_icmp_ge (tgt := 54) hx hb dX0_weight_27 (by decide) (fun c2 => ?_) (fun c2 => ?_)
        · skip
          have hj := z_ge8 hi c2
          subst hj
          refine lv_iload_n hx hb dX0_weight_54 rfl (lv_at hl 1 rfl) ?_
          exact W.iret (v := x) hx hb hr (fun t ht hW => ⟨x, rfl, ex, ht⟩) (fun _ h => nomatch h) dX0_weight_55
        · skip
          have hj := z_lt8 hi c2
          refine lv_aload_n hx hb dX0_weight_30 rfl (lv_at hl 2 rfl) ?_
          refine lv_iload_n hx hb dX0_weight_31 rfl (lv_at hl 0 rfl) ?_
          refine vp_callSi (W.runV (As := [.int (nI i)]) (rest := []) ⟨hx, hb, hml, hown, hts⟩ (c_X0_heardVote l D cI cZ cJ h a0 a1 a2 a3 a4 a5 a6 a7 a8 a9 a10 f0 f1 f2 f3 f4 f5 f6 f7 f8 f9 f10 v0 v1 v2 v3 (nI i)) (cwV 1 hts gX0_weight_X0_heardVote rfl rfl rfl (by decide +kernel) ⟨Nat.le_of_ble_eq_true rfl, Nat.le_of_ble_eq_true rfl⟩) ⟨zP_blind, va_recv hK hP (ci := 0) (q0 := 0) rfl rfl, fun U hU hW => ⟨rfl, zP_mk hP hK hU hW⟩⟩ rfl rfl hl.1 rfl (lv_room (Nat.le_of_ble_eq_true rfl)) dX0_weight_32 ⟨Nat.le_of_ble_eq_true rfl, Nat.le_of_ble_eq_true rfl⟩) (fun r3 w3 => ?_)
          subst w3
          refine lv_iload_n hx hb dX0_weight_35 rfl (lv_at hl 3 rfl) ?_
          refine lv_icmp_ne (tgt := 48) hx hb dX0_weight_36 (by decide) (fun c4 => ?_) (fun c4 => ?_)
          · skip
            refine lv_iinc (v := nI (i + 1)) (lv' := [(3, .int (nI (i + 1))), (2, .int x), (0, .ref h), (1, .int p0)]) hx hb dX0_weight_48 hl (k := 0) rfl (nI_1 _) (by decide) rfl (fun ls hl => ?_)
            refine lv_goto (tgt := 24) hx hb dX0_weight_51 (by decide) ?_
            exact ih24 (i + 1) x (by omega) (by omega) (by rw [ex, q_wt]; simp [c4]) ls (lv_sub hl [0, 1, 2, 3] rfl)
          · skip
            refine lv_iload_n hx hb dX0_weight_39 rfl (lv_at hl 1 rfl) ?_
            refine lv_aload_n hx hb dX0_weight_40 rfl (lv_at hl 2 rfl) ?_
            refine va_get (D := D) (ci := 0) (v := .ref a0) (C := RX0) (T := TX0) (N := 15) hx hb hts hin hown hK hP 0 rfl rfl 0 (by decide) (hts (.fieldLink RX0 9 "Quorumfund" "kept" "[I") (by decide +kernel)) (fun _ h9 => h9) rfl dX0_weight_41 ?_
            refine lv_iload_n hx hb dX0_weight_44 rfl (lv_at hl 0 rfl) ?_
            refine va_iald (D := D) hx hb hK hP 1 0 rfl rfl (z_in8 hj) dX0_weight_45 ?_
            refine lv_iadd hx hb dX0_weight_46 ?_
            refine lv_istore_n (lv' := [(2, .int (x + (f0 (nI i).toNatClampNeg))), (3, .int (nI i)), (0, .ref h), (1, .int p0)]) hx hb dX0_weight_47 rfl hl (by decide) rfl (fun ls hl => ?_)
            refine lv_iinc (v := nI (i + 1)) (lv' := [(3, .int (nI (i + 1))), (2, .int (x + (f0 (nI i).toNatClampNeg))), (0, .ref h), (1, .int p0)]) hx hb dX0_weight_48 hl (k := 1) rfl (nI_1 _) (by decide) rfl (fun ls hl => ?_)
            refine lv_goto (tgt := 24) hx hb dX0_weight_51 (by decide) ?_
            exact ih24 (i + 1) (x + (f0 (nI i).toNatClampNeg)) (by omega) (by omega) (by rw [ex, z_cl hj, q_wt]; simp [c4]) ls (lv_sub hl [0, 1, 2, 3] rfl)
    exact hloop24 9 0 0 (by omega) (by omega) rfl ls (lv_sub hl [0, 1, 2, 3] rfl)
  · skip
    refine lv_iload_n hx hb dX0_weight_5 rfl (lv_at hl 1 rfl) ?_
    refine lv_iconst (v := 2) hx hb dX0_weight_6 (by decide) ?_
    refine lv_icmp_eq (tgt := 20) hx hb dX0_weight_7 (by decide) (fun c5 => ?_) (fun c5 => False.elim (by exact (z_12 hw).elim c1 c5))
    refine lv_iconst (v := 0) hx hb dX0_weight_20 (by decide) ?_
    refine lv_istore_n (lv' := [(2, .int 0), (0, .ref h), (1, .int p0)]) hx hb dX0_weight_21 rfl hl (by decide) rfl (fun ls hl => ?_)
    refine lv_iconst (v := 0) hx hb dX0_weight_22 (by decide) ?_
    refine lv_istore_n (lv' := [(3, .int 0), (2, .int 0), (0, .ref h), (1, .int p0)]) hx hb dX0_weight_23 rfl hl (by decide) rfl (fun ls hl => ?_)
    have hloop24 : ∀ (n24 : Nat) (i : Nat) (x : Int32), (9 ≤ i + n24) → (i ≤ 8) → (x = q_wt f0 f4 f6 p0 i) → ∀ (ls : Array Slot), lv_has ls 4 [(3, .int (nI i)), (2, .int x), (0, .ref h), (1, .int p0)] → W p l e (headSpec wsX0_weight ({ frames := 3, cells := 0, slots := 0, locals := 65 })).room s m ([Value.ref h, Value.int p0] : List Value).toArray below meth c s.heap [] 0 0 (MQ below (vp_Si (fun r : Int32 => r = q_wt f0 f4 f6 p0 8)) ([Value.ref h, Value.int p0] : List Value).toArray s 0 0 (fun _ => False)) (F0 m 24 ls []) := by
      intro n24
      induction n24 with
      | zero => intro i x hn hi ex; exact False.elim (by omega)
      | succ n24 ih24 =>
        intro i x hn hi ex ls hl
        refine lv_iload_n hx hb dX0_weight_24 rfl (lv_at hl 0 rfl) ?_
        refine lv_bipush (v := 8) hx hb dX0_weight_25 (by decide) ?_
        refine lv_icmp_ge (tgt := 54) hx hb dX0_weight_27 (by decide) (fun c6 => ?_) (fun c6 => ?_)
        · skip
          have hj := z_ge8 hi c6
          subst hj
          refine lv_iload_n hx hb dX0_weight_54 rfl (lv_at hl 1 rfl) ?_
          exact W.iret (v := x) hx hb hr (fun t ht hW => ⟨x, rfl, ex, ht⟩) (fun _ h => nomatch h) dX0_weight_55
        · skip
          have hj := z_lt8 hi c6
          refine lv_aload_n hx hb dX0_weight_30 rfl (lv_at hl 2 rfl) ?_
          refine lv_iload_n hx hb dX0_weight_31 rfl (lv_at hl 0 rfl) ?_
          refine vp_callSi (W.runV (As := [.int (nI i)]) (rest := []) ⟨hx, hb, hml, hown, hts⟩ (c_X0_heardVote l D cI cZ cJ h a0 a1 a2 a3 a4 a5 a6 a7 a8 a9 a10 f0 f1 f2 f3 f4 f5 f6 f7 f8 f9 f10 v0 v1 v2 v3 (nI i)) (cwV 1 hts gX0_weight_X0_heardVote rfl rfl rfl (by decide +kernel) ⟨Nat.le_of_ble_eq_true rfl, Nat.le_of_ble_eq_true rfl⟩) ⟨zP_blind, va_recv hK hP (ci := 0) (q0 := 0) rfl rfl, fun U hU hW => ⟨rfl, zP_mk hP hK hU hW⟩⟩ rfl rfl hl.1 rfl (lv_room (Nat.le_of_ble_eq_true rfl)) dX0_weight_32 ⟨Nat.le_of_ble_eq_true rfl, Nat.le_of_ble_eq_true rfl⟩) (fun r7 w7 => ?_)
          subst w7
          refine lv_iload_n hx hb dX0_weight_35 rfl (lv_at hl 3 rfl) ?_
          refine lv_icmp_ne (tgt := 48) hx hb dX0_weight_36 (by decide) (fun c8 => ?_) (fun c8 => ?_)
          · skip
            refine lv_iinc (v := nI (i + 1)) (lv' := [(3, .int (nI (i + 1))), (2, .int x), (0, .ref h), (1, .int p0)]) hx hb dX0_weight_48 hl (k := 0) rfl (nI_1 _) (by decide) rfl (fun ls hl => ?_)
            refine lv_goto (tgt := 24) hx hb dX0_weight_51 (by decide) ?_
            exact ih24 (i + 1) x (by omega) (by omega) (by rw [ex, q_wt]; simp [c8]) ls (lv_sub hl [0, 1, 2, 3] rfl)
          · skip
            refine lv_iload_n hx hb dX0_weight_39 rfl (lv_at hl 1 rfl) ?_
            refine lv_aload_n hx hb dX0_weight_40 rfl (lv_at hl 2 rfl) ?_
            refine va_get (D := D) (ci := 0) (v := .ref a0) (C := RX0) (T := TX0) (N := 15) hx hb hts hin hown hK hP 0 rfl rfl 0 (by decide) (hts (.fieldLink RX0 9 "Quorumfund" "kept" "[I") (by decide +kernel)) (fun _ h9 => h9) rfl dX0_weight_41 ?_
            refine lv_iload_n hx hb dX0_weight_44 rfl (lv_at hl 0 rfl) ?_
            refine va_iald (D := D) hx hb hK hP 1 0 rfl rfl (z_in8 hj) dX0_weight_45 ?_
            refine lv_iadd hx hb dX0_weight_46 ?_
            refine lv_istore_n (lv' := [(2, .int (x + (f0 (nI i).toNatClampNeg))), (3, .int (nI i)), (0, .ref h), (1, .int p0)]) hx hb dX0_weight_47 rfl hl (by decide) rfl (fun ls hl => ?_)
            refine lv_iinc (v := nI (i + 1)) (lv' := [(3, .int (nI (i + 1))), (2, .int (x + (f0 (nI i).toNatClampNeg))), (0, .ref h), (1, .int p0)]) hx hb dX0_weight_48 hl (k := 1) rfl (nI_1 _) (by decide) rfl (fun ls hl => ?_)
            refine lv_goto (tgt := 24) hx hb dX0_weight_51 (by decide) ?_
            exact ih24 (i + 1) (x + (f0 (nI i).toNatClampNeg)) (by omega) (by omega) (by rw [ex, z_cl hj, q_wt]; simp [c8]) ls (lv_sub hl [0, 1, 2, 3] rfl)
    exact hloop24 9 0 0 (by omega) (by omega) rfl ls (lv_sub hl [0, 1, 2, 3] rfl)
set_option maxHeartbeats 4000000 in
set_option maxRecDepth 100000 in
theorem c_X0_weight_t (l : Launch) (hl0 : l.stackTraces = false) (D : va_G) (cI cZ cJ : ClassId) (h a0 a1 a2 a3 a4 a5 a6 a7 a8 a9 a10 : Nat) (f0 f1 f2 f3 f4 f5 f6 f7 f8 f9 f10 : Nat → Int32) (v0 v1 v2 v3 : Int32) (p0 : Int32) (hw : q_i p0 1 2 = false) : vx_Met l yX0_weight wsX0_weight ({ frames := 6, cells := 1, slots := 6, locals := 90 }) (va_Pc [.ref h, .int p0] (zPX D cI cZ cJ (wQ cI cZ h a0 a1 a2 a3 a4 a5 a6 a7 a8 a9 a10 f0 f1 f2 f3 f4 f5 f6 f7 f8 f9 f10 v0 v1 v2 v3))) zNo (zXC (fun E => E = "java/lang/IllegalArgumentException")) 1 6 (fun _ => False) := by
  refine vx_ofW (cc := cX0_weight) (maxL := 4) (ret := (some .int)) (by decide) rfl ?_
  intro p e s m args below meth c s₁ B hml hout hv
  obtain ⟨rfl, hZ, hP, hK⟩ := hv
  have hx := B.exec
  have hb := B.bytes
  have hr := B.returns
  have hts := atoms_spec (ws := wsX0_weight) B.pre
  have hown : s.vm.findClass RX0 = some m.cls := findClass_of_methodNamed B.named
  have hlocks := B.notSynchronized
  have hin : ∀ w ∈ wsX00, w ∈ wsX0_weight := by decide +kernel
  have hl := lv_entry ([.ref h, .int p0]) (n := 4) (Nat.le_of_ble_eq_true rfl)
  rw [lg_entry_eq]
  generalize (lg_sl ([.ref h, .int p0]) ++ List.replicate (4 - (lg_sl ([.ref h, .int p0])).length) Slot.unset).toArray = ls at hl ⊢
  have hl : lv_has ls 4 [(0, .ref h), (1, .int p0)] := hl
  refine lv_iload_n hx hb dX0_weight_0 rfl (lv_at hl 1 rfl) ?_
  refine lv_iconst (v := 1) hx hb dX0_weight_1 (by decide) ?_
  refine lv_icmp_eq (tgt := 20) hx hb dX0_weight_2 (by decide) (fun c1 => False.elim (by subst c1; exact absurd hw (by decide))) (fun c1 => ?_)
  refine lv_iload_n hx hb dX0_weight_5 rfl (lv_at hl 1 rfl) ?_
  refine lv_iconst (v := 2) hx hb dX0_weight_6 (by decide) ?_
  refine lv_icmp_eq (tgt := 20) hx hb dX0_weight_7 (by decide) (fun c2 => False.elim (by subst c2; exact absurd hw (by decide))) (fun c2 => ?_)
  obtain ⟨sa, hsa⟩ := hZ.2.1 (105, "neither yes nor no") (by decide)
  exact z_throw (Qc := zNo) (own := RX0) (cls := "java/lang/IllegalArgumentException") (ik := 90) (is := 105) (ic := 94) (text := "neither yes nor no") hx hb hl0 hown (by decide +kernel) (hts (.classLink RX0 90 "java/lang/IllegalArgumentException") (by decide +kernel)) (hts (.initialized "java/lang/IllegalArgumentException") (by decide +kernel)) hsa hts (by decide +kernel) (by decide +kernel) hZ.1 hZ.2.2.2.1 hZ.2.2.2.2 hl.1 hml dX0_weight_10 dX0_weight_13 dX0_weight_14 dX0_weight_16 dX0_weight_19 (fun x h => (hout x h).elim) (Nat.le_of_ble_eq_true rfl) (Nat.le_of_ble_eq_true rfl) (Nat.le_of_ble_eq_true rfl) (Nat.le_of_ble_eq_true rfl) hlocks
set_option maxHeartbeats 4000000 in
set_option maxRecDepth 100000 in
theorem c_X0_speaker (l : Launch) (D : va_G) (cI cZ cJ : ClassId) (h a0 a1 a2 a3 a4 a5 a6 a7 a8 a9 a10 : Nat) (f0 f1 f2 f3 f4 f5 f6 f7 f8 f9 f10 : Nat → Int32) (v0 v1 v2 v3 : Int32) (p0 : Int32) (hg : q_g p0 = true) : Met l yX0_speaker wsX0_speaker ({ frames := 2, cells := 0, slots := 0, locals := 43 }) (va_Pc [.ref h, .int p0] (zP D cI cZ cJ (wQ cI cZ h a0 a1 a2 a3 a4 a5 a6 a7 a8 a9 a10 f0 f1 f2 f3 f4 f5 f6 f7 f8 f9 f10 v0 v1 v2 v3))) (vp_Si (fun r : Int32 => r = q_spk f4 f6 8 p0)) 0 0 (fun _ => False) := by
  refine Met.ofW (cc := cX0_speaker) (maxL := 2) (ret := (some .int)) (by decide) rfl ?_
  intro p e s m args below meth c s₁ B hml hv
  obtain ⟨rfl, hP, hK⟩ := hv
  have hx := B.exec
  have hb := B.bytes
  have hr := B.returns
  have hts := atoms_spec (ws := wsX0_speaker) B.pre
  have hown : s.vm.findClass RX0 = some m.cls := findClass_of_methodNamed B.named
  have hlocks := B.notSynchronized
  have hl := lv_entry ([.ref h, .int p0]) (n := 2) (Nat.le_of_ble_eq_true rfl)
  rw [lg_entry_eq]
  generalize (lg_sl ([.ref h, .int p0]) ++ List.replicate (2 - (lg_sl ([.ref h, .int p0])).length) Slot.unset).toArray = ls at hl ⊢
  have hl : lv_has ls 2 [(0, .ref h), (1, .int p0)] := hl
  refine lv_iload_n hx hb dX0_speaker_0 rfl (lv_at hl 1 rfl) ?_
  refine va_csv (W.runS (As := [.int p0]) (rest := []) ⟨hx, hb, hml, hown, hts⟩ (c_X0_requireGiver l p0 hg) (va_cwS 1 hts gX0_speaker_X0_requireGiver rfl rfl rfl (by decide +kernel) ⟨Nat.le_of_ble_eq_true rfl, Nat.le_of_ble_eq_true rfl⟩) ⟨zN_blind, fun U hU hW => ⟨rfl, trivial⟩⟩ rfl rfl hl.1 rfl (lv_room (Nat.le_of_ble_eq_true rfl)) dX0_speaker_1 ⟨Nat.le_of_ble_eq_true rfl, Nat.le_of_ble_eq_true rfl⟩) (fun w1 => ?_)
  refine lv_aload_n hx hb dX0_speaker_4 rfl (lv_at hl 0 rfl) ?_
  refine lv_iload_n hx hb dX0_speaker_5 rfl (lv_at hl 1 rfl) ?_
  refine vp_callSi (W.runV (As := [.int p0]) (rest := []) ⟨hx, hb, hml, hown, hts⟩ (c_X0_firstVoterFrom l D cI cZ cJ h a0 a1 a2 a3 a4 a5 a6 a7 a8 a9 a10 f0 f1 f2 f3 f4 f5 f6 f7 f8 f9 f10 v0 v1 v2 v3 p0) (cwV 1 hts gX0_speaker_X0_firstVoterFrom rfl rfl rfl (by decide +kernel) ⟨Nat.le_of_ble_eq_true rfl, Nat.le_of_ble_eq_true rfl⟩) ⟨zP_blind, va_recv hK hP (ci := 0) (q0 := 0) rfl rfl, fun U hU hW => ⟨rfl, zP_mk hP hK hU hW⟩⟩ rfl rfl hl.1 rfl (lv_room (Nat.le_of_ble_eq_true rfl)) dX0_speaker_6 ⟨Nat.le_of_ble_eq_true rfl, Nat.le_of_ble_eq_true rfl⟩) (fun r2 w2 => ?_)
  subst w2
  exact W.iret (v := q_spk f4 f6 8 p0) hx hb hr (fun t ht hW => ⟨q_spk f4 f6 8 p0, rfl, rfl, ht⟩) (fun _ h => nomatch h) dX0_speaker_9
set_option maxHeartbeats 4000000 in
set_option maxRecDepth 100000 in
theorem c_X0_speaker_t (l : Launch) (hl0 : l.stackTraces = false) (D : va_G) (cI cZ cJ : ClassId) (h a0 a1 a2 a3 a4 a5 a6 a7 a8 a9 a10 : Nat) (f0 f1 f2 f3 f4 f5 f6 f7 f8 f9 f10 : Nat → Int32) (v0 v1 v2 v3 : Int32) (p0 : Int32) (hg : q_g p0 = false) : vx_Met l yX0_speaker wsX0_speaker ({ frames := 7, cells := 1, slots := 6, locals := 110 }) (va_Pc [.ref h, .int p0] (zPX D cI cZ cJ (wQ cI cZ h a0 a1 a2 a3 a4 a5 a6 a7 a8 a9 a10 f0 f1 f2 f3 f4 f5 f6 f7 f8 f9 f10 v0 v1 v2 v3))) zNo (zXC (fun E => E = "java/lang/IndexOutOfBoundsException")) 1 6 (fun _ => False) := by
  refine vx_ofW (cc := cX0_speaker) (maxL := 2) (ret := (some .int)) (by decide) rfl ?_
  intro p e s m args below meth c s₁ B hml hout hv
  obtain ⟨rfl, hZ, hP, hK⟩ := hv
  have hx := B.exec
  have hb := B.bytes
  have hr := B.returns
  have hts := atoms_spec (ws := wsX0_speaker) B.pre
  have hown : s.vm.findClass RX0 = some m.cls := findClass_of_methodNamed B.named
  have hlocks := B.notSynchronized
  have hl := lv_entry ([.ref h, .int p0]) (n := 2) (Nat.le_of_ble_eq_true rfl)
  rw [lg_entry_eq]
  generalize (lg_sl ([.ref h, .int p0]) ++ List.replicate (2 - (lg_sl ([.ref h, .int p0])).length) Slot.unset).toArray = ls at hl ⊢
  have hl : lv_has ls 2 [(0, .ref h), (1, .int p0)] := hl
  refine lv_iload_n hx hb dX0_speaker_0 rfl (lv_at hl 1 rfl) ?_
  exact z_thru (vx_runS (As := [.int p0]) (rest := []) ⟨hx, hb, hml, hown, hts⟩ (c_X0_requireGiver_t l hl0 p0 hg) (va_cwS 1 hts gX0_speaker_X0_requireGiver rfl rfl rfl (by decide +kernel) ⟨Nat.le_of_ble_eq_true rfl, Nat.le_of_ble_eq_true rfl⟩) ⟨zXs_blind, fun U hU hW => ⟨rfl, zX_at hZ hU hW⟩⟩ rfl rfl hl.1 rfl (lv_room (Nat.le_of_ble_eq_true rfl)) dX0_speaker_1 ⟨Nat.le_of_ble_eq_true rfl, Nat.le_of_ble_eq_true rfl⟩) (fun _ h => h) hout hlocks (fun _ h => h)
set_option maxHeartbeats 4000000 in
set_option maxRecDepth 100000 in
theorem c_X0_trust (l : Launch) (D : va_G) (cI cZ cJ : ClassId) (sz : Nat) (h a0 a1 a2 a3 a4 a5 a6 a7 a8 a9 a10 : Nat) (f0 f1 f2 f3 f4 f5 f6 f7 f8 f9 f10 : Nat → Int32) (v0 v1 v2 v3 : Int32) (p0 p1 : Int32) (hg : q_g p0 = true) (ho : (decide (p1 = -1) || q_g p1) = true) (hle : q_lead f4 8 p1 p0 = false) : Met l yX0_trust wsX0_trust ({ frames := 2, cells := 0, slots := 0, locals := 44 }) (va_Pc [.ref h, .int p0, .int p1] (zD D cI cZ cJ sz (wQ cI cZ h a0 a1 a2 a3 a4 a5 a6 a7 a8 a9 a10 f0 f1 f2 f3 f4 f5 f6 f7 f8 f9 f10 v0 v1 v2 v3))) (va_Qi (fun (r : Int32) (u : (Nat → Int32)) => r = f4 p0.toNatClampNeg ∧ u = upd f4 p0.toNatClampNeg p1) (fun u t => zB D cI cZ cJ (va_A (wQ cI cZ h a0 a1 a2 a3 a4 a5 a6 a7 a8 a9 a10 f0 f1 f2 f3 f4 f5 f6 f7 f8 f9 f10 v0 v1 v2 v3) sz) (wQ cI cZ h a0 a1 a2 a3 a4 a5 a6 a7 a8 a9 a10 f0 f1 f2 f3 u f5 f6 f7 f8 f9 f10 v0 v1 v2 v3) t) (va_A (wQ cI cZ h a0 a1 a2 a3 a4 a5 a6 a7 a8 a9 a10 f0 f1 f2 f3 f4 f5 f6 f7 f8 f9 f10 v0 v1 v2 v3) sz)) 0 0 (va_A (wQ cI cZ h a0 a1 a2 a3 a4 a5 a6 a7 a8 a9 a10 f0 f1 f2 f3 f4 f5 f6 f7 f8 f9 f10 v0 v1 v2 v3) sz) := by
  refine Met.ofW (cc := cX0_trust) (maxL := 4) (ret := (some .int)) (by decide) rfl ?_
  intro p e s m args below meth c s₁ B hml hv
  obtain ⟨rfl, hsz, hP, hK, hD0⟩ := hv
  have hx := B.exec
  have hb := B.bytes
  have hr := B.returns
  have hts := atoms_spec (ws := wsX0_trust) B.pre
  have hown : s.vm.findClass RX0 = some m.cls := findClass_of_methodNamed B.named
  have hlocks := B.notSynchronized
  have hin : ∀ w ∈ wsX00, w ∈ wsX0_trust := by decide +kernel
  subst hsz
  have hD := hD0.self (sz := s.heap.size)
  generalize hAe : va_A (wQ cI cZ h a0 a1 a2 a3 a4 a5 a6 a7 a8 a9 a10 f0 f1 f2 f3 f4 f5 f6 f7 f8 f9 f10 v0 v1 v2 v3) s.heap.size = A at hD ⊢
  have hA : ∀ q : Nat, s.heap.size ≤ q → A q := fun q h => by rw [← hAe]; exact Or.inr h
  have hS : va_S A s.heap s.heap [] := va_S.rf
  have hl := lv_entry ([.ref h, .int p0, .int p1]) (n := 4) (Nat.le_of_ble_eq_true rfl)
  rw [lg_entry_eq]
  generalize (lg_sl ([.ref h, .int p0, .int p1]) ++ List.replicate (4 - (lg_sl ([.ref h, .int p0, .int p1])).length) Slot.unset).toArray = ls at hl ⊢
  have hl : lv_has ls 4 [(0, .ref h), (1, .int p0), (2, .int p1)] := hl
  refine lv_iload_n hx hb dX0_trust_0 rfl (lv_at hl 1 rfl) ?_
  refine va_csv (W.runS (As := [.int p0]) (rest := []) ⟨hx, hb, hml, hown, hts⟩ (c_X0_requireGiver l p0 hg) (va_cwS 1 hts gX0_trust_X0_requireGiver rfl rfl rfl (by decide +kernel) ⟨Nat.le_of_ble_eq_true rfl, Nat.le_of_ble_eq_true rfl⟩) ⟨zN_blind, fun U hU hW => ⟨rfl, trivial⟩⟩ rfl rfl hl.1 rfl (lv_room (Nat.le_of_ble_eq_true rfl)) dX0_trust_1 ⟨Nat.le_of_ble_eq_true rfl, Nat.le_of_ble_eq_true rfl⟩) (fun w1 => ?_)
  refine lv_iload_n hx hb dX0_trust_4 rfl (lv_at hl 2 rfl) ?_
  refine lv_iconst (v := (-1)) hx hb dX0_trust_5 (by decide) ?_
  refine lv_icmp_eq (tgt := 13) hx hb dX0_trust_6 (by decide) (fun c2 => ?_) (fun c2 => ?_)
  · skip
    refine lv_aload_n hx hb dX0_trust_13 rfl (lv_at hl 0 rfl) ?_
    refine lv_iload_n hx hb dX0_trust_14 rfl (lv_at hl 2 rfl) ?_
    refine lv_iload_n hx hb dX0_trust_15 rfl (lv_at hl 1 rfl) ?_
    refine vp_callSi (W.runV (As := [.int p1, .int p0]) (rest := []) ⟨hx, hb, hml, hown, hts⟩ (c_X0_leadsTo l D cI cZ cJ h a0 a1 a2 a3 a4 a5 a6 a7 a8 a9 a10 f0 f1 f2 f3 f4 f5 f6 f7 f8 f9 f10 v0 v1 v2 v3 p1 p0) (cwV 2 hts gX0_trust_X0_leadsTo rfl rfl rfl (by decide +kernel) ⟨Nat.le_of_ble_eq_true rfl, Nat.le_of_ble_eq_true rfl⟩) ⟨zP_blind, va_recv hK hP (ci := 0) (q0 := 0) rfl rfl, fun U hU hW => ⟨rfl, zP_mk hP hK hU hW⟩⟩ rfl rfl hl.1 rfl (lv_room (Nat.le_of_ble_eq_true rfl)) dX0_trust_16 ⟨Nat.le_of_ble_eq_true rfl, Nat.le_of_ble_eq_true rfl⟩) (fun r3 w3 => ?_)
    have w3 : r3 = 0 := by rw [w3, hle]; rfl
    subst w3
    refine lv_if_eq (tgt := 32) hx hb dX0_trust_19 (by decide) (fun _ => ?_) (fun c9 => False.elim (by revert c9; decide))
    refine lv_aload_n hx hb dX0_trust_32 rfl (lv_at hl 0 rfl) ?_
    refine va_get (D := D) (ci := 0) (v := .ref a4) (C := RX0) (T := TX0) (N := 15) hx hb hts hin hown hK hP 0 rfl rfl 4 (by decide) (hts (.fieldLink RX0 22 "Quorumfund" "trusted" "[I") (by decide +kernel)) (fun _ h9 => h9) rfl dX0_trust_33 ?_
    refine lv_iload_n hx hb dX0_trust_36 rfl (lv_at hl 1 rfl) ?_
    refine va_iald (D := D) hx hb hK hP 5 0 rfl rfl (q_g_in hg) dX0_trust_37 ?_
    refine lv_istore_n (lv' := [(3, .int (f4 p0.toNatClampNeg)), (0, .ref h), (1, .int p0), (2, .int p1)]) hx hb dX0_trust_38 rfl hl (by decide) rfl (fun ls hl => ?_)
    refine lv_aload_n hx hb dX0_trust_39 rfl (lv_at hl 1 rfl) ?_
    refine va_get (D := D) (ci := 0) (v := .ref a4) (C := RX0) (T := TX0) (N := 15) hx hb hts hin hown hK hP 0 rfl rfl 4 (by decide) (hts (.fieldLink RX0 22 "Quorumfund" "trusted" "[I") (by decide +kernel)) (fun _ h9 => h9) rfl dX0_trust_40 ?_
    refine lv_iload_n hx hb dX0_trust_43 rfl (lv_at hl 2 rfl) ?_
    refine lv_iload_n hx hb dX0_trust_44 rfl (lv_at hl 3 rfl) ?_
    refine va_iast (D := D) hx hb hK hP hD hS 5 0 rfl rfl (q_g_in hg) dX0_trust_45 (fun H locs hP hD hS => ?_)
    have hP : va_P D vwCl (wQ cI cZ h a0 a1 a2 a3 a4 a5 a6 a7 a8 a9 a10 f0 f1 f2 f3 (upd f4 p0.toNatClampNeg p1) f5 f6 f7 f8 f9 f10 v0 v1 v2 v3) H := hP
    have hD : va_D A (wQ cI cZ h a0 a1 a2 a3 a4 a5 a6 a7 a8 a9 a10 f0 f1 f2 f3 (upd f4 p0.toNatClampNeg p1) f5 f6 f7 f8 f9 f10 v0 v1 v2 v3) := hD
    refine lv_iload_n hx hb dX0_trust_46 rfl (lv_at hl 0 rfl) ?_
    exact W.iret (v := f4 p0.toNatClampNeg) hx hb hr (fun t ht hW => ⟨⟨f4 p0.toNatClampNeg, (upd f4 p0.toNatClampNeg p1), rfl, ⟨rfl, rfl⟩, ⟨by rw [ht]; exact hP, va_K.moved hW.alike hK, hD⟩⟩, hS.F ht⟩) hS.2.2 dX0_trust_47
  · skip
    refine lv_iload_n hx hb dX0_trust_9 rfl (lv_at hl 2 rfl) ?_
    refine va_csv (W.runS (As := [.int p1]) (rest := []) ⟨hx, hb, hml, hown, hts⟩ (c_X0_requireGiver l p1 (by simpa [c2] using ho)) (va_cwS 1 hts gX0_trust_X0_requireGiver rfl rfl rfl (by decide +kernel) ⟨Nat.le_of_ble_eq_true rfl, Nat.le_of_ble_eq_true rfl⟩) ⟨zN_blind, fun U hU hW => ⟨rfl, trivial⟩⟩ rfl rfl hl.1 rfl (lv_room (Nat.le_of_ble_eq_true rfl)) dX0_trust_10 ⟨Nat.le_of_ble_eq_true rfl, Nat.le_of_ble_eq_true rfl⟩) (fun w5 => ?_)
    refine lv_aload_n hx hb dX0_trust_13 rfl (lv_at hl 0 rfl) ?_
    refine lv_iload_n hx hb dX0_trust_14 rfl (lv_at hl 2 rfl) ?_
    refine lv_iload_n hx hb dX0_trust_15 rfl (lv_at hl 1 rfl) ?_
    refine vp_callSi (W.runV (As := [.int p1, .int p0]) (rest := []) ⟨hx, hb, hml, hown, hts⟩ (c_X0_leadsTo l D cI cZ cJ h a0 a1 a2 a3 a4 a5 a6 a7 a8 a9 a10 f0 f1 f2 f3 f4 f5 f6 f7 f8 f9 f10 v0 v1 v2 v3 p1 p0) (cwV 2 hts gX0_trust_X0_leadsTo rfl rfl rfl (by decide +kernel) ⟨Nat.le_of_ble_eq_true rfl, Nat.le_of_ble_eq_true rfl⟩) ⟨zP_blind, va_recv hK hP (ci := 0) (q0 := 0) rfl rfl, fun U hU hW => ⟨rfl, zP_mk hP hK hU hW⟩⟩ rfl rfl hl.1 rfl (lv_room (Nat.le_of_ble_eq_true rfl)) dX0_trust_16 ⟨Nat.le_of_ble_eq_true rfl, Nat.le_of_ble_eq_true rfl⟩) (fun r6 w6 => ?_)
    have w6 : r6 = 0 := by rw [w6, hle]; rfl
    subst w6
    refine lv_if_eq (tgt := 32) hx hb dX0_trust_19 (by decide) (fun _ => ?_) (fun c9 => False.elim (by revert c9; decide))
    refine lv_aload_n hx hb dX0_trust_32 rfl (lv_at hl 0 rfl) ?_
    refine va_get (D := D) (ci := 0) (v := .ref a4) (C := RX0) (T := TX0) (N := 15) hx hb hts hin hown hK hP 0 rfl rfl 4 (by decide) (hts (.fieldLink RX0 22 "Quorumfund" "trusted" "[I") (by decide +kernel)) (fun _ h9 => h9) rfl dX0_trust_33 ?_
    refine lv_iload_n hx hb dX0_trust_36 rfl (lv_at hl 1 rfl) ?_
    refine va_iald (D := D) hx hb hK hP 5 0 rfl rfl (q_g_in hg) dX0_trust_37 ?_
    refine lv_istore_n (lv' := [(3, .int (f4 p0.toNatClampNeg)), (0, .ref h), (1, .int p0), (2, .int p1)]) hx hb dX0_trust_38 rfl hl (by decide) rfl (fun ls hl => ?_)
    refine lv_aload_n hx hb dX0_trust_39 rfl (lv_at hl 1 rfl) ?_
    refine va_get (D := D) (ci := 0) (v := .ref a4) (C := RX0) (T := TX0) (N := 15) hx hb hts hin hown hK hP 0 rfl rfl 4 (by decide) (hts (.fieldLink RX0 22 "Quorumfund" "trusted" "[I") (by decide +kernel)) (fun _ h9 => h9) rfl dX0_trust_40 ?_
    refine lv_iload_n hx hb dX0_trust_43 rfl (lv_at hl 2 rfl) ?_
    refine lv_iload_n hx hb dX0_trust_44 rfl (lv_at hl 3 rfl) ?_
    refine va_iast (D := D) hx hb hK hP hD hS 5 0 rfl rfl (q_g_in hg) dX0_trust_45 (fun H locs hP hD hS => ?_)
    have hP : va_P D vwCl (wQ cI cZ h a0 a1 a2 a3 a4 a5 a6 a7 a8 a9 a10 f0 f1 f2 f3 (upd f4 p0.toNatClampNeg p1) f5 f6 f7 f8 f9 f10 v0 v1 v2 v3) H := hP
    have hD : va_D A (wQ cI cZ h a0 a1 a2 a3 a4 a5 a6 a7 a8 a9 a10 f0 f1 f2 f3 (upd f4 p0.toNatClampNeg p1) f5 f6 f7 f8 f9 f10 v0 v1 v2 v3) := hD
    refine lv_iload_n hx hb dX0_trust_46 rfl (lv_at hl 0 rfl) ?_
    exact W.iret (v := f4 p0.toNatClampNeg) hx hb hr (fun t ht hW => ⟨⟨f4 p0.toNatClampNeg, (upd f4 p0.toNatClampNeg p1), rfl, ⟨rfl, rfl⟩, ⟨by rw [ht]; exact hP, va_K.moved hW.alike hK, hD⟩⟩, hS.F ht⟩) hS.2.2 dX0_trust_47
set_option maxHeartbeats 4000000 in
set_option maxRecDepth 100000 in
theorem c_X0_trust_t1 (l : Launch) (hl0 : l.stackTraces = false) (D : va_G) (cI cZ cJ : ClassId) (h a0 a1 a2 a3 a4 a5 a6 a7 a8 a9 a10 : Nat) (f0 f1 f2 f3 f4 f5 f6 f7 f8 f9 f10 : Nat → Int32) (v0 v1 v2 v3 : Int32) (p0 p1 : Int32) (hg : q_g p0 = false) : vx_Met l yX0_trust wsX0_trust ({ frames := 7, cells := 1, slots := 6, locals := 110 }) (va_Pc [.ref h, .int p0, .int p1] (zPX D cI cZ cJ (wQ cI cZ h a0 a1 a2 a3 a4 a5 a6 a7 a8 a9 a10 f0 f1 f2 f3 f4 f5 f6 f7 f8 f9 f10 v0 v1 v2 v3))) zNo (zXC (fun E => E = "java/lang/IndexOutOfBoundsException")) 1 6 (fun _ => False) := by
  refine vx_ofW (cc := cX0_trust) (maxL := 4) (ret := (some .int)) (by decide) rfl ?_
  intro p e s m args below meth c s₁ B hml hout hv
  obtain ⟨rfl, hZ, hP, hK⟩ := hv
  have hx := B.exec
  have hb := B.bytes
  have hr := B.returns
  have hts := atoms_spec (ws := wsX0_trust) B.pre
  have hown : s.vm.findClass RX0 = some m.cls := findClass_of_methodNamed B.named
  have hlocks := B.notSynchronized
  have hin : ∀ w ∈ wsX00, w ∈ wsX0_trust := by decide +kernel
  have hl := lv_entry ([.ref h, .int p0, .int p1]) (n := 4) (Nat.le_of_ble_eq_true rfl)
  rw [lg_entry_eq]
  generalize (lg_sl ([.ref h, .int p0, .int p1]) ++ List.replicate (4 - (lg_sl ([.ref h, .int p0, .int p1])).length) Slot.unset).toArray = ls at hl ⊢
  have hl : lv_has ls 4 [(0, .ref h), (1, .int p0), (2, .int p1)] := hl
  refine lv_iload_n hx hb dX0_trust_0 rfl (lv_at hl 1 rfl) ?_
  exact z_thru (vx_runS (As := [.int p0]) (rest := []) ⟨hx, hb, hml, hown, hts⟩ (c_X0_requireGiver_t l hl0 p0 hg) (va_cwS 1 hts gX0_trust_X0_requireGiver rfl rfl rfl (by decide +kernel) ⟨Nat.le_of_ble_eq_true rfl, Nat.le_of_ble_eq_true rfl⟩) ⟨zXs_blind, fun U hU hW => ⟨rfl, zX_at hZ hU hW⟩⟩ rfl rfl hl.1 rfl (lv_room (Nat.le_of_ble_eq_true rfl)) dX0_trust_1 ⟨Nat.le_of_ble_eq_true rfl, Nat.le_of_ble_eq_true rfl⟩) (fun _ h => h) hout hlocks (fun _ h => h)
set_option maxHeartbeats 4000000 in
set_option maxRecDepth 100000 in
theorem c_X0_trust_t2 (l : Launch) (hl0 : l.stackTraces = false) (D : va_G) (cI cZ cJ : ClassId) (h a0 a1 a2 a3 a4 a5 a6 a7 a8 a9 a10 : Nat) (f0 f1 f2 f3 f4 f5 f6 f7 f8 f9 f10 : Nat → Int32) (v0 v1 v2 v3 : Int32) (p0 p1 : Int32) (hg : q_g p0 = true) (ho : (decide (p1 = -1) || q_g p1) = false) : vx_Met l yX0_trust wsX0_trust ({ frames := 7, cells := 1, slots := 6, locals := 110 }) (va_Pc [.ref h, .int p0, .int p1] (zPX D cI cZ cJ (wQ cI cZ h a0 a1 a2 a3 a4 a5 a6 a7 a8 a9 a10 f0 f1 f2 f3 f4 f5 f6 f7 f8 f9 f10 v0 v1 v2 v3))) zNo (zXC (fun E => E = "java/lang/IndexOutOfBoundsException")) 1 6 (fun _ => False) := by
  refine vx_ofW (cc := cX0_trust) (maxL := 4) (ret := (some .int)) (by decide) rfl ?_
  intro p e s m args below meth c s₁ B hml hout hv
  obtain ⟨rfl, hZ, hP, hK⟩ := hv
  have hx := B.exec
  have hb := B.bytes
  have hr := B.returns
  have hts := atoms_spec (ws := wsX0_trust) B.pre
  have hown : s.vm.findClass RX0 = some m.cls := findClass_of_methodNamed B.named
  have hlocks := B.notSynchronized
  have hin : ∀ w ∈ wsX00, w ∈ wsX0_trust := by decide +kernel
  have hl := lv_entry ([.ref h, .int p0, .int p1]) (n := 4) (Nat.le_of_ble_eq_true rfl)
  rw [lg_entry_eq]
  generalize (lg_sl ([.ref h, .int p0, .int p1]) ++ List.replicate (4 - (lg_sl ([.ref h, .int p0, .int p1])).length) Slot.unset).toArray = ls at hl ⊢
  have hl : lv_has ls 4 [(0, .ref h), (1, .int p0), (2, .int p1)] := hl
  refine lv_iload_n hx hb dX0_trust_0 rfl (lv_at hl 1 rfl) ?_
  refine va_csv (W.runS (As := [.int p0]) (rest := []) ⟨hx, hb, hml, hown, hts⟩ (c_X0_requireGiver l p0 hg) (va_cwS 1 hts gX0_trust_X0_requireGiver rfl rfl rfl (by decide +kernel) ⟨Nat.le_of_ble_eq_true rfl, Nat.le_of_ble_eq_true rfl⟩) ⟨zN_blind, fun U hU hW => ⟨rfl, trivial⟩⟩ rfl rfl hl.1 rfl (lv_room (Nat.le_of_ble_eq_true rfl)) dX0_trust_1 ⟨Nat.le_of_ble_eq_true rfl, Nat.le_of_ble_eq_true rfl⟩) (fun w1 => ?_)
  refine lv_iload_n hx hb dX0_trust_4 rfl (lv_at hl 2 rfl) ?_
  refine lv_iconst (v := (-1)) hx hb dX0_trust_5 (by decide) ?_
  refine lv_icmp_eq (tgt := 13) hx hb dX0_trust_6 (by decide) (fun c2 => False.elim (by simp [c2] at ho)) (fun c2 => ?_)
  refine lv_iload_n hx hb dX0_trust_9 rfl (lv_at hl 2 rfl) ?_
  exact z_thru (vx_runS (As := [.int p1]) (rest := []) ⟨hx, hb, hml, hown, hts⟩ (c_X0_requireGiver_t l hl0 p1 (by simp at ho; exact ho.2)) (va_cwS 1 hts gX0_trust_X0_requireGiver rfl rfl rfl (by decide +kernel) ⟨Nat.le_of_ble_eq_true rfl, Nat.le_of_ble_eq_true rfl⟩) ⟨zXs_blind, fun U hU hW => ⟨rfl, zX_at hZ hU hW⟩⟩ rfl rfl hl.1 rfl (lv_room (Nat.le_of_ble_eq_true rfl)) dX0_trust_10 ⟨Nat.le_of_ble_eq_true rfl, Nat.le_of_ble_eq_true rfl⟩) (fun _ h => h) hout hlocks (fun _ h => h)
set_option maxHeartbeats 4000000 in
set_option maxRecDepth 100000 in
theorem c_X0_trust_t3 (l : Launch) (hl0 : l.stackTraces = false) (D : va_G) (cI cZ cJ : ClassId) (h a0 a1 a2 a3 a4 a5 a6 a7 a8 a9 a10 : Nat) (f0 f1 f2 f3 f4 f5 f6 f7 f8 f9 f10 : Nat → Int32) (v0 v1 v2 v3 : Int32) (p0 p1 : Int32) (hg : q_g p0 = true) (ho : (decide (p1 = -1) || q_g p1) = true) (hle : q_lead f4 8 p1 p0 = true) : vx_Met l yX0_trust wsX0_trust ({ frames := 6, cells := 1, slots := 6, locals := 90 }) (va_Pc [.ref h, .int p0, .int p1] (zPX D cI cZ cJ (wQ cI cZ h a0 a1 a2 a3 a4 a5 a6 a7 a8 a9 a10 f0 f1 f2 f3 f4 f5 f6 f7 f8 f9 f10 v0 v1 v2 v3))) zNo (zXC (fun E => E = "java/lang/IllegalStateException")) 1 6 (fun _ => False) := by
  refine vx_ofW (cc := cX0_trust) (maxL := 4) (ret := (some .int)) (by decide) rfl ?_
  intro p e s m args below meth c s₁ B hml hout hv
  obtain ⟨rfl, hZ, hP, hK⟩ := hv
  have hx := B.exec
  have hb := B.bytes
  have hr := B.returns
  have hts := atoms_spec (ws := wsX0_trust) B.pre
  have hown : s.vm.findClass RX0 = some m.cls := findClass_of_methodNamed B.named
  have hlocks := B.notSynchronized
  have hin : ∀ w ∈ wsX00, w ∈ wsX0_trust := by decide +kernel
  have hl := lv_entry ([.ref h, .int p0, .int p1]) (n := 4) (Nat.le_of_ble_eq_true rfl)
  rw [lg_entry_eq]
  generalize (lg_sl ([.ref h, .int p0, .int p1]) ++ List.replicate (4 - (lg_sl ([.ref h, .int p0, .int p1])).length) Slot.unset).toArray = ls at hl ⊢
  have hl : lv_has ls 4 [(0, .ref h), (1, .int p0), (2, .int p1)] := hl
  refine lv_iload_n hx hb dX0_trust_0 rfl (lv_at hl 1 rfl) ?_
  refine va_csv (W.runS (As := [.int p0]) (rest := []) ⟨hx, hb, hml, hown, hts⟩ (c_X0_requireGiver l p0 hg) (va_cwS 1 hts gX0_trust_X0_requireGiver rfl rfl rfl (by decide +kernel) ⟨Nat.le_of_ble_eq_true rfl, Nat.le_of_ble_eq_true rfl⟩) ⟨zN_blind, fun U hU hW => ⟨rfl, trivial⟩⟩ rfl rfl hl.1 rfl (lv_room (Nat.le_of_ble_eq_true rfl)) dX0_trust_1 ⟨Nat.le_of_ble_eq_true rfl, Nat.le_of_ble_eq_true rfl⟩) (fun w1 => ?_)
  refine lv_iload_n hx hb dX0_trust_4 rfl (lv_at hl 2 rfl) ?_
  refine lv_iconst (v := (-1)) hx hb dX0_trust_5 (by decide) ?_
  refine lv_icmp_eq (tgt := 13) hx hb dX0_trust_6 (by decide) (fun c2 => ?_) (fun c2 => ?_)
  · skip
    refine lv_aload_n hx hb dX0_trust_13 rfl (lv_at hl 0 rfl) ?_
    refine lv_iload_n hx hb dX0_trust_14 rfl (lv_at hl 2 rfl) ?_
    refine lv_iload_n hx hb dX0_trust_15 rfl (lv_at hl 1 rfl) ?_
    refine vp_callSi (W.runV (As := [.int p1, .int p0]) (rest := []) ⟨hx, hb, hml, hown, hts⟩ (c_X0_leadsTo l D cI cZ cJ h a0 a1 a2 a3 a4 a5 a6 a7 a8 a9 a10 f0 f1 f2 f3 f4 f5 f6 f7 f8 f9 f10 v0 v1 v2 v3 p1 p0) (cwV 2 hts gX0_trust_X0_leadsTo rfl rfl rfl (by decide +kernel) ⟨Nat.le_of_ble_eq_true rfl, Nat.le_of_ble_eq_true rfl⟩) ⟨zP_blind, va_recv hK hP (ci := 0) (q0 := 0) rfl rfl, fun U hU hW => ⟨rfl, zP_mk hP hK hU hW⟩⟩ rfl rfl hl.1 rfl (lv_room (Nat.le_of_ble_eq_true rfl)) dX0_trust_16 ⟨Nat.le_of_ble_eq_true rfl, Nat.le_of_ble_eq_true rfl⟩) (fun r3 w3 => ?_)
    have w3 : r3 = 1 := by rw [w3, hle]; rfl
    subst w3
    refine lv_if_eq (tgt := 32) hx hb dX0_trust_19 (by decide) (fun c9 => False.elim (by revert c9; decide)) (fun _ => ?_)
    obtain ⟨sa, hsa⟩ := hZ.2.1 (64, "the giver would trust itself") (by decide)
    exact z_throw (Qc := zNo) (own := RX0) (cls := "java/lang/IllegalStateException") (ik := 53) (is := 64) (ic := 57) (text := "the giver would trust itself") hx hb hl0 hown (by decide +kernel) (hts (.classLink RX0 53 "java/lang/IllegalStateException") (by decide +kernel)) (hts (.initialized "java/lang/IllegalStateException") (by decide +kernel)) hsa hts (by decide +kernel) (by decide +kernel) hZ.1 hZ.2.2.2.1 hZ.2.2.2.2 hl.1 hml dX0_trust_22 dX0_trust_25 dX0_trust_26 dX0_trust_28 dX0_trust_31 (fun x h => (hout x h).elim) (Nat.le_of_ble_eq_true rfl) (Nat.le_of_ble_eq_true rfl) (Nat.le_of_ble_eq_true rfl) (Nat.le_of_ble_eq_true rfl) hlocks
  · skip
    refine lv_iload_n hx hb dX0_trust_9 rfl (lv_at hl 2 rfl) ?_
    refine va_csv (W.runS (As := [.int p1]) (rest := []) ⟨hx, hb, hml, hown, hts⟩ (c_X0_requireGiver l p1 (by simpa [c2] using ho)) (va_cwS 1 hts gX0_trust_X0_requireGiver rfl rfl rfl (by decide +kernel) ⟨Nat.le_of_ble_eq_true rfl, Nat.le_of_ble_eq_true rfl⟩) ⟨zN_blind, fun U hU hW => ⟨rfl, trivial⟩⟩ rfl rfl hl.1 rfl (lv_room (Nat.le_of_ble_eq_true rfl)) dX0_trust_10 ⟨Nat.le_of_ble_eq_true rfl, Nat.le_of_ble_eq_true rfl⟩) (fun w5 => ?_)
    refine lv_aload_n hx hb dX0_trust_13 rfl (lv_at hl 0 rfl) ?_
    refine lv_iload_n hx hb dX0_trust_14 rfl (lv_at hl 2 rfl) ?_
    refine lv_iload_n hx hb dX0_trust_15 rfl (lv_at hl 1 rfl) ?_
    refine vp_callSi (W.runV (As := [.int p1, .int p0]) (rest := []) ⟨hx, hb, hml, hown, hts⟩ (c_X0_leadsTo l D cI cZ cJ h a0 a1 a2 a3 a4 a5 a6 a7 a8 a9 a10 f0 f1 f2 f3 f4 f5 f6 f7 f8 f9 f10 v0 v1 v2 v3 p1 p0) (cwV 2 hts gX0_trust_X0_leadsTo rfl rfl rfl (by decide +kernel) ⟨Nat.le_of_ble_eq_true rfl, Nat.le_of_ble_eq_true rfl⟩) ⟨zP_blind, va_recv hK hP (ci := 0) (q0 := 0) rfl rfl, fun U hU hW => ⟨rfl, zP_mk hP hK hU hW⟩⟩ rfl rfl hl.1 rfl (lv_room (Nat.le_of_ble_eq_true rfl)) dX0_trust_16 ⟨Nat.le_of_ble_eq_true rfl, Nat.le_of_ble_eq_true rfl⟩) (fun r6 w6 => ?_)
    have w6 : r6 = 1 := by rw [w6, hle]; rfl
    subst w6
    refine lv_if_eq (tgt := 32) hx hb dX0_trust_19 (by decide) (fun c9 => False.elim (by revert c9; decide)) (fun _ => ?_)
    obtain ⟨sa, hsa⟩ := hZ.2.1 (64, "the giver would trust itself") (by decide)
    exact z_throw (Qc := zNo) (own := RX0) (cls := "java/lang/IllegalStateException") (ik := 53) (is := 64) (ic := 57) (text := "the giver would trust itself") hx hb hl0 hown (by decide +kernel) (hts (.classLink RX0 53 "java/lang/IllegalStateException") (by decide +kernel)) (hts (.initialized "java/lang/IllegalStateException") (by decide +kernel)) hsa hts (by decide +kernel) (by decide +kernel) hZ.1 hZ.2.2.2.1 hZ.2.2.2.2 hl.1 hml dX0_trust_22 dX0_trust_25 dX0_trust_26 dX0_trust_28 dX0_trust_31 (fun x h => (hout x h).elim) (Nat.le_of_ble_eq_true rfl) (Nat.le_of_ble_eq_true rfl) (Nat.le_of_ble_eq_true rfl) (Nat.le_of_ble_eq_true rfl) hlocks
set_option maxHeartbeats 4000000 in
set_option maxRecDepth 100000 in
theorem c_X0_setPerson (l : Launch) (D : va_G) (cI cZ cJ : ClassId) (sz : Nat) (h a0 a1 a2 a3 a4 a5 a6 a7 a8 a9 a10 : Nat) (f0 f1 f2 f3 f4 f5 f6 f7 f8 f9 f10 : Nat → Int32) (v0 v1 v2 v3 : Int32) (p0 p1 : Int32) (hg : q_g p0 = true) (hp : q_g p1 = true) : Met l yX0_setPerson wsX0_setPerson ({ frames := 2, cells := 0, slots := 0, locals := 40 }) (va_Pc [.ref h, .int p0, .int p1] (zD D cI cZ cJ sz (wQ cI cZ h a0 a1 a2 a3 a4 a5 a6 a7 a8 a9 a10 f0 f1 f2 f3 f4 f5 f6 f7 f8 f9 f10 v0 v1 v2 v3))) (va_Qi (fun (r : Int32) (u : (Nat → Int32)) => r = f5 p0.toNatClampNeg ∧ u = upd f5 p0.toNatClampNeg p1) (fun u t => zB D cI cZ cJ (va_A (wQ cI cZ h a0 a1 a2 a3 a4 a5 a6 a7 a8 a9 a10 f0 f1 f2 f3 f4 f5 f6 f7 f8 f9 f10 v0 v1 v2 v3) sz) (wQ cI cZ h a0 a1 a2 a3 a4 a5 a6 a7 a8 a9 a10 f0 f1 f2 f3 f4 u f6 f7 f8 f9 f10 v0 v1 v2 v3) t) (va_A (wQ cI cZ h a0 a1 a2 a3 a4 a5 a6 a7 a8 a9 a10 f0 f1 f2 f3 f4 f5 f6 f7 f8 f9 f10 v0 v1 v2 v3) sz)) 0 0 (va_A (wQ cI cZ h a0 a1 a2 a3 a4 a5 a6 a7 a8 a9 a10 f0 f1 f2 f3 f4 f5 f6 f7 f8 f9 f10 v0 v1 v2 v3) sz) := by
  refine Met.ofW (cc := cX0_setPerson) (maxL := 4) (ret := (some .int)) (by decide) rfl ?_
  intro p e s m args below meth c s₁ B hml hv
  obtain ⟨rfl, hsz, hP, hK, hD0⟩ := hv
  have hx := B.exec
  have hb := B.bytes
  have hr := B.returns
  have hts := atoms_spec (ws := wsX0_setPerson) B.pre
  have hown : s.vm.findClass RX0 = some m.cls := findClass_of_methodNamed B.named
  have hlocks := B.notSynchronized
  have hin : ∀ w ∈ wsX00, w ∈ wsX0_setPerson := by decide +kernel
  subst hsz
  have hD := hD0.self (sz := s.heap.size)
  generalize hAe : va_A (wQ cI cZ h a0 a1 a2 a3 a4 a5 a6 a7 a8 a9 a10 f0 f1 f2 f3 f4 f5 f6 f7 f8 f9 f10 v0 v1 v2 v3) s.heap.size = A at hD ⊢
  have hA : ∀ q : Nat, s.heap.size ≤ q → A q := fun q h => by rw [← hAe]; exact Or.inr h
  have hS : va_S A s.heap s.heap [] := va_S.rf
  have hl := lv_entry ([.ref h, .int p0, .int p1]) (n := 4) (Nat.le_of_ble_eq_true rfl)
  rw [lg_entry_eq]
  generalize (lg_sl ([.ref h, .int p0, .int p1]) ++ List.replicate (4 - (lg_sl ([.ref h, .int p0, .int p1])).length) Slot.unset).toArray = ls at hl ⊢
  have hl : lv_has ls 4 [(0, .ref h), (1, .int p0), (2, .int p1)] := hl
  refine lv_iload_n hx hb dX0_setPerson_0 rfl (lv_at hl 1 rfl) ?_
  refine va_csv (W.runS (As := [.int p0]) (rest := []) ⟨hx, hb, hml, hown, hts⟩ (c_X0_requireGiver l p0 hg) (va_cwS 1 hts gX0_setPerson_X0_requireGiver rfl rfl rfl (by decide +kernel) ⟨Nat.le_of_ble_eq_true rfl, Nat.le_of_ble_eq_true rfl⟩) ⟨zN_blind, fun U hU hW => ⟨rfl, trivial⟩⟩ rfl rfl hl.1 rfl (lv_room (Nat.le_of_ble_eq_true rfl)) dX0_setPerson_1 ⟨Nat.le_of_ble_eq_true rfl, Nat.le_of_ble_eq_true rfl⟩) (fun w1 => ?_)
  refine lv_iload_n hx hb dX0_setPerson_4 rfl (lv_at hl 2 rfl) ?_
  refine lv_if_lt (tgt := 14) hx hb dX0_setPerson_5 (by decide) (fun c2 => False.elim (by rw [q_g_f1 c2] at hp; exact Bool.noConfusion hp)) (fun c2 => ?_)
  refine lv_iload_n hx hb dX0_setPerson_8 rfl (lv_at hl 2 rfl) ?_
  refine lv_bipush (v := 8) hx hb dX0_setPerson_9 (by decide) ?_
  refine lv_icmp_lt (tgt := 24) hx hb dX0_setPerson_11 (by decide) (fun c3 => ?_) (fun c3 => False.elim (by rw [q_g_f2 (z_nlt.mp c3)] at hp; exact Bool.noConfusion hp))
  refine lv_aload_n hx hb dX0_setPerson_24 rfl (lv_at hl 0 rfl) ?_
  refine va_get (D := D) (ci := 0) (v := .ref a5) (C := RX0) (T := TX0) (N := 15) hx hb hts hin hown hK hP 0 rfl rfl 5 (by decide) (hts (.fieldLink RX0 25 "Quorumfund" "persons" "[I") (by decide +kernel)) (fun _ h9 => h9) rfl dX0_setPerson_25 ?_
  refine lv_iload_n hx hb dX0_setPerson_28 rfl (lv_at hl 1 rfl) ?_
  refine va_iald (D := D) hx hb hK hP 6 0 rfl rfl (q_g_in hg) dX0_setPerson_29 ?_
  refine lv_istore_n (lv' := [(3, .int (f5 p0.toNatClampNeg)), (0, .ref h), (1, .int p0), (2, .int p1)]) hx hb dX0_setPerson_30 rfl hl (by decide) rfl (fun ls hl => ?_)
  refine lv_aload_n hx hb dX0_setPerson_31 rfl (lv_at hl 1 rfl) ?_
  refine va_get (D := D) (ci := 0) (v := .ref a5) (C := RX0) (T := TX0) (N := 15) hx hb hts hin hown hK hP 0 rfl rfl 5 (by decide) (hts (.fieldLink RX0 25 "Quorumfund" "persons" "[I") (by decide +kernel)) (fun _ h9 => h9) rfl dX0_setPerson_32 ?_
  refine lv_iload_n hx hb dX0_setPerson_35 rfl (lv_at hl 2 rfl) ?_
  refine lv_iload_n hx hb dX0_setPerson_36 rfl (lv_at hl 3 rfl) ?_
  refine va_iast (D := D) hx hb hK hP hD hS 6 0 rfl rfl (q_g_in hg) dX0_setPerson_37 (fun H locs hP hD hS => ?_)
  have hP : va_P D vwCl (wQ cI cZ h a0 a1 a2 a3 a4 a5 a6 a7 a8 a9 a10 f0 f1 f2 f3 f4 (upd f5 p0.toNatClampNeg p1) f6 f7 f8 f9 f10 v0 v1 v2 v3) H := hP
  have hD : va_D A (wQ cI cZ h a0 a1 a2 a3 a4 a5 a6 a7 a8 a9 a10 f0 f1 f2 f3 f4 (upd f5 p0.toNatClampNeg p1) f6 f7 f8 f9 f10 v0 v1 v2 v3) := hD
  refine lv_iload_n hx hb dX0_setPerson_38 rfl (lv_at hl 0 rfl) ?_
  exact W.iret (v := f5 p0.toNatClampNeg) hx hb hr (fun t ht hW => ⟨⟨f5 p0.toNatClampNeg, (upd f5 p0.toNatClampNeg p1), rfl, ⟨rfl, rfl⟩, ⟨by rw [ht]; exact hP, va_K.moved hW.alike hK, hD⟩⟩, hS.F ht⟩) hS.2.2 dX0_setPerson_39
set_option maxHeartbeats 4000000 in
set_option maxRecDepth 100000 in
theorem c_X0_setPerson_t1 (l : Launch) (hl0 : l.stackTraces = false) (D : va_G) (cI cZ cJ : ClassId) (h a0 a1 a2 a3 a4 a5 a6 a7 a8 a9 a10 : Nat) (f0 f1 f2 f3 f4 f5 f6 f7 f8 f9 f10 : Nat → Int32) (v0 v1 v2 v3 : Int32) (p0 p1 : Int32) (hg : q_g p0 = false) : vx_Met l yX0_setPerson wsX0_setPerson ({ frames := 7, cells := 1, slots := 6, locals := 110 }) (va_Pc [.ref h, .int p0, .int p1] (zPX D cI cZ cJ (wQ cI cZ h a0 a1 a2 a3 a4 a5 a6 a7 a8 a9 a10 f0 f1 f2 f3 f4 f5 f6 f7 f8 f9 f10 v0 v1 v2 v3))) zNo (zXC (fun E => E = "java/lang/IndexOutOfBoundsException")) 1 6 (fun _ => False) := by
  refine vx_ofW (cc := cX0_setPerson) (maxL := 4) (ret := (some .int)) (by decide) rfl ?_
  intro p e s m args below meth c s₁ B hml hout hv
  obtain ⟨rfl, hZ, hP, hK⟩ := hv
  have hx := B.exec
  have hb := B.bytes
  have hr := B.returns
  have hts := atoms_spec (ws := wsX0_setPerson) B.pre
  have hown : s.vm.findClass RX0 = some m.cls := findClass_of_methodNamed B.named
  have hlocks := B.notSynchronized
  have hin : ∀ w ∈ wsX00, w ∈ wsX0_setPerson := by decide +kernel
  have hl := lv_entry ([.ref h, .int p0, .int p1]) (n := 4) (Nat.le_of_ble_eq_true rfl)
  rw [lg_entry_eq]
  generalize (lg_sl ([.ref h, .int p0, .int p1]) ++ List.replicate (4 - (lg_sl ([.ref h, .int p0, .int p1])).length) Slot.unset).toArray = ls at hl ⊢
  have hl : lv_has ls 4 [(0, .ref h), (1, .int p0), (2, .int p1)] := hl
  refine lv_iload_n hx hb dX0_setPerson_0 rfl (lv_at hl 1 rfl) ?_
  exact z_thru (vx_runS (As := [.int p0]) (rest := []) ⟨hx, hb, hml, hown, hts⟩ (c_X0_requireGiver_t l hl0 p0 hg) (va_cwS 1 hts gX0_setPerson_X0_requireGiver rfl rfl rfl (by decide +kernel) ⟨Nat.le_of_ble_eq_true rfl, Nat.le_of_ble_eq_true rfl⟩) ⟨zXs_blind, fun U hU hW => ⟨rfl, zX_at hZ hU hW⟩⟩ rfl rfl hl.1 rfl (lv_room (Nat.le_of_ble_eq_true rfl)) dX0_setPerson_1 ⟨Nat.le_of_ble_eq_true rfl, Nat.le_of_ble_eq_true rfl⟩) (fun _ h => h) hout hlocks (fun _ h => h)
set_option maxHeartbeats 4000000 in
set_option maxRecDepth 100000 in
theorem c_X0_setPerson_t2 (l : Launch) (hl0 : l.stackTraces = false) (D : va_G) (cI cZ cJ : ClassId) (h a0 a1 a2 a3 a4 a5 a6 a7 a8 a9 a10 : Nat) (f0 f1 f2 f3 f4 f5 f6 f7 f8 f9 f10 : Nat → Int32) (v0 v1 v2 v3 : Int32) (p0 p1 : Int32) (hg : q_g p0 = true) (hp : q_g p1 = false) : vx_Met l yX0_setPerson wsX0_setPerson ({ frames := 6, cells := 1, slots := 6, locals := 90 }) (va_Pc [.ref h, .int p0, .int p1] (zPX D cI cZ cJ (wQ cI cZ h a0 a1 a2 a3 a4 a5 a6 a7 a8 a9 a10 f0 f1 f2 f3 f4 f5 f6 f7 f8 f9 f10 v0 v1 v2 v3))) zNo (zXC (fun E => E = "java/lang/IndexOutOfBoundsException")) 1 6 (fun _ => False) := by
  refine vx_ofW (cc := cX0_setPerson) (maxL := 4) (ret := (some .int)) (by decide) rfl ?_
  intro p e s m args below meth c s₁ B hml hout hv
  obtain ⟨rfl, hZ, hP, hK⟩ := hv
  have hx := B.exec
  have hb := B.bytes
  have hr := B.returns
  have hts := atoms_spec (ws := wsX0_setPerson) B.pre
  have hown : s.vm.findClass RX0 = some m.cls := findClass_of_methodNamed B.named
  have hlocks := B.notSynchronized
  have hin : ∀ w ∈ wsX00, w ∈ wsX0_setPerson := by decide +kernel
  have hl := lv_entry ([.ref h, .int p0, .int p1]) (n := 4) (Nat.le_of_ble_eq_true rfl)
  rw [lg_entry_eq]
  generalize (lg_sl ([.ref h, .int p0, .int p1]) ++ List.replicate (4 - (lg_sl ([.ref h, .int p0, .int p1])).length) Slot.unset).toArray = ls at hl ⊢
  have hl : lv_has ls 4 [(0, .ref h), (1, .int p0), (2, .int p1)] := hl
  refine lv_iload_n hx hb dX0_setPerson_0 rfl (lv_at hl 1 rfl) ?_
  refine va_csv (W.runS (As := [.int p0]) (rest := []) ⟨hx, hb, hml, hown, hts⟩ (c_X0_requireGiver l p0 hg) (va_cwS 1 hts gX0_setPerson_X0_requireGiver rfl rfl rfl (by decide +kernel) ⟨Nat.le_of_ble_eq_true rfl, Nat.le_of_ble_eq_true rfl⟩) ⟨zN_blind, fun U hU hW => ⟨rfl, trivial⟩⟩ rfl rfl hl.1 rfl (lv_room (Nat.le_of_ble_eq_true rfl)) dX0_setPerson_1 ⟨Nat.le_of_ble_eq_true rfl, Nat.le_of_ble_eq_true rfl⟩) (fun w1 => ?_)
  refine lv_iload_n hx hb dX0_setPerson_4 rfl (lv_at hl 2 rfl) ?_
  refine lv_if_lt (tgt := 14) hx hb dX0_setPerson_5 (by decide) (fun c2 => ?_) (fun c2 => ?_)
  · skip
    obtain ⟨sa, hsa⟩ := hZ.2.1 (68, "no such person") (by decide)
    exact z_throw (Qc := zNo) (own := RX0) (cls := "java/lang/IndexOutOfBoundsException") (ik := 66) (is := 68) (ic := 70) (text := "no such person") hx hb hl0 hown (by decide +kernel) (hts (.classLink RX0 66 "java/lang/IndexOutOfBoundsException") (by decide +kernel)) (hts (.initialized "java/lang/IndexOutOfBoundsException") (by decide +kernel)) hsa hts (by decide +kernel) (by decide +kernel) hZ.1 hZ.2.2.2.1 hZ.2.2.2.2 hl.1 hml dX0_setPerson_14 dX0_setPerson_17 dX0_setPerson_18 dX0_setPerson_20 dX0_setPerson_23 (fun x h => (hout x h).elim) (Nat.le_of_ble_eq_true rfl) (Nat.le_of_ble_eq_true rfl) (Nat.le_of_ble_eq_true rfl) (Nat.le_of_ble_eq_true rfl) hlocks
  · skip
    refine lv_iload_n hx hb dX0_setPerson_8 rfl (lv_at hl 2 rfl) ?_
    refine lv_bipush (v := 8) hx hb dX0_setPerson_9 (by decide) ?_
    refine lv_icmp_lt (tgt := 24) hx hb dX0_setPerson_11 (by decide) (fun c3 => False.elim (by rw [q_g_tf c2 (z_nle.mpr c3)] at hp; exact Bool.noConfusion hp)) (fun c3 => ?_)
    obtain ⟨sa, hsa⟩ := hZ.2.1 (68, "no such person") (by decide)
    exact z_throw (Qc := zNo) (own := RX0) (cls := "java/lang/IndexOutOfBoundsException") (ik := 66) (is := 68) (ic := 70) (text := "no such person") hx hb hl0 hown (by decide +kernel) (hts (.classLink RX0 66 "java/lang/IndexOutOfBoundsException") (by decide +kernel)) (hts (.initialized "java/lang/IndexOutOfBoundsException") (by decide +kernel)) hsa hts (by decide +kernel) (by decide +kernel) hZ.1 hZ.2.2.2.1 hZ.2.2.2.2 hl.1 hml dX0_setPerson_14 dX0_setPerson_17 dX0_setPerson_18 dX0_setPerson_20 dX0_setPerson_23 (fun x h => (hout x h).elim) (Nat.le_of_ble_eq_true rfl) (Nat.le_of_ble_eq_true rfl) (Nat.le_of_ble_eq_true rfl) (Nat.le_of_ble_eq_true rfl) hlocks
set_option maxHeartbeats 4000000 in
set_option maxRecDepth 100000 in
theorem c_X0_fillPot (l : Launch) (D : va_G) (cI cZ cJ : ClassId) (sz : Nat) (h a0 a1 a2 a3 a4 a5 a6 a7 a8 a9 a10 : Nat) (f0 f1 f2 f3 f4 f5 f6 f7 f8 f9 f10 : Nat → Int32) (v0 v1 v2 v3 : Int32) (p0 : Int32) (hi : q_i p0 1 100000 = true) (hm : ¬ 1000000 < v2 + p0) : Met l yX0_fillPot wsX0_fillPot ({ frames := 1, cells := 0, slots := 0, locals := 21 }) (va_Pc [.ref h, .int p0] (zD D cI cZ cJ sz (wQ cI cZ h a0 a1 a2 a3 a4 a5 a6 a7 a8 a9 a10 f0 f1 f2 f3 f4 f5 f6 f7 f8 f9 f10 v0 v1 v2 v3))) (va_Qi (fun (r : Int32) (u : Int32) => r = v2 + p0 ∧ u = v2 + p0) (fun u t => zB D cI cZ cJ (va_A (wQ cI cZ h a0 a1 a2 a3 a4 a5 a6 a7 a8 a9 a10 f0 f1 f2 f3 f4 f5 f6 f7 f8 f9 f10 v0 v1 v2 v3) sz) (wQ cI cZ h a0 a1 a2 a3 a4 a5 a6 a7 a8 a9 a10 f0 f1 f2 f3 f4 f5 f6 f7 f8 f9 f10 v0 v1 u v3) t) (va_A (wQ cI cZ h a0 a1 a2 a3 a4 a5 a6 a7 a8 a9 a10 f0 f1 f2 f3 f4 f5 f6 f7 f8 f9 f10 v0 v1 v2 v3) sz)) 0 0 (va_A (wQ cI cZ h a0 a1 a2 a3 a4 a5 a6 a7 a8 a9 a10 f0 f1 f2 f3 f4 f5 f6 f7 f8 f9 f10 v0 v1 v2 v3) sz) := by
  refine Met.ofW (cc := cX0_fillPot) (maxL := 2) (ret := (some .int)) (by decide) rfl ?_
  intro p e s m args below meth c s₁ B hml hv
  obtain ⟨rfl, hsz, hP, hK, hD0⟩ := hv
  have hx := B.exec
  have hb := B.bytes
  have hr := B.returns
  have hts := atoms_spec (ws := wsX0_fillPot) B.pre
  have hown : s.vm.findClass RX0 = some m.cls := findClass_of_methodNamed B.named
  have hlocks := B.notSynchronized
  have hin : ∀ w ∈ wsX00, w ∈ wsX0_fillPot := by decide +kernel
  subst hsz
  have hD := hD0.self (sz := s.heap.size)
  generalize hAe : va_A (wQ cI cZ h a0 a1 a2 a3 a4 a5 a6 a7 a8 a9 a10 f0 f1 f2 f3 f4 f5 f6 f7 f8 f9 f10 v0 v1 v2 v3) s.heap.size = A at hD ⊢
  have hA : ∀ q : Nat, s.heap.size ≤ q → A q := fun q h => by rw [← hAe]; exact Or.inr h
  have hS : va_S A s.heap s.heap [] := va_S.rf
  have hl := lv_entry ([.ref h, .int p0]) (n := 2) (Nat.le_of_ble_eq_true rfl)
  rw [lg_entry_eq]
  generalize (lg_sl ([.ref h, .int p0]) ++ List.replicate (2 - (lg_sl ([.ref h, .int p0])).length) Slot.unset).toArray = ls at hl ⊢
  have hl : lv_has ls 2 [(0, .ref h), (1, .int p0)] := hl
  refine lv_iload_n hx hb dX0_fillPot_0 rfl (lv_at hl 1 rfl) ?_
  refine lv_ldc hx hb hown (hts (.constant RX0 52 (100000)) (by decide +kernel)) dX0_fillPot_1 ?_
  refine va_csv (W.runS (As := [.int p0, .int 100000]) (rest := []) ⟨hx, hb, hml, hown, hts⟩ (c_X0_requireAmount l p0 100000 hi) (va_cwS 2 hts gX0_fillPot_X0_requireAmount rfl rfl rfl (by decide +kernel) ⟨Nat.le_of_ble_eq_true rfl, Nat.le_of_ble_eq_true rfl⟩) ⟨zN_blind, fun U hU hW => ⟨rfl, trivial⟩⟩ rfl rfl hl.1 rfl (lv_room (Nat.le_of_ble_eq_true rfl)) dX0_fillPot_3 ⟨Nat.le_of_ble_eq_true rfl, Nat.le_of_ble_eq_true rfl⟩) (fun w1 => ?_)
  refine lv_aload_n hx hb dX0_fillPot_6 rfl (lv_at hl 0 rfl) ?_
  refine va_get (D := D) (ci := 0) (v := .int v2) (C := RX0) (T := TX0) (N := 15) hx hb hts hin hown hK hP 0 rfl rfl 11 (by decide) (hts (.fieldLink RX0 71 "Quorumfund" "potMoney" "I") (by decide +kernel)) (fun _ h9 => h9) rfl dX0_fillPot_7 ?_
  refine lv_iload_n hx hb dX0_fillPot_10 rfl (lv_at hl 1 rfl) ?_
  refine lv_iadd hx hb dX0_fillPot_11 ?_
  refine lv_ldc hx hb hown (hts (.constant RX0 75 (1000000)) (by decide +kernel)) dX0_fillPot_12 ?_
  refine lv_icmp_le (tgt := 27) hx hb dX0_fillPot_14 (by decide) (fun c2 => ?_) (fun c2 => False.elim (by exact c2 (z_nlt.mp hm)))
  refine lv_aload_n hx hb dX0_fillPot_27 rfl (lv_at hl 0 rfl) ?_
  refine lv_dup hx hb dX0_fillPot_28 rfl ?_
  refine va_get (D := D) (ci := 0) (v := .int v2) (C := RX0) (T := TX0) (N := 15) hx hb hts hin hown hK hP 0 rfl rfl 11 (by decide) (hts (.fieldLink RX0 71 "Quorumfund" "potMoney" "I") (by decide +kernel)) (fun _ h9 => h9) rfl dX0_fillPot_29 ?_
  refine lv_iload_n hx hb dX0_fillPot_32 rfl (lv_at hl 1 rfl) ?_
  refine lv_iadd hx hb dX0_fillPot_33 ?_
  refine va_put (D := D) (ci := 0) (v := .int (v2 + p0)) (ty := .int) (C := RX0) (T := TX0) (N := 15) hx hb hts hin tyX0 tyX0_ok nmX0 hown hK hP hD hS 0 rfl rfl 11 (by decide) (hts (.fieldLink RX0 71 "Quorumfund" "potMoney" "I") (by decide +kernel)) (fun _ h9 => h9) rfl (by decide +kernel) rfl rfl (Nat.le_of_ble_eq_true rfl) dX0_fillPot_34 (fun H locs hP hD hS => ?_)
  have hP : va_P D vwCl (wQ cI cZ h a0 a1 a2 a3 a4 a5 a6 a7 a8 a9 a10 f0 f1 f2 f3 f4 f5 f6 f7 f8 f9 f10 v0 v1 (v2 + p0) v3) H := hP
  have hD : va_D A (wQ cI cZ h a0 a1 a2 a3 a4 a5 a6 a7 a8 a9 a10 f0 f1 f2 f3 f4 f5 f6 f7 f8 f9 f10 v0 v1 (v2 + p0) v3) := hD
  refine lv_aload_n hx hb dX0_fillPot_37 rfl (lv_at hl 0 rfl) ?_
  refine va_get (D := D) (ci := 0) (v := .int (v2 + p0)) (C := RX0) (T := TX0) (N := 15) hx hb hts hin hown hK hP 0 rfl rfl 11 (by decide) (hts (.fieldLink RX0 71 "Quorumfund" "potMoney" "I") (by decide +kernel)) (fun _ h9 => h9) rfl dX0_fillPot_38 ?_
  exact W.iret (v := v2 + p0) hx hb hr (fun t ht hW => ⟨⟨v2 + p0, (v2 + p0), rfl, ⟨rfl, rfl⟩, ⟨by rw [ht]; exact hP, va_K.moved hW.alike hK, hD⟩⟩, hS.F ht⟩) hS.2.2 dX0_fillPot_41
set_option maxHeartbeats 4000000 in
set_option maxRecDepth 100000 in
theorem c_X0_fillPot_t1 (l : Launch) (hl0 : l.stackTraces = false) (D : va_G) (cI cZ cJ : ClassId) (h a0 a1 a2 a3 a4 a5 a6 a7 a8 a9 a10 : Nat) (f0 f1 f2 f3 f4 f5 f6 f7 f8 f9 f10 : Nat → Int32) (v0 v1 v2 v3 : Int32) (p0 : Int32) (hi : q_i p0 1 100000 = false) : vx_Met l yX0_fillPot wsX0_fillPot ({ frames := 7, cells := 1, slots := 6, locals := 111 }) (va_Pc [.ref h, .int p0] (zPX D cI cZ cJ (wQ cI cZ h a0 a1 a2 a3 a4 a5 a6 a7 a8 a9 a10 f0 f1 f2 f3 f4 f5 f6 f7 f8 f9 f10 v0 v1 v2 v3))) zNo (zXC (fun E => E = "java/lang/IllegalArgumentException")) 1 6 (fun _ => False) := by
  refine vx_ofW (cc := cX0_fillPot) (maxL := 2) (ret := (some .int)) (by decide) rfl ?_
  intro p e s m args below meth c s₁ B hml hout hv
  obtain ⟨rfl, hZ, hP, hK⟩ := hv
  have hx := B.exec
  have hb := B.bytes
  have hr := B.returns
  have hts := atoms_spec (ws := wsX0_fillPot) B.pre
  have hown : s.vm.findClass RX0 = some m.cls := findClass_of_methodNamed B.named
  have hlocks := B.notSynchronized
  have hin : ∀ w ∈ wsX00, w ∈ wsX0_fillPot := by decide +kernel
  have hl := lv_entry ([.ref h, .int p0]) (n := 2) (Nat.le_of_ble_eq_true rfl)
  rw [lg_entry_eq]
  generalize (lg_sl ([.ref h, .int p0]) ++ List.replicate (2 - (lg_sl ([.ref h, .int p0])).length) Slot.unset).toArray = ls at hl ⊢
  have hl : lv_has ls 2 [(0, .ref h), (1, .int p0)] := hl
  refine lv_iload_n hx hb dX0_fillPot_0 rfl (lv_at hl 1 rfl) ?_
  refine lv_ldc hx hb hown (hts (.constant RX0 52 (100000)) (by decide +kernel)) dX0_fillPot_1 ?_
  exact z_thru (vx_runS (As := [.int p0, .int 100000]) (rest := []) ⟨hx, hb, hml, hown, hts⟩ (c_X0_requireAmount_t l hl0 p0 100000 hi) (va_cwS 2 hts gX0_fillPot_X0_requireAmount rfl rfl rfl (by decide +kernel) ⟨Nat.le_of_ble_eq_true rfl, Nat.le_of_ble_eq_true rfl⟩) ⟨zXs_blind, fun U hU hW => ⟨rfl, zX_at hZ hU hW⟩⟩ rfl rfl hl.1 rfl (lv_room (Nat.le_of_ble_eq_true rfl)) dX0_fillPot_3 ⟨Nat.le_of_ble_eq_true rfl, Nat.le_of_ble_eq_true rfl⟩) (fun _ h => h) hout hlocks (fun _ h => h)
set_option maxHeartbeats 4000000 in
set_option maxRecDepth 100000 in
theorem c_X0_fillPot_t2 (l : Launch) (hl0 : l.stackTraces = false) (D : va_G) (cI cZ cJ : ClassId) (h a0 a1 a2 a3 a4 a5 a6 a7 a8 a9 a10 : Nat) (f0 f1 f2 f3 f4 f5 f6 f7 f8 f9 f10 : Nat → Int32) (v0 v1 v2 v3 : Int32) (p0 : Int32) (hi : q_i p0 1 100000 = true) (hm : 1000000 < v2 + p0) : vx_Met l yX0_fillPot wsX0_fillPot ({ frames := 6, cells := 1, slots := 6, locals := 90 }) (va_Pc [.ref h, .int p0] (zPX D cI cZ cJ (wQ cI cZ h a0 a1 a2 a3 a4 a5 a6 a7 a8 a9 a10 f0 f1 f2 f3 f4 f5 f6 f7 f8 f9 f10 v0 v1 v2 v3))) zNo (zXC (fun E => E = "java/lang/IllegalStateException")) 1 6 (fun _ => False) := by
  refine vx_ofW (cc := cX0_fillPot) (maxL := 2) (ret := (some .int)) (by decide) rfl ?_
  intro p e s m args below meth c s₁ B hml hout hv
  obtain ⟨rfl, hZ, hP, hK⟩ := hv
  have hx := B.exec
  have hb := B.bytes
  have hr := B.returns
  have hts := atoms_spec (ws := wsX0_fillPot) B.pre
  have hown : s.vm.findClass RX0 = some m.cls := findClass_of_methodNamed B.named
  have hlocks := B.notSynchronized
  have hin : ∀ w ∈ wsX00, w ∈ wsX0_fillPot := by decide +kernel
  have hl := lv_entry ([.ref h, .int p0]) (n := 2) (Nat.le_of_ble_eq_true rfl)
  rw [lg_entry_eq]
  generalize (lg_sl ([.ref h, .int p0]) ++ List.replicate (2 - (lg_sl ([.ref h, .int p0])).length) Slot.unset).toArray = ls at hl ⊢
  have hl : lv_has ls 2 [(0, .ref h), (1, .int p0)] := hl
  refine lv_iload_n hx hb dX0_fillPot_0 rfl (lv_at hl 1 rfl) ?_
  refine lv_ldc hx hb hown (hts (.constant RX0 52 (100000)) (by decide +kernel)) dX0_fillPot_1 ?_
  refine va_csv (W.runS (As := [.int p0, .int 100000]) (rest := []) ⟨hx, hb, hml, hown, hts⟩ (c_X0_requireAmount l p0 100000 hi) (va_cwS 2 hts gX0_fillPot_X0_requireAmount rfl rfl rfl (by decide +kernel) ⟨Nat.le_of_ble_eq_true rfl, Nat.le_of_ble_eq_true rfl⟩) ⟨zN_blind, fun U hU hW => ⟨rfl, trivial⟩⟩ rfl rfl hl.1 rfl (lv_room (Nat.le_of_ble_eq_true rfl)) dX0_fillPot_3 ⟨Nat.le_of_ble_eq_true rfl, Nat.le_of_ble_eq_true rfl⟩) (fun w1 => ?_)
  refine lv_aload_n hx hb dX0_fillPot_6 rfl (lv_at hl 0 rfl) ?_
  refine va_get (D := D) (ci := 0) (v := .int v2) (C := RX0) (T := TX0) (N := 15) hx hb hts hin hown hK hP 0 rfl rfl 11 (by decide) (hts (.fieldLink RX0 71 "Quorumfund" "potMoney" "I") (by decide +kernel)) (fun _ h9 => h9) rfl dX0_fillPot_7 ?_
  refine lv_iload_n hx hb dX0_fillPot_10 rfl (lv_at hl 1 rfl) ?_
  refine lv_iadd hx hb dX0_fillPot_11 ?_
  refine lv_ldc hx hb hown (hts (.constant RX0 75 (1000000)) (by decide +kernel)) dX0_fillPot_12 ?_
  refine lv_icmp_le (tgt := 27) hx hb dX0_fillPot_14 (by decide) (fun c2 => False.elim (by exact absurd hm (z_nlt.mpr c2))) (fun c2 => ?_)
  obtain ⟨sa, hsa⟩ := hZ.2.1 (76, "there would be too much in the pot") (by decide)
  exact z_throw (Qc := zNo) (own := RX0) (cls := "java/lang/IllegalStateException") (ik := 53) (is := 76) (ic := 57) (text := "there would be too much in the pot") hx hb hl0 hown (by decide +kernel) (hts (.classLink RX0 53 "java/lang/IllegalStateException") (by decide +kernel)) (hts (.initialized "java/lang/IllegalStateException") (by decide +kernel)) hsa hts (by decide +kernel) (by decide +kernel) hZ.1 hZ.2.2.2.1 hZ.2.2.2.2 hl.1 hml dX0_fillPot_17 dX0_fillPot_20 dX0_fillPot_21 dX0_fillPot_23 dX0_fillPot_26 (fun x h => (hout x h).elim) (Nat.le_of_ble_eq_true rfl) (Nat.le_of_ble_eq_true rfl) (Nat.le_of_ble_eq_true rfl) (Nat.le_of_ble_eq_true rfl) hlocks
set_option maxHeartbeats 4000000 in
set_option maxRecDepth 100000 in
theorem c_X0_addMilestone (l : Launch) (D : va_G) (cI cZ cJ : ClassId) (sz : Nat) (h a0 a1 a2 a3 a4 a5 a6 a7 a8 a9 a10 : Nat) (f0 f1 f2 f3 f4 f5 f6 f7 f8 f9 f10 : Nat → Int32) (v0 v1 v2 v3 : Int32) (p0 : Int32) (hi : q_i p0 1 100000 = true) (hv : vp_in v0 6) : Met l yX0_addMilestone wsX0_addMilestone ({ frames := 1, cells := 0, slots := 0, locals := 21 }) (va_Pc [.ref h, .int p0] (zD D cI cZ cJ sz (wQ cI cZ h a0 a1 a2 a3 a4 a5 a6 a7 a8 a9 a10 f0 f1 f2 f3 f4 f5 f6 f7 f8 f9 f10 v0 v1 v2 v3))) (va_Qi (fun (r : Int32) (u : (Nat → Int32) × Int32) => r = v0 + 1 - 1 ∧ u.1 = upd f7 v0.toNatClampNeg p0 ∧ u.2 = v0 + 1) (fun u t => zB D cI cZ cJ (va_A (wQ cI cZ h a0 a1 a2 a3 a4 a5 a6 a7 a8 a9 a10 f0 f1 f2 f3 f4 f5 f6 f7 f8 f9 f10 v0 v1 v2 v3) sz) (wQ cI cZ h a0 a1 a2 a3 a4 a5 a6 a7 a8 a9 a10 f0 f1 f2 f3 f4 f5 f6 u.1 f8 f9 f10 u.2 v1 v2 v3) t) (va_A (wQ cI cZ h a0 a1 a2 a3 a4 a5 a6 a7 a8 a9 a10 f0 f1 f2 f3 f4 f5 f6 f7 f8 f9 f10 v0 v1 v2 v3) sz)) 0 0 (va_A (wQ cI cZ h a0 a1 a2 a3 a4 a5 a6 a7 a8 a9 a10 f0 f1 f2 f3 f4 f5 f6 f7 f8 f9 f10 v0 v1 v2 v3) sz) := by
  refine Met.ofW (cc := cX0_addMilestone) (maxL := 2) (ret := (some .int)) (by decide) rfl ?_
  intro p e s m args below meth c s₁ B hml hv
  obtain ⟨rfl, hsz, hP, hK, hD0⟩ := hv
  have hx := B.exec
  have hb := B.bytes
  have hr := B.returns
  have hts := atoms_spec (ws := wsX0_addMilestone) B.pre
  have hown : s.vm.findClass RX0 = some m.cls := findClass_of_methodNamed B.named
  have hlocks := B.notSynchronized
  have hin : ∀ w ∈ wsX00, w ∈ wsX0_addMilestone := by decide +kernel
  subst hsz
  have hD := hD0.self (sz := s.heap.size)
  generalize hAe : va_A (wQ cI cZ h a0 a1 a2 a3 a4 a5 a6 a7 a8 a9 a10 f0 f1 f2 f3 f4 f5 f6 f7 f8 f9 f10 v0 v1 v2 v3) s.heap.size = A at hD ⊢
  have hA : ∀ q : Nat, s.heap.size ≤ q → A q := fun q h => by rw [← hAe]; exact Or.inr h
  have hS : va_S A s.heap s.heap [] := va_S.rf
  have hl := lv_entry ([.ref h, .int p0]) (n := 2) (Nat.le_of_ble_eq_true rfl)
  rw [lg_entry_eq]
  generalize (lg_sl ([.ref h, .int p0]) ++ List.replicate (2 - (lg_sl ([.ref h, .int p0])).length) Slot.unset).toArray = ls at hl ⊢
  have hl : lv_has ls 2 [(0, .ref h), (1, .int p0)] := hl
  refine lv_iload_n hx hb dX0_addMilestone_0 rfl (lv_at hl 1 rfl) ?_
  refine lv_ldc hx hb hown (hts (.constant RX0 52 (100000)) (by decide +kernel)) dX0_addMilestone_1 ?_
  refine va_csv (W.runS (As := [.int p0, .int 100000]) (rest := []) ⟨hx, hb, hml, hown, hts⟩ (c_X0_requireAmount l p0 100000 hi) (va_cwS 2 hts gX0_addMilestone_X0_requireAmount rfl rfl rfl (by decide +kernel) ⟨Nat.le_of_ble_eq_true rfl, Nat.le_of_ble_eq_true rfl⟩) ⟨zN_blind, fun U hU hW => ⟨rfl, trivial⟩⟩ rfl rfl hl.1 rfl (lv_room (Nat.le_of_ble_eq_true rfl)) dX0_addMilestone_3 ⟨Nat.le_of_ble_eq_true rfl, Nat.le_of_ble_eq_true rfl⟩) (fun w1 => ?_)
  refine lv_aload_n hx hb dX0_addMilestone_6 rfl (lv_at hl 0 rfl) ?_
  refine va_get (D := D) (ci := 0) (v := .int v0) (C := RX0) (T := TX0) (N := 15) hx hb hts hin hown hK hP 0 rfl rfl 9 (by decide) (hts (.fieldLink RX0 78 "Quorumfund" "added" "I") (by decide +kernel)) (fun _ h9 => h9) rfl dX0_addMilestone_7 ?_
  refine lv_bipush (v := 6) hx hb dX0_addMilestone_10 (by decide) ?_
  refine lv_icmp_lt (tgt := 25) hx hb dX0_addMilestone_12 (by decide) (fun c2 => ?_) (fun c2 => False.elim (by have h9 := vp_in_iff.mp hv; rw [z_lt, z_l6] at c2; omega))
  refine lv_aload_n hx hb dX0_addMilestone_25 rfl (lv_at hl 0 rfl) ?_
  refine va_get (D := D) (ci := 0) (v := .ref a7) (C := RX0) (T := TX0) (N := 15) hx hb hts hin hown hK hP 0 rfl rfl 7 (by decide) (hts (.fieldLink RX0 31 "Quorumfund" "amounts" "[I") (by decide +kernel)) (fun _ h9 => h9) rfl dX0_addMilestone_26 ?_
  refine lv_aload_n hx hb dX0_addMilestone_29 rfl (lv_at hl 0 rfl) ?_
  refine va_get (D := D) (ci := 0) (v := .int v0) (C := RX0) (T := TX0) (N := 15) hx hb hts hin hown hK hP 0 rfl rfl 9 (by decide) (hts (.fieldLink RX0 78 "Quorumfund" "added" "I") (by decide +kernel)) (fun _ h9 => h9) rfl dX0_addMilestone_30 ?_
  refine lv_iload_n hx hb dX0_addMilestone_33 rfl (lv_at hl 1 rfl) ?_
  refine va_iast (D := D) hx hb hK hP hD hS 8 0 rfl rfl hv dX0_addMilestone_34 (fun H locs hP hD hS => ?_)
  have hP : va_P D vwCl (wQ cI cZ h a0 a1 a2 a3 a4 a5 a6 a7 a8 a9 a10 f0 f1 f2 f3 f4 f5 f6 (upd f7 v0.toNatClampNeg p0) f8 f9 f10 v0 v1 v2 v3) H := hP
  have hD : va_D A (wQ cI cZ h a0 a1 a2 a3 a4 a5 a6 a7 a8 a9 a10 f0 f1 f2 f3 f4 f5 f6 (upd f7 v0.toNatClampNeg p0) f8 f9 f10 v0 v1 v2 v3) := hD
  refine lv_aload_n hx hb dX0_addMilestone_35 rfl (lv_at hl 0 rfl) ?_
  refine lv_dup hx hb dX0_addMilestone_36 rfl ?_
  refine va_get (D := D) (ci := 0) (v := .int v0) (C := RX0) (T := TX0) (N := 15) hx hb hts hin hown hK hP 0 rfl rfl 9 (by decide) (hts (.fieldLink RX0 78 "Quorumfund" "added" "I") (by decide +kernel)) (fun _ h9 => h9) rfl dX0_addMilestone_37 ?_
  refine lv_iconst (v := 1) hx hb dX0_addMilestone_40 (by decide) ?_
  refine lv_iadd hx hb dX0_addMilestone_41 ?_
  refine va_put (D := D) (ci := 0) (v := .int (v0 + 1)) (ty := .int) (C := RX0) (T := TX0) (N := 15) hx hb hts hin tyX0 tyX0_ok nmX0 hown hK hP hD hS 0 rfl rfl 9 (by decide) (hts (.fieldLink RX0 78 "Quorumfund" "added" "I") (by decide +kernel)) (fun _ h9 => h9) rfl (by decide +kernel) rfl rfl (Nat.le_of_ble_eq_true rfl) dX0_addMilestone_42 (fun H locs hP hD hS => ?_)
  have hP : va_P D vwCl (wQ cI cZ h a0 a1 a2 a3 a4 a5 a6 a7 a8 a9 a10 f0 f1 f2 f3 f4 f5 f6 (upd f7 v0.toNatClampNeg p0) f8 f9 f10 (v0 + 1) v1 v2 v3) H := hP
  have hD : va_D A (wQ cI cZ h a0 a1 a2 a3 a4 a5 a6 a7 a8 a9 a10 f0 f1 f2 f3 f4 f5 f6 (upd f7 v0.toNatClampNeg p0) f8 f9 f10 (v0 + 1) v1 v2 v3) := hD
  refine lv_aload_n hx hb dX0_addMilestone_45 rfl (lv_at hl 0 rfl) ?_
  refine va_get (D := D) (ci := 0) (v := .int (v0 + 1)) (C := RX0) (T := TX0) (N := 15) hx hb hts hin hown hK hP 0 rfl rfl 9 (by decide) (hts (.fieldLink RX0 78 "Quorumfund" "added" "I") (by decide +kernel)) (fun _ h9 => h9) rfl dX0_addMilestone_46 ?_
  refine lv_iconst (v := 1) hx hb dX0_addMilestone_49 (by decide) ?_
  refine lv_isub hx hb dX0_addMilestone_50 ?_
  exact W.iret (v := (v0 + 1) - 1) hx hb hr (fun t ht hW => ⟨⟨(v0 + 1) - 1, ⟨(upd f7 v0.toNatClampNeg p0), (v0 + 1)⟩, rfl, ⟨rfl, rfl, rfl⟩, ⟨by rw [ht]; exact hP, va_K.moved hW.alike hK, hD⟩⟩, hS.F ht⟩) hS.2.2 dX0_addMilestone_51
set_option maxHeartbeats 4000000 in
set_option maxRecDepth 100000 in
theorem c_X0_addMilestone_t1 (l : Launch) (hl0 : l.stackTraces = false) (D : va_G) (cI cZ cJ : ClassId) (h a0 a1 a2 a3 a4 a5 a6 a7 a8 a9 a10 : Nat) (f0 f1 f2 f3 f4 f5 f6 f7 f8 f9 f10 : Nat → Int32) (v0 v1 v2 v3 : Int32) (p0 : Int32) (hi : q_i p0 1 100000 = false) : vx_Met l yX0_addMilestone wsX0_addMilestone ({ frames := 7, cells := 1, slots := 6, locals := 111 }) (va_Pc [.ref h, .int p0] (zPX D cI cZ cJ (wQ cI cZ h a0 a1 a2 a3 a4 a5 a6 a7 a8 a9 a10 f0 f1 f2 f3 f4 f5 f6 f7 f8 f9 f10 v0 v1 v2 v3))) zNo (zXC (fun E => E = "java/lang/IllegalArgumentException")) 1 6 (fun _ => False) := by
  refine vx_ofW (cc := cX0_addMilestone) (maxL := 2) (ret := (some .int)) (by decide) rfl ?_
  intro p e s m args below meth c s₁ B hml hout hv
  obtain ⟨rfl, hZ, hP, hK⟩ := hv
  have hx := B.exec
  have hb := B.bytes
  have hr := B.returns
  have hts := atoms_spec (ws := wsX0_addMilestone) B.pre
  have hown : s.vm.findClass RX0 = some m.cls := findClass_of_methodNamed B.named
  have hlocks := B.notSynchronized
  have hin : ∀ w ∈ wsX00, w ∈ wsX0_addMilestone := by decide +kernel
  have hl := lv_entry ([.ref h, .int p0]) (n := 2) (Nat.le_of_ble_eq_true rfl)
  rw [lg_entry_eq]
  generalize (lg_sl ([.ref h, .int p0]) ++ List.replicate (2 - (lg_sl ([.ref h, .int p0])).length) Slot.unset).toArray = ls at hl ⊢
  have hl : lv_has ls 2 [(0, .ref h), (1, .int p0)] := hl
  refine lv_iload_n hx hb dX0_addMilestone_0 rfl (lv_at hl 1 rfl) ?_
  refine lv_ldc hx hb hown (hts (.constant RX0 52 (100000)) (by decide +kernel)) dX0_addMilestone_1 ?_
  exact z_thru (vx_runS (As := [.int p0, .int 100000]) (rest := []) ⟨hx, hb, hml, hown, hts⟩ (c_X0_requireAmount_t l hl0 p0 100000 hi) (va_cwS 2 hts gX0_addMilestone_X0_requireAmount rfl rfl rfl (by decide +kernel) ⟨Nat.le_of_ble_eq_true rfl, Nat.le_of_ble_eq_true rfl⟩) ⟨zXs_blind, fun U hU hW => ⟨rfl, zX_at hZ hU hW⟩⟩ rfl rfl hl.1 rfl (lv_room (Nat.le_of_ble_eq_true rfl)) dX0_addMilestone_3 ⟨Nat.le_of_ble_eq_true rfl, Nat.le_of_ble_eq_true rfl⟩) (fun _ h => h) hout hlocks (fun _ h => h)
set_option maxHeartbeats 4000000 in
set_option maxRecDepth 100000 in
theorem c_X0_addMilestone_t2 (l : Launch) (hl0 : l.stackTraces = false) (D : va_G) (cI cZ cJ : ClassId) (h a0 a1 a2 a3 a4 a5 a6 a7 a8 a9 a10 : Nat) (f0 f1 f2 f3 f4 f5 f6 f7 f8 f9 f10 : Nat → Int32) (v0 v1 v2 v3 : Int32) (p0 : Int32) (hi : q_i p0 1 100000 = true) (hv : v0 = 6) : vx_Met l yX0_addMilestone wsX0_addMilestone ({ frames := 6, cells := 1, slots := 6, locals := 90 }) (va_Pc [.ref h, .int p0] (zPX D cI cZ cJ (wQ cI cZ h a0 a1 a2 a3 a4 a5 a6 a7 a8 a9 a10 f0 f1 f2 f3 f4 f5 f6 f7 f8 f9 f10 v0 v1 v2 v3))) zNo (zXC (fun E => E = "java/lang/IllegalStateException")) 1 6 (fun _ => False) := by
  refine vx_ofW (cc := cX0_addMilestone) (maxL := 2) (ret := (some .int)) (by decide) rfl ?_
  intro p e s m args below meth c s₁ B hml hout hv
  obtain ⟨rfl, hZ, hP, hK⟩ := hv
  have hx := B.exec
  have hb := B.bytes
  have hr := B.returns
  have hts := atoms_spec (ws := wsX0_addMilestone) B.pre
  have hown : s.vm.findClass RX0 = some m.cls := findClass_of_methodNamed B.named
  have hlocks := B.notSynchronized
  have hin : ∀ w ∈ wsX00, w ∈ wsX0_addMilestone := by decide +kernel
  have hl := lv_entry ([.ref h, .int p0]) (n := 2) (Nat.le_of_ble_eq_true rfl)
  rw [lg_entry_eq]
  generalize (lg_sl ([.ref h, .int p0]) ++ List.replicate (2 - (lg_sl ([.ref h, .int p0])).length) Slot.unset).toArray = ls at hl ⊢
  have hl : lv_has ls 2 [(0, .ref h), (1, .int p0)] := hl
  refine lv_iload_n hx hb dX0_addMilestone_0 rfl (lv_at hl 1 rfl) ?_
  refine lv_ldc hx hb hown (hts (.constant RX0 52 (100000)) (by decide +kernel)) dX0_addMilestone_1 ?_
  refine va_csv (W.runS (As := [.int p0, .int 100000]) (rest := []) ⟨hx, hb, hml, hown, hts⟩ (c_X0_requireAmount l p0 100000 hi) (va_cwS 2 hts gX0_addMilestone_X0_requireAmount rfl rfl rfl (by decide +kernel) ⟨Nat.le_of_ble_eq_true rfl, Nat.le_of_ble_eq_true rfl⟩) ⟨zN_blind, fun U hU hW => ⟨rfl, trivial⟩⟩ rfl rfl hl.1 rfl (lv_room (Nat.le_of_ble_eq_true rfl)) dX0_addMilestone_3 ⟨Nat.le_of_ble_eq_true rfl, Nat.le_of_ble_eq_true rfl⟩) (fun w1 => ?_)
  refine lv_aload_n hx hb dX0_addMilestone_6 rfl (lv_at hl 0 rfl) ?_
  refine va_get (D := D) (ci := 0) (v := .int v0) (C := RX0) (T := TX0) (N := 15) hx hb hts hin hown hK hP 0 rfl rfl 9 (by decide) (hts (.fieldLink RX0 78 "Quorumfund" "added" "I") (by decide +kernel)) (fun _ h9 => h9) rfl dX0_addMilestone_7 ?_
  refine lv_bipush (v := 6) hx hb dX0_addMilestone_10 (by decide) ?_
  refine lv_icmp_lt (tgt := 25) hx hb dX0_addMilestone_12 (by decide) (fun c2 => False.elim (by rw [hv] at c2; exact absurd c2 (by decide))) (fun c2 => ?_)
  obtain ⟨sa, hsa⟩ := hZ.2.1 (81, "there are as many milestones as there may be") (by decide)
  exact z_throw (Qc := zNo) (own := RX0) (cls := "java/lang/IllegalStateException") (ik := 53) (is := 81) (ic := 57) (text := "there are as many milestones as there may be") hx hb hl0 hown (by decide +kernel) (hts (.classLink RX0 53 "java/lang/IllegalStateException") (by decide +kernel)) (hts (.initialized "java/lang/IllegalStateException") (by decide +kernel)) hsa hts (by decide +kernel) (by decide +kernel) hZ.1 hZ.2.2.2.1 hZ.2.2.2.2 hl.1 hml dX0_addMilestone_15 dX0_addMilestone_18 dX0_addMilestone_19 dX0_addMilestone_21 dX0_addMilestone_24 (fun x h => (hout x h).elim) (Nat.le_of_ble_eq_true rfl) (Nat.le_of_ble_eq_true rfl) (Nat.le_of_ble_eq_true rfl) (Nat.le_of_ble_eq_true rfl) hlocks
set_option maxHeartbeats 4000000 in
set_option maxRecDepth 100000 in
theorem c_X0_prove (l : Launch) (D : va_G) (cI cZ cJ : ClassId) (sz : Nat) (h a0 a1 a2 a3 a4 a5 a6 a7 a8 a9 a10 : Nat) (f0 f1 f2 f3 f4 f5 f6 f7 f8 f9 f10 : Nat → Int32) (v0 v1 v2 v3 : Int32) (p0 : Int32) (h1 : vp_in p0 6) (hb2 : p0 < v0) (hc : ¬ p0 < v1) : Met l yX0_prove wsX0_prove ({ frames := 0, cells := 0, slots := 0, locals := 0 }) (va_Pc [.ref h, .int p0] (zD D cI cZ cJ sz (wQ cI cZ h a0 a1 a2 a3 a4 a5 a6 a7 a8 a9 a10 f0 f1 f2 f3 f4 f5 f6 f7 f8 f9 f10 v0 v1 v2 v3))) (va_Qi (fun (r : Int32) (u : (Nat → Int32)) => r = q_tog (f8 p0.toNatClampNeg) ∧ u = upd f8 p0.toNatClampNeg (q_tog (f8 p0.toNatClampNeg))) (fun u t => zB D cI cZ cJ (va_A (wQ cI cZ h a0 a1 a2 a3 a4 a5 a6 a7 a8 a9 a10 f0 f1 f2 f3 f4 f5 f6 f7 f8 f9 f10 v0 v1 v2 v3) sz) (wQ cI cZ h a0 a1 a2 a3 a4 a5 a6 a7 a8 a9 a10 f0 f1 f2 f3 f4 f5 f6 f7 u f9 f10 v0 v1 v2 v3) t) (va_A (wQ cI cZ h a0 a1 a2 a3 a4 a5 a6 a7 a8 a9 a10 f0 f1 f2 f3 f4 f5 f6 f7 f8 f9 f10 v0 v1 v2 v3) sz)) 0 0 (va_A (wQ cI cZ h a0 a1 a2 a3 a4 a5 a6 a7 a8 a9 a10 f0 f1 f2 f3 f4 f5 f6 f7 f8 f9 f10 v0 v1 v2 v3) sz) := by
  refine Met.ofW (cc := cX0_prove) (maxL := 2) (ret := (some .boolean)) (by decide) rfl ?_
  intro p e s m args below meth c s₁ B hml hv
  obtain ⟨rfl, hsz, hP, hK, hD0⟩ := hv
  have hx := B.exec
  have hb := B.bytes
  have hr := B.returns
  have hts := atoms_spec (ws := wsX0_prove) B.pre
  have hown : s.vm.findClass RX0 = some m.cls := findClass_of_methodNamed B.named
  have hlocks := B.notSynchronized
  have hin : ∀ w ∈ wsX00, w ∈ wsX0_prove := by decide +kernel
  subst hsz
  have hD := hD0.self (sz := s.heap.size)
  generalize hAe : va_A (wQ cI cZ h a0 a1 a2 a3 a4 a5 a6 a7 a8 a9 a10 f0 f1 f2 f3 f4 f5 f6 f7 f8 f9 f10 v0 v1 v2 v3) s.heap.size = A at hD ⊢
  have hA : ∀ q : Nat, s.heap.size ≤ q → A q := fun q h => by rw [← hAe]; exact Or.inr h
  have hS : va_S A s.heap s.heap [] := va_S.rf
  have hl := lv_entry ([.ref h, .int p0]) (n := 2) (Nat.le_of_ble_eq_true rfl)
  rw [lg_entry_eq]
  generalize (lg_sl ([.ref h, .int p0]) ++ List.replicate (2 - (lg_sl ([.ref h, .int p0])).length) Slot.unset).toArray = ls at hl ⊢
  have hl : lv_has ls 2 [(0, .ref h), (1, .int p0)] := hl
  refine lv_iload_n hx hb dX0_prove_0 rfl (lv_at hl 1 rfl) ?_
  refine lv_if_lt (tgt := 12) hx hb dX0_prove_1 (by decide) (fun c1 => False.elim (by have h9 := vp_in_iff.mp h1; rw [z_lt, z_l0] at c1; omega)) (fun c1 => ?_)
  refine lv_iload_n hx hb dX0_prove_4 rfl (lv_at hl 1 rfl) ?_
  refine lv_aload_n hx hb dX0_prove_5 rfl (lv_at hl 0 rfl) ?_
  refine va_get (D := D) (ci := 0) (v := .int v0) (C := RX0) (T := TX0) (N := 15) hx hb hts hin hown hK hP 0 rfl rfl 9 (by decide) (hts (.fieldLink RX0 78 "Quorumfund" "added" "I") (by decide +kernel)) (fun _ h9 => h9) rfl dX0_prove_6 ?_
  refine lv_icmp_lt (tgt := 22) hx hb dX0_prove_9 (by decide) (fun c2 => ?_) (fun c2 => False.elim (by exact c2 hb2))
  refine lv_iload_n hx hb dX0_prove_22 rfl (lv_at hl 1 rfl) ?_
  refine lv_aload_n hx hb dX0_prove_23 rfl (lv_at hl 0 rfl) ?_
  refine va_get (D := D) (ci := 0) (v := .int v1) (C := RX0) (T := TX0) (N := 15) hx hb hts hin hown hK hP 0 rfl rfl 10 (by decide) (hts (.fieldLink RX0 85 "Quorumfund" "released" "I") (by decide +kernel)) (fun _ h9 => h9) rfl dX0_prove_24 ?_
  refine lv_icmp_ge (tgt := 40) hx hb dX0_prove_27 (by decide) (fun c3 => ?_) (fun c3 => False.elim (by exact c3 (z_nlt.mp hc)))
  refine lv_aload_n hx hb dX0_prove_40 rfl (lv_at hl 0 rfl) ?_
  refine va_get (D := D) (ci := 0) (v := .ref a8) (C := RX0) (T := TX0) (N := 15) hx hb hts hin hown hK hP 0 rfl rfl 8 (by decide) (hts (.fieldLink RX0 34 "Quorumfund" "proofs" "[Z") (by decide +kernel)) (fun _ h9 => h9) rfl dX0_prove_41 ?_
  refine lv_iload_n hx hb dX0_prove_44 rfl (lv_at hl 1 rfl) ?_
  refine lv_aload_n hx hb dX0_prove_45 rfl (lv_at hl 0 rfl) ?_
  refine va_get (D := D) (ci := 0) (v := .ref a8) (C := RX0) (T := TX0) (N := 15) hx hb hts hin hown hK hP 0 rfl rfl 8 (by decide) (hts (.fieldLink RX0 34 "Quorumfund" "proofs" "[Z") (by decide +kernel)) (fun _ h9 => h9) rfl dX0_prove_46 ?_
  refine lv_iload_n hx hb dX0_prove_49 rfl (lv_at hl 1 rfl) ?_
  refine va_zald (D := D) hx hb hK hP 9 1 rfl rfl h1 dX0_prove_50 ?_
  refine lv_if_ne (tgt := 58) hx hb dX0_prove_51 (by decide) (fun c4 => ?_) (fun c4 => ?_)
  · skip
    refine lv_iconst (v := 0) hx hb dX0_prove_58 (by decide) ?_
    refine va_zast (D := D) hx hb hK hP hD hS 9 1 rfl rfl h1 dX0_prove_59 (fun H locs hP hD hS => ?_)
    have hP : va_P D vwCl (wQ cI cZ h a0 a1 a2 a3 a4 a5 a6 a7 a8 a9 a10 f0 f1 f2 f3 f4 f5 f6 f7 (upd f8 p0.toNatClampNeg (vp_nar .boolean 0)) f9 f10 v0 v1 v2 v3) H := hP
    have hD : va_D A (wQ cI cZ h a0 a1 a2 a3 a4 a5 a6 a7 a8 a9 a10 f0 f1 f2 f3 f4 f5 f6 f7 (upd f8 p0.toNatClampNeg (vp_nar .boolean 0)) f9 f10 v0 v1 v2 v3) := hD
    refine lv_aload_n hx hb dX0_prove_60 rfl (lv_at hl 0 rfl) ?_
    refine va_get (D := D) (ci := 0) (v := .ref a8) (C := RX0) (T := TX0) (N := 15) hx hb hts hin hown hK hP 0 rfl rfl 8 (by decide) (hts (.fieldLink RX0 34 "Quorumfund" "proofs" "[Z") (by decide +kernel)) (fun _ h9 => h9) rfl dX0_prove_61 ?_
    refine lv_iload_n hx hb dX0_prove_64 rfl (lv_at hl 1 rfl) ?_
    refine va_zald (D := D) hx hb hK hP 9 1 rfl rfl h1 dX0_prove_65 ?_
    rw [show (upd f8 p0.toNatClampNeg (vp_nar .boolean 0)) p0.toNatClampNeg = 0 from (by rw [pk_us]; rfl)]
    exact W.zret (v := 0) hx hb hr rfl (fun t ht hW => ⟨⟨0, (upd f8 p0.toNatClampNeg (vp_nar .boolean 0)), rfl, ⟨by simp [q_tog, c1, c2, c3, c4], by rw [show q_tog (f8 p0.toNatClampNeg) = 0 from by simp [q_tog, c1, c2, c3, c4]]; rfl⟩, ⟨by rw [ht]; exact hP, va_K.moved hW.alike hK, hD⟩⟩, hS.F ht⟩) hS.2.2 dX0_prove_66
  · skip
    refine lv_iconst (v := 1) hx hb dX0_prove_54 (by decide) ?_
    refine lv_goto (tgt := 59) hx hb dX0_prove_55 (by decide) ?_
    refine va_zast (D := D) hx hb hK hP hD hS 9 1 rfl rfl h1 dX0_prove_59 (fun H locs hP hD hS => ?_)
    have hP : va_P D vwCl (wQ cI cZ h a0 a1 a2 a3 a4 a5 a6 a7 a8 a9 a10 f0 f1 f2 f3 f4 f5 f6 f7 (upd f8 p0.toNatClampNeg (vp_nar .boolean 1)) f9 f10 v0 v1 v2 v3) H := hP
    have hD : va_D A (wQ cI cZ h a0 a1 a2 a3 a4 a5 a6 a7 a8 a9 a10 f0 f1 f2 f3 f4 f5 f6 f7 (upd f8 p0.toNatClampNeg (vp_nar .boolean 1)) f9 f10 v0 v1 v2 v3) := hD
    refine lv_aload_n hx hb dX0_prove_60 rfl (lv_at hl 0 rfl) ?_
    refine va_get (D := D) (ci := 0) (v := .ref a8) (C := RX0) (T := TX0) (N := 15) hx hb hts hin hown hK hP 0 rfl rfl 8 (by decide) (hts (.fieldLink RX0 34 "Quorumfund" "proofs" "[Z") (by decide +kernel)) (fun _ h9 => h9) rfl dX0_prove_61 ?_
    refine lv_iload_n hx hb dX0_prove_64 rfl (lv_at hl 1 rfl) ?_
    refine va_zald (D := D) hx hb hK hP 9 1 rfl rfl h1 dX0_prove_65 ?_
    rw [show (upd f8 p0.toNatClampNeg (vp_nar .boolean 1)) p0.toNatClampNeg = 1 from (by rw [pk_us]; rfl)]
    exact W.zret (v := 1) hx hb hr rfl (fun t ht hW => ⟨⟨1, (upd f8 p0.toNatClampNeg (vp_nar .boolean 1)), rfl, ⟨by simp [q_tog, c1, c2, c3, c4], by rw [show q_tog (f8 p0.toNatClampNeg) = 1 from by simp [q_tog, c1, c2, c3, c4]]; rfl⟩, ⟨by rw [ht]; exact hP, va_K.moved hW.alike hK, hD⟩⟩, hS.F ht⟩) hS.2.2 dX0_prove_66
set_option maxHeartbeats 4000000 in
set_option maxRecDepth 100000 in
theorem c_X0_prove_t1 (l : Launch) (hl0 : l.stackTraces = false) (D : va_G) (cI cZ cJ : ClassId) (h a0 a1 a2 a3 a4 a5 a6 a7 a8 a9 a10 : Nat) (f0 f1 f2 f3 f4 f5 f6 f7 f8 f9 f10 : Nat → Int32) (v0 v1 v2 v3 : Int32) (p0 : Int32) (hb2 : ¬ (¬ p0 < 0 ∧ p0 < v0)) : vx_Met l yX0_prove wsX0_prove ({ frames := 6, cells := 1, slots := 6, locals := 90 }) (va_Pc [.ref h, .int p0] (zPX D cI cZ cJ (wQ cI cZ h a0 a1 a2 a3 a4 a5 a6 a7 a8 a9 a10 f0 f1 f2 f3 f4 f5 f6 f7 f8 f9 f10 v0 v1 v2 v3))) zNo (zXC (fun E => E = "java/lang/IndexOutOfBoundsException")) 1 6 (fun _ => False) := by
  refine vx_ofW (cc := cX0_prove) (maxL := 2) (ret := (some .boolean)) (by decide) rfl ?_
  intro p e s m args below meth c s₁ B hml hout hv
  obtain ⟨rfl, hZ, hP, hK⟩ := hv
  have hx := B.exec
  have hb := B.bytes
  have hr := B.returns
  have hts := atoms_spec (ws := wsX0_prove) B.pre
  have hown : s.vm.findClass RX0 = some m.cls := findClass_of_methodNamed B.named
  have hlocks := B.notSynchronized
  have hin : ∀ w ∈ wsX00, w ∈ wsX0_prove := by decide +kernel
  have hl := lv_entry ([.ref h, .int p0]) (n := 2) (Nat.le_of_ble_eq_true rfl)
  rw [lg_entry_eq]
  generalize (lg_sl ([.ref h, .int p0]) ++ List.replicate (2 - (lg_sl ([.ref h, .int p0])).length) Slot.unset).toArray = ls at hl ⊢
  have hl : lv_has ls 2 [(0, .ref h), (1, .int p0)] := hl
  refine lv_iload_n hx hb dX0_prove_0 rfl (lv_at hl 1 rfl) ?_
  refine lv_if_lt (tgt := 12) hx hb dX0_prove_1 (by decide) (fun c1 => ?_) (fun c1 => ?_)
  · skip
    obtain ⟨sa, hsa⟩ := hZ.2.1 (83, "no such milestone") (by decide)
    exact z_throw (Qc := zNo) (own := RX0) (cls := "java/lang/IndexOutOfBoundsException") (ik := 66) (is := 83) (ic := 70) (text := "no such milestone") hx hb hl0 hown (by decide +kernel) (hts (.classLink RX0 66 "java/lang/IndexOutOfBoundsException") (by decide +kernel)) (hts (.initialized "java/lang/IndexOutOfBoundsException") (by decide +kernel)) hsa hts (by decide +kernel) (by decide +kernel) hZ.1 hZ.2.2.2.1 hZ.2.2.2.2 hl.1 hml dX0_prove_12 dX0_prove_15 dX0_prove_16 dX0_prove_18 dX0_prove_21 (fun x h => (hout x h).elim) (Nat.le_of_ble_eq_true rfl) (Nat.le_of_ble_eq_true rfl) (Nat.le_of_ble_eq_true rfl) (Nat.le_of_ble_eq_true rfl) hlocks
  · skip
    refine lv_iload_n hx hb dX0_prove_4 rfl (lv_at hl 1 rfl) ?_
    refine lv_aload_n hx hb dX0_prove_5 rfl (lv_at hl 0 rfl) ?_
    refine va_get (D := D) (ci := 0) (v := .int v0) (C := RX0) (T := TX0) (N := 15) hx hb hts hin hown hK hP 0 rfl rfl 9 (by decide) (hts (.fieldLink RX0 78 "Quorumfund" "added" "I") (by decide +kernel)) (fun _ h9 => h9) rfl dX0_prove_6 ?_
    refine lv_icmp_lt (tgt := 22) hx hb dX0_prove_9 (by decide) (fun c2 => False.elim (by exact hb2 ⟨c1, c2⟩)) (fun c2 => ?_)
    obtain ⟨sa, hsa⟩ := hZ.2.1 (83, "no such milestone") (by decide)
    exact z_throw (Qc := zNo) (own := RX0) (cls := "java/lang/IndexOutOfBoundsException") (ik := 66) (is := 83) (ic := 70) (text := "no such milestone") hx hb hl0 hown (by decide +kernel) (hts (.classLink RX0 66 "java/lang/IndexOutOfBoundsException") (by decide +kernel)) (hts (.initialized "java/lang/IndexOutOfBoundsException") (by decide +kernel)) hsa hts (by decide +kernel) (by decide +kernel) hZ.1 hZ.2.2.2.1 hZ.2.2.2.2 hl.1 hml dX0_prove_12 dX0_prove_15 dX0_prove_16 dX0_prove_18 dX0_prove_21 (fun x h => (hout x h).elim) (Nat.le_of_ble_eq_true rfl) (Nat.le_of_ble_eq_true rfl) (Nat.le_of_ble_eq_true rfl) (Nat.le_of_ble_eq_true rfl) hlocks
set_option maxHeartbeats 4000000 in
set_option maxRecDepth 100000 in
theorem c_X0_prove_t2 (l : Launch) (hl0 : l.stackTraces = false) (D : va_G) (cI cZ cJ : ClassId) (h a0 a1 a2 a3 a4 a5 a6 a7 a8 a9 a10 : Nat) (f0 f1 f2 f3 f4 f5 f6 f7 f8 f9 f10 : Nat → Int32) (v0 v1 v2 v3 : Int32) (p0 : Int32) (h1 : ¬ p0 < 0) (hb2 : p0 < v0) (hc : p0 < v1) : vx_Met l yX0_prove wsX0_prove ({ frames := 6, cells := 1, slots := 6, locals := 90 }) (va_Pc [.ref h, .int p0] (zPX D cI cZ cJ (wQ cI cZ h a0 a1 a2 a3 a4 a5 a6 a7 a8 a9 a10 f0 f1 f2 f3 f4 f5 f6 f7 f8 f9 f10 v0 v1 v2 v3))) zNo (zXC (fun E => E = "java/lang/IllegalStateException")) 1 6 (fun _ => False) := by
  refine vx_ofW (cc := cX0_prove) (maxL := 2) (ret := (some .boolean)) (by decide) rfl ?_
  intro p e s m args below meth c s₁ B hml hout hv
  obtain ⟨rfl, hZ, hP, hK⟩ := hv
  have hx := B.exec
  have hb := B.bytes
  have hr := B.returns
  have hts := atoms_spec (ws := wsX0_prove) B.pre
  have hown : s.vm.findClass RX0 = some m.cls := findClass_of_methodNamed B.named
  have hlocks := B.notSynchronized
  have hin : ∀ w ∈ wsX00, w ∈ wsX0_prove := by decide +kernel
  have hl := lv_entry ([.ref h, .int p0]) (n := 2) (Nat.le_of_ble_eq_true rfl)
  rw [lg_entry_eq]
  generalize (lg_sl ([.ref h, .int p0]) ++ List.replicate (2 - (lg_sl ([.ref h, .int p0])).length) Slot.unset).toArray = ls at hl ⊢
  have hl : lv_has ls 2 [(0, .ref h), (1, .int p0)] := hl
  refine lv_iload_n hx hb dX0_prove_0 rfl (lv_at hl 1 rfl) ?_
  refine lv_if_lt (tgt := 12) hx hb dX0_prove_1 (by decide) (fun c1 => False.elim (by exact h1 c1)) (fun c1 => ?_)
  refine lv_iload_n hx hb dX0_prove_4 rfl (lv_at hl 1 rfl) ?_
  refine lv_aload_n hx hb dX0_prove_5 rfl (lv_at hl 0 rfl) ?_
  refine va_get (D := D) (ci := 0) (v := .int v0) (C := RX0) (T := TX0) (N := 15) hx hb hts hin hown hK hP 0 rfl rfl 9 (by decide) (hts (.fieldLink RX0 78 "Quorumfund" "added" "I") (by decide +kernel)) (fun _ h9 => h9) rfl dX0_prove_6 ?_
  refine lv_icmp_lt (tgt := 22) hx hb dX0_prove_9 (by decide) (fun c2 => ?_) (fun c2 => False.elim (by exact c2 hb2))
  refine lv_iload_n hx hb dX0_prove_22 rfl (lv_at hl 1 rfl) ?_
  refine lv_aload_n hx hb dX0_prove_23 rfl (lv_at hl 0 rfl) ?_
  refine va_get (D := D) (ci := 0) (v := .int v1) (C := RX0) (T := TX0) (N := 15) hx hb hts hin hown hK hP 0 rfl rfl 10 (by decide) (hts (.fieldLink RX0 85 "Quorumfund" "released" "I") (by decide +kernel)) (fun _ h9 => h9) rfl dX0_prove_24 ?_
  refine lv_icmp_ge (tgt := 40) hx hb dX0_prove_27 (by decide) (fun c3 => False.elim (by exact absurd hc (z_nlt.mpr c3))) (fun c3 => ?_)
  obtain ⟨sa, hsa⟩ := hZ.2.1 (88, "the milestone is released") (by decide)
  exact z_throw (Qc := zNo) (own := RX0) (cls := "java/lang/IllegalStateException") (ik := 53) (is := 88) (ic := 57) (text := "the milestone is released") hx hb hl0 hown (by decide +kernel) (hts (.classLink RX0 53 "java/lang/IllegalStateException") (by decide +kernel)) (hts (.initialized "java/lang/IllegalStateException") (by decide +kernel)) hsa hts (by decide +kernel) (by decide +kernel) hZ.1 hZ.2.2.2.1 hZ.2.2.2.2 hl.1 hml dX0_prove_30 dX0_prove_33 dX0_prove_34 dX0_prove_36 dX0_prove_39 (fun x h => (hout x h).elim) (Nat.le_of_ble_eq_true rfl) (Nat.le_of_ble_eq_true rfl) (Nat.le_of_ble_eq_true rfl) (Nat.le_of_ble_eq_true rfl) hlocks
set_option maxHeartbeats 4000000 in
set_option maxRecDepth 100000 in
theorem c_X0_vote (l : Launch) (D : va_G) (cI cZ cJ : ClassId) (sz : Nat) (h a0 a1 a2 a3 a4 a5 a6 a7 a8 a9 a10 : Nat) (f0 f1 f2 f3 f4 f5 f6 f7 f8 f9 f10 : Nat → Int32) (v0 v1 v2 v3 : Int32) (p0 p1 : Int32) (hg : q_g p0 = true) (hi : q_i p1 0 2 = true) (hcu : ¬ q_cur v0 v1 = -1) : Met l yX0_vote wsX0_vote ({ frames := 2, cells := 0, slots := 0, locals := 40 }) (va_Pc [.ref h, .int p0, .int p1] (zD D cI cZ cJ sz (wQ cI cZ h a0 a1 a2 a3 a4 a5 a6 a7 a8 a9 a10 f0 f1 f2 f3 f4 f5 f6 f7 f8 f9 f10 v0 v1 v2 v3))) (va_Qi (fun (r : Int32) (u : (Nat → Int32)) => r = f6 p0.toNatClampNeg ∧ u = upd f6 p0.toNatClampNeg p1) (fun u t => zB D cI cZ cJ (va_A (wQ cI cZ h a0 a1 a2 a3 a4 a5 a6 a7 a8 a9 a10 f0 f1 f2 f3 f4 f5 f6 f7 f8 f9 f10 v0 v1 v2 v3) sz) (wQ cI cZ h a0 a1 a2 a3 a4 a5 a6 a7 a8 a9 a10 f0 f1 f2 f3 f4 f5 u f7 f8 f9 f10 v0 v1 v2 v3) t) (va_A (wQ cI cZ h a0 a1 a2 a3 a4 a5 a6 a7 a8 a9 a10 f0 f1 f2 f3 f4 f5 f6 f7 f8 f9 f10 v0 v1 v2 v3) sz)) 0 0 (va_A (wQ cI cZ h a0 a1 a2 a3 a4 a5 a6 a7 a8 a9 a10 f0 f1 f2 f3 f4 f5 f6 f7 f8 f9 f10 v0 v1 v2 v3) sz) := by
  refine Met.ofW (cc := cX0_vote) (maxL := 4) (ret := (some .int)) (by decide) rfl ?_
  intro p e s m args below meth c s₁ B hml hv
  obtain ⟨rfl, hsz, hP, hK, hD0⟩ := hv
  have hx := B.exec
  have hb := B.bytes
  have hr := B.returns
  have hts := atoms_spec (ws := wsX0_vote) B.pre
  have hown : s.vm.findClass RX0 = some m.cls := findClass_of_methodNamed B.named
  have hlocks := B.notSynchronized
  have hin : ∀ w ∈ wsX00, w ∈ wsX0_vote := by decide +kernel
  subst hsz
  have hD := hD0.self (sz := s.heap.size)
  generalize hAe : va_A (wQ cI cZ h a0 a1 a2 a3 a4 a5 a6 a7 a8 a9 a10 f0 f1 f2 f3 f4 f5 f6 f7 f8 f9 f10 v0 v1 v2 v3) s.heap.size = A at hD ⊢
  have hA : ∀ q : Nat, s.heap.size ≤ q → A q := fun q h => by rw [← hAe]; exact Or.inr h
  have hS : va_S A s.heap s.heap [] := va_S.rf
  have hl := lv_entry ([.ref h, .int p0, .int p1]) (n := 4) (Nat.le_of_ble_eq_true rfl)
  rw [lg_entry_eq]
  generalize (lg_sl ([.ref h, .int p0, .int p1]) ++ List.replicate (4 - (lg_sl ([.ref h, .int p0, .int p1])).length) Slot.unset).toArray = ls at hl ⊢
  have hl : lv_has ls 4 [(0, .ref h), (1, .int p0), (2, .int p1)] := hl
  refine lv_iload_n hx hb dX0_vote_0 rfl (lv_at hl 1 rfl) ?_
  refine va_csv (W.runS (As := [.int p0]) (rest := []) ⟨hx, hb, hml, hown, hts⟩ (c_X0_requireGiver l p0 hg) (va_cwS 1 hts gX0_vote_X0_requireGiver rfl rfl rfl (by decide +kernel) ⟨Nat.le_of_ble_eq_true rfl, Nat.le_of_ble_eq_true rfl⟩) ⟨zN_blind, fun U hU hW => ⟨rfl, trivial⟩⟩ rfl rfl hl.1 rfl (lv_room (Nat.le_of_ble_eq_true rfl)) dX0_vote_1 ⟨Nat.le_of_ble_eq_true rfl, Nat.le_of_ble_eq_true rfl⟩) (fun w1 => ?_)
  refine lv_iload_n hx hb dX0_vote_4 rfl (lv_at hl 2 rfl) ?_
  refine lv_if_eq (tgt := 28) hx hb dX0_vote_5 (by decide) (fun c2 => ?_) (fun c2 => ?_)
  · skip
    refine lv_aload_n hx hb dX0_vote_28 rfl (lv_at hl 0 rfl) ?_
    refine vp_callSi (W.runV (As := []) (rest := []) ⟨hx, hb, hml, hown, hts⟩ (c_X0_current l D cI cZ cJ h a0 a1 a2 a3 a4 a5 a6 a7 a8 a9 a10 f0 f1 f2 f3 f4 f5 f6 f7 f8 f9 f10 v0 v1 v2 v3) (cwV 0 hts gX0_vote_X0_current rfl rfl rfl (by decide +kernel) ⟨Nat.le_of_ble_eq_true rfl, Nat.le_of_ble_eq_true rfl⟩) ⟨zP_blind, va_recv hK hP (ci := 0) (q0 := 0) rfl rfl, fun U hU hW => ⟨rfl, zP_mk hP hK hU hW⟩⟩ rfl rfl hl.1 rfl (lv_room (Nat.le_of_ble_eq_true rfl)) dX0_vote_29 ⟨Nat.le_of_ble_eq_true rfl, Nat.le_of_ble_eq_true rfl⟩) (fun r3 w3 => ?_)
    subst w3
    refine lv_iconst (v := (-1)) hx hb dX0_vote_32 (by decide) ?_
    refine lv_icmp_ne (tgt := 46) hx hb dX0_vote_33 (by decide) (fun c4 => ?_) (fun c4 => False.elim (by exact hcu c4))
    refine lv_aload_n hx hb dX0_vote_46 rfl (lv_at hl 0 rfl) ?_
    refine va_get (D := D) (ci := 0) (v := .ref a6) (C := RX0) (T := TX0) (N := 15) hx hb hts hin hown hK hP 0 rfl rfl 6 (by decide) (hts (.fieldLink RX0 28 "Quorumfund" "votes" "[I") (by decide +kernel)) (fun _ h9 => h9) rfl dX0_vote_47 ?_
    refine lv_iload_n hx hb dX0_vote_50 rfl (lv_at hl 1 rfl) ?_
    refine va_iald (D := D) hx hb hK hP 7 0 rfl rfl (q_g_in hg) dX0_vote_51 ?_
    refine lv_istore_n (lv' := [(3, .int (f6 p0.toNatClampNeg)), (0, .ref h), (1, .int p0), (2, .int p1)]) hx hb dX0_vote_52 rfl hl (by decide) rfl (fun ls hl => ?_)
    refine lv_aload_n hx hb dX0_vote_53 rfl (lv_at hl 1 rfl) ?_
    refine va_get (D := D) (ci := 0) (v := .ref a6) (C := RX0) (T := TX0) (N := 15) hx hb hts hin hown hK hP 0 rfl rfl 6 (by decide) (hts (.fieldLink RX0 28 "Quorumfund" "votes" "[I") (by decide +kernel)) (fun _ h9 => h9) rfl dX0_vote_54 ?_
    refine lv_iload_n hx hb dX0_vote_57 rfl (lv_at hl 2 rfl) ?_
    refine lv_iload_n hx hb dX0_vote_58 rfl (lv_at hl 3 rfl) ?_
    refine va_iast (D := D) hx hb hK hP hD hS 7 0 rfl rfl (q_g_in hg) dX0_vote_59 (fun H locs hP hD hS => ?_)
    have hP : va_P D vwCl (wQ cI cZ h a0 a1 a2 a3 a4 a5 a6 a7 a8 a9 a10 f0 f1 f2 f3 f4 f5 (upd f6 p0.toNatClampNeg p1) f7 f8 f9 f10 v0 v1 v2 v3) H := hP
    have hD : va_D A (wQ cI cZ h a0 a1 a2 a3 a4 a5 a6 a7 a8 a9 a10 f0 f1 f2 f3 f4 f5 (upd f6 p0.toNatClampNeg p1) f7 f8 f9 f10 v0 v1 v2 v3) := hD
    refine lv_iload_n hx hb dX0_vote_60 rfl (lv_at hl 0 rfl) ?_
    exact W.iret (v := f6 p0.toNatClampNeg) hx hb hr (fun t ht hW => ⟨⟨f6 p0.toNatClampNeg, (upd f6 p0.toNatClampNeg p1), rfl, ⟨rfl, rfl⟩, ⟨by rw [ht]; exact hP, va_K.moved hW.alike hK, hD⟩⟩, hS.F ht⟩) hS.2.2 dX0_vote_61
  · skip
    refine lv_iload_n hx hb dX0_vote_8 rfl (lv_at hl 2 rfl) ?_
    refine lv_iconst (v := 1) hx hb dX0_vote_9 (by decide) ?_
    refine lv_icmp_eq (tgt := 28) hx hb dX0_vote_10 (by decide) (fun c5 => ?_) (fun c5 => ?_)
    · skip
      refine lv_aload_n hx hb dX0_vote_28 rfl (lv_at hl 0 rfl) ?_
      refine vp_callSi (W.runV (As := []) (rest := []) ⟨hx, hb, hml, hown, hts⟩ (c_X0_current l D cI cZ cJ h a0 a1 a2 a3 a4 a5 a6 a7 a8 a9 a10 f0 f1 f2 f3 f4 f5 f6 f7 f8 f9 f10 v0 v1 v2 v3) (cwV 0 hts gX0_vote_X0_current rfl rfl rfl (by decide +kernel) ⟨Nat.le_of_ble_eq_true rfl, Nat.le_of_ble_eq_true rfl⟩) ⟨zP_blind, va_recv hK hP (ci := 0) (q0 := 0) rfl rfl, fun U hU hW => ⟨rfl, zP_mk hP hK hU hW⟩⟩ rfl rfl hl.1 rfl (lv_room (Nat.le_of_ble_eq_true rfl)) dX0_vote_29 ⟨Nat.le_of_ble_eq_true rfl, Nat.le_of_ble_eq_true rfl⟩) (fun r6 w6 => ?_)
      subst w6
      refine lv_iconst (v := (-1)) hx hb dX0_vote_32 (by decide) ?_
      refine lv_icmp_ne (tgt := 46) hx hb dX0_vote_33 (by decide) (fun c7 => ?_) (fun c7 => False.elim (by exact hcu c7))
      refine lv_aload_n hx hb dX0_vote_46 rfl (lv_at hl 0 rfl) ?_
      refine va_get (D := D) (ci := 0) (v := .ref a6) (C := RX0) (T := TX0) (N := 15) hx hb hts hin hown hK hP 0 rfl rfl 6 (by decide) (hts (.fieldLink RX0 28 "Quorumfund" "votes" "[I") (by decide +kernel)) (fun _ h9 => h9) rfl dX0_vote_47 ?_
      refine lv_iload_n hx hb dX0_vote_50 rfl (lv_at hl 1 rfl) ?_
      refine va_iald (D := D) hx hb hK hP 7 0 rfl rfl (q_g_in hg) dX0_vote_51 ?_
      refine lv_istore_n (lv' := [(3, .int (f6 p0.toNatClampNeg)), (0, .ref h), (1, .int p0), (2, .int p1)]) hx hb dX0_vote_52 rfl hl (by decide) rfl (fun ls hl => ?_)
      refine lv_aload_n hx hb dX0_vote_53 rfl (lv_at hl 1 rfl) ?_
      refine va_get (D := D) (ci := 0) (v := .ref a6) (C := RX0) (T := TX0) (N := 15) hx hb hts hin hown hK hP 0 rfl rfl 6 (by decide) (hts (.fieldLink RX0 28 "Quorumfund" "votes" "[I") (by decide +kernel)) (fun _ h9 => h9) rfl dX0_vote_54 ?_
      refine lv_iload_n hx hb dX0_vote_57 rfl (lv_at hl 2 rfl) ?_
      refine lv_iload_n hx hb dX0_vote_58 rfl (lv_at hl 3 rfl) ?_
      refine va_iast (D := D) hx hb hK hP hD hS 7 0 rfl rfl (q_g_in hg) dX0_vote_59 (fun H locs hP hD hS => ?_)
      have hP : va_P D vwCl (wQ cI cZ h a0 a1 a2 a3 a4 a5 a6 a7 a8 a9 a10 f0 f1 f2 f3 f4 f5 (upd f6 p0.toNatClampNeg p1) f7 f8 f9 f10 v0 v1 v2 v3) H := hP
      have hD : va_D A (wQ cI cZ h a0 a1 a2 a3 a4 a5 a6 a7 a8 a9 a10 f0 f1 f2 f3 f4 f5 (upd f6 p0.toNatClampNeg p1) f7 f8 f9 f10 v0 v1 v2 v3) := hD
      refine lv_iload_n hx hb dX0_vote_60 rfl (lv_at hl 0 rfl) ?_
      exact W.iret (v := f6 p0.toNatClampNeg) hx hb hr (fun t ht hW => ⟨⟨f6 p0.toNatClampNeg, (upd f6 p0.toNatClampNeg p1), rfl, ⟨rfl, rfl⟩, ⟨by rw [ht]; exact hP, va_K.moved hW.alike hK, hD⟩⟩, hS.F ht⟩) hS.2.2 dX0_vote_61
    · skip
      refine lv_iload_n hx hb dX0_vote_13 rfl (lv_at hl 2 rfl) ?_
      refine lv_iconst (v := 2) hx hb dX0_vote_14 (by decide) ?_
      refine lv_icmp_eq (tgt := 28) hx hb dX0_vote_15 (by decide) (fun c8 => ?_) (fun c8 => False.elim (by exact (z_012 hi).elim c2 (fun h9 => h9.elim c5 c8)))
      refine lv_aload_n hx hb dX0_vote_28 rfl (lv_at hl 0 rfl) ?_
      refine vp_callSi (W.runV (As := []) (rest := []) ⟨hx, hb, hml, hown, hts⟩ (c_X0_current l D cI cZ cJ h a0 a1 a2 a3 a4 a5 a6 a7 a8 a9 a10 f0 f1 f2 f3 f4 f5 f6 f7 f8 f9 f10 v0 v1 v2 v3) (cwV 0 hts gX0_vote_X0_current rfl rfl rfl (by decide +kernel) ⟨Nat.le_of_ble_eq_true rfl, Nat.le_of_ble_eq_true rfl⟩) ⟨zP_blind, va_recv hK hP (ci := 0) (q0 := 0) rfl rfl, fun U hU hW => ⟨rfl, zP_mk hP hK hU hW⟩⟩ rfl rfl hl.1 rfl (lv_room (Nat.le_of_ble_eq_true rfl)) dX0_vote_29 ⟨Nat.le_of_ble_eq_true rfl, Nat.le_of_ble_eq_true rfl⟩) (fun r9 w9 => ?_)
      subst w9
      refine lv_iconst (v := (-1)) hx hb dX0_vote_32 (by decide) ?_
      refine lv_icmp_ne (tgt := 46) hx hb dX0_vote_33 (by decide) (fun c10 => ?_) (fun c10 => False.elim (by exact hcu c10))
      refine lv_aload_n hx hb dX0_vote_46 rfl (lv_at hl 0 rfl) ?_
      refine va_get (D := D) (ci := 0) (v := .ref a6) (C := RX0) (T := TX0) (N := 15) hx hb hts hin hown hK hP 0 rfl rfl 6 (by decide) (hts (.fieldLink RX0 28 "Quorumfund" "votes" "[I") (by decide +kernel)) (fun _ h9 => h9) rfl dX0_vote_47 ?_
      refine lv_iload_n hx hb dX0_vote_50 rfl (lv_at hl 1 rfl) ?_
      refine va_iald (D := D) hx hb hK hP 7 0 rfl rfl (q_g_in hg) dX0_vote_51 ?_
      refine lv_istore_n (lv' := [(3, .int (f6 p0.toNatClampNeg)), (0, .ref h), (1, .int p0), (2, .int p1)]) hx hb dX0_vote_52 rfl hl (by decide) rfl (fun ls hl => ?_)
      refine lv_aload_n hx hb dX0_vote_53 rfl (lv_at hl 1 rfl) ?_
      refine va_get (D := D) (ci := 0) (v := .ref a6) (C := RX0) (T := TX0) (N := 15) hx hb hts hin hown hK hP 0 rfl rfl 6 (by decide) (hts (.fieldLink RX0 28 "Quorumfund" "votes" "[I") (by decide +kernel)) (fun _ h9 => h9) rfl dX0_vote_54 ?_
      refine lv_iload_n hx hb dX0_vote_57 rfl (lv_at hl 2 rfl) ?_
      refine lv_iload_n hx hb dX0_vote_58 rfl (lv_at hl 3 rfl) ?_
      refine va_iast (D := D) hx hb hK hP hD hS 7 0 rfl rfl (q_g_in hg) dX0_vote_59 (fun H locs hP hD hS => ?_)
      have hP : va_P D vwCl (wQ cI cZ h a0 a1 a2 a3 a4 a5 a6 a7 a8 a9 a10 f0 f1 f2 f3 f4 f5 (upd f6 p0.toNatClampNeg p1) f7 f8 f9 f10 v0 v1 v2 v3) H := hP
      have hD : va_D A (wQ cI cZ h a0 a1 a2 a3 a4 a5 a6 a7 a8 a9 a10 f0 f1 f2 f3 f4 f5 (upd f6 p0.toNatClampNeg p1) f7 f8 f9 f10 v0 v1 v2 v3) := hD
      refine lv_iload_n hx hb dX0_vote_60 rfl (lv_at hl 0 rfl) ?_
      exact W.iret (v := f6 p0.toNatClampNeg) hx hb hr (fun t ht hW => ⟨⟨f6 p0.toNatClampNeg, (upd f6 p0.toNatClampNeg p1), rfl, ⟨rfl, rfl⟩, ⟨by rw [ht]; exact hP, va_K.moved hW.alike hK, hD⟩⟩, hS.F ht⟩) hS.2.2 dX0_vote_61
set_option maxHeartbeats 4000000 in
set_option maxRecDepth 100000 in
theorem c_X0_vote_t1 (l : Launch) (hl0 : l.stackTraces = false) (D : va_G) (cI cZ cJ : ClassId) (h a0 a1 a2 a3 a4 a5 a6 a7 a8 a9 a10 : Nat) (f0 f1 f2 f3 f4 f5 f6 f7 f8 f9 f10 : Nat → Int32) (v0 v1 v2 v3 : Int32) (p0 p1 : Int32) (hg : q_g p0 = false) : vx_Met l yX0_vote wsX0_vote ({ frames := 7, cells := 1, slots := 6, locals := 110 }) (va_Pc [.ref h, .int p0, .int p1] (zPX D cI cZ cJ (wQ cI cZ h a0 a1 a2 a3 a4 a5 a6 a7 a8 a9 a10 f0 f1 f2 f3 f4 f5 f6 f7 f8 f9 f10 v0 v1 v2 v3))) zNo (zXC (fun E => E = "java/lang/IndexOutOfBoundsException")) 1 6 (fun _ => False) := by
  refine vx_ofW (cc := cX0_vote) (maxL := 4) (ret := (some .int)) (by decide) rfl ?_
  intro p e s m args below meth c s₁ B hml hout hv
  obtain ⟨rfl, hZ, hP, hK⟩ := hv
  have hx := B.exec
  have hb := B.bytes
  have hr := B.returns
  have hts := atoms_spec (ws := wsX0_vote) B.pre
  have hown : s.vm.findClass RX0 = some m.cls := findClass_of_methodNamed B.named
  have hlocks := B.notSynchronized
  have hin : ∀ w ∈ wsX00, w ∈ wsX0_vote := by decide +kernel
  have hl := lv_entry ([.ref h, .int p0, .int p1]) (n := 4) (Nat.le_of_ble_eq_true rfl)
  rw [lg_entry_eq]
  generalize (lg_sl ([.ref h, .int p0, .int p1]) ++ List.replicate (4 - (lg_sl ([.ref h, .int p0, .int p1])).length) Slot.unset).toArray = ls at hl ⊢
  have hl : lv_has ls 4 [(0, .ref h), (1, .int p0), (2, .int p1)] := hl
  refine lv_iload_n hx hb dX0_vote_0 rfl (lv_at hl 1 rfl) ?_
  exact z_thru (vx_runS (As := [.int p0]) (rest := []) ⟨hx, hb, hml, hown, hts⟩ (c_X0_requireGiver_t l hl0 p0 hg) (va_cwS 1 hts gX0_vote_X0_requireGiver rfl rfl rfl (by decide +kernel) ⟨Nat.le_of_ble_eq_true rfl, Nat.le_of_ble_eq_true rfl⟩) ⟨zXs_blind, fun U hU hW => ⟨rfl, zX_at hZ hU hW⟩⟩ rfl rfl hl.1 rfl (lv_room (Nat.le_of_ble_eq_true rfl)) dX0_vote_1 ⟨Nat.le_of_ble_eq_true rfl, Nat.le_of_ble_eq_true rfl⟩) (fun _ h => h) hout hlocks (fun _ h => h)
set_option maxHeartbeats 4000000 in
set_option maxRecDepth 100000 in
theorem c_X0_vote_t2 (l : Launch) (hl0 : l.stackTraces = false) (D : va_G) (cI cZ cJ : ClassId) (h a0 a1 a2 a3 a4 a5 a6 a7 a8 a9 a10 : Nat) (f0 f1 f2 f3 f4 f5 f6 f7 f8 f9 f10 : Nat → Int32) (v0 v1 v2 v3 : Int32) (p0 p1 : Int32) (hg : q_g p0 = true) (hi : q_i p1 0 2 = false) : vx_Met l yX0_vote wsX0_vote ({ frames := 6, cells := 1, slots := 6, locals := 90 }) (va_Pc [.ref h, .int p0, .int p1] (zPX D cI cZ cJ (wQ cI cZ h a0 a1 a2 a3 a4 a5 a6 a7 a8 a9 a10 f0 f1 f2 f3 f4 f5 f6 f7 f8 f9 f10 v0 v1 v2 v3))) zNo (zXC (fun E => E = "java/lang/IllegalArgumentException")) 1 6 (fun _ => False) := by
  refine vx_ofW (cc := cX0_vote) (maxL := 4) (ret := (some .int)) (by decide) rfl ?_
  intro p e s m args below meth c s₁ B hml hout hv
  obtain ⟨rfl, hZ, hP, hK⟩ := hv
  have hx := B.exec
  have hb := B.bytes
  have hr := B.returns
  have hts := atoms_spec (ws := wsX0_vote) B.pre
  have hown : s.vm.findClass RX0 = some m.cls := findClass_of_methodNamed B.named
  have hlocks := B.notSynchronized
  have hin : ∀ w ∈ wsX00, w ∈ wsX0_vote := by decide +kernel
  have hl := lv_entry ([.ref h, .int p0, .int p1]) (n := 4) (Nat.le_of_ble_eq_true rfl)
  rw [lg_entry_eq]
  generalize (lg_sl ([.ref h, .int p0, .int p1]) ++ List.replicate (4 - (lg_sl ([.ref h, .int p0, .int p1])).length) Slot.unset).toArray = ls at hl ⊢
  have hl : lv_has ls 4 [(0, .ref h), (1, .int p0), (2, .int p1)] := hl
  refine lv_iload_n hx hb dX0_vote_0 rfl (lv_at hl 1 rfl) ?_
  refine va_csv (W.runS (As := [.int p0]) (rest := []) ⟨hx, hb, hml, hown, hts⟩ (c_X0_requireGiver l p0 hg) (va_cwS 1 hts gX0_vote_X0_requireGiver rfl rfl rfl (by decide +kernel) ⟨Nat.le_of_ble_eq_true rfl, Nat.le_of_ble_eq_true rfl⟩) ⟨zN_blind, fun U hU hW => ⟨rfl, trivial⟩⟩ rfl rfl hl.1 rfl (lv_room (Nat.le_of_ble_eq_true rfl)) dX0_vote_1 ⟨Nat.le_of_ble_eq_true rfl, Nat.le_of_ble_eq_true rfl⟩) (fun w1 => ?_)
  refine lv_iload_n hx hb dX0_vote_4 rfl (lv_at hl 2 rfl) ?_
  refine lv_if_eq (tgt := 28) hx hb dX0_vote_5 (by decide) (fun c2 => False.elim (by subst c2; exact absurd hi (by decide))) (fun c2 => ?_)
  refine lv_iload_n hx hb dX0_vote_8 rfl (lv_at hl 2 rfl) ?_
  refine lv_iconst (v := 1) hx hb dX0_vote_9 (by decide) ?_
  refine lv_icmp_eq (tgt := 28) hx hb dX0_vote_10 (by decide) (fun c3 => False.elim (by subst c3; exact absurd hi (by decide))) (fun c3 => ?_)
  refine lv_iload_n hx hb dX0_vote_13 rfl (lv_at hl 2 rfl) ?_
  refine lv_iconst (v := 2) hx hb dX0_vote_14 (by decide) ?_
  refine lv_icmp_eq (tgt := 28) hx hb dX0_vote_15 (by decide) (fun c4 => False.elim (by subst c4; exact absurd hi (by decide))) (fun c4 => ?_)
  obtain ⟨sa, hsa⟩ := hZ.2.1 (92, "no such vote") (by decide)
  exact z_throw (Qc := zNo) (own := RX0) (cls := "java/lang/IllegalArgumentException") (ik := 90) (is := 92) (ic := 94) (text := "no such vote") hx hb hl0 hown (by decide +kernel) (hts (.classLink RX0 90 "java/lang/IllegalArgumentException") (by decide +kernel)) (hts (.initialized "java/lang/IllegalArgumentException") (by decide +kernel)) hsa hts (by decide +kernel) (by decide +kernel) hZ.1 hZ.2.2.2.1 hZ.2.2.2.2 hl.1 hml dX0_vote_18 dX0_vote_21 dX0_vote_22 dX0_vote_24 dX0_vote_27 (fun x h => (hout x h).elim) (Nat.le_of_ble_eq_true rfl) (Nat.le_of_ble_eq_true rfl) (Nat.le_of_ble_eq_true rfl) (Nat.le_of_ble_eq_true rfl) hlocks
set_option maxHeartbeats 4000000 in
set_option maxRecDepth 100000 in
theorem c_X0_vote_t3 (l : Launch) (hl0 : l.stackTraces = false) (D : va_G) (cI cZ cJ : ClassId) (h a0 a1 a2 a3 a4 a5 a6 a7 a8 a9 a10 : Nat) (f0 f1 f2 f3 f4 f5 f6 f7 f8 f9 f10 : Nat → Int32) (v0 v1 v2 v3 : Int32) (p0 p1 : Int32) (hg : q_g p0 = true) (hi : q_i p1 0 2 = true) (hcu : q_cur v0 v1 = -1) : vx_Met l yX0_vote wsX0_vote ({ frames := 6, cells := 1, slots := 6, locals := 90 }) (va_Pc [.ref h, .int p0, .int p1] (zPX D cI cZ cJ (wQ cI cZ h a0 a1 a2 a3 a4 a5 a6 a7 a8 a9 a10 f0 f1 f2 f3 f4 f5 f6 f7 f8 f9 f10 v0 v1 v2 v3))) zNo (zXC (fun E => E = "java/lang/IllegalStateException")) 1 6 (fun _ => False) := by
  refine vx_ofW (cc := cX0_vote) (maxL := 4) (ret := (some .int)) (by decide) rfl ?_
  intro p e s m args below meth c s₁ B hml hout hv
  obtain ⟨rfl, hZ, hP, hK⟩ := hv
  have hx := B.exec
  have hb := B.bytes
  have hr := B.returns
  have hts := atoms_spec (ws := wsX0_vote) B.pre
  have hown : s.vm.findClass RX0 = some m.cls := findClass_of_methodNamed B.named
  have hlocks := B.notSynchronized
  have hin : ∀ w ∈ wsX00, w ∈ wsX0_vote := by decide +kernel
  have hl := lv_entry ([.ref h, .int p0, .int p1]) (n := 4) (Nat.le_of_ble_eq_true rfl)
  rw [lg_entry_eq]
  generalize (lg_sl ([.ref h, .int p0, .int p1]) ++ List.replicate (4 - (lg_sl ([.ref h, .int p0, .int p1])).length) Slot.unset).toArray = ls at hl ⊢
  have hl : lv_has ls 4 [(0, .ref h), (1, .int p0), (2, .int p1)] := hl
  refine lv_iload_n hx hb dX0_vote_0 rfl (lv_at hl 1 rfl) ?_
  refine va_csv (W.runS (As := [.int p0]) (rest := []) ⟨hx, hb, hml, hown, hts⟩ (c_X0_requireGiver l p0 hg) (va_cwS 1 hts gX0_vote_X0_requireGiver rfl rfl rfl (by decide +kernel) ⟨Nat.le_of_ble_eq_true rfl, Nat.le_of_ble_eq_true rfl⟩) ⟨zN_blind, fun U hU hW => ⟨rfl, trivial⟩⟩ rfl rfl hl.1 rfl (lv_room (Nat.le_of_ble_eq_true rfl)) dX0_vote_1 ⟨Nat.le_of_ble_eq_true rfl, Nat.le_of_ble_eq_true rfl⟩) (fun w1 => ?_)
  refine lv_iload_n hx hb dX0_vote_4 rfl (lv_at hl 2 rfl) ?_
  refine lv_if_eq (tgt := 28) hx hb dX0_vote_5 (by decide) (fun c2 => ?_) (fun c2 => ?_)
  · skip
    refine lv_aload_n hx hb dX0_vote_28 rfl (lv_at hl 0 rfl) ?_
    refine vp_callSi (W.runV (As := []) (rest := []) ⟨hx, hb, hml, hown, hts⟩ (c_X0_current l D cI cZ cJ h a0 a1 a2 a3 a4 a5 a6 a7 a8 a9 a10 f0 f1 f2 f3 f4 f5 f6 f7 f8 f9 f10 v0 v1 v2 v3) (cwV 0 hts gX0_vote_X0_current rfl rfl rfl (by decide +kernel) ⟨Nat.le_of_ble_eq_true rfl, Nat.le_of_ble_eq_true rfl⟩) ⟨zP_blind, va_recv hK hP (ci := 0) (q0 := 0) rfl rfl, fun U hU hW => ⟨rfl, zP_mk hP hK hU hW⟩⟩ rfl rfl hl.1 rfl (lv_room (Nat.le_of_ble_eq_true rfl)) dX0_vote_29 ⟨Nat.le_of_ble_eq_true rfl, Nat.le_of_ble_eq_true rfl⟩) (fun r3 w3 => ?_)
    subst w3
    refine lv_iconst (v := (-1)) hx hb dX0_vote_32 (by decide) ?_
    refine lv_icmp_ne (tgt := 46) hx hb dX0_vote_33 (by decide) (fun c4 => False.elim (by exact c4 hcu)) (fun c4 => ?_)
    obtain ⟨sa, hsa⟩ := hZ.2.1 (99, "no current milestone") (by decide)
    exact z_throw (Qc := zNo) (own := RX0) (cls := "java/lang/IllegalStateException") (ik := 53) (is := 99) (ic := 57) (text := "no current milestone") hx hb hl0 hown (by decide +kernel) (hts (.classLink RX0 53 "java/lang/IllegalStateException") (by decide +kernel)) (hts (.initialized "java/lang/IllegalStateException") (by decide +kernel)) hsa hts (by decide +kernel) (by decide +kernel) hZ.1 hZ.2.2.2.1 hZ.2.2.2.2 hl.1 hml dX0_vote_36 dX0_vote_39 dX0_vote_40 dX0_vote_42 dX0_vote_45 (fun x h => (hout x h).elim) (Nat.le_of_ble_eq_true rfl) (Nat.le_of_ble_eq_true rfl) (Nat.le_of_ble_eq_true rfl) (Nat.le_of_ble_eq_true rfl) hlocks
  · skip
    refine lv_iload_n hx hb dX0_vote_8 rfl (lv_at hl 2 rfl) ?_
    refine lv_iconst (v := 1) hx hb dX0_vote_9 (by decide) ?_
    refine lv_icmp_eq (tgt := 28) hx hb dX0_vote_10 (by decide) (fun c5 => ?_) (fun c5 => ?_)
    · skip
      refine lv_aload_n hx hb dX0_vote_28 rfl (lv_at hl 0 rfl) ?_
      refine vp_callSi (W.runV (As := []) (rest := []) ⟨hx, hb, hml, hown, hts⟩ (c_X0_current l D cI cZ cJ h a0 a1 a2 a3 a4 a5 a6 a7 a8 a9 a10 f0 f1 f2 f3 f4 f5 f6 f7 f8 f9 f10 v0 v1 v2 v3) (cwV 0 hts gX0_vote_X0_current rfl rfl rfl (by decide +kernel) ⟨Nat.le_of_ble_eq_true rfl, Nat.le_of_ble_eq_true rfl⟩) ⟨zP_blind, va_recv hK hP (ci := 0) (q0 := 0) rfl rfl, fun U hU hW => ⟨rfl, zP_mk hP hK hU hW⟩⟩ rfl rfl hl.1 rfl (lv_room (Nat.le_of_ble_eq_true rfl)) dX0_vote_29 ⟨Nat.le_of_ble_eq_true rfl, Nat.le_of_ble_eq_true rfl⟩) (fun r6 w6 => ?_)
      subst w6
      refine lv_iconst (v := (-1)) hx hb dX0_vote_32 (by decide) ?_
      refine lv_icmp_ne (tgt := 46) hx hb dX0_vote_33 (by decide) (fun c7 => False.elim (by exact c7 hcu)) (fun c7 => ?_)
      obtain ⟨sa, hsa⟩ := hZ.2.1 (99, "no current milestone") (by decide)
      exact z_throw (Qc := zNo) (own := RX0) (cls := "java/lang/IllegalStateException") (ik := 53) (is := 99) (ic := 57) (text := "no current milestone") hx hb hl0 hown (by decide +kernel) (hts (.classLink RX0 53 "java/lang/IllegalStateException") (by decide +kernel)) (hts (.initialized "java/lang/IllegalStateException") (by decide +kernel)) hsa hts (by decide +kernel) (by decide +kernel) hZ.1 hZ.2.2.2.1 hZ.2.2.2.2 hl.1 hml dX0_vote_36 dX0_vote_39 dX0_vote_40 dX0_vote_42 dX0_vote_45 (fun x h => (hout x h).elim) (Nat.le_of_ble_eq_true rfl) (Nat.le_of_ble_eq_true rfl) (Nat.le_of_ble_eq_true rfl) (Nat.le_of_ble_eq_true rfl) hlocks
    · skip
      refine lv_iload_n hx hb dX0_vote_13 rfl (lv_at hl 2 rfl) ?_
      refine lv_iconst (v := 2) hx hb dX0_vote_14 (by decide) ?_
      refine lv_icmp_eq (tgt := 28) hx hb dX0_vote_15 (by decide) (fun c8 => ?_) (fun c8 => False.elim (by exact (z_012 hi).elim c2 (fun h9 => h9.elim c5 c8)))
      refine lv_aload_n hx hb dX0_vote_28 rfl (lv_at hl 0 rfl) ?_
      refine vp_callSi (W.runV (As := []) (rest := []) ⟨hx, hb, hml, hown, hts⟩ (c_X0_current l D cI cZ cJ h a0 a1 a2 a3 a4 a5 a6 a7 a8 a9 a10 f0 f1 f2 f3 f4 f5 f6 f7 f8 f9 f10 v0 v1 v2 v3) (cwV 0 hts gX0_vote_X0_current rfl rfl rfl (by decide +kernel) ⟨Nat.le_of_ble_eq_true rfl, Nat.le_of_ble_eq_true rfl⟩) ⟨zP_blind, va_recv hK hP (ci := 0) (q0 := 0) rfl rfl, fun U hU hW => ⟨rfl, zP_mk hP hK hU hW⟩⟩ rfl rfl hl.1 rfl (lv_room (Nat.le_of_ble_eq_true rfl)) dX0_vote_29 ⟨Nat.le_of_ble_eq_true rfl, Nat.le_of_ble_eq_true rfl⟩) (fun r9 w9 => ?_)
      subst w9
      refine lv_iconst (v := (-1)) hx hb dX0_vote_32 (by decide) ?_
      refine lv_icmp_ne (tgt := 46) hx hb dX0_vote_33 (by decide) (fun c10 => False.elim (by exact c10 hcu)) (fun c10 => ?_)
      obtain ⟨sa, hsa⟩ := hZ.2.1 (99, "no current milestone") (by decide)
      exact z_throw (Qc := zNo) (own := RX0) (cls := "java/lang/IllegalStateException") (ik := 53) (is := 99) (ic := 57) (text := "no current milestone") hx hb hl0 hown (by decide +kernel) (hts (.classLink RX0 53 "java/lang/IllegalStateException") (by decide +kernel)) (hts (.initialized "java/lang/IllegalStateException") (by decide +kernel)) hsa hts (by decide +kernel) (by decide +kernel) hZ.1 hZ.2.2.2.1 hZ.2.2.2.2 hl.1 hml dX0_vote_36 dX0_vote_39 dX0_vote_40 dX0_vote_42 dX0_vote_45 (fun x h => (hout x h).elim) (Nat.le_of_ble_eq_true rfl) (Nat.le_of_ble_eq_true rfl) (Nat.le_of_ble_eq_true rfl) (Nat.le_of_ble_eq_true rfl) hlocks
