set_option maxHeartbeats 4000000 in
set_option maxRecDepth 100000 in
theorem c_X1_weightOf (l : Launch) (D : va_G) (cI cZ cJ : ClassId) (h a0 a4 a5 a6 a7 a8 a9 : Nat) (f0 f4 f5 f6 f7 f8 f9 : Nat → Int32) (v0 v1 v2 v3 v4 : Int32) (p0 : Int32) (he : ∀ j, j < 8 → q_ends f4 8 (nI j)) (hw0 : ¬ p0 = 0) : Met l yX1_weightOf wsX1_weightOf ({ frames := 1, cells := 0, slots := 0, locals := 22 }) (va_Pc [.ref h, .int p0] (zP D cI cZ cJ (wM cI cZ h a0 a4 a5 a6 a7 a8 a9 f0 f4 f5 f6 f7 f8 f9 v0 v1 v2 v3 v4))) (vp_Si (fun r : Int32 => r = q_wt f0 f4 f6 p0 8)) 0 0 (fun _ => False) := by
  refine Met.ofW (cc := cX1_weightOf) (maxL := 5) (ret := (some .int)) (by decide) rfl ?_
  intro p e s m args below meth c s₁ B hml hv
  obtain ⟨rfl, hP, hK⟩ := hv
  have hx := B.exec
  have hb := B.bytes
  have hr := B.returns
  have hts := atoms_spec (ws := wsX1_weightOf) B.pre
  have hown : s.vm.findClass RX1 = some m.cls := findClass_of_methodNamed B.named
  have hlocks := B.notSynchronized
  have hin : ∀ w ∈ wsX10, w ∈ wsX1_weightOf := by decide +kernel
  have hl := lv_entry ([.ref h, .int p0]) (n := 5) (Nat.le_of_ble_eq_true rfl)
  rw [lg_entry_eq]
  generalize (lg_sl ([.ref h, .int p0]) ++ List.replicate (5 - (lg_sl ([.ref h, .int p0])).length) Slot.unset).toArray = ls at hl ⊢
  have hl : lv_has ls 5 [(0, .ref h), (1, .int p0)] := hl
  refine lv_iconst (v := 0) hx hb dX1_weightOf_0 (by decide) ?_
  refine lv_istore_n (lv' := [(2, .int 0), (0, .ref h), (1, .int p0)]) hx hb dX1_weightOf_1 rfl hl (by decide) rfl (fun ls hl => ?_)
  refine lv_iconst (v := 0) hx hb dX1_weightOf_2 (by decide) ?_
  refine lv_istore_n (lv' := [(3, .int 0), (2, .int 0), (0, .ref h), (1, .int p0)]) hx hb dX1_weightOf_3 rfl hl (by decide) rfl (fun ls hl => ?_)
  have hloop4 : ∀ (n4 : Nat) (i : Nat) (x : Int32), (9 ≤ i + n4) → (i ≤ 8) → (x = q_wt f0 f4 f6 p0 i) → ∀ (ls : Array Slot), lv_has ls 5 [(3, .int (nI i)), (2, .int x), (0, .ref h), (1, .int p0)] → W p l e (headSpec wsX1_weightOf ({ frames := 1, cells := 0, slots := 0, locals := 22 })).room s m ([Value.ref h, Value.int p0] : List Value).toArray below meth c s.heap [] 0 0 (MQ below (vp_Si (fun r : Int32 => r = q_wt f0 f4 f6 p0 8)) ([Value.ref h, Value.int p0] : List Value).toArray s 0 0 (fun _ => False)) (F0 m 4 ls []) := by
    intro n4
    induction n4 with
    | zero => intro i x hn hi ex; exact False.elim (by omega)
    | succ n4 ih4 =>
      intro i x hn hi ex ls hl
      refine lv_iload_n hx hb dX1_weightOf_4 rfl (lv_at hl 0 rfl) ?_
      refine lv_bipush (v := 8) hx hb dX1_weightOf_5 (by decide) ?_
      refine lv_icmp_ge (tgt := 53) hx hb dX1_weightOf_7 (by decide) (fun c1 => ?_) (fun c1 => ?_)
      · skip
        have hj := z_ge8 hi c1
        subst hj
        refine lv_iload_n hx hb dX1_weightOf_53 rfl (lv_at hl 1 rfl) ?_
        exact W.iret (v := x) hx hb hr (fun t ht hW => ⟨x, rfl, ex, ht⟩) (fun _ h => nomatch h) dX1_weightOf_54
      · skip
        have hj := z_lt8 hi c1
        refine lv_aload_n hx hb dX1_weightOf_10 rfl (lv_at hl 2 rfl) ?_
        refine lv_iload_n hx hb dX1_weightOf_11 rfl (lv_at hl 0 rfl) ?_
        refine vp_callSi (W.runV (As := [.int (nI i)]) (rest := []) ⟨hx, hb, hml, hown, hts⟩ (c_X1_speakerOf l D cI cZ cJ h a0 a4 a5 a6 a7 a8 a9 f0 f4 f5 f6 f7 f8 f9 v0 v1 v2 v3 v4 (nI i) (he i hj)) (cwV 1 hts gX1_weightOf_X1_speakerOf rfl rfl rfl (by decide +kernel) ⟨Nat.le_of_ble_eq_true rfl, Nat.le_of_ble_eq_true rfl⟩) ⟨zP_blind, va_recv hK hP (ci := 1) (q0 := 0) rfl rfl, fun U hU hW => ⟨rfl, zP_mk hP hK hU hW⟩⟩ rfl rfl hl.1 rfl (lv_room (Nat.le_of_ble_eq_true rfl)) dX1_weightOf_12 ⟨Nat.le_of_ble_eq_true rfl, Nat.le_of_ble_eq_true rfl⟩) (fun r2 w2 => ?_)
        subst w2
        refine lv_istore (lv' := [(4, .int (q_spk f4 f6 8 (nI i))), (3, .int (nI i)), (2, .int x), (0, .ref h), (1, .int p0)]) hx hb dX1_weightOf_15 hl (by decide) rfl (fun ls hl => ?_)
        refine lv_iload_n hx hb dX1_weightOf_17 rfl (lv_at hl 2 rfl) ?_
        refine lv_iload hx hb dX1_weightOf_18 (lv_at hl 0 rfl) ?_
        refine lv_iconst (v := (-1)) hx hb dX1_weightOf_20 (by decide) ?_
        refine lv_icmp_eq (tgt := 44) hx hb dX1_weightOf_21 (by decide) (fun c3 => ?_) (fun c3 => ?_)
        · skip
          skip
          refine lv_iconst (v := 0) hx hb dX1_weightOf_44 (by decide) ?_
          refine lv_iadd hx hb dX1_weightOf_45 ?_
          refine lv_istore_n (lv' := [(2, .int (x + 0)), (4, .int (q_spk f4 f6 8 (nI i))), (3, .int (nI i)), (0, .ref h), (1, .int p0)]) hx hb dX1_weightOf_46 rfl hl (by decide) rfl (fun ls hl => ?_)
          refine lv_iinc (v := nI (i + 1)) (lv' := [(3, .int (nI (i + 1))), (2, .int (x + 0)), (4, .int (q_spk f4 f6 8 (nI i))), (0, .ref h), (1, .int p0)]) hx hb dX1_weightOf_47 hl (k := 2) rfl (nI_1 _) (by decide) rfl (fun ls hl => ?_)
          refine lv_goto (tgt := 4) hx hb dX1_weightOf_50 (by decide) ?_
          exact ih4 (i + 1) (x + 0) (by omega) (by omega) (by rw [ex, Int32.add_zero, q_wt]; simp [q_hrd, z_gm1, c3, Ne.symm hw0]) ls (lv_sub hl [0, 1, 3, 4] rfl)
        · skip
          have hsg := (z_spk_or f4 f6 8 (nI i)).resolve_left c3
          refine lv_aload_n hx hb dX1_weightOf_24 rfl (lv_at hl 3 rfl) ?_
          refine va_get (D := D) (ci := 1) (v := .ref a6) (C := RX1) (T := TX1) (N := 12) hx hb hts hin hown hK hP 0 rfl rfl 3 (by decide) (hts (.fieldLink RX1 19 "QuorumfundModel" "votes" "[I") (by decide +kernel)) (fun _ h9 => h9) rfl dX1_weightOf_25 ?_
          refine lv_iload hx hb dX1_weightOf_28 (lv_at hl 0 rfl) ?_
          refine va_iald (D := D) hx hb hK hP 4 0 rfl rfl (q_g_in hsg) dX1_weightOf_30 ?_
          refine lv_iload_n hx hb dX1_weightOf_31 rfl (lv_at hl 4 rfl) ?_
          refine lv_icmp_ne (tgt := 44) hx hb dX1_weightOf_32 (by decide) (fun c4 => ?_) (fun c4 => ?_)
          · skip
            refine lv_iconst (v := 0) hx hb dX1_weightOf_44 (by decide) ?_
            refine lv_iadd hx hb dX1_weightOf_45 ?_
            refine lv_istore_n (lv' := [(2, .int (x + 0)), (4, .int (q_spk f4 f6 8 (nI i))), (3, .int (nI i)), (0, .ref h), (1, .int p0)]) hx hb dX1_weightOf_46 rfl hl (by decide) rfl (fun ls hl => ?_)
            refine lv_iinc (v := nI (i + 1)) (lv' := [(3, .int (nI (i + 1))), (2, .int (x + 0)), (4, .int (q_spk f4 f6 8 (nI i))), (0, .ref h), (1, .int p0)]) hx hb dX1_weightOf_47 hl (k := 2) rfl (nI_1 _) (by decide) rfl (fun ls hl => ?_)
            refine lv_goto (tgt := 4) hx hb dX1_weightOf_50 (by decide) ?_
            exact ih4 (i + 1) (x + 0) (by omega) (by omega) (by rw [ex, Int32.add_zero, q_wt]; simp [q_hrd, hsg, c4]) ls (lv_sub hl [0, 1, 3, 4] rfl)
          · skip
            refine lv_aload_n hx hb dX1_weightOf_35 rfl (lv_at hl 3 rfl) ?_
            refine va_get (D := D) (ci := 1) (v := .ref a0) (C := RX1) (T := TX1) (N := 12) hx hb hts hin hown hK hP 0 rfl rfl 0 (by decide) (hts (.fieldLink RX1 7 "QuorumfundModel" "ins" "[I") (by decide +kernel)) (fun _ h9 => h9) rfl dX1_weightOf_36 ?_
            refine lv_iload_n hx hb dX1_weightOf_39 rfl (lv_at hl 1 rfl) ?_
            refine va_iald (D := D) hx hb hK hP 1 0 rfl rfl (z_in8 hj) dX1_weightOf_40 ?_
            refine lv_goto (tgt := 45) hx hb dX1_weightOf_41 (by decide) ?_
            refine lv_iadd hx hb dX1_weightOf_45 ?_
            refine lv_istore_n (lv' := [(2, .int (x + (f0 (nI i).toNatClampNeg))), (4, .int (q_spk f4 f6 8 (nI i))), (3, .int (nI i)), (0, .ref h), (1, .int p0)]) hx hb dX1_weightOf_46 rfl hl (by decide) rfl (fun ls hl => ?_)
            refine lv_iinc (v := nI (i + 1)) (lv' := [(3, .int (nI (i + 1))), (2, .int (x + (f0 (nI i).toNatClampNeg))), (4, .int (q_spk f4 f6 8 (nI i))), (0, .ref h), (1, .int p0)]) hx hb dX1_weightOf_47 hl (k := 2) rfl (nI_1 _) (by decide) rfl (fun ls hl => ?_)
            refine lv_goto (tgt := 4) hx hb dX1_weightOf_50 (by decide) ?_
            exact ih4 (i + 1) (x + (f0 (nI i).toNatClampNeg)) (by omega) (by omega) (by rw [ex, z_cl hj, q_wt]; simp [q_hrd, hsg, c4]) ls (lv_sub hl [0, 1, 3, 4] rfl)
  exact hloop4 9 0 0 (by omega) (by omega) rfl ls (lv_sub hl [0, 1, 2, 3] rfl)
set_option maxHeartbeats 4000000 in
set_option maxRecDepth 100000 in
theorem c_X1_weight (l : Launch) (D : va_G) (cI cZ cJ : ClassId) (sz : Nat) (h a0 a4 a5 a6 a7 a8 a9 : Nat) (f0 f4 f5 f6 f7 f8 f9 : Nat → Int32) (v0 v1 v2 v3 v4 : Int32) (p0 : Int32) (he : ∀ j, j < 8 → q_ends f4 8 (nI j)) : Met l yX1_weight wsX1_weight ({ frames := 2, cells := 0, slots := 0, locals := 46 }) (va_Pc [.ref h, .int p0] (zD D cI cZ cJ sz (wM cI cZ h a0 a4 a5 a6 a7 a8 a9 f0 f4 f5 f6 f7 f8 f9 v0 v1 v2 v3 v4))) (va_Qi (fun (r : Int32) (u : Int32) => (q_wK p0 = 0 → r = q_wt f0 f4 f6 p0 8) ∧ u = q_wK p0) (fun u t => zB D cI cZ cJ (va_A (wM cI cZ h a0 a4 a5 a6 a7 a8 a9 f0 f4 f5 f6 f7 f8 f9 v0 v1 v2 v3 v4) sz) (wM cI cZ h a0 a4 a5 a6 a7 a8 a9 f0 f4 f5 f6 f7 f8 f9 v0 v1 v2 v3 u) t) (va_A (wM cI cZ h a0 a4 a5 a6 a7 a8 a9 f0 f4 f5 f6 f7 f8 f9 v0 v1 v2 v3 v4) sz)) 0 0 (va_A (wM cI cZ h a0 a4 a5 a6 a7 a8 a9 f0 f4 f5 f6 f7 f8 f9 v0 v1 v2 v3 v4) sz) := by
  refine Met.ofW (cc := cX1_weight) (maxL := 2) (ret := (some .int)) (by decide) rfl ?_
  intro p e s m args below meth c s₁ B hml hv
  obtain ⟨rfl, hsz, hP, hK, hD0⟩ := hv
  have hx := B.exec
  have hb := B.bytes
  have hr := B.returns
  have hts := atoms_spec (ws := wsX1_weight) B.pre
  have hown : s.vm.findClass RX1 = some m.cls := findClass_of_methodNamed B.named
  have hlocks := B.notSynchronized
  subst hsz
  have hD := hD0.self (sz := s.heap.size)
  generalize hAe : va_A (wM cI cZ h a0 a4 a5 a6 a7 a8 a9 f0 f4 f5 f6 f7 f8 f9 v0 v1 v2 v3 v4) s.heap.size = A at hD ⊢
  have hA : ∀ q : Nat, s.heap.size ≤ q → A q := fun q h => by rw [← hAe]; exact Or.inr h
  have hS : va_S A s.heap s.heap [] := va_S.rf
  have hl := lv_entry ([.ref h, .int p0]) (n := 2) (Nat.le_of_ble_eq_true rfl)
  rw [lg_entry_eq]
  generalize (lg_sl ([.ref h, .int p0]) ++ List.replicate (2 - (lg_sl ([.ref h, .int p0])).length) Slot.unset).toArray = ls at hl ⊢
  have hl : lv_has ls 2 [(0, .ref h), (1, .int p0)] := hl
  refine lv_aload_n hx hb dX1_weight_0 rfl (lv_at hl 0 rfl) ?_
  refine lv_iload_n hx hb dX1_weight_1 rfl (lv_at hl 1 rfl) ?_
  refine lv_iconst (v := 1) hx hb dX1_weight_2 (by decide) ?_
  refine lv_iconst (v := 2) hx hb dX1_weight_3 (by decide) ?_
  refine vp_callSi (W.runS (As := [.int p0, .int 1, .int 2]) (rest := [.ref h]) ⟨hx, hb, hml, hown, hts⟩ (c_X1_isIn l p0 1 2) (va_cwS 3 hts gX1_weight_X1_isIn rfl rfl rfl (by decide +kernel) ⟨Nat.le_of_ble_eq_true rfl, Nat.le_of_ble_eq_true rfl⟩) ⟨zN_blind, fun U hU hW => ⟨rfl, trivial⟩⟩ rfl rfl hl.1 rfl (lv_room (Nat.le_of_ble_eq_true rfl)) dX1_weight_4 ⟨Nat.le_of_ble_eq_true rfl, Nat.le_of_ble_eq_true rfl⟩) (fun r1 w1 => ?_)
  cases hq1 : q_i p0 1 2
  · skip
    rw [hq1] at w1
    have w1 : r1 = 0 := w1
    subst w1
    refine lv_if_eq (tgt := 14) hx hb dX1_weight_7 (by decide) (fun _ => ?_) (fun c9 => False.elim (by revert c9; decide))
    refine lv_iconst (v := 1) hx hb dX1_weight_14 (by decide) ?_
    have hFc := va_free (wc := wM cI cZ h a0 a4 a5 a6 a7 a8 a9 f0 f4 f5 f6 f7 f8 f9 v0 v1 v2 v3 v4) hD hS hA [0, 1, 2, 3, 4, 5, 6, 7] rfl
    refine va_calli (va_runV (As := [.int 1]) (rest := []) ⟨hx, hb, hml, hown, hts⟩ (c_X1_goes l D cI cZ cJ s.heap.size h a0 a4 a5 a6 a7 a8 a9 f0 f4 f5 f6 f7 f8 f9 v0 v1 v2 v3 v4 1) (cwV 1 hts gX1_weight_X1_goes rfl rfl rfl (by decide +kernel) ⟨Nat.le_of_ble_eq_true rfl, Nat.le_of_ble_eq_true rfl⟩) ⟨zD_blind, va_recv hK hP (ci := 1) (q0 := 0) rfl rfl, fun U hU hW => ⟨rfl, zD_mk hP hK hD hU hW⟩⟩ rfl rfl hl.1 rfl (lv_room (Nat.le_of_ble_eq_true rfl)) dX1_weight_15 ⟨Nat.le_of_ble_eq_true rfl, Nat.le_of_ble_eq_true rfl⟩) hS (fun q _ h => hFc q h) hFc (fun r3 u3 t H1 locs ht hvm w3 hB hz1 hk1 hS => ?_)
    obtain ⟨hP1, hK1, hD1⟩ := hB
    rw [ht] at hP1
    generalize H1 = H at hP1 hS ⊢
    try dsimp only at w3
    obtain ⟨w3_p, w3_0⟩ := w3
    subst w3_0
    have hP : va_P D vwCl (wM cI cZ h a0 a4 a5 a6 a7 a8 a9 f0 f4 f5 f6 f7 f8 f9 v0 v1 v2 v3 1) H := hP1
    have hD : va_D A (wM cI cZ h a0 a4 a5 a6 a7 a8 a9 f0 f4 f5 f6 f7 f8 f9 v0 v1 v2 v3 1) := hD1.weaken (fun _ _ _ h => hFc _ h)
    have w3_p : r3 = 0 := w3_p.trans (by decide)
    subst w3_p
    refine lv_if_eq (tgt := 29) hx hb dX1_weight_18 (by decide) (fun _ => ?_) (fun c9 => False.elim (by revert c9; decide))
    refine lv_iconst (v := 0) hx hb dX1_weight_29 (by decide) ?_
    exact W.iret (v := 0) hx hb hr (fun t ht hW => ⟨⟨0, 1, rfl, ⟨fun hz9 => by simp [q_wK, hq1] at hz9, by simp [q_up, q_us, q_uA, q_wK, hq1]⟩, ⟨by rw [ht]; exact hP, va_K.moved hW.alike hK, hD⟩⟩, hS.F ht⟩) hS.2.2 dX1_weight_30
  · skip
    rw [hq1] at w1
    have w1 : r1 = 1 := w1
    subst w1
    have hw0 : ¬ p0 = 0 := z_120 hq1
    refine lv_if_eq (tgt := 14) hx hb dX1_weight_7 (by decide) (fun c9 => False.elim (by revert c9; decide)) (fun _ => ?_)
    refine lv_iconst (v := 0) hx hb dX1_weight_10 (by decide) ?_
    refine lv_goto (tgt := 15) hx hb dX1_weight_11 (by decide) ?_
    have hFc := va_free (wc := wM cI cZ h a0 a4 a5 a6 a7 a8 a9 f0 f4 f5 f6 f7 f8 f9 v0 v1 v2 v3 v4) hD hS hA [0, 1, 2, 3, 4, 5, 6, 7] rfl
    refine va_calli (va_runV (As := [.int 0]) (rest := []) ⟨hx, hb, hml, hown, hts⟩ (c_X1_goes l D cI cZ cJ s.heap.size h a0 a4 a5 a6 a7 a8 a9 f0 f4 f5 f6 f7 f8 f9 v0 v1 v2 v3 v4 0) (cwV 1 hts gX1_weight_X1_goes rfl rfl rfl (by decide +kernel) ⟨Nat.le_of_ble_eq_true rfl, Nat.le_of_ble_eq_true rfl⟩) ⟨zD_blind, va_recv hK hP (ci := 1) (q0 := 0) rfl rfl, fun U hU hW => ⟨rfl, zD_mk hP hK hD hU hW⟩⟩ rfl rfl hl.1 rfl (lv_room (Nat.le_of_ble_eq_true rfl)) dX1_weight_15 ⟨Nat.le_of_ble_eq_true rfl, Nat.le_of_ble_eq_true rfl⟩) hS (fun q _ h => hFc q h) hFc (fun r6 u6 t H1 locs ht hvm w6 hB hz1 hk1 hS => ?_)
    obtain ⟨hP1, hK1, hD1⟩ := hB
    rw [ht] at hP1
    generalize H1 = H at hP1 hS ⊢
    try dsimp only at w6
    obtain ⟨w6_p, w6_0⟩ := w6
    subst w6_0
    have hP : va_P D vwCl (wM cI cZ h a0 a4 a5 a6 a7 a8 a9 f0 f4 f5 f6 f7 f8 f9 v0 v1 v2 v3 0) H := hP1
    have hD : va_D A (wM cI cZ h a0 a4 a5 a6 a7 a8 a9 f0 f4 f5 f6 f7 f8 f9 v0 v1 v2 v3 0) := hD1.weaken (fun _ _ _ h => hFc _ h)
    have w6_p : r6 = 1 := w6_p.trans (by decide)
    subst w6_p
    refine lv_if_eq (tgt := 29) hx hb dX1_weight_18 (by decide) (fun c9 => False.elim (by revert c9; decide)) (fun _ => ?_)
    refine lv_aload_n hx hb dX1_weight_21 rfl (lv_at hl 0 rfl) ?_
    refine lv_iload_n hx hb dX1_weight_22 rfl (lv_at hl 1 rfl) ?_
    refine vp_callSi (W.runV (As := [.int p0]) (rest := []) ⟨hx, hb, hml, hown, hts⟩ (c_X1_weightOf l D cI cZ cJ h a0 a4 a5 a6 a7 a8 a9 f0 f4 f5 f6 f7 f8 f9 v0 v1 v2 v3 0 p0 he hw0) (cwV 1 hts gX1_weight_X1_weightOf rfl rfl rfl (by decide +kernel) ⟨Nat.le_of_ble_eq_true rfl, Nat.le_of_ble_eq_true rfl⟩) ⟨zP_blind, va_recv hK hP (ci := 1) (q0 := 0) rfl rfl, fun U hU hW => ⟨rfl, zP_mk hP hK hU hW⟩⟩ rfl rfl hl.1 rfl (lv_room (Nat.le_of_ble_eq_true rfl)) dX1_weight_23 ⟨Nat.le_of_ble_eq_true rfl, Nat.le_of_ble_eq_true rfl⟩) (fun r8 w8 => ?_)
    subst w8
    refine lv_goto (tgt := 30) hx hb dX1_weight_26 (by decide) ?_
    exact W.iret (v := q_wt f0 f4 f6 p0 8) hx hb hr (fun t ht hW => ⟨⟨q_wt f0 f4 f6 p0 8, 0, rfl, ⟨fun _ => rfl, by simp [q_up, q_us, q_uA, q_wK, hq1]⟩, ⟨by rw [ht]; exact hP, va_K.moved hW.alike hK, hD⟩⟩, hS.F ht⟩) hS.2.2 dX1_weight_30
set_option maxHeartbeats 4000000 in
set_option maxRecDepth 100000 in
theorem c_X1_canGoOut (l : Launch) (D : va_G) (cI cZ cJ : ClassId) (h a0 a4 a5 a6 a7 a8 a9 : Nat) (f0 f4 f5 f6 f7 f8 f9 : Nat → Int32) (v0 v1 v2 v3 v4 : Int32) (hb3 : 0 ≤ v1.toInt ∧ v1.toInt ≤ v0.toInt ∧ v0.toInt ≤ 6) : Met l yX1_canGoOut wsX1_canGoOut ({ frames := 1, cells := 0, slots := 0, locals := 22 }) (va_Pc [.ref h] (zP D cI cZ cJ (wM cI cZ h a0 a4 a5 a6 a7 a8 a9 f0 f4 f5 f6 f7 f8 f9 v0 v1 v2 v3 v4))) (vp_Si (fun r : Int32 => (r = bif q_cov f0 f7 v0 v1 then 1 else 0))) 0 0 (fun _ => False) := by
  refine Met.ofW (cc := cX1_canGoOut) (maxL := 1) (ret := (some .boolean)) (by decide) rfl ?_
  intro p e s m args below meth c s₁ B hml hv
  obtain ⟨rfl, hP, hK⟩ := hv
  have hx := B.exec
  have hb := B.bytes
  have hr := B.returns
  have hts := atoms_spec (ws := wsX1_canGoOut) B.pre
  have hown : s.vm.findClass RX1 = some m.cls := findClass_of_methodNamed B.named
  have hlocks := B.notSynchronized
  have hin : ∀ w ∈ wsX10, w ∈ wsX1_canGoOut := by decide +kernel
  have hl := lv_entry ([.ref h]) (n := 1) (Nat.le_of_ble_eq_true rfl)
  rw [lg_entry_eq]
  generalize (lg_sl ([.ref h]) ++ List.replicate (1 - (lg_sl ([.ref h])).length) Slot.unset).toArray = ls at hl ⊢
  have hl : lv_has ls 1 [(0, .ref h)] := hl
  refine lv_aload_n hx hb dX1_canGoOut_0 rfl (lv_at hl 0 rfl) ?_
  refine vp_callSi (W.runV (As := []) (rest := []) ⟨hx, hb, hml, hown, hts⟩ (c_X1_hasCurrent l D cI cZ cJ h a0 a4 a5 a6 a7 a8 a9 f0 f4 f5 f6 f7 f8 f9 v0 v1 v2 v3 v4) (cwV 0 hts gX1_canGoOut_X1_hasCurrent rfl rfl rfl (by decide +kernel) ⟨Nat.le_of_ble_eq_true rfl, Nat.le_of_ble_eq_true rfl⟩) ⟨zP_blind, va_recv hK hP (ci := 1) (q0 := 0) rfl rfl, fun U hU hW => ⟨rfl, zP_mk hP hK hU hW⟩⟩ rfl rfl hl.1 rfl (lv_room (Nat.le_of_ble_eq_true rfl)) dX1_canGoOut_1 ⟨Nat.le_of_ble_eq_true rfl, Nat.le_of_ble_eq_true rfl⟩) (fun r1 w1 => ?_)
  cases hq1 : decide (v1 < v0)
  · skip
    rw [hq1] at w1
    have w1 : r1 = 0 := w1
    subst w1
    refine lv_if_eq (tgt := 27) hx hb dX1_canGoOut_4 (by decide) (fun _ => ?_) (fun c9 => False.elim (by revert c9; decide))
    refine lv_iconst (v := 0) hx hb dX1_canGoOut_27 (by decide) ?_
    exact W.zret (v := 0) hx hb hr rfl (fun t ht hW => ⟨0, rfl, (by simp [q_cov, hq1]), ht⟩) (fun _ h => nomatch h) dX1_canGoOut_28
  · skip
    rw [hq1] at w1
    have w1 : r1 = 1 := w1
    subst w1
    have hlt : v1 < v0 := of_decide_eq_true hq1
    have h67 := hb3
    rw [z_lt] at hlt
    have hv1 : vp_in v1 6 := vp_in_iff.mpr ⟨hb3.1, by omega⟩
    rw [← z_lt] at hlt
    refine lv_if_eq (tgt := 27) hx hb dX1_canGoOut_4 (by decide) (fun c9 => False.elim (by revert c9; decide)) (fun _ => ?_)
    refine lv_aload_n hx hb dX1_canGoOut_7 rfl (lv_at hl 0 rfl) ?_
    refine vp_callSi (W.runV (As := []) (rest := []) ⟨hx, hb, hml, hown, hts⟩ (c_X1_all l D cI cZ cJ h a0 a4 a5 a6 a7 a8 a9 f0 f4 f5 f6 f7 f8 f9 v0 v1 v2 v3 v4) (cwV 0 hts gX1_canGoOut_X1_all rfl rfl rfl (by decide +kernel) ⟨Nat.le_of_ble_eq_true rfl, Nat.le_of_ble_eq_true rfl⟩) ⟨zP_blind, va_recv hK hP (ci := 1) (q0 := 0) rfl rfl, fun U hU hW => ⟨rfl, zP_mk hP hK hU hW⟩⟩ rfl rfl hl.1 rfl (lv_room (Nat.le_of_ble_eq_true rfl)) dX1_canGoOut_8 ⟨Nat.le_of_ble_eq_true rfl, Nat.le_of_ble_eq_true rfl⟩) (fun r4 w4 => ?_)
    subst w4
    refine lv_aload_n hx hb dX1_canGoOut_11 rfl (lv_at hl 0 rfl) ?_
    refine va_get (D := D) (ci := 1) (v := .ref a7) (C := RX1) (T := TX1) (N := 12) hx hb hts hin hown hK hP 0 rfl rfl 6 (by decide) (hts (.fieldLink RX1 22 "QuorumfundModel" "amounts" "[I") (by decide +kernel)) (fun _ h9 => h9) rfl dX1_canGoOut_12 ?_
    refine lv_aload_n hx hb dX1_canGoOut_15 rfl (lv_at hl 0 rfl) ?_
    refine va_get (D := D) (ci := 1) (v := .int v1) (C := RX1) (T := TX1) (N := 12) hx hb hts hin hown hK hP 0 rfl rfl 5 (by decide) (hts (.fieldLink RX1 63 "QuorumfundModel" "released" "I") (by decide +kernel)) (fun _ h9 => h9) rfl dX1_canGoOut_16 ?_
    refine va_iald (D := D) hx hb hK hP 5 0 rfl rfl hv1 dX1_canGoOut_19 ?_
    refine lv_icmp_lt (tgt := 27) hx hb dX1_canGoOut_20 (by decide) (fun c5 => ?_) (fun c5 => ?_)
    · skip
      have hm := z_nle.mpr c5
      refine lv_iconst (v := 0) hx hb dX1_canGoOut_27 (by decide) ?_
      exact W.zret (v := 0) hx hb hr rfl (fun t ht hW => ⟨0, rfl, (by simp [q_cov, hq1, c5, hm]), ht⟩) (fun _ h => nomatch h) dX1_canGoOut_28
    · skip
      have hm := z_nlt.mp c5
      refine lv_iconst (v := 1) hx hb dX1_canGoOut_23 (by decide) ?_
      refine lv_goto (tgt := 28) hx hb dX1_canGoOut_24 (by decide) ?_
      exact W.zret (v := 1) hx hb hr rfl (fun t ht hW => ⟨1, rfl, (by simp [q_cov, hq1, c5, hm]), ht⟩) (fun _ h => nomatch h) dX1_canGoOut_28
set_option maxHeartbeats 4000000 in
set_option maxRecDepth 100000 in
theorem c_X1_laysShares (l : Launch) (D : va_G) (cI cZ cJ : ClassId) (sz : Nat) (h a0 a4 a5 a6 a7 a8 a9 : Nat) (f0 f4 f5 f6 f7 f8 f9 : Nat → Int32) (v0 v1 v2 v3 v4 : Int32) (hv1 : vp_in v1 6) (hT : 0 < q_sum f0 8) : Met l yX1_laysShares wsX1_laysShares ({ frames := 1, cells := 0, slots := 0, locals := 22 }) (va_Pc [.ref h] (zD D cI cZ cJ sz (wM cI cZ h a0 a4 a5 a6 a7 a8 a9 f0 f4 f5 f6 f7 f8 f9 v0 v1 v2 v3 v4))) (va_Qv (fun u : (Nat → Int32) => u = q_fill (q_sh f0 (f7 v1.toNatClampNeg)) f9 8) (fun u t => zB D cI cZ cJ (va_A (wM cI cZ h a0 a4 a5 a6 a7 a8 a9 f0 f4 f5 f6 f7 f8 f9 v0 v1 v2 v3 v4) sz) (wM cI cZ h a0 a4 a5 a6 a7 a8 a9 f0 f4 f5 f6 f7 f8 u v0 v1 v2 v3 v4) t) (va_A (wM cI cZ h a0 a4 a5 a6 a7 a8 a9 f0 f4 f5 f6 f7 f8 f9 v0 v1 v2 v3 v4) sz)) 0 0 (va_A (wM cI cZ h a0 a4 a5 a6 a7 a8 a9 f0 f4 f5 f6 f7 f8 f9 v0 v1 v2 v3 v4) sz) := by
  refine Met.ofW (cc := cX1_laysShares) (maxL := 6) (ret := none) (by decide) rfl ?_
  intro p e s m args below meth c s₁ B hml hv
  obtain ⟨rfl, hsz, hP, hK, hD0⟩ := hv
  have hx := B.exec
  have hb := B.bytes
  have hr := B.returns
  have hts := atoms_spec (ws := wsX1_laysShares) B.pre
  have hown : s.vm.findClass RX1 = some m.cls := findClass_of_methodNamed B.named
  have hlocks := B.notSynchronized
  have hin : ∀ w ∈ wsX10, w ∈ wsX1_laysShares := by decide +kernel
  subst hsz
  have hD := hD0.self (sz := s.heap.size)
  generalize hAe : va_A (wM cI cZ h a0 a4 a5 a6 a7 a8 a9 f0 f4 f5 f6 f7 f8 f9 v0 v1 v2 v3 v4) s.heap.size = A at hD ⊢
  have hA : ∀ q : Nat, s.heap.size ≤ q → A q := fun q h => by rw [← hAe]; exact Or.inr h
  have hS : va_S A s.heap s.heap [] := va_S.rf
  have hl := lv_entry ([.ref h]) (n := 6) (Nat.le_of_ble_eq_true rfl)
  rw [lg_entry_eq]
  generalize (lg_sl ([.ref h]) ++ List.replicate (6 - (lg_sl ([.ref h])).length) Slot.unset).toArray = ls at hl ⊢
  have hl : lv_has ls 6 [(0, .ref h)] := hl
  refine lv_aload_n hx hb dX1_laysShares_0 rfl (lv_at hl 0 rfl) ?_
  refine vp_callSi (W.runV (As := []) (rest := []) ⟨hx, hb, hml, hown, hts⟩ (c_X1_all l D cI cZ cJ h a0 a4 a5 a6 a7 a8 a9 f0 f4 f5 f6 f7 f8 f9 v0 v1 v2 v3 v4) (cwV 0 hts gX1_laysShares_X1_all rfl rfl rfl (by decide +kernel) ⟨Nat.le_of_ble_eq_true rfl, Nat.le_of_ble_eq_true rfl⟩) ⟨zP_blind, va_recv hK hP (ci := 1) (q0 := 0) rfl rfl, fun U hU hW => ⟨rfl, zP_mk hP hK hU hW⟩⟩ rfl rfl hl.1 rfl (lv_room (Nat.le_of_ble_eq_true rfl)) dX1_laysShares_1 ⟨Nat.le_of_ble_eq_true rfl, Nat.le_of_ble_eq_true rfl⟩) (fun r1 w1 => ?_)
  subst w1
  refine lv_istore_n (lv' := [(1, .int (q_sum f0 8)), (0, .ref h)]) hx hb dX1_laysShares_4 rfl hl (by decide) rfl (fun ls hl => ?_)
  refine lv_aload_n hx hb dX1_laysShares_5 rfl (lv_at hl 1 rfl) ?_
  refine va_get (D := D) (ci := 1) (v := .ref a7) (C := RX1) (T := TX1) (N := 12) hx hb hts hin hown hK hP 0 rfl rfl 6 (by decide) (hts (.fieldLink RX1 22 "QuorumfundModel" "amounts" "[I") (by decide +kernel)) (fun _ h9 => h9) rfl dX1_laysShares_6 ?_
  refine lv_aload_n hx hb dX1_laysShares_9 rfl (lv_at hl 1 rfl) ?_
  refine va_get (D := D) (ci := 1) (v := .int v1) (C := RX1) (T := TX1) (N := 12) hx hb hts hin hown hK hP 0 rfl rfl 5 (by decide) (hts (.fieldLink RX1 63 "QuorumfundModel" "released" "I") (by decide +kernel)) (fun _ h9 => h9) rfl dX1_laysShares_10 ?_
  refine va_iald (D := D) hx hb hK hP 5 0 rfl rfl hv1 dX1_laysShares_13 ?_
  refine lv_istore_n (lv' := [(2, .int (f7 v1.toNatClampNeg)), (1, .int (q_sum f0 8)), (0, .ref h)]) hx hb dX1_laysShares_14 rfl hl (by decide) rfl (fun ls hl => ?_)
  refine lv_iload_n hx hb dX1_laysShares_15 rfl (lv_at hl 0 rfl) ?_
  refine lv_istore_n (lv' := [(3, .int (f7 v1.toNatClampNeg)), (2, .int (f7 v1.toNatClampNeg)), (1, .int (q_sum f0 8)), (0, .ref h)]) hx hb dX1_laysShares_16 rfl hl (by decide) rfl (fun ls hl => ?_)
  refine lv_iconst (v := 0) hx hb dX1_laysShares_17 (by decide) ?_
  refine lv_istore (lv' := [(4, .int 0), (3, .int (f7 v1.toNatClampNeg)), (2, .int (f7 v1.toNatClampNeg)), (1, .int (q_sum f0 8)), (0, .ref h)]) hx hb dX1_laysShares_18 hl (by decide) rfl (fun ls hl => ?_)
  have hloop20 : ∀ (n20 : Nat) (i : Nat) (x : Int32) (g : Nat → Int32), (9 ≤ i + n20) → (i ≤ 8) → (x = q_lk1 f0 (f7 v1.toNatClampNeg) (q_sum f0 8) i) → (g = q_fill (fun n => q_base (f7 v1.toNatClampNeg) (q_sum f0 8) (f0 n)) f9 i) → ∀ (H : Heap) (locs : List Loc), va_P D vwCl (wM cI cZ h a0 a4 a5 a6 a7 a8 a9 f0 f4 f5 f6 f7 f8 g v0 v1 v2 v3 v4) H → va_D A (wM cI cZ h a0 a4 a5 a6 a7 a8 a9 f0 f4 f5 f6 f7 f8 g v0 v1 v2 v3 v4) → va_S A s.heap H locs → ∀ (ls : Array Slot), lv_has ls 6 [(4, .int (nI i)), (3, .int x), (2, .int (f7 v1.toNatClampNeg)), (1, .int (q_sum f0 8)), (0, .ref h)] → W p l e (headSpec wsX1_laysShares ({ frames := 1, cells := 0, slots := 0, locals := 22 })).room s m ([Value.ref h] : List Value).toArray below meth c H locs 0 0 (MQ below (va_Qv (fun u : (Nat → Int32) => u = q_fill (q_sh f0 (f7 v1.toNatClampNeg)) f9 8) (fun u t => zB D cI cZ cJ A (wM cI cZ h a0 a4 a5 a6 a7 a8 a9 f0 f4 f5 f6 f7 f8 u v0 v1 v2 v3 v4) t) A) ([Value.ref h] : List Value).toArray s 0 0 A) (F0 m 20 ls []) := by
    intro n20
    induction n20 with
    | zero => intro i x g hn hi ex eg; exact False.elim (by omega)
    | succ n20 ih20 =>
      intro i x g hn hi ex eg H locs hP hD hS ls hl
      refine lv_iload hx hb dX1_laysShares_20 (lv_at hl 0 rfl) ?_
      refine lv_bipush (v := 8) hx hb dX1_laysShares_22 (by decide) ?_
      refine lv_icmp_ge (tgt := 65) hx hb dX1_laysShares_24 (by decide) (fun c2 => ?_) (fun c2 => ?_)
      · skip
        have hj := z_ge8 hi c2
        subst hj
        refine lv_iconst (v := 0) hx hb dX1_laysShares_65 (by decide) ?_
        refine lv_istore (lv' := [(4, .int 0), (3, .int x), (2, .int (f7 v1.toNatClampNeg)), (1, .int (q_sum f0 8)), (0, .ref h)]) hx hb dX1_laysShares_66 hl (by decide) rfl (fun ls hl => ?_)
        have hloop68 : ∀ (n68 : Nat) (i : Nat) (x : Int32) (g : Nat → Int32), (9 ≤ i + n68) → (i ≤ 8) → (x = q_lk2 f0 (f7 v1.toNatClampNeg) (q_sum f0 8) i) → (g = q_fill (q_shT f0 (f7 v1.toNatClampNeg) (q_sum f0 8)) (q_fill (fun n => q_base (f7 v1.toNatClampNeg) (q_sum f0 8) (f0 n)) f9 8) i) → ∀ (H : Heap) (locs : List Loc), va_P D vwCl (wM cI cZ h a0 a4 a5 a6 a7 a8 a9 f0 f4 f5 f6 f7 f8 g v0 v1 v2 v3 v4) H → va_D A (wM cI cZ h a0 a4 a5 a6 a7 a8 a9 f0 f4 f5 f6 f7 f8 g v0 v1 v2 v3 v4) → va_S A s.heap H locs → ∀ (ls : Array Slot), lv_has ls 6 [(4, .int (nI i)), (3, .int x), (2, .int (f7 v1.toNatClampNeg)), (1, .int (q_sum f0 8)), (0, .ref h)] → W p l e (headSpec wsX1_laysShares ({ frames := 1, cells := 0, slots := 0, locals := 22 })).room s m ([Value.ref h] : List Value).toArray below meth c H locs 0 0 (MQ below (va_Qv (fun u : (Nat → Int32) => u = q_fill (q_sh f0 (f7 v1.toNatClampNeg)) f9 8) (fun u t => zB D cI cZ cJ A (wM cI cZ h a0 a4 a5 a6 a7 a8 a9 f0 f4 f5 f6 f7 f8 u v0 v1 v2 v3 v4) t) A) ([Value.ref h] : List Value).toArray s 0 0 A) (F0 m 68 ls []) := by
          intro n68
          induction n68 with
          | zero => intro i x g hn hi ex eg; exact False.elim (by omega)
          | succ n68 ih68 =>
            intro i x g hn hi ex eg H locs hP hD hS ls hl
            refine lv_iload hx hb dX1_laysShares_68 (lv_at hl 0 rfl) ?_
            refine lv_bipush (v := 8) hx hb dX1_laysShares_70 (by decide) ?_
            refine lv_icmp_ge (tgt := 126) hx hb dX1_laysShares_72 (by decide) (fun c3 => ?_) (fun c3 => ?_)
            · skip
              have hj := z_ge8 hi c3
              subst hj
              have hfin : g = q_fill (q_sh f0 (f7 v1.toNatClampNeg)) f9 8 := by rw [eg]; exact z_fill_fill
              exact W.vret hx hb hr (fun t ht hW => ⟨⟨g, rfl, hfin, ⟨by rw [ht]; exact hP, va_K.moved hW.alike hK, hD⟩⟩, hS.F ht⟩) hS.2.2 dX1_laysShares_126
            · skip
              have hj := z_lt8 hi c3
              have hgi : g (nI i).toNatClampNeg = q_base (f7 v1.toNatClampNeg) (q_sum f0 8) (f0 i) := by rw [eg, z_cl hj, z_fill_ge (Nat.le_refl i), z_fill_lt hj]
              refine lv_iload_n hx hb dX1_laysShares_75 rfl (lv_at hl 1 rfl) ?_
              refine lv_if_le (tgt := 100) hx hb dX1_laysShares_76 (by decide) (fun c4 => ?_) (fun c4 => ?_)
              · skip
                have hbf : (decide (0 < q_lk2 f0 (f7 v1.toNatClampNeg) (q_sum f0 8) i) && decide (q_base (f7 v1.toNatClampNeg) (q_sum f0 8) (f0 i) < f0 i)) = false := by rw [← ex]; simp [z_nlt.mpr c4]
                refine lv_iconst (v := 0) hx hb dX1_laysShares_100 (by decide) ?_
                refine lv_istore (lv' := [(5, .int 0), (4, .int (nI i)), (3, .int x), (2, .int (f7 v1.toNatClampNeg)), (1, .int (q_sum f0 8)), (0, .ref h)]) hx hb dX1_laysShares_101 hl (by decide) rfl (fun ls hl => ?_)
                refine lv_aload_n hx hb dX1_laysShares_103 rfl (lv_at hl 5 rfl) ?_
                refine va_get (D := D) (ci := 1) (v := .ref a9) (C := RX1) (T := TX1) (N := 12) hx hb hts hin hown hK hP 0 rfl rfl 10 (by decide) (hts (.fieldLink RX1 29 "QuorumfundModel" "shares" "[I") (by decide +kernel)) (fun _ h9 => h9) rfl dX1_laysShares_104 ?_
                refine lv_iload hx hb dX1_laysShares_107 (lv_at hl 1 rfl) ?_
                refine lv_dup2_11 hx hb dX1_laysShares_109 rfl rfl ?_
                refine va_iald (D := D) hx hb hK hP 7 0 rfl rfl (z_in8 hj) dX1_laysShares_110 ?_
                refine lv_iload hx hb dX1_laysShares_111 (lv_at hl 0 rfl) ?_
                refine lv_iadd hx hb dX1_laysShares_113 ?_
                refine va_iast (D := D) hx hb hK hP hD hS 7 0 rfl rfl (z_in8 hj) dX1_laysShares_114 (fun H locs hP hD hS => ?_)
                have hP : va_P D vwCl (wM cI cZ h a0 a4 a5 a6 a7 a8 a9 f0 f4 f5 f6 f7 f8 (upd g (nI i).toNatClampNeg ((g (nI i).toNatClampNeg) + 0)) v0 v1 v2 v3 v4) H := hP
                have hD : va_D A (wM cI cZ h a0 a4 a5 a6 a7 a8 a9 f0 f4 f5 f6 f7 f8 (upd g (nI i).toNatClampNeg ((g (nI i).toNatClampNeg) + 0)) v0 v1 v2 v3 v4) := hD
                refine lv_iload_n hx hb dX1_laysShares_115 rfl (lv_at hl 2 rfl) ?_
                refine lv_iload hx hb dX1_laysShares_116 (lv_at hl 0 rfl) ?_
                refine lv_isub hx hb dX1_laysShares_118 ?_
                refine lv_istore_n (lv' := [(3, .int (x - 0)), (5, .int 0), (4, .int (nI i)), (2, .int (f7 v1.toNatClampNeg)), (1, .int (q_sum f0 8)), (0, .ref h)]) hx hb dX1_laysShares_119 rfl hl (by decide) rfl (fun ls hl => ?_)
                refine lv_iinc (v := nI (i + 1)) (lv' := [(4, .int (nI (i + 1))), (3, .int (x - 0)), (5, .int 0), (2, .int (f7 v1.toNatClampNeg)), (1, .int (q_sum f0 8)), (0, .ref h)]) hx hb dX1_laysShares_120 hl (k := 2) rfl (nI_1 _) (by decide) rfl (fun ls hl => ?_)
                refine lv_goto (tgt := 68) hx hb dX1_laysShares_123 (by decide) ?_
                exact ih68 (i + 1) (x - 0) (upd g (nI i).toNatClampNeg ((g (nI i).toNatClampNeg) + 0)) (by omega) (by omega) (by rw [z_s0, ex, q_lk2]; simp [hbf]) (by rw [hgi, z_a0, z_cl hj, eg, show q_base (f7 v1.toNatClampNeg) (q_sum f0 8) (f0 i) = q_shT f0 (f7 v1.toNatClampNeg) (q_sum f0 8) i from by simp [q_shT, hbf]]; exact z_fillS (q_shT f0 (f7 v1.toNatClampNeg) (q_sum f0 8)) _ i) H locs hP hD hS ls (lv_sub hl [0, 1, 3, 4, 5] rfl)
              · skip
                have hx0 : 0 < x := z_nle.mp c4
                refine lv_aload_n hx hb dX1_laysShares_79 rfl (lv_at hl 4 rfl) ?_
                refine va_get (D := D) (ci := 1) (v := .ref a0) (C := RX1) (T := TX1) (N := 12) hx hb hts hin hown hK hP 0 rfl rfl 0 (by decide) (hts (.fieldLink RX1 7 "QuorumfundModel" "ins" "[I") (by decide +kernel)) (fun _ h9 => h9) rfl dX1_laysShares_80 ?_
                refine lv_iload hx hb dX1_laysShares_83 (lv_at hl 0 rfl) ?_
                refine va_iald (D := D) hx hb hK hP 1 0 rfl rfl (z_in8 hj) dX1_laysShares_85 ?_
                refine lv_aload_n hx hb dX1_laysShares_86 rfl (lv_at hl 4 rfl) ?_
                refine va_get (D := D) (ci := 1) (v := .ref a9) (C := RX1) (T := TX1) (N := 12) hx hb hts hin hown hK hP 0 rfl rfl 10 (by decide) (hts (.fieldLink RX1 29 "QuorumfundModel" "shares" "[I") (by decide +kernel)) (fun _ h9 => h9) rfl dX1_laysShares_87 ?_
                refine lv_iload hx hb dX1_laysShares_90 (lv_at hl 0 rfl) ?_
                refine va_iald (D := D) hx hb hK hP 7 0 rfl rfl (z_in8 hj) dX1_laysShares_92 ?_
                refine lv_icmp_le (tgt := 100) hx hb dX1_laysShares_93 (by decide) (fun c5 => ?_) (fun c5 => ?_)
                · skip
                  have hbf : (decide (0 < q_lk2 f0 (f7 v1.toNatClampNeg) (q_sum f0 8) i) && decide (q_base (f7 v1.toNatClampNeg) (q_sum f0 8) (f0 i) < f0 i)) = false := by rw [hgi, z_cl hj] at c5; simp [z_nlt.mpr c5]
                  refine lv_iconst (v := 0) hx hb dX1_laysShares_100 (by decide) ?_
                  refine lv_istore (lv' := [(5, .int 0), (4, .int (nI i)), (3, .int x), (2, .int (f7 v1.toNatClampNeg)), (1, .int (q_sum f0 8)), (0, .ref h)]) hx hb dX1_laysShares_101 hl (by decide) rfl (fun ls hl => ?_)
                  refine lv_aload_n hx hb dX1_laysShares_103 rfl (lv_at hl 5 rfl) ?_
                  refine va_get (D := D) (ci := 1) (v := .ref a9) (C := RX1) (T := TX1) (N := 12) hx hb hts hin hown hK hP 0 rfl rfl 10 (by decide) (hts (.fieldLink RX1 29 "QuorumfundModel" "shares" "[I") (by decide +kernel)) (fun _ h9 => h9) rfl dX1_laysShares_104 ?_
                  refine lv_iload hx hb dX1_laysShares_107 (lv_at hl 1 rfl) ?_
                  refine lv_dup2_11 hx hb dX1_laysShares_109 rfl rfl ?_
                  refine va_iald (D := D) hx hb hK hP 7 0 rfl rfl (z_in8 hj) dX1_laysShares_110 ?_
                  refine lv_iload hx hb dX1_laysShares_111 (lv_at hl 0 rfl) ?_
                  refine lv_iadd hx hb dX1_laysShares_113 ?_
                  refine va_iast (D := D) hx hb hK hP hD hS 7 0 rfl rfl (z_in8 hj) dX1_laysShares_114 (fun H locs hP hD hS => ?_)
                  have hP : va_P D vwCl (wM cI cZ h a0 a4 a5 a6 a7 a8 a9 f0 f4 f5 f6 f7 f8 (upd g (nI i).toNatClampNeg ((g (nI i).toNatClampNeg) + 0)) v0 v1 v2 v3 v4) H := hP
                  have hD : va_D A (wM cI cZ h a0 a4 a5 a6 a7 a8 a9 f0 f4 f5 f6 f7 f8 (upd g (nI i).toNatClampNeg ((g (nI i).toNatClampNeg) + 0)) v0 v1 v2 v3 v4) := hD
                  refine lv_iload_n hx hb dX1_laysShares_115 rfl (lv_at hl 2 rfl) ?_
                  refine lv_iload hx hb dX1_laysShares_116 (lv_at hl 0 rfl) ?_
                  refine lv_isub hx hb dX1_laysShares_118 ?_
                  refine lv_istore_n (lv' := [(3, .int (x - 0)), (5, .int 0), (4, .int (nI i)), (2, .int (f7 v1.toNatClampNeg)), (1, .int (q_sum f0 8)), (0, .ref h)]) hx hb dX1_laysShares_119 rfl hl (by decide) rfl (fun ls hl => ?_)
                  refine lv_iinc (v := nI (i + 1)) (lv' := [(4, .int (nI (i + 1))), (3, .int (x - 0)), (5, .int 0), (2, .int (f7 v1.toNatClampNeg)), (1, .int (q_sum f0 8)), (0, .ref h)]) hx hb dX1_laysShares_120 hl (k := 2) rfl (nI_1 _) (by decide) rfl (fun ls hl => ?_)
                  refine lv_goto (tgt := 68) hx hb dX1_laysShares_123 (by decide) ?_
                  exact ih68 (i + 1) (x - 0) (upd g (nI i).toNatClampNeg ((g (nI i).toNatClampNeg) + 0)) (by omega) (by omega) (by rw [z_s0, ex, q_lk2]; simp [hbf]) (by rw [hgi, z_a0, z_cl hj, eg, show q_base (f7 v1.toNatClampNeg) (q_sum f0 8) (f0 i) = q_shT f0 (f7 v1.toNatClampNeg) (q_sum f0 8) i from by simp [q_shT, hbf]]; exact z_fillS (q_shT f0 (f7 v1.toNatClampNeg) (q_sum f0 8)) _ i) H locs hP hD hS ls (lv_sub hl [0, 1, 3, 4, 5] rfl)
                · skip
                  have hbt : (decide (0 < q_lk2 f0 (f7 v1.toNatClampNeg) (q_sum f0 8) i) && decide (q_base (f7 v1.toNatClampNeg) (q_sum f0 8) (f0 i) < f0 i)) = true := by rw [hgi, z_cl hj] at c5; rw [ex] at hx0; simp [z_nle.mp c5, hx0]
                  refine lv_iconst (v := 1) hx hb dX1_laysShares_96 (by decide) ?_
                  refine lv_goto (tgt := 101) hx hb dX1_laysShares_97 (by decide) ?_
                  refine lv_istore (lv' := [(5, .int 1), (4, .int (nI i)), (3, .int x), (2, .int (f7 v1.toNatClampNeg)), (1, .int (q_sum f0 8)), (0, .ref h)]) hx hb dX1_laysShares_101 hl (by decide) rfl (fun ls hl => ?_)
                  refine lv_aload_n hx hb dX1_laysShares_103 rfl (lv_at hl 5 rfl) ?_
                  refine va_get (D := D) (ci := 1) (v := .ref a9) (C := RX1) (T := TX1) (N := 12) hx hb hts hin hown hK hP 0 rfl rfl 10 (by decide) (hts (.fieldLink RX1 29 "QuorumfundModel" "shares" "[I") (by decide +kernel)) (fun _ h9 => h9) rfl dX1_laysShares_104 ?_
                  refine lv_iload hx hb dX1_laysShares_107 (lv_at hl 1 rfl) ?_
                  refine lv_dup2_11 hx hb dX1_laysShares_109 rfl rfl ?_
                  refine va_iald (D := D) hx hb hK hP 7 0 rfl rfl (z_in8 hj) dX1_laysShares_110 ?_
                  refine lv_iload hx hb dX1_laysShares_111 (lv_at hl 0 rfl) ?_
                  refine lv_iadd hx hb dX1_laysShares_113 ?_
                  refine va_iast (D := D) hx hb hK hP hD hS 7 0 rfl rfl (z_in8 hj) dX1_laysShares_114 (fun H locs hP hD hS => ?_)
                  have hP : va_P D vwCl (wM cI cZ h a0 a4 a5 a6 a7 a8 a9 f0 f4 f5 f6 f7 f8 (upd g (nI i).toNatClampNeg ((g (nI i).toNatClampNeg) + 1)) v0 v1 v2 v3 v4) H := hP
                  have hD : va_D A (wM cI cZ h a0 a4 a5 a6 a7 a8 a9 f0 f4 f5 f6 f7 f8 (upd g (nI i).toNatClampNeg ((g (nI i).toNatClampNeg) + 1)) v0 v1 v2 v3 v4) := hD
                  refine lv_iload_n hx hb dX1_laysShares_115 rfl (lv_at hl 2 rfl) ?_
                  refine lv_iload hx hb dX1_laysShares_116 (lv_at hl 0 rfl) ?_
                  refine lv_isub hx hb dX1_laysShares_118 ?_
                  refine lv_istore_n (lv' := [(3, .int (x - 1)), (5, .int 1), (4, .int (nI i)), (2, .int (f7 v1.toNatClampNeg)), (1, .int (q_sum f0 8)), (0, .ref h)]) hx hb dX1_laysShares_119 rfl hl (by decide) rfl (fun ls hl => ?_)
                  refine lv_iinc (v := nI (i + 1)) (lv' := [(4, .int (nI (i + 1))), (3, .int (x - 1)), (5, .int 1), (2, .int (f7 v1.toNatClampNeg)), (1, .int (q_sum f0 8)), (0, .ref h)]) hx hb dX1_laysShares_120 hl (k := 2) rfl (nI_1 _) (by decide) rfl (fun ls hl => ?_)
                  refine lv_goto (tgt := 68) hx hb dX1_laysShares_123 (by decide) ?_
                  exact ih68 (i + 1) (x - 1) (upd g (nI i).toNatClampNeg ((g (nI i).toNatClampNeg) + 1)) (by omega) (by omega) (by rw [ex, q_lk2]; simp [hbt]) (by rw [hgi, z_cl hj, eg, show q_base (f7 v1.toNatClampNeg) (q_sum f0 8) (f0 i) + 1 = q_shT f0 (f7 v1.toNatClampNeg) (q_sum f0 8) i from by simp [q_shT, hbt]]; exact z_fillS (q_shT f0 (f7 v1.toNatClampNeg) (q_sum f0 8)) _ i) H locs hP hD hS ls (lv_sub hl [0, 1, 3, 4, 5] rfl)
        exact hloop68 9 0 x g (by omega) (by omega) ex (by rw [eg]; exact (z_fill0 _ _).symm) _ _ hP hD hS ls (lv_sub hl [0, 1, 2, 3, 4] rfl)
      · skip
        have hj := z_lt8 hi c2
        refine lv_aload_n hx hb dX1_laysShares_27 rfl (lv_at hl 4 rfl) ?_
        refine va_get (D := D) (ci := 1) (v := .ref a9) (C := RX1) (T := TX1) (N := 12) hx hb hts hin hown hK hP 0 rfl rfl 10 (by decide) (hts (.fieldLink RX1 29 "QuorumfundModel" "shares" "[I") (by decide +kernel)) (fun _ h9 => h9) rfl dX1_laysShares_28 ?_
        refine lv_iload hx hb dX1_laysShares_31 (lv_at hl 0 rfl) ?_
        refine lv_iload_n hx hb dX1_laysShares_33 rfl (lv_at hl 2 rfl) ?_
        refine lv_i2l (v := (f7 v1.toNatClampNeg).toInt64) hx hb dX1_laysShares_34 rfl ?_
        refine lv_aload_n hx hb dX1_laysShares_35 rfl (lv_at hl 4 rfl) ?_
        refine va_get (D := D) (ci := 1) (v := .ref a0) (C := RX1) (T := TX1) (N := 12) hx hb hts hin hown hK hP 0 rfl rfl 0 (by decide) (hts (.fieldLink RX1 7 "QuorumfundModel" "ins" "[I") (by decide +kernel)) (fun _ h9 => h9) rfl dX1_laysShares_36 ?_
        refine lv_iload hx hb dX1_laysShares_39 (lv_at hl 0 rfl) ?_
        refine va_iald (D := D) hx hb hK hP 1 0 rfl rfl (z_in8 hj) dX1_laysShares_41 ?_
        refine lv_i2l (v := (f0 (nI i).toNatClampNeg).toInt64) hx hb dX1_laysShares_42 rfl ?_
        refine lv_lmul hx hb dX1_laysShares_43 ?_
        refine lv_iload_n hx hb dX1_laysShares_44 rfl (lv_at hl 3 rfl) ?_
        refine lv_i2l (v := (q_sum f0 8).toInt64) hx hb dX1_laysShares_45 rfl ?_
        refine lv_ldiv hx hb dX1_laysShares_46 (z_dvT hT) ?_
        refine lv_l2i (v := ((((f7 v1.toNatClampNeg).toInt64) * ((f0 (nI i).toNatClampNeg).toInt64)) / ((q_sum f0 8).toInt64)).toInt32) hx hb dX1_laysShares_47 rfl ?_
        refine va_iast (D := D) hx hb hK hP hD hS 7 0 rfl rfl (z_in8 hj) dX1_laysShares_48 (fun H locs hP hD hS => ?_)
        have hP : va_P D vwCl (wM cI cZ h a0 a4 a5 a6 a7 a8 a9 f0 f4 f5 f6 f7 f8 (upd g (nI i).toNatClampNeg (((((f7 v1.toNatClampNeg).toInt64) * ((f0 (nI i).toNatClampNeg).toInt64)) / ((q_sum f0 8).toInt64)).toInt32)) v0 v1 v2 v3 v4) H := hP
        have hD : va_D A (wM cI cZ h a0 a4 a5 a6 a7 a8 a9 f0 f4 f5 f6 f7 f8 (upd g (nI i).toNatClampNeg (((((f7 v1.toNatClampNeg).toInt64) * ((f0 (nI i).toNatClampNeg).toInt64)) / ((q_sum f0 8).toInt64)).toInt32)) v0 v1 v2 v3 v4) := hD
        refine lv_iload_n hx hb dX1_laysShares_49 rfl (lv_at hl 1 rfl) ?_
        refine lv_aload_n hx hb dX1_laysShares_50 rfl (lv_at hl 4 rfl) ?_
        refine va_get (D := D) (ci := 1) (v := .ref a9) (C := RX1) (T := TX1) (N := 12) hx hb hts hin hown hK hP 0 rfl rfl 10 (by decide) (hts (.fieldLink RX1 29 "QuorumfundModel" "shares" "[I") (by decide +kernel)) (fun _ h9 => h9) rfl dX1_laysShares_51 ?_
        refine lv_iload hx hb dX1_laysShares_54 (lv_at hl 0 rfl) ?_
        refine va_iald (D := D) hx hb hK hP 7 0 rfl rfl (z_in8 hj) dX1_laysShares_56 ?_
        refine lv_isub hx hb dX1_laysShares_57 ?_
        refine lv_istore_n (lv' := [(3, .int (x - ((upd g (nI i).toNatClampNeg (((((f7 v1.toNatClampNeg).toInt64) * ((f0 (nI i).toNatClampNeg).toInt64)) / ((q_sum f0 8).toInt64)).toInt32)) (nI i).toNatClampNeg))), (4, .int (nI i)), (2, .int (f7 v1.toNatClampNeg)), (1, .int (q_sum f0 8)), (0, .ref h)]) hx hb dX1_laysShares_58 rfl hl (by decide) rfl (fun ls hl => ?_)
        refine lv_iinc (v := nI (i + 1)) (lv' := [(4, .int (nI (i + 1))), (3, .int (x - ((upd g (nI i).toNatClampNeg (((((f7 v1.toNatClampNeg).toInt64) * ((f0 (nI i).toNatClampNeg).toInt64)) / ((q_sum f0 8).toInt64)).toInt32)) (nI i).toNatClampNeg))), (2, .int (f7 v1.toNatClampNeg)), (1, .int (q_sum f0 8)), (0, .ref h)]) hx hb dX1_laysShares_59 hl (k := 1) rfl (nI_1 _) (by decide) rfl (fun ls hl => ?_)
        refine lv_goto (tgt := 20) hx hb dX1_laysShares_62 (by decide) ?_
        exact ih20 (i + 1) (x - ((upd g (nI i).toNatClampNeg (((((f7 v1.toNatClampNeg).toInt64) * ((f0 (nI i).toNatClampNeg).toInt64)) / ((q_sum f0 8).toInt64)).toInt32)) (nI i).toNatClampNeg)) (upd g (nI i).toNatClampNeg (((((f7 v1.toNatClampNeg).toInt64) * ((f0 (nI i).toNatClampNeg).toInt64)) / ((q_sum f0 8).toInt64)).toInt32)) (by omega) (by omega) (by rw [pk_us, ex, z_cl hj, ← z_base hT]; rfl) (by rw [eg, z_cl hj, ← z_base hT]; exact z_fillS (fun n => q_base (f7 v1.toNatClampNeg) (q_sum f0 8) (f0 n)) f9 i) H locs hP hD hS ls (lv_sub hl [0, 1, 2, 3, 4] rfl)
  exact hloop20 9 0 (f7 v1.toNatClampNeg) f9 (by omega) (by omega) rfl ((z_fill0 _ _).symm) _ _ hP hD hS ls (lv_sub hl [0, 1, 2, 3, 4] rfl)
set_option maxHeartbeats 4000000 in
set_option maxRecDepth 100000 in
theorem c_X1_share (l : Launch) (D : va_G) (cI cZ cJ : ClassId) (sz : Nat) (h a0 a4 a5 a6 a7 a8 a9 : Nat) (f0 f4 f5 f6 f7 f8 f9 : Nat → Int32) (v0 v1 v2 v3 v4 : Int32) (p0 : Int32) (hb3 : 0 ≤ v1.toInt ∧ v1.toInt ≤ v0.toInt ∧ v0.toInt ≤ 6) (hT0 : q_cov f0 f7 v0 v1 = true → 0 < q_sum f0 8) : Met l yX1_share wsX1_share ({ frames := 2, cells := 0, slots := 0, locals := 47 }) (va_Pc [.ref h, .int p0] (zD D cI cZ cJ sz (wM cI cZ h a0 a4 a5 a6 a7 a8 a9 f0 f4 f5 f6 f7 f8 f9 v0 v1 v2 v3 v4))) (va_Qi (fun (r : Int32) (u : (Nat → Int32) × Int32) => (q_shK (q_cov f0 f7 v0 v1) p0 = 0 → r = q_sh f0 (f7 v1.toNatClampNeg) p0.toNatClampNeg) ∧ u.2 = q_shK (q_cov f0 f7 v0 v1) p0) (fun u t => zB D cI cZ cJ (va_A (wM cI cZ h a0 a4 a5 a6 a7 a8 a9 f0 f4 f5 f6 f7 f8 f9 v0 v1 v2 v3 v4) sz) (wM cI cZ h a0 a4 a5 a6 a7 a8 a9 f0 f4 f5 f6 f7 f8 u.1 v0 v1 v2 v3 u.2) t) (va_A (wM cI cZ h a0 a4 a5 a6 a7 a8 a9 f0 f4 f5 f6 f7 f8 f9 v0 v1 v2 v3 v4) sz)) 0 0 (va_A (wM cI cZ h a0 a4 a5 a6 a7 a8 a9 f0 f4 f5 f6 f7 f8 f9 v0 v1 v2 v3 v4) sz) := by
  refine Met.ofW (cc := cX1_share) (maxL := 2) (ret := (some .int)) (by decide) rfl ?_
  intro p e s m args below meth c s₁ B hml hv
  obtain ⟨rfl, hsz, hP, hK, hD0⟩ := hv
  have hx := B.exec
  have hb := B.bytes
  have hr := B.returns
  have hts := atoms_spec (ws := wsX1_share) B.pre
  have hown : s.vm.findClass RX1 = some m.cls := findClass_of_methodNamed B.named
  have hlocks := B.notSynchronized
  have hin : ∀ w ∈ wsX10, w ∈ wsX1_share := by decide +kernel
  subst hsz
  have hD := hD0.self (sz := s.heap.size)
  generalize hAe : va_A (wM cI cZ h a0 a4 a5 a6 a7 a8 a9 f0 f4 f5 f6 f7 f8 f9 v0 v1 v2 v3 v4) s.heap.size = A at hD ⊢
  have hA : ∀ q : Nat, s.heap.size ≤ q → A q := fun q h => by rw [← hAe]; exact Or.inr h
  have hS : va_S A s.heap s.heap [] := va_S.rf
  have hl := lv_entry ([.ref h, .int p0]) (n := 2) (Nat.le_of_ble_eq_true rfl)
  rw [lg_entry_eq]
  generalize (lg_sl ([.ref h, .int p0]) ++ List.replicate (2 - (lg_sl ([.ref h, .int p0])).length) Slot.unset).toArray = ls at hl ⊢
  have hl : lv_has ls 2 [(0, .ref h), (1, .int p0)] := hl
  refine lv_aload_n hx hb dX1_share_0 rfl (lv_at hl 0 rfl) ?_
  refine lv_iload_n hx hb dX1_share_1 rfl (lv_at hl 1 rfl) ?_
  refine vp_callSi (W.runS (As := [.int p0]) (rest := [.ref h]) ⟨hx, hb, hml, hown, hts⟩ (c_X1_isGiver l p0) (va_cwS 1 hts gX1_share_X1_isGiver rfl rfl rfl (by decide +kernel) ⟨Nat.le_of_ble_eq_true rfl, Nat.le_of_ble_eq_true rfl⟩) ⟨zN_blind, fun U hU hW => ⟨rfl, trivial⟩⟩ rfl rfl hl.1 rfl (lv_room (Nat.le_of_ble_eq_true rfl)) dX1_share_2 ⟨Nat.le_of_ble_eq_true rfl, Nat.le_of_ble_eq_true rfl⟩) (fun r1 w1 => ?_)
  cases hq1 : q_g p0
  · skip
    rw [hq1] at w1
    have w1 : r1 = 0 := w1
    subst w1
    refine lv_if_ne (tgt := 12) hx hb dX1_share_5 (by decide) (fun c9 => False.elim (by revert c9; decide)) (fun _ => ?_)
    refine lv_iconst (v := 1) hx hb dX1_share_8 (by decide) ?_
    refine lv_goto (tgt := 24) hx hb dX1_share_9 (by decide) ?_
    have hFc := va_free (wc := wM cI cZ h a0 a4 a5 a6 a7 a8 a9 f0 f4 f5 f6 f7 f8 f9 v0 v1 v2 v3 v4) hD hS hA [0, 1, 2, 3, 4, 5, 6, 7] rfl
    refine va_calli (va_runV (As := [.int 1]) (rest := []) ⟨hx, hb, hml, hown, hts⟩ (c_X1_goes l D cI cZ cJ s.heap.size h a0 a4 a5 a6 a7 a8 a9 f0 f4 f5 f6 f7 f8 f9 v0 v1 v2 v3 v4 1) (cwV 1 hts gX1_share_X1_goes rfl rfl rfl (by decide +kernel) ⟨Nat.le_of_ble_eq_true rfl, Nat.le_of_ble_eq_true rfl⟩) ⟨zD_blind, va_recv hK hP (ci := 1) (q0 := 0) rfl rfl, fun U hU hW => ⟨rfl, zD_mk hP hK hD hU hW⟩⟩ rfl rfl hl.1 rfl (lv_room (Nat.le_of_ble_eq_true rfl)) dX1_share_24 ⟨Nat.le_of_ble_eq_true rfl, Nat.le_of_ble_eq_true rfl⟩) hS (fun q _ h => hFc q h) hFc (fun r3 u3 t H1 locs ht hvm w3 hB hz1 hk1 hS => ?_)
    obtain ⟨hP1, hK1, hD1⟩ := hB
    rw [ht] at hP1
    generalize H1 = H at hP1 hS ⊢
    try dsimp only at w3
    obtain ⟨w3_p, w3_0⟩ := w3
    subst w3_0
    have hP : va_P D vwCl (wM cI cZ h a0 a4 a5 a6 a7 a8 a9 f0 f4 f5 f6 f7 f8 f9 v0 v1 v2 v3 1) H := hP1
    have hD : va_D A (wM cI cZ h a0 a4 a5 a6 a7 a8 a9 f0 f4 f5 f6 f7 f8 f9 v0 v1 v2 v3 1) := hD1.weaken (fun _ _ _ h => hFc _ h)
    have w3_p : r3 = 0 := w3_p.trans (by decide)
    subst w3_p
    refine lv_if_ne (tgt := 32) hx hb dX1_share_27 (by decide) (fun c9 => False.elim (by revert c9; decide)) (fun _ => ?_)
    refine lv_iconst (v := 0) hx hb dX1_share_30 (by decide) ?_
    exact W.iret (v := 0) hx hb hr (fun t ht hW => ⟨⟨0, ⟨f9, 1⟩, rfl, ⟨fun hz9 => by simp [q_shK, hq1] at hz9, by simp [q_up, q_us, q_uA, q_shK, hq1]⟩, ⟨by rw [ht]; exact hP, va_K.moved hW.alike hK, hD⟩⟩, hS.F ht⟩) hS.2.2 dX1_share_31
  · skip
    rw [hq1] at w1
    have w1 : r1 = 1 := w1
    subst w1
    refine lv_if_ne (tgt := 12) hx hb dX1_share_5 (by decide) (fun _ => ?_) (fun c9 => False.elim (by revert c9; decide))
    refine lv_aload_n hx hb dX1_share_12 rfl (lv_at hl 0 rfl) ?_
    refine vp_callSi (W.runV (As := []) (rest := [.ref h]) ⟨hx, hb, hml, hown, hts⟩ (c_X1_canGoOut l D cI cZ cJ h a0 a4 a5 a6 a7 a8 a9 f0 f4 f5 f6 f7 f8 f9 v0 v1 v2 v3 v4 hb3) (cwV 0 hts gX1_share_X1_canGoOut rfl rfl rfl (by decide +kernel) ⟨Nat.le_of_ble_eq_true rfl, Nat.le_of_ble_eq_true rfl⟩) ⟨zP_blind, va_recv hK hP (ci := 1) (q0 := 0) rfl rfl, fun U hU hW => ⟨rfl, zP_mk hP hK hU hW⟩⟩ rfl rfl hl.1 rfl (lv_room (Nat.le_of_ble_eq_true rfl)) dX1_share_13 ⟨Nat.le_of_ble_eq_true rfl, Nat.le_of_ble_eq_true rfl⟩) (fun r6 w6 => ?_)
    cases hq6 : q_cov f0 f7 v0 v1
    · skip
      rw [hq6] at w6
      have w6 : r6 = 0 := w6
      subst w6
      refine lv_if_eq (tgt := 23) hx hb dX1_share_16 (by decide) (fun _ => ?_) (fun c9 => False.elim (by revert c9; decide))
      refine lv_iconst (v := 2) hx hb dX1_share_23 (by decide) ?_
      have hFc := va_free (wc := wM cI cZ h a0 a4 a5 a6 a7 a8 a9 f0 f4 f5 f6 f7 f8 f9 v0 v1 v2 v3 v4) hD hS hA [0, 1, 2, 3, 4, 5, 6, 7] rfl
      refine va_calli (va_runV (As := [.int 2]) (rest := []) ⟨hx, hb, hml, hown, hts⟩ (c_X1_goes l D cI cZ cJ s.heap.size h a0 a4 a5 a6 a7 a8 a9 f0 f4 f5 f6 f7 f8 f9 v0 v1 v2 v3 v4 2) (cwV 1 hts gX1_share_X1_goes rfl rfl rfl (by decide +kernel) ⟨Nat.le_of_ble_eq_true rfl, Nat.le_of_ble_eq_true rfl⟩) ⟨zD_blind, va_recv hK hP (ci := 1) (q0 := 0) rfl rfl, fun U hU hW => ⟨rfl, zD_mk hP hK hD hU hW⟩⟩ rfl rfl hl.1 rfl (lv_room (Nat.le_of_ble_eq_true rfl)) dX1_share_24 ⟨Nat.le_of_ble_eq_true rfl, Nat.le_of_ble_eq_true rfl⟩) hS (fun q _ h => hFc q h) hFc (fun r8 u8 t H1 locs ht hvm w8 hB hz1 hk1 hS => ?_)
      obtain ⟨hP1, hK1, hD1⟩ := hB
      rw [ht] at hP1
      generalize H1 = H at hP1 hS ⊢
      try dsimp only at w8
      obtain ⟨w8_p, w8_0⟩ := w8
      subst w8_0
      have hP : va_P D vwCl (wM cI cZ h a0 a4 a5 a6 a7 a8 a9 f0 f4 f5 f6 f7 f8 f9 v0 v1 v2 v3 2) H := hP1
      have hD : va_D A (wM cI cZ h a0 a4 a5 a6 a7 a8 a9 f0 f4 f5 f6 f7 f8 f9 v0 v1 v2 v3 2) := hD1.weaken (fun _ _ _ h => hFc _ h)
      have w8_p : r8 = 0 := w8_p.trans (by decide)
      subst w8_p
      refine lv_if_ne (tgt := 32) hx hb dX1_share_27 (by decide) (fun c9 => False.elim (by revert c9; decide)) (fun _ => ?_)
      refine lv_iconst (v := 0) hx hb dX1_share_30 (by decide) ?_
      exact W.iret (v := 0) hx hb hr (fun t ht hW => ⟨⟨0, ⟨f9, 2⟩, rfl, ⟨fun hz9 => by simp [q_shK, hq1, hq6] at hz9, by simp [q_up, q_us, q_uA, q_shK, hq1, hq6]⟩, ⟨by rw [ht]; exact hP, va_K.moved hW.alike hK, hD⟩⟩, hS.F ht⟩) hS.2.2 dX1_share_31
    · skip
      rw [hq6] at w6
      have w6 : r6 = 1 := w6
      subst w6
      have hv1 := z_covin hb3 hq6
      have hT := hT0 hq6
      refine lv_if_eq (tgt := 23) hx hb dX1_share_16 (by decide) (fun c9 => False.elim (by revert c9; decide)) (fun _ => ?_)
      refine lv_iconst (v := 0) hx hb dX1_share_19 (by decide) ?_
      refine lv_goto (tgt := 24) hx hb dX1_share_20 (by decide) ?_
      have hFc := va_free (wc := wM cI cZ h a0 a4 a5 a6 a7 a8 a9 f0 f4 f5 f6 f7 f8 f9 v0 v1 v2 v3 v4) hD hS hA [0, 1, 2, 3, 4, 5, 6, 7] rfl
      refine va_calli (va_runV (As := [.int 0]) (rest := []) ⟨hx, hb, hml, hown, hts⟩ (c_X1_goes l D cI cZ cJ s.heap.size h a0 a4 a5 a6 a7 a8 a9 f0 f4 f5 f6 f7 f8 f9 v0 v1 v2 v3 v4 0) (cwV 1 hts gX1_share_X1_goes rfl rfl rfl (by decide +kernel) ⟨Nat.le_of_ble_eq_true rfl, Nat.le_of_ble_eq_true rfl⟩) ⟨zD_blind, va_recv hK hP (ci := 1) (q0 := 0) rfl rfl, fun U hU hW => ⟨rfl, zD_mk hP hK hD hU hW⟩⟩ rfl rfl hl.1 rfl (lv_room (Nat.le_of_ble_eq_true rfl)) dX1_share_24 ⟨Nat.le_of_ble_eq_true rfl, Nat.le_of_ble_eq_true rfl⟩) hS (fun q _ h => hFc q h) hFc (fun r11 u11 t H1 locs ht hvm w11 hB hz1 hk1 hS => ?_)
      obtain ⟨hP1, hK1, hD1⟩ := hB
      rw [ht] at hP1
      generalize H1 = H at hP1 hS ⊢
      try dsimp only at w11
      obtain ⟨w11_p, w11_0⟩ := w11
      subst w11_0
      have hP : va_P D vwCl (wM cI cZ h a0 a4 a5 a6 a7 a8 a9 f0 f4 f5 f6 f7 f8 f9 v0 v1 v2 v3 0) H := hP1
      have hD : va_D A (wM cI cZ h a0 a4 a5 a6 a7 a8 a9 f0 f4 f5 f6 f7 f8 f9 v0 v1 v2 v3 0) := hD1.weaken (fun _ _ _ h => hFc _ h)
      have w11_p : r11 = 1 := w11_p.trans (by decide)
      subst w11_p
      refine lv_if_ne (tgt := 32) hx hb dX1_share_27 (by decide) (fun _ => ?_) (fun c9 => False.elim (by revert c9; decide))
      refine lv_aload_n hx hb dX1_share_32 rfl (lv_at hl 0 rfl) ?_
      have hFc := va_free (wc := wM cI cZ h a0 a4 a5 a6 a7 a8 a9 f0 f4 f5 f6 f7 f8 f9 v0 v1 v2 v3 0) hD hS hA [0, 1, 2, 3, 4, 5, 6, 7] rfl
      refine va_callv (va_runV (As := []) (rest := []) ⟨hx, hb, hml, hown, hts⟩ (c_X1_laysShares l D cI cZ cJ H.size h a0 a4 a5 a6 a7 a8 a9 f0 f4 f5 f6 f7 f8 f9 v0 v1 v2 v3 0 hv1 hT) (cwV 0 hts gX1_share_X1_laysShares rfl rfl rfl (by decide +kernel) ⟨Nat.le_of_ble_eq_true rfl, Nat.le_of_ble_eq_true rfl⟩) ⟨zD_blind, va_recv hK hP (ci := 1) (q0 := 0) rfl rfl, fun U hU hW => ⟨rfl, zD_mk hP hK hD hU hW⟩⟩ rfl rfl hl.1 rfl (lv_room (Nat.le_of_ble_eq_true rfl)) dX1_share_33 ⟨Nat.le_of_ble_eq_true rfl, Nat.le_of_ble_eq_true rfl⟩) hS (fun q _ h => hFc q h) hFc (fun u13 t H1 locs ht hvm w13 hB hz1 hk1 hS => ?_)
      obtain ⟨hP1, hK1, hD1⟩ := hB
      rw [ht] at hP1
      generalize H1 = H at hP1 hS ⊢
      try dsimp only at w13
      have w13_0 := w13
      subst w13_0
      have hP : va_P D vwCl (wM cI cZ h a0 a4 a5 a6 a7 a8 a9 f0 f4 f5 f6 f7 f8 (q_fill (q_sh f0 (f7 v1.toNatClampNeg)) f9 8) v0 v1 v2 v3 0) H := hP1
      have hD : va_D A (wM cI cZ h a0 a4 a5 a6 a7 a8 a9 f0 f4 f5 f6 f7 f8 (q_fill (q_sh f0 (f7 v1.toNatClampNeg)) f9 8) v0 v1 v2 v3 0) := hD1.weaken (fun _ _ _ h => hFc _ h)
      refine lv_aload_n hx hb dX1_share_36 rfl (lv_at hl 0 rfl) ?_
      refine va_get (D := D) (ci := 1) (v := .ref a9) (C := RX1) (T := TX1) (N := 12) hx hb hts hin hown hK hP 0 rfl rfl 10 (by decide) (hts (.fieldLink RX1 29 "QuorumfundModel" "shares" "[I") (by decide +kernel)) (fun _ h9 => h9) rfl dX1_share_37 ?_
      refine lv_iload_n hx hb dX1_share_40 rfl (lv_at hl 1 rfl) ?_
      refine va_iald (D := D) hx hb hK hP 7 0 rfl rfl (q_g_in hq1) dX1_share_41 ?_
      exact W.iret (v := (q_fill (q_sh f0 (f7 v1.toNatClampNeg)) f9 8) p0.toNatClampNeg) hx hb hr (fun t ht hW => ⟨⟨(q_fill (q_sh f0 (f7 v1.toNatClampNeg)) f9 8) p0.toNatClampNeg, ⟨(q_fill (q_sh f0 (f7 v1.toNatClampNeg)) f9 8), 0⟩, rfl, ⟨fun _ => (z_fill_lt (z_gN hq1)), by simp [q_up, q_us, q_uA, q_shK, hq1, hq6]⟩, ⟨by rw [ht]; exact hP, va_K.moved hW.alike hK, hD⟩⟩, hS.F ht⟩) hS.2.2 dX1_share_42
set_option maxHeartbeats 4000000 in
set_option maxRecDepth 100000 in
theorem c_X1_root (l : Launch) (p0 : Int32) (hb0 : 0 ≤ p0.toInt ∧ p0.toInt < 262144) : Met l yX1_root wsX1_root ({ frames := 0, cells := 0, slots := 0, locals := 0 }) (va_Pc [.int p0] (fun _ => True)) (vp_Si (fun r : Int32 => r = q_rt p0)) 0 0 (fun _ => False) := by
  refine Met.ofW (cc := cX1_root) (maxL := 2) (ret := (some .int)) (by decide) rfl ?_
  intro p e s m args below meth c s₁ B hml hv
  obtain ⟨rfl, -⟩ := hv
  have hx := B.exec
  have hb := B.bytes
  have hr := B.returns
  have hts := atoms_spec (ws := wsX1_root) B.pre
  have hown : s.vm.findClass RX1 = some m.cls := findClass_of_methodNamed B.named
  have hlocks := B.notSynchronized
  have hl := lv_entry ([.int p0]) (n := 2) (Nat.le_of_ble_eq_true rfl)
  rw [lg_entry_eq]
  generalize (lg_sl ([.int p0]) ++ List.replicate (2 - (lg_sl ([.int p0])).length) Slot.unset).toArray = ls at hl ⊢
  have hl : lv_has ls 2 [(0, .int p0)] := hl
  refine lv_iconst (v := 0) hx hb dX1_root_0 (by decide) ?_
  refine lv_istore_n (lv' := [(1, .int 0), (0, .int p0)]) hx hb dX1_root_1 rfl hl (by decide) rfl (fun ls hl => ?_)
  have hloop2 : ∀ (n2 : Nat) (r : Nat), (512 ≤ r + n2) → (r < 512) → (r * r ≤ p0.toInt.toNat) → ∀ (ls : Array Slot), lv_has ls 2 [(1, .int (nI r)), (0, .int p0)] → W p l e (headSpec wsX1_root ({ frames := 0, cells := 0, slots := 0, locals := 0 })).room s m ([Value.int p0] : List Value).toArray below meth c s.heap [] 0 0 (MQ below (vp_Si (fun r : Int32 => r = q_rt p0)) ([Value.int p0] : List Value).toArray s 0 0 (fun _ => False)) (F0 m 2 ls []) := by
    intro n2
    induction n2 with
    | zero => intro r hn hr5 h1; exact False.elim (by omega)
    | succ n2 ih2 =>
      intro r hn hr5 h1 ls hl
      refine lv_iload_n hx hb dX1_root_2 rfl (lv_at hl 0 rfl) ?_
      refine lv_iconst (v := 1) hx hb dX1_root_3 (by decide) ?_
      refine lv_iadd hx hb dX1_root_4 ?_
      refine lv_iload_n hx hb dX1_root_5 rfl (lv_at hl 0 rfl) ?_
      refine lv_iconst (v := 1) hx hb dX1_root_6 (by decide) ?_
      refine lv_iadd hx hb dX1_root_7 ?_
      refine lv_imul hx hb dX1_root_8 ?_
      refine lv_iload_n hx hb dX1_root_9 rfl (lv_at hl 1 rfl) ?_
      have hp0 := z_nI hb0.1
      have hq : (r + 1) * (r + 1) < 2 ^ 31 := Nat.lt_of_le_of_lt (Nat.mul_le_mul (show r + 1 ≤ 512 by omega) (show r + 1 ≤ 512 by omega)) (by decide)
      rw [nI_1, pk_mul]
      refine lv_icmp_gt (tgt := 19) hx hb dX1_root_10 (by decide) (fun c1 => ?_) (fun c1 => ?_)
      · skip
        have hcc : p0.toInt.toNat < (r + 1) * (r + 1) := by
          rw [hp0.1, nI_ltI hp0.2.2 hq] at c1; rw [← hp0.2.1]; exact c1
        refine lv_iload_n hx hb dX1_root_19 rfl (lv_at hl 0 rfl) ?_
        exact W.iret (v := nI r) hx hb hr (fun t ht hW => ⟨nI r, rfl, (by rw [q_rt, q_rN_is (r := r) (by rw [hp0.2.1]; exact h1) (by rw [hp0.2.1]; exact hcc)]), ht⟩) (fun _ h => nomatch h) dX1_root_20
      · skip
        have hcc : (r + 1) * (r + 1) ≤ p0.toInt.toNat := by
          rw [hp0.1, nI_ltI hp0.2.2 hq] at c1; rw [← hp0.2.1]; omega
        refine lv_iinc (v := nI (r + 1)) (lv' := [(1, .int (nI (r + 1))), (0, .int p0)]) hx hb dX1_root_13 hl (k := 0) rfl (nI_1 _) (by decide) rfl (fun ls hl => ?_)
        refine lv_goto (tgt := 2) hx hb dX1_root_16 (by decide) ?_
        exact ih2 (r + 1) (by omega) (z_r5 hcc (by omega)) hcc ls (lv_sub hl [0, 1] rfl)
  exact hloop2 512 0 (by omega) (by omega) (by omega) ls (lv_sub hl [0, 1] rfl)
set_option maxHeartbeats 4000000 in
set_option maxRecDepth 100000 in
theorem c_X1_matched (l : Launch) (D : va_G) (cI cZ cJ : ClassId) (h a0 a4 a5 a6 a7 a8 a9 : Nat) (f0 f4 f5 f6 f7 f8 f9 : Nat → Int32) (v0 v1 v2 v3 v4 : Int32) (hv1 : vp_in v1 6) (hpb : ∀ w, w < 8 → 0 ≤ (q_part f5 f9 (nI w) 8).toInt ∧ (q_part f5 f9 (nI w) 8).toInt < 262144) : Met l yX1_matched wsX1_matched ({ frames := 1, cells := 0, slots := 0, locals := 21 }) (va_Pc [.ref h] (zP D cI cZ cJ (wM cI cZ h a0 a4 a5 a6 a7 a8 a9 f0 f4 f5 f6 f7 f8 f9 v0 v1 v2 v3 v4))) (vp_Si (fun r : Int32 => r = q_mt f5 f9 (f7 v1.toNatClampNeg) v2)) 0 0 (fun _ => False) := by
  refine Met.ofW (cc := cX1_matched) (maxL := 5) (ret := (some .int)) (by decide) rfl ?_
  intro p e s m args below meth c s₁ B hml hv
  obtain ⟨rfl, hP, hK⟩ := hv
  have hx := B.exec
  have hb := B.bytes
  have hr := B.returns
  have hts := atoms_spec (ws := wsX1_matched) B.pre
  have hown : s.vm.findClass RX1 = some m.cls := findClass_of_methodNamed B.named
  have hlocks := B.notSynchronized
  have hin : ∀ w ∈ wsX10, w ∈ wsX1_matched := by decide +kernel
  have hl := lv_entry ([.ref h]) (n := 5) (Nat.le_of_ble_eq_true rfl)
  rw [lg_entry_eq]
  generalize (lg_sl ([.ref h]) ++ List.replicate (5 - (lg_sl ([.ref h])).length) Slot.unset).toArray = ls at hl ⊢
  have hl : lv_has ls 5 [(0, .ref h)] := hl
  refine lv_iconst (v := 0) hx hb dX1_matched_0 (by decide) ?_
  refine lv_istore_n (lv' := [(1, .int 0), (0, .ref h)]) hx hb dX1_matched_1 rfl hl (by decide) rfl (fun ls hl => ?_)
  refine lv_iconst (v := 0) hx hb dX1_matched_2 (by decide) ?_
  refine lv_istore_n (lv' := [(2, .int 0), (1, .int 0), (0, .ref h)]) hx hb dX1_matched_3 rfl hl (by decide) rfl (fun ls hl => ?_)
  have hloop4 : ∀ (n4 : Nat) (i : Nat) (x : Int32), (9 ≤ i + n4) → (i ≤ 8) → (x = q_sum (q_rts f5 f9) i) → ∀ (ls : Array Slot), lv_has ls 5 [(2, .int (nI i)), (1, .int x), (0, .ref h)] → W p l e (headSpec wsX1_matched ({ frames := 1, cells := 0, slots := 0, locals := 21 })).room s m ([Value.ref h] : List Value).toArray below meth c s.heap [] 0 0 (MQ below (vp_Si (fun r : Int32 => r = q_mt f5 f9 (f7 v1.toNatClampNeg) v2)) ([Value.ref h] : List Value).toArray s 0 0 (fun _ => False)) (F0 m 4 ls []) := by
    intro n4
    induction n4 with
    | zero => intro i x hn hi ex; exact False.elim (by omega)
    | succ n4 ih4 =>
      intro i x hn hi ex ls hl
      refine lv_iload_n hx hb dX1_matched_4 rfl (lv_at hl 0 rfl) ?_
      refine lv_bipush (v := 8) hx hb dX1_matched_5 (by decide) ?_
      refine lv_icmp_ge (tgt := 66) hx hb dX1_matched_7 (by decide) (fun c1 => ?_) (fun c1 => ?_)
      · skip
        have hj := z_ge8 hi c1
        subst hj
        refine lv_iload_n hx hb dX1_matched_66 rfl (lv_at hl 1 rfl) ?_
        refine lv_iload_n hx hb dX1_matched_67 rfl (lv_at hl 1 rfl) ?_
        refine lv_imul hx hb dX1_matched_68 ?_
        refine lv_aload_n hx hb dX1_matched_69 rfl (lv_at hl 2 rfl) ?_
        refine va_get (D := D) (ci := 1) (v := .ref a7) (C := RX1) (T := TX1) (N := 12) hx hb hts hin hown hK hP 0 rfl rfl 6 (by decide) (hts (.fieldLink RX1 22 "QuorumfundModel" "amounts" "[I") (by decide +kernel)) (fun _ h9 => h9) rfl dX1_matched_70 ?_
        refine lv_aload_n hx hb dX1_matched_73 rfl (lv_at hl 2 rfl) ?_
        refine va_get (D := D) (ci := 1) (v := .int v1) (C := RX1) (T := TX1) (N := 12) hx hb hts hin hown hK hP 0 rfl rfl 5 (by decide) (hts (.fieldLink RX1 63 "QuorumfundModel" "released" "I") (by decide +kernel)) (fun _ h9 => h9) rfl dX1_matched_74 ?_
        refine va_iald (D := D) hx hb hK hP 5 0 rfl rfl hv1 dX1_matched_77 ?_
        refine lv_isub hx hb dX1_matched_78 ?_
        refine lv_istore_n (lv' := [(2, .int ((x * x) - (f7 v1.toNatClampNeg))), (1, .int x), (0, .ref h)]) hx hb dX1_matched_79 rfl hl (by decide) rfl (fun ls hl => ?_)
        refine lv_iload_n hx hb dX1_matched_80 rfl (lv_at hl 0 rfl) ?_
        refine lv_if_ge (tgt := 88) hx hb dX1_matched_81 (by decide) (fun c2 => ?_) (fun c2 => ?_)
        · skip
          have hm := z_nlt.mpr c2
          refine lv_iload_n hx hb dX1_matched_88 rfl (lv_at hl 0 rfl) ?_
          refine lv_aload_n hx hb dX1_matched_89 rfl (lv_at hl 2 rfl) ?_
          refine va_get (D := D) (ci := 1) (v := .int v2) (C := RX1) (T := TX1) (N := 12) hx hb hts hin hown hK hP 0 rfl rfl 8 (by decide) (hts (.fieldLink RX1 56 "QuorumfundModel" "pot" "I") (by decide +kernel)) (fun _ h9 => h9) rfl dX1_matched_90 ?_
          refine lv_icmp_le (tgt := 103) hx hb dX1_matched_93 (by decide) (fun c3 => ?_) (fun c3 => ?_)
          · skip
            have hm2 := z_nlt.mpr c3
            refine lv_iload_n hx hb dX1_matched_103 rfl (lv_at hl 0 rfl) ?_
            exact W.iret (v := (x * x) - (f7 v1.toNatClampNeg)) hx hb hr (fun t ht hW => ⟨(x * x) - (f7 v1.toNatClampNeg), rfl, (by rw [ex] at *; simp [q_mt, q_sq, q_won, hm, hm2]), ht⟩) (fun _ h => nomatch h) dX1_matched_104
          · skip
            have hm2 := z_nle.mp c3
            refine lv_aload_n hx hb dX1_matched_96 rfl (lv_at hl 2 rfl) ?_
            refine va_get (D := D) (ci := 1) (v := .int v2) (C := RX1) (T := TX1) (N := 12) hx hb hts hin hown hK hP 0 rfl rfl 8 (by decide) (hts (.fieldLink RX1 56 "QuorumfundModel" "pot" "I") (by decide +kernel)) (fun _ h9 => h9) rfl dX1_matched_97 ?_
            refine lv_goto (tgt := 104) hx hb dX1_matched_100 (by decide) ?_
            exact W.iret (v := v2) hx hb hr (fun t ht hW => ⟨v2, rfl, (by rw [ex] at *; simp [q_mt, q_sq, q_won, hm, hm2]), ht⟩) (fun _ h => nomatch h) dX1_matched_104
        · skip
          have hm := z_nle.mp c2
          refine lv_iconst (v := 0) hx hb dX1_matched_84 (by decide) ?_
          refine lv_goto (tgt := 104) hx hb dX1_matched_85 (by decide) ?_
          exact W.iret (v := 0) hx hb hr (fun t ht hW => ⟨0, rfl, (by rw [ex] at *; simp [q_mt, q_sq, q_won, hm]), ht⟩) (fun _ h => nomatch h) dX1_matched_104
      · skip
        have hj := z_lt8 hi c1
        refine lv_iconst (v := 0) hx hb dX1_matched_10 (by decide) ?_
        refine lv_istore_n (lv' := [(3, .int 0), (2, .int (nI i)), (1, .int x), (0, .ref h)]) hx hb dX1_matched_11 rfl hl (by decide) rfl (fun ls hl => ?_)
        refine lv_iconst (v := 0) hx hb dX1_matched_12 (by decide) ?_
        refine lv_istore (lv' := [(4, .int 0), (3, .int 0), (2, .int (nI i)), (1, .int x), (0, .ref h)]) hx hb dX1_matched_13 hl (by decide) rfl (fun ls hl => ?_)
        have hloop15 : ∀ (n15 : Nat) (k : Nat) (y : Int32), (9 ≤ k + n15) → (k ≤ 8) → (y = q_part f5 f9 (nI i) k) → ∀ (ls : Array Slot), lv_has ls 5 [(4, .int (nI k)), (3, .int y), (2, .int (nI i)), (1, .int x), (0, .ref h)] → W p l e (headSpec wsX1_matched ({ frames := 1, cells := 0, slots := 0, locals := 21 })).room s m ([Value.ref h] : List Value).toArray below meth c s.heap [] 0 0 (MQ below (vp_Si (fun r : Int32 => r = q_mt f5 f9 (f7 v1.toNatClampNeg) v2)) ([Value.ref h] : List Value).toArray s 0 0 (fun _ => False)) (F0 m 15 ls []) := by
          intro n15
          induction n15 with
          | zero => intro k y hn2 hk ey; exact False.elim (by omega)
          | succ n15 ih15 =>
            intro k y hn2 hk ey ls hl
            refine lv_iload hx hb dX1_matched_15 (lv_at hl 0 rfl) ?_
            refine lv_bipush (v := 8) hx hb dX1_matched_17 (by decide) ?_
            refine lv_icmp_ge (tgt := 53) hx hb dX1_matched_19 (by decide) (fun c4 => ?_) (fun c4 => ?_)
            · skip
              have hk8 := z_ge8 hk c4
              rw [hk8] at ey
              refine lv_iload_n hx hb dX1_matched_53 rfl (lv_at hl 3 rfl) ?_
              refine lv_iload_n hx hb dX1_matched_54 rfl (lv_at hl 1 rfl) ?_
              refine vp_callSi (W.runS (As := [.int y]) (rest := [.int x]) ⟨hx, hb, hml, hown, hts⟩ (c_X1_root l y (by rw [ey]; exact hpb i hj)) (va_cwS 1 hts gX1_matched_X1_root rfl rfl rfl (by decide +kernel) ⟨Nat.le_of_ble_eq_true rfl, Nat.le_of_ble_eq_true rfl⟩) ⟨zN_blind, fun U hU hW => ⟨rfl, trivial⟩⟩ rfl rfl hl.1 rfl (lv_room (Nat.le_of_ble_eq_true rfl)) dX1_matched_55 ⟨Nat.le_of_ble_eq_true rfl, Nat.le_of_ble_eq_true rfl⟩) (fun r5 w5 => ?_)
              subst w5
              refine lv_iadd hx hb dX1_matched_58 ?_
              refine lv_istore_n (lv' := [(1, .int (x + (q_rt y))), (4, .int (nI k)), (3, .int y), (2, .int (nI i)), (0, .ref h)]) hx hb dX1_matched_59 rfl hl (by decide) rfl (fun ls hl => ?_)
              refine lv_iinc (v := nI (i + 1)) (lv' := [(2, .int (nI (i + 1))), (1, .int (x + (q_rt y))), (4, .int (nI k)), (3, .int y), (0, .ref h)]) hx hb dX1_matched_60 hl (k := 3) rfl (nI_1 _) (by decide) rfl (fun ls hl => ?_)
              refine lv_goto (tgt := 4) hx hb dX1_matched_63 (by decide) ?_
              exact ih4 (i + 1) (x + (q_rt y)) (by omega) (by omega) (by rw [ex, ey]; rfl) ls (lv_sub hl [0, 1, 4] rfl)
            · skip
              have hj2 := z_lt8 hk c4
              refine lv_iload_n hx hb dX1_matched_22 rfl (lv_at hl 1 rfl) ?_
              refine lv_aload_n hx hb dX1_matched_23 rfl (lv_at hl 4 rfl) ?_
              refine va_get (D := D) (ci := 1) (v := .ref a5) (C := RX1) (T := TX1) (N := 12) hx hb hts hin hown hK hP 0 rfl rfl 2 (by decide) (hts (.fieldLink RX1 16 "QuorumfundModel" "persons" "[I") (by decide +kernel)) (fun _ h9 => h9) rfl dX1_matched_24 ?_
              refine lv_iload hx hb dX1_matched_27 (lv_at hl 0 rfl) ?_
              refine va_iald (D := D) hx hb hK hP 3 0 rfl rfl (z_in8 hj2) dX1_matched_29 ?_
              refine lv_iload_n hx hb dX1_matched_30 rfl (lv_at hl 2 rfl) ?_
              refine lv_icmp_ne (tgt := 44) hx hb dX1_matched_31 (by decide) (fun c6 => ?_) (fun c6 => ?_)
              · skip
                refine lv_iconst (v := 0) hx hb dX1_matched_44 (by decide) ?_
                refine lv_iadd hx hb dX1_matched_45 ?_
                refine lv_istore_n (lv' := [(3, .int (y + 0)), (4, .int (nI k)), (2, .int (nI i)), (1, .int x), (0, .ref h)]) hx hb dX1_matched_46 rfl hl (by decide) rfl (fun ls hl => ?_)
                refine lv_iinc (v := nI (k + 1)) (lv' := [(4, .int (nI (k + 1))), (3, .int (y + 0)), (2, .int (nI i)), (1, .int x), (0, .ref h)]) hx hb dX1_matched_47 hl (k := 1) rfl (nI_1 _) (by decide) rfl (fun ls hl => ?_)
                refine lv_goto (tgt := 15) hx hb dX1_matched_50 (by decide) ?_
                exact ih15 (k + 1) (y + 0) (by omega) (by omega) (by rw [z_cl hj2] at c6; rw [ey, Int32.add_zero, q_part]; simp [c6]) ls (lv_sub hl [0, 1, 2, 3, 4] rfl)
              · skip
                refine lv_aload_n hx hb dX1_matched_34 rfl (lv_at hl 4 rfl) ?_
                refine va_get (D := D) (ci := 1) (v := .ref a9) (C := RX1) (T := TX1) (N := 12) hx hb hts hin hown hK hP 0 rfl rfl 10 (by decide) (hts (.fieldLink RX1 29 "QuorumfundModel" "shares" "[I") (by decide +kernel)) (fun _ h9 => h9) rfl dX1_matched_35 ?_
                refine lv_iload hx hb dX1_matched_38 (lv_at hl 0 rfl) ?_
                refine va_iald (D := D) hx hb hK hP 7 0 rfl rfl (z_in8 hj2) dX1_matched_40 ?_
                refine lv_goto (tgt := 45) hx hb dX1_matched_41 (by decide) ?_
                refine lv_iadd hx hb dX1_matched_45 ?_
                refine lv_istore_n (lv' := [(3, .int (y + (f9 (nI k).toNatClampNeg))), (4, .int (nI k)), (2, .int (nI i)), (1, .int x), (0, .ref h)]) hx hb dX1_matched_46 rfl hl (by decide) rfl (fun ls hl => ?_)
                refine lv_iinc (v := nI (k + 1)) (lv' := [(4, .int (nI (k + 1))), (3, .int (y + (f9 (nI k).toNatClampNeg))), (2, .int (nI i)), (1, .int x), (0, .ref h)]) hx hb dX1_matched_47 hl (k := 1) rfl (nI_1 _) (by decide) rfl (fun ls hl => ?_)
                refine lv_goto (tgt := 15) hx hb dX1_matched_50 (by decide) ?_
                exact ih15 (k + 1) (y + (f9 (nI k).toNatClampNeg)) (by omega) (by omega) (by rw [z_cl hj2] at c6; rw [ey, z_cl hj2, q_part]; simp [c6]) ls (lv_sub hl [0, 1, 2, 3, 4] rfl)
        exact hloop15 9 0 0 (by omega) (by omega) rfl ls (lv_sub hl [0, 1, 2, 3, 4] rfl)
  exact hloop4 9 0 0 (by omega) (by omega) rfl ls (lv_sub hl [0, 1, 2] rfl)
set_option maxHeartbeats 4000000 in
set_option maxRecDepth 100000 in
theorem c_X1_matchNow (l : Launch) (D : va_G) (cI cZ cJ : ClassId) (sz : Nat) (h a0 a4 a5 a6 a7 a8 a9 : Nat) (f0 f4 f5 f6 f7 f8 f9 : Nat → Int32) (v0 v1 v2 v3 v4 : Int32) (hb3 : 0 ≤ v1.toInt ∧ v1.toInt ≤ v0.toInt ∧ v0.toInt ≤ 6) (hT0 : q_cov f0 f7 v0 v1 = true → 0 < q_sum f0 8) (hpb0 : q_cov f0 f7 v0 v1 = true → ∀ w, w < 8 → 0 ≤ (q_part f5 (q_sh f0 (f7 v1.toNatClampNeg)) (nI w) 8).toInt ∧ (q_part f5 (q_sh f0 (f7 v1.toNatClampNeg)) (nI w) 8).toInt < 262144) : Met l yX1_matchNow wsX1_matchNow ({ frames := 2, cells := 0, slots := 0, locals := 47 }) (va_Pc [.ref h] (zD D cI cZ cJ sz (wM cI cZ h a0 a4 a5 a6 a7 a8 a9 f0 f4 f5 f6 f7 f8 f9 v0 v1 v2 v3 v4))) (va_Qi (fun (r : Int32) (u : (Nat → Int32) × Int32) => (q_mK (q_cov f0 f7 v0 v1) = 0 → r = q_mt f5 (q_sh f0 (f7 v1.toNatClampNeg)) (f7 v1.toNatClampNeg) v2) ∧ u.2 = q_mK (q_cov f0 f7 v0 v1)) (fun u t => zB D cI cZ cJ (va_A (wM cI cZ h a0 a4 a5 a6 a7 a8 a9 f0 f4 f5 f6 f7 f8 f9 v0 v1 v2 v3 v4) sz) (wM cI cZ h a0 a4 a5 a6 a7 a8 a9 f0 f4 f5 f6 f7 f8 u.1 v0 v1 v2 v3 u.2) t) (va_A (wM cI cZ h a0 a4 a5 a6 a7 a8 a9 f0 f4 f5 f6 f7 f8 f9 v0 v1 v2 v3 v4) sz)) 0 0 (va_A (wM cI cZ h a0 a4 a5 a6 a7 a8 a9 f0 f4 f5 f6 f7 f8 f9 v0 v1 v2 v3 v4) sz) := by
  refine Met.ofW (cc := cX1_matchNow) (maxL := 1) (ret := (some .int)) (by decide) rfl ?_
  intro p e s m args below meth c s₁ B hml hv
  obtain ⟨rfl, hsz, hP, hK, hD0⟩ := hv
  have hx := B.exec
  have hb := B.bytes
  have hr := B.returns
  have hts := atoms_spec (ws := wsX1_matchNow) B.pre
  have hown : s.vm.findClass RX1 = some m.cls := findClass_of_methodNamed B.named
  have hlocks := B.notSynchronized
  subst hsz
  have hD := hD0.self (sz := s.heap.size)
  generalize hAe : va_A (wM cI cZ h a0 a4 a5 a6 a7 a8 a9 f0 f4 f5 f6 f7 f8 f9 v0 v1 v2 v3 v4) s.heap.size = A at hD ⊢
  have hA : ∀ q : Nat, s.heap.size ≤ q → A q := fun q h => by rw [← hAe]; exact Or.inr h
  have hS : va_S A s.heap s.heap [] := va_S.rf
  have hl := lv_entry ([.ref h]) (n := 1) (Nat.le_of_ble_eq_true rfl)
  rw [lg_entry_eq]
  generalize (lg_sl ([.ref h]) ++ List.replicate (1 - (lg_sl ([.ref h])).length) Slot.unset).toArray = ls at hl ⊢
  have hl : lv_has ls 1 [(0, .ref h)] := hl
  refine lv_aload_n hx hb dX1_matchNow_0 rfl (lv_at hl 0 rfl) ?_
  refine lv_aload_n hx hb dX1_matchNow_1 rfl (lv_at hl 0 rfl) ?_
  refine vp_callSi (W.runV (As := []) (rest := [.ref h]) ⟨hx, hb, hml, hown, hts⟩ (c_X1_canGoOut l D cI cZ cJ h a0 a4 a5 a6 a7 a8 a9 f0 f4 f5 f6 f7 f8 f9 v0 v1 v2 v3 v4 hb3) (cwV 0 hts gX1_matchNow_X1_canGoOut rfl rfl rfl (by decide +kernel) ⟨Nat.le_of_ble_eq_true rfl, Nat.le_of_ble_eq_true rfl⟩) ⟨zP_blind, va_recv hK hP (ci := 1) (q0 := 0) rfl rfl, fun U hU hW => ⟨rfl, zP_mk hP hK hU hW⟩⟩ rfl rfl hl.1 rfl (lv_room (Nat.le_of_ble_eq_true rfl)) dX1_matchNow_2 ⟨Nat.le_of_ble_eq_true rfl, Nat.le_of_ble_eq_true rfl⟩) (fun r1 w1 => ?_)
  cases hq1 : q_cov f0 f7 v0 v1
  · skip
    rw [hq1] at w1
    have w1 : r1 = 0 := w1
    subst w1
    refine lv_if_eq (tgt := 12) hx hb dX1_matchNow_5 (by decide) (fun _ => ?_) (fun c9 => False.elim (by revert c9; decide))
    refine lv_iconst (v := 1) hx hb dX1_matchNow_12 (by decide) ?_
    have hFc := va_free (wc := wM cI cZ h a0 a4 a5 a6 a7 a8 a9 f0 f4 f5 f6 f7 f8 f9 v0 v1 v2 v3 v4) hD hS hA [0, 1, 2, 3, 4, 5, 6, 7] rfl
    refine va_calli (va_runV (As := [.int 1]) (rest := []) ⟨hx, hb, hml, hown, hts⟩ (c_X1_goes l D cI cZ cJ s.heap.size h a0 a4 a5 a6 a7 a8 a9 f0 f4 f5 f6 f7 f8 f9 v0 v1 v2 v3 v4 1) (cwV 1 hts gX1_matchNow_X1_goes rfl rfl rfl (by decide +kernel) ⟨Nat.le_of_ble_eq_true rfl, Nat.le_of_ble_eq_true rfl⟩) ⟨zD_blind, va_recv hK hP (ci := 1) (q0 := 0) rfl rfl, fun U hU hW => ⟨rfl, zD_mk hP hK hD hU hW⟩⟩ rfl rfl hl.1 rfl (lv_room (Nat.le_of_ble_eq_true rfl)) dX1_matchNow_13 ⟨Nat.le_of_ble_eq_true rfl, Nat.le_of_ble_eq_true rfl⟩) hS (fun q _ h => hFc q h) hFc (fun r3 u3 t H1 locs ht hvm w3 hB hz1 hk1 hS => ?_)
    obtain ⟨hP1, hK1, hD1⟩ := hB
    rw [ht] at hP1
    generalize H1 = H at hP1 hS ⊢
    try dsimp only at w3
    obtain ⟨w3_p, w3_0⟩ := w3
    subst w3_0
    have hP : va_P D vwCl (wM cI cZ h a0 a4 a5 a6 a7 a8 a9 f0 f4 f5 f6 f7 f8 f9 v0 v1 v2 v3 1) H := hP1
    have hD : va_D A (wM cI cZ h a0 a4 a5 a6 a7 a8 a9 f0 f4 f5 f6 f7 f8 f9 v0 v1 v2 v3 1) := hD1.weaken (fun _ _ _ h => hFc _ h)
    have w3_p : r3 = 0 := w3_p.trans (by decide)
    subst w3_p
    refine lv_if_ne (tgt := 21) hx hb dX1_matchNow_16 (by decide) (fun c9 => False.elim (by revert c9; decide)) (fun _ => ?_)
    refine lv_iconst (v := 0) hx hb dX1_matchNow_19 (by decide) ?_
    exact W.iret (v := 0) hx hb hr (fun t ht hW => ⟨⟨0, ⟨f9, 1⟩, rfl, ⟨fun hz9 => by simp [q_mK, hq1] at hz9, by simp [q_up, q_us, q_uA, q_mK, hq1]⟩, ⟨by rw [ht]; exact hP, va_K.moved hW.alike hK, hD⟩⟩, hS.F ht⟩) hS.2.2 dX1_matchNow_20
  · skip
    rw [hq1] at w1
    have w1 : r1 = 1 := w1
    subst w1
    have hv1 := z_covin hb3 hq1
    have hT := hT0 hq1
    have hpb := hpb0 hq1
    refine lv_if_eq (tgt := 12) hx hb dX1_matchNow_5 (by decide) (fun c9 => False.elim (by revert c9; decide)) (fun _ => ?_)
    refine lv_iconst (v := 0) hx hb dX1_matchNow_8 (by decide) ?_
    refine lv_goto (tgt := 13) hx hb dX1_matchNow_9 (by decide) ?_
    have hFc := va_free (wc := wM cI cZ h a0 a4 a5 a6 a7 a8 a9 f0 f4 f5 f6 f7 f8 f9 v0 v1 v2 v3 v4) hD hS hA [0, 1, 2, 3, 4, 5, 6, 7] rfl
    refine va_calli (va_runV (As := [.int 0]) (rest := []) ⟨hx, hb, hml, hown, hts⟩ (c_X1_goes l D cI cZ cJ s.heap.size h a0 a4 a5 a6 a7 a8 a9 f0 f4 f5 f6 f7 f8 f9 v0 v1 v2 v3 v4 0) (cwV 1 hts gX1_matchNow_X1_goes rfl rfl rfl (by decide +kernel) ⟨Nat.le_of_ble_eq_true rfl, Nat.le_of_ble_eq_true rfl⟩) ⟨zD_blind, va_recv hK hP (ci := 1) (q0 := 0) rfl rfl, fun U hU hW => ⟨rfl, zD_mk hP hK hD hU hW⟩⟩ rfl rfl hl.1 rfl (lv_room (Nat.le_of_ble_eq_true rfl)) dX1_matchNow_13 ⟨Nat.le_of_ble_eq_true rfl, Nat.le_of_ble_eq_true rfl⟩) hS (fun q _ h => hFc q h) hFc (fun r6 u6 t H1 locs ht hvm w6 hB hz1 hk1 hS => ?_)
    obtain ⟨hP1, hK1, hD1⟩ := hB
    rw [ht] at hP1
    generalize H1 = H at hP1 hS ⊢
    try dsimp only at w6
    obtain ⟨w6_p, w6_0⟩ := w6
    subst w6_0
    have hP : va_P D vwCl (wM cI cZ h a0 a4 a5 a6 a7 a8 a9 f0 f4 f5 f6 f7 f8 f9 v0 v1 v2 v3 0) H := hP1
    have hD : va_D A (wM cI cZ h a0 a4 a5 a6 a7 a8 a9 f0 f4 f5 f6 f7 f8 f9 v0 v1 v2 v3 0) := hD1.weaken (fun _ _ _ h => hFc _ h)
    have w6_p : r6 = 1 := w6_p.trans (by decide)
    subst w6_p
    refine lv_if_ne (tgt := 21) hx hb dX1_matchNow_16 (by decide) (fun _ => ?_) (fun c9 => False.elim (by revert c9; decide))
    refine lv_aload_n hx hb dX1_matchNow_21 rfl (lv_at hl 0 rfl) ?_
    have hFc := va_free (wc := wM cI cZ h a0 a4 a5 a6 a7 a8 a9 f0 f4 f5 f6 f7 f8 f9 v0 v1 v2 v3 0) hD hS hA [0, 1, 2, 3, 4, 5, 6, 7] rfl
    refine va_callv (va_runV (As := []) (rest := []) ⟨hx, hb, hml, hown, hts⟩ (c_X1_laysShares l D cI cZ cJ H.size h a0 a4 a5 a6 a7 a8 a9 f0 f4 f5 f6 f7 f8 f9 v0 v1 v2 v3 0 hv1 hT) (cwV 0 hts gX1_matchNow_X1_laysShares rfl rfl rfl (by decide +kernel) ⟨Nat.le_of_ble_eq_true rfl, Nat.le_of_ble_eq_true rfl⟩) ⟨zD_blind, va_recv hK hP (ci := 1) (q0 := 0) rfl rfl, fun U hU hW => ⟨rfl, zD_mk hP hK hD hU hW⟩⟩ rfl rfl hl.1 rfl (lv_room (Nat.le_of_ble_eq_true rfl)) dX1_matchNow_22 ⟨Nat.le_of_ble_eq_true rfl, Nat.le_of_ble_eq_true rfl⟩) hS (fun q _ h => hFc q h) hFc (fun u8 t H1 locs ht hvm w8 hB hz1 hk1 hS => ?_)
    obtain ⟨hP1, hK1, hD1⟩ := hB
    rw [ht] at hP1
    generalize H1 = H at hP1 hS ⊢
    try dsimp only at w8
    have w8_0 := w8
    subst w8_0
    have hP : va_P D vwCl (wM cI cZ h a0 a4 a5 a6 a7 a8 a9 f0 f4 f5 f6 f7 f8 (q_fill (q_sh f0 (f7 v1.toNatClampNeg)) f9 8) v0 v1 v2 v3 0) H := hP1
    have hD : va_D A (wM cI cZ h a0 a4 a5 a6 a7 a8 a9 f0 f4 f5 f6 f7 f8 (q_fill (q_sh f0 (f7 v1.toNatClampNeg)) f9 8) v0 v1 v2 v3 0) := hD1.weaken (fun _ _ _ h => hFc _ h)
    refine lv_aload_n hx hb dX1_matchNow_25 rfl (lv_at hl 0 rfl) ?_
    refine vp_callSi (W.runV (As := []) (rest := []) ⟨hx, hb, hml, hown, hts⟩ (c_X1_matched l D cI cZ cJ h a0 a4 a5 a6 a7 a8 a9 f0 f4 f5 f6 f7 f8 (q_fill (q_sh f0 (f7 v1.toNatClampNeg)) f9 8) v0 v1 v2 v3 0 hv1 (fun w hw => by rw [z_partF]; exact hpb w hw)) (cwV 0 hts gX1_matchNow_X1_matched rfl rfl rfl (by decide +kernel) ⟨Nat.le_of_ble_eq_true rfl, Nat.le_of_ble_eq_true rfl⟩) ⟨zP_blind, va_recv hK hP (ci := 1) (q0 := 0) rfl rfl, fun U hU hW => ⟨rfl, zP_mk hP hK hU hW⟩⟩ rfl rfl hl.1 rfl (lv_room (Nat.le_of_ble_eq_true rfl)) dX1_matchNow_26 ⟨Nat.le_of_ble_eq_true rfl, Nat.le_of_ble_eq_true rfl⟩) (fun r9 w9 => ?_)
    subst w9
    exact W.iret (v := q_mt f5 (q_fill (q_sh f0 (f7 v1.toNatClampNeg)) f9 8) (f7 v1.toNatClampNeg) v2) hx hb hr (fun t ht hW => ⟨⟨q_mt f5 (q_fill (q_sh f0 (f7 v1.toNatClampNeg)) f9 8) (f7 v1.toNatClampNeg) v2, ⟨(q_fill (q_sh f0 (f7 v1.toNatClampNeg)) f9 8), 0⟩, rfl, ⟨fun _ => (by simp only [q_mt, z_rtsF]), by simp [q_up, q_us, q_uA, q_mK, hq1]⟩, ⟨by rw [ht]; exact hP, va_K.moved hW.alike hK, hD⟩⟩, hS.F ht⟩) hS.2.2 dX1_matchNow_29
set_option maxHeartbeats 4000000 in
set_option maxRecDepth 100000 in
theorem c_X1_match (l : Launch) (D : va_G) (cI cZ cJ : ClassId) (sz : Nat) (h a0 a4 a5 a6 a7 a8 a9 : Nat) (f0 f4 f5 f6 f7 f8 f9 : Nat → Int32) (v0 v1 v2 v3 v4 : Int32) (hb3 : 0 ≤ v1.toInt ∧ v1.toInt ≤ v0.toInt ∧ v0.toInt ≤ 6) (hT0 : q_cov f0 f7 v0 v1 = true → 0 < q_sum f0 8) (hpb0 : q_cov f0 f7 v0 v1 = true → ∀ w, w < 8 → 0 ≤ (q_part f5 (q_sh f0 (f7 v1.toNatClampNeg)) (nI w) 8).toInt ∧ (q_part f5 (q_sh f0 (f7 v1.toNatClampNeg)) (nI w) 8).toInt < 262144) : Met l yX1_match wsX1_match ({ frames := 3, cells := 0, slots := 0, locals := 67 }) (va_Pc [.ref h] (zD D cI cZ cJ sz (wM cI cZ h a0 a4 a5 a6 a7 a8 a9 f0 f4 f5 f6 f7 f8 f9 v0 v1 v2 v3 v4))) (va_Qi (fun (r : Int32) (u : (Nat → Int32) × Int32) => (q_mK (q_cov f0 f7 v0 v1) = 0 → r = q_mt f5 (q_sh f0 (f7 v1.toNatClampNeg)) (f7 v1.toNatClampNeg) v2) ∧ u.2 = q_mK (q_cov f0 f7 v0 v1)) (fun u t => zB D cI cZ cJ (va_A (wM cI cZ h a0 a4 a5 a6 a7 a8 a9 f0 f4 f5 f6 f7 f8 f9 v0 v1 v2 v3 v4) sz) (wM cI cZ h a0 a4 a5 a6 a7 a8 a9 f0 f4 f5 f6 f7 f8 u.1 v0 v1 v2 v3 u.2) t) (va_A (wM cI cZ h a0 a4 a5 a6 a7 a8 a9 f0 f4 f5 f6 f7 f8 f9 v0 v1 v2 v3 v4) sz)) 0 0 (va_A (wM cI cZ h a0 a4 a5 a6 a7 a8 a9 f0 f4 f5 f6 f7 f8 f9 v0 v1 v2 v3 v4) sz) := by
  refine Met.ofW (cc := cX1_match) (maxL := 1) (ret := (some .int)) (by decide) rfl ?_
  intro p e s m args below meth c s₁ B hml hv
  obtain ⟨rfl, hsz, hP, hK, hD0⟩ := hv
  have hx := B.exec
  have hb := B.bytes
  have hr := B.returns
  have hts := atoms_spec (ws := wsX1_match) B.pre
  have hown : s.vm.findClass RX1 = some m.cls := findClass_of_methodNamed B.named
  have hlocks := B.notSynchronized
  subst hsz
  have hD := hD0.self (sz := s.heap.size)
  generalize hAe : va_A (wM cI cZ h a0 a4 a5 a6 a7 a8 a9 f0 f4 f5 f6 f7 f8 f9 v0 v1 v2 v3 v4) s.heap.size = A at hD ⊢
  have hA : ∀ q : Nat, s.heap.size ≤ q → A q := fun q h => by rw [← hAe]; exact Or.inr h
  have hS : va_S A s.heap s.heap [] := va_S.rf
  have hl := lv_entry ([.ref h]) (n := 1) (Nat.le_of_ble_eq_true rfl)
  rw [lg_entry_eq]
  generalize (lg_sl ([.ref h]) ++ List.replicate (1 - (lg_sl ([.ref h])).length) Slot.unset).toArray = ls at hl ⊢
  have hl : lv_has ls 1 [(0, .ref h)] := hl
  refine lv_aload_n hx hb dX1_match_0 rfl (lv_at hl 0 rfl) ?_
  have hFc := va_free (wc := wM cI cZ h a0 a4 a5 a6 a7 a8 a9 f0 f4 f5 f6 f7 f8 f9 v0 v1 v2 v3 v4) hD hS hA [0, 1, 2, 3, 4, 5, 6, 7] rfl
  refine va_calli (va_runV (As := []) (rest := []) ⟨hx, hb, hml, hown, hts⟩ (c_X1_matchNow l D cI cZ cJ s.heap.size h a0 a4 a5 a6 a7 a8 a9 f0 f4 f5 f6 f7 f8 f9 v0 v1 v2 v3 v4 hb3 hT0 hpb0) (cwV 0 hts gX1_match_X1_matchNow rfl rfl rfl (by decide +kernel) ⟨Nat.le_of_ble_eq_true rfl, Nat.le_of_ble_eq_true rfl⟩) ⟨zD_blind, va_recv hK hP (ci := 1) (q0 := 0) rfl rfl, fun U hU hW => ⟨rfl, zD_mk hP hK hD hU hW⟩⟩ rfl rfl hl.1 rfl (lv_room (Nat.le_of_ble_eq_true rfl)) dX1_match_1 ⟨Nat.le_of_ble_eq_true rfl, Nat.le_of_ble_eq_true rfl⟩) hS (fun q _ h => hFc q h) hFc (fun r1 u1 t H1 locs ht hvm w1 hB hz1 hk1 hS => ?_)
  obtain ⟨u1_0, u1_1⟩ := u1
  obtain ⟨hP1, hK1, hD1⟩ := hB
  rw [ht] at hP1
  generalize H1 = H at hP1 hS ⊢
  try dsimp only at w1
  obtain ⟨w1_p, w1_1⟩ := w1
  subst w1_1
  have hP : va_P D vwCl (wM cI cZ h a0 a4 a5 a6 a7 a8 a9 f0 f4 f5 f6 f7 f8 u1_0 v0 v1 v2 v3 (q_mK (q_cov f0 f7 v0 v1))) H := hP1
  have hD : va_D A (wM cI cZ h a0 a4 a5 a6 a7 a8 a9 f0 f4 f5 f6 f7 f8 u1_0 v0 v1 v2 v3 (q_mK (q_cov f0 f7 v0 v1))) := hD1.weaken (fun _ _ _ h => hFc _ h)
  exact W.iret (v := r1) hx hb hr (fun t ht hW => ⟨⟨r1, ⟨u1_0, (q_mK (q_cov f0 f7 v0 v1))⟩, rfl, ⟨w1_p, rfl⟩, ⟨by rw [ht]; exact hP, va_K.moved hW.alike hK, hD⟩⟩, hS.F ht⟩) hS.2.2 dX1_match_4
set_option maxHeartbeats 4000000 in
set_option maxRecDepth 100000 in
theorem c_X1_matchByPairs (l : Launch) (D : va_G) (cI cZ cJ : ClassId) (sz : Nat) (h a0 a4 a5 a6 a7 a8 a9 : Nat) (f0 f4 f5 f6 f7 f8 f9 : Nat → Int32) (v0 v1 v2 v3 v4 : Int32) (hb3 : 0 ≤ v1.toInt ∧ v1.toInt ≤ v0.toInt ∧ v0.toInt ≤ 6) (hT0 : q_cov f0 f7 v0 v1 = true → 0 < q_sum f0 8) (hpb0 : q_cov f0 f7 v0 v1 = true → ∀ w, w < 8 → 0 ≤ (q_part f5 (q_sh f0 (f7 v1.toNatClampNeg)) (nI w) 8).toInt ∧ (q_part f5 (q_sh f0 (f7 v1.toNatClampNeg)) (nI w) 8).toInt < 262144) : Met l yX1_matchByPairs wsX1_matchByPairs ({ frames := 3, cells := 0, slots := 0, locals := 67 }) (va_Pc [.ref h] (zD D cI cZ cJ sz (wM cI cZ h a0 a4 a5 a6 a7 a8 a9 f0 f4 f5 f6 f7 f8 f9 v0 v1 v2 v3 v4))) (va_Qi (fun (r : Int32) (u : (Nat → Int32) × Int32) => (q_mK (q_cov f0 f7 v0 v1) = 0 → r = q_mt f5 (q_sh f0 (f7 v1.toNatClampNeg)) (f7 v1.toNatClampNeg) v2) ∧ u.2 = q_mK (q_cov f0 f7 v0 v1)) (fun u t => zB D cI cZ cJ (va_A (wM cI cZ h a0 a4 a5 a6 a7 a8 a9 f0 f4 f5 f6 f7 f8 f9 v0 v1 v2 v3 v4) sz) (wM cI cZ h a0 a4 a5 a6 a7 a8 a9 f0 f4 f5 f6 f7 f8 u.1 v0 v1 v2 v3 u.2) t) (va_A (wM cI cZ h a0 a4 a5 a6 a7 a8 a9 f0 f4 f5 f6 f7 f8 f9 v0 v1 v2 v3 v4) sz)) 0 0 (va_A (wM cI cZ h a0 a4 a5 a6 a7 a8 a9 f0 f4 f5 f6 f7 f8 f9 v0 v1 v2 v3 v4) sz) := by
  refine Met.ofW (cc := cX1_matchByPairs) (maxL := 1) (ret := (some .int)) (by decide) rfl ?_
  intro p e s m args below meth c s₁ B hml hv
  obtain ⟨rfl, hsz, hP, hK, hD0⟩ := hv
  have hx := B.exec
  have hb := B.bytes
  have hr := B.returns
  have hts := atoms_spec (ws := wsX1_matchByPairs) B.pre
  have hown : s.vm.findClass RX1 = some m.cls := findClass_of_methodNamed B.named
  have hlocks := B.notSynchronized
  subst hsz
  have hD := hD0.self (sz := s.heap.size)
  generalize hAe : va_A (wM cI cZ h a0 a4 a5 a6 a7 a8 a9 f0 f4 f5 f6 f7 f8 f9 v0 v1 v2 v3 v4) s.heap.size = A at hD ⊢
  have hA : ∀ q : Nat, s.heap.size ≤ q → A q := fun q h => by rw [← hAe]; exact Or.inr h
  have hS : va_S A s.heap s.heap [] := va_S.rf
  have hl := lv_entry ([.ref h]) (n := 1) (Nat.le_of_ble_eq_true rfl)
  rw [lg_entry_eq]
  generalize (lg_sl ([.ref h]) ++ List.replicate (1 - (lg_sl ([.ref h])).length) Slot.unset).toArray = ls at hl ⊢
  have hl : lv_has ls 1 [(0, .ref h)] := hl
  refine lv_aload_n hx hb dX1_matchByPairs_0 rfl (lv_at hl 0 rfl) ?_
  have hFc := va_free (wc := wM cI cZ h a0 a4 a5 a6 a7 a8 a9 f0 f4 f5 f6 f7 f8 f9 v0 v1 v2 v3 v4) hD hS hA [0, 1, 2, 3, 4, 5, 6, 7] rfl
  refine va_calli (va_runV (As := []) (rest := []) ⟨hx, hb, hml, hown, hts⟩ (c_X1_matchNow l D cI cZ cJ s.heap.size h a0 a4 a5 a6 a7 a8 a9 f0 f4 f5 f6 f7 f8 f9 v0 v1 v2 v3 v4 hb3 hT0 hpb0) (cwV 0 hts gX1_matchByPairs_X1_matchNow rfl rfl rfl (by decide +kernel) ⟨Nat.le_of_ble_eq_true rfl, Nat.le_of_ble_eq_true rfl⟩) ⟨zD_blind, va_recv hK hP (ci := 1) (q0 := 0) rfl rfl, fun U hU hW => ⟨rfl, zD_mk hP hK hD hU hW⟩⟩ rfl rfl hl.1 rfl (lv_room (Nat.le_of_ble_eq_true rfl)) dX1_matchByPairs_1 ⟨Nat.le_of_ble_eq_true rfl, Nat.le_of_ble_eq_true rfl⟩) hS (fun q _ h => hFc q h) hFc (fun r1 u1 t H1 locs ht hvm w1 hB hz1 hk1 hS => ?_)
  obtain ⟨u1_0, u1_1⟩ := u1
  obtain ⟨hP1, hK1, hD1⟩ := hB
  rw [ht] at hP1
  generalize H1 = H at hP1 hS ⊢
  try dsimp only at w1
  obtain ⟨w1_p, w1_1⟩ := w1
  subst w1_1
  have hP : va_P D vwCl (wM cI cZ h a0 a4 a5 a6 a7 a8 a9 f0 f4 f5 f6 f7 f8 u1_0 v0 v1 v2 v3 (q_mK (q_cov f0 f7 v0 v1))) H := hP1
  have hD : va_D A (wM cI cZ h a0 a4 a5 a6 a7 a8 a9 f0 f4 f5 f6 f7 f8 u1_0 v0 v1 v2 v3 (q_mK (q_cov f0 f7 v0 v1))) := hD1.weaken (fun _ _ _ h => hFc _ h)
  exact W.iret (v := r1) hx hb hr (fun t ht hW => ⟨⟨r1, ⟨u1_0, (q_mK (q_cov f0 f7 v0 v1))⟩, rfl, ⟨w1_p, rfl⟩, ⟨by rw [ht]; exact hP, va_K.moved hW.alike hK, hD⟩⟩, hS.F ht⟩) hS.2.2 dX1_matchByPairs_4
set_option maxHeartbeats 4000000 in
set_option maxRecDepth 100000 in
theorem c_X1_release (l : Launch) (D : va_G) (cI cZ cJ : ClassId) (sz : Nat) (h a0 a4 a5 a6 a7 a8 a9 : Nat) (f0 f4 f5 f6 f7 f8 f9 : Nat → Int32) (v0 v1 v2 v3 v4 : Int32) (hb3 : 0 ≤ v1.toInt ∧ v1.toInt ≤ v0.toInt ∧ v0.toInt ≤ 6) (hT0 : q_cov f0 f7 v0 v1 = true → 0 < q_sum f0 8) (hpb0 : q_cov f0 f7 v0 v1 = true → ∀ w, w < 8 → 0 ≤ (q_part f5 (q_sh f0 (f7 v1.toNatClampNeg)) (nI w) 8).toInt ∧ (q_part f5 (q_sh f0 (f7 v1.toNatClampNeg)) (nI w) 8).toInt < 262144) (he : ∀ j, j < 8 → q_ends f4 8 (nI j)) : Met l yX1_release wsX1_release ({ frames := 2, cells := 0, slots := 0, locals := 47 }) (va_Pc [.ref h] (zD D cI cZ cJ sz (wM cI cZ h a0 a4 a5 a6 a7 a8 a9 f0 f4 f5 f6 f7 f8 f9 v0 v1 v2 v3 v4))) (va_Qi (fun (r : Int32) (u : (Nat → Int32) × (Nat → Int32) × Int32 × Int32 × Int32 × (Nat → Int32) × Int32) => (q_reK f0 f4 f6 f7 f8 v0 v1 = 0 → r = (f7 v1.toNatClampNeg) + q_mt f5 (q_sh f0 (f7 v1.toNatClampNeg)) (f7 v1.toNatClampNeg) v2) ∧ u.1 = q_uA (q_reK f0 f4 f6 f7 f8 v0 v1) f0 (q_fill (fun n => f0 n - q_sh f0 (f7 v1.toNatClampNeg) n) f0 8) ∧ u.2.1 = q_uA (q_reK f0 f4 f6 f7 f8 v0 v1) f6 (q_fill (fun _ => 0) f6 8) ∧ u.2.2.1 = q_us (q_reK f0 f4 f6 f7 f8 v0 v1) v1 (v1 + 1) ∧ u.2.2.2.1 = q_us (q_reK f0 f4 f6 f7 f8 v0 v1) v2 (v2 - q_mt f5 (q_sh f0 (f7 v1.toNatClampNeg)) (f7 v1.toNatClampNeg) v2) ∧ u.2.2.2.2.1 = q_us (q_reK f0 f4 f6 f7 f8 v0 v1) v3 (v3 + ((f7 v1.toNatClampNeg) + q_mt f5 (q_sh f0 (f7 v1.toNatClampNeg)) (f7 v1.toNatClampNeg) v2)) ∧ u.2.2.2.2.2.2 = q_reK f0 f4 f6 f7 f8 v0 v1) (fun u t => zB D cI cZ cJ (va_A (wM cI cZ h a0 a4 a5 a6 a7 a8 a9 f0 f4 f5 f6 f7 f8 f9 v0 v1 v2 v3 v4) sz) (wM cI cZ h a0 a4 a5 a6 a7 a8 a9 u.1 f4 f5 u.2.1 f7 f8 u.2.2.2.2.2.1 v0 u.2.2.1 u.2.2.2.1 u.2.2.2.2.1 u.2.2.2.2.2.2) t) (va_A (wM cI cZ h a0 a4 a5 a6 a7 a8 a9 f0 f4 f5 f6 f7 f8 f9 v0 v1 v2 v3 v4) sz)) 0 0 (va_A (wM cI cZ h a0 a4 a5 a6 a7 a8 a9 f0 f4 f5 f6 f7 f8 f9 v0 v1 v2 v3 v4) sz) := by
  refine Met.ofW (cc := cX1_release) (maxL := 5) (ret := (some .int)) (by decide) rfl ?_
  intro p e s m args below meth c s₁ B hml hv
  obtain ⟨rfl, hsz, hP, hK, hD0⟩ := hv
  have hx := B.exec
  have hb := B.bytes
  have hr := B.returns
  have hts := atoms_spec (ws := wsX1_release) B.pre
  have hown : s.vm.findClass RX1 = some m.cls := findClass_of_methodNamed B.named
  have hlocks := B.notSynchronized
  have hin : ∀ w ∈ wsX10, w ∈ wsX1_release := by decide +kernel
  subst hsz
  have hD := hD0.self (sz := s.heap.size)
  generalize hAe : va_A (wM cI cZ h a0 a4 a5 a6 a7 a8 a9 f0 f4 f5 f6 f7 f8 f9 v0 v1 v2 v3 v4) s.heap.size = A at hD ⊢
  have hA : ∀ q : Nat, s.heap.size ≤ q → A q := fun q h => by rw [← hAe]; exact Or.inr h
  have hS : va_S A s.heap s.heap [] := va_S.rf
  have hl := lv_entry ([.ref h]) (n := 5) (Nat.le_of_ble_eq_true rfl)
  rw [lg_entry_eq]
  generalize (lg_sl ([.ref h]) ++ List.replicate (5 - (lg_sl ([.ref h])).length) Slot.unset).toArray = ls at hl ⊢
  have hl : lv_has ls 5 [(0, .ref h)] := hl
  refine lv_aload_n hx hb dX1_release_0 rfl (lv_at hl 0 rfl) ?_
  refine vp_callSi (W.runV (As := []) (rest := []) ⟨hx, hb, hml, hown, hts⟩ (c_X1_canGoOut l D cI cZ cJ h a0 a4 a5 a6 a7 a8 a9 f0 f4 f5 f6 f7 f8 f9 v0 v1 v2 v3 v4 hb3) (cwV 0 hts gX1_release_X1_canGoOut rfl rfl rfl (by decide +kernel) ⟨Nat.le_of_ble_eq_true rfl, Nat.le_of_ble_eq_true rfl⟩) ⟨zP_blind, va_recv hK hP (ci := 1) (q0 := 0) rfl rfl, fun U hU hW => ⟨rfl, zP_mk hP hK hU hW⟩⟩ rfl rfl hl.1 rfl (lv_room (Nat.le_of_ble_eq_true rfl)) dX1_release_1 ⟨Nat.le_of_ble_eq_true rfl, Nat.le_of_ble_eq_true rfl⟩) (fun r1 w1 => ?_)
  cases hq1 : q_cov f0 f7 v0 v1
  · skip
    rw [hq1] at w1
    have w1 : r1 = 0 := w1
    subst w1
    refine lv_if_eq (tgt := 37) hx hb dX1_release_4 (by decide) (fun _ => ?_) (fun c9 => False.elim (by revert c9; decide))
    refine lv_iconst (v := 0) hx hb dX1_release_37 (by decide) ?_
    refine lv_istore_n (lv' := [(1, .int 0), (0, .ref h)]) hx hb dX1_release_38 rfl hl (by decide) rfl (fun ls hl => ?_)
    refine lv_aload_n hx hb dX1_release_39 rfl (lv_at hl 1 rfl) ?_
    refine lv_iload_n hx hb dX1_release_40 rfl (lv_at hl 0 rfl) ?_
    refine lv_if_eq (tgt := 48) hx hb dX1_release_41 (by decide) (fun _ => ?_) (fun c9 => False.elim (by revert c9; decide))
    refine lv_iconst (v := 1) hx hb dX1_release_48 (by decide) ?_
    have hFc := va_free (wc := wM cI cZ h a0 a4 a5 a6 a7 a8 a9 f0 f4 f5 f6 f7 f8 f9 v0 v1 v2 v3 v4) hD hS hA [0, 1, 2, 3, 4, 5, 6, 7] rfl
    refine va_calli (va_runV (As := [.int 1]) (rest := []) ⟨hx, hb, hml, hown, hts⟩ (c_X1_goes l D cI cZ cJ s.heap.size h a0 a4 a5 a6 a7 a8 a9 f0 f4 f5 f6 f7 f8 f9 v0 v1 v2 v3 v4 1) (cwV 1 hts gX1_release_X1_goes rfl rfl rfl (by decide +kernel) ⟨Nat.le_of_ble_eq_true rfl, Nat.le_of_ble_eq_true rfl⟩) ⟨zD_blind, va_recv hK hP (ci := 1) (q0 := 0) rfl rfl, fun U hU hW => ⟨rfl, zD_mk hP hK hD hU hW⟩⟩ rfl rfl hl.1 rfl (lv_room (Nat.le_of_ble_eq_true rfl)) dX1_release_49 ⟨Nat.le_of_ble_eq_true rfl, Nat.le_of_ble_eq_true rfl⟩) hS (fun q _ h => hFc q h) hFc (fun r4 u4 t H1 locs ht hvm w4 hB hz1 hk1 hS => ?_)
    obtain ⟨hP1, hK1, hD1⟩ := hB
    rw [ht] at hP1
    generalize H1 = H at hP1 hS ⊢
    try dsimp only at w4
    obtain ⟨w4_p, w4_0⟩ := w4
    subst w4_0
    have hP : va_P D vwCl (wM cI cZ h a0 a4 a5 a6 a7 a8 a9 f0 f4 f5 f6 f7 f8 f9 v0 v1 v2 v3 1) H := hP1
    have hD : va_D A (wM cI cZ h a0 a4 a5 a6 a7 a8 a9 f0 f4 f5 f6 f7 f8 f9 v0 v1 v2 v3 1) := hD1.weaken (fun _ _ _ h => hFc _ h)
    have w4_p : r4 = 0 := w4_p.trans (by decide)
    subst w4_p
    refine lv_if_ne (tgt := 57) hx hb dX1_release_52 (by decide) (fun c9 => False.elim (by revert c9; decide)) (fun _ => ?_)
    refine lv_iconst (v := 0) hx hb dX1_release_55 (by decide) ?_
    exact W.iret (v := 0) hx hb hr (fun t ht hW => ⟨⟨0, ⟨f0, f6, v1, v2, v3, f9, 1⟩, rfl, ⟨fun hz9 => by simp [q_reK, hq1] at hz9, by simp [q_up, q_us, q_uA, q_reK, hq1], by simp [q_up, q_us, q_uA, q_reK, hq1], by simp [q_up, q_us, q_uA, q_reK, hq1], by simp [q_up, q_us, q_uA, q_reK, hq1], by simp [q_up, q_us, q_uA, q_reK, hq1], by simp [q_up, q_us, q_uA, q_reK, hq1]⟩, ⟨by rw [ht]; exact hP, va_K.moved hW.alike hK, hD⟩⟩, hS.F ht⟩) hS.2.2 dX1_release_56
  · skip
    rw [hq1] at w1
    have w1 : r1 = 1 := w1
    subst w1
    have hv1 := z_covin hb3 hq1
    have hT := hT0 hq1
    have hpb := hpb0 hq1
    refine lv_if_eq (tgt := 37) hx hb dX1_release_4 (by decide) (fun c9 => False.elim (by revert c9; decide)) (fun _ => ?_)
    refine lv_aload_n hx hb dX1_release_7 rfl (lv_at hl 0 rfl) ?_
    refine va_get (D := D) (ci := 1) (v := .ref a8) (C := RX1) (T := TX1) (N := 12) hx hb hts hin hown hK hP 0 rfl rfl 7 (by decide) (hts (.fieldLink RX1 25 "QuorumfundModel" "isProved" "[Z") (by decide +kernel)) (fun _ h9 => h9) rfl dX1_release_8 ?_
    refine lv_aload_n hx hb dX1_release_11 rfl (lv_at hl 0 rfl) ?_
    refine va_get (D := D) (ci := 1) (v := .int v1) (C := RX1) (T := TX1) (N := 12) hx hb hts hin hown hK hP 0 rfl rfl 5 (by decide) (hts (.fieldLink RX1 63 "QuorumfundModel" "released" "I") (by decide +kernel)) (fun _ h9 => h9) rfl dX1_release_12 ?_
    refine va_zald (D := D) hx hb hK hP 6 1 rfl rfl hv1 dX1_release_15 ?_
    refine lv_if_eq (tgt := 37) hx hb dX1_release_16 (by decide) (fun c7 => ?_) (fun c7 => ?_)
    · skip
      refine lv_iconst (v := 0) hx hb dX1_release_37 (by decide) ?_
      refine lv_istore_n (lv' := [(1, .int 0), (0, .ref h)]) hx hb dX1_release_38 rfl hl (by decide) rfl (fun ls hl => ?_)
      refine lv_aload_n hx hb dX1_release_39 rfl (lv_at hl 1 rfl) ?_
      refine lv_iload_n hx hb dX1_release_40 rfl (lv_at hl 0 rfl) ?_
      refine lv_if_eq (tgt := 48) hx hb dX1_release_41 (by decide) (fun _ => ?_) (fun c9 => False.elim (by revert c9; decide))
      refine lv_iconst (v := 1) hx hb dX1_release_48 (by decide) ?_
      have hFc := va_free (wc := wM cI cZ h a0 a4 a5 a6 a7 a8 a9 f0 f4 f5 f6 f7 f8 f9 v0 v1 v2 v3 v4) hD hS hA [0, 1, 2, 3, 4, 5, 6, 7] rfl
      refine va_calli (va_runV (As := [.int 1]) (rest := []) ⟨hx, hb, hml, hown, hts⟩ (c_X1_goes l D cI cZ cJ s.heap.size h a0 a4 a5 a6 a7 a8 a9 f0 f4 f5 f6 f7 f8 f9 v0 v1 v2 v3 v4 1) (cwV 1 hts gX1_release_X1_goes rfl rfl rfl (by decide +kernel) ⟨Nat.le_of_ble_eq_true rfl, Nat.le_of_ble_eq_true rfl⟩) ⟨zD_blind, va_recv hK hP (ci := 1) (q0 := 0) rfl rfl, fun U hU hW => ⟨rfl, zD_mk hP hK hD hU hW⟩⟩ rfl rfl hl.1 rfl (lv_room (Nat.le_of_ble_eq_true rfl)) dX1_release_49 ⟨Nat.le_of_ble_eq_true rfl, Nat.le_of_ble_eq_true rfl⟩) hS (fun q _ h => hFc q h) hFc (fun r9 u9 t H1 locs ht hvm w9 hB hz1 hk1 hS => ?_)
      obtain ⟨hP1, hK1, hD1⟩ := hB
      rw [ht] at hP1
      generalize H1 = H at hP1 hS ⊢
      try dsimp only at w9
      obtain ⟨w9_p, w9_0⟩ := w9
      subst w9_0
      have hP : va_P D vwCl (wM cI cZ h a0 a4 a5 a6 a7 a8 a9 f0 f4 f5 f6 f7 f8 f9 v0 v1 v2 v3 1) H := hP1
      have hD : va_D A (wM cI cZ h a0 a4 a5 a6 a7 a8 a9 f0 f4 f5 f6 f7 f8 f9 v0 v1 v2 v3 1) := hD1.weaken (fun _ _ _ h => hFc _ h)
      have w9_p : r9 = 0 := w9_p.trans (by decide)
      subst w9_p
      refine lv_if_ne (tgt := 57) hx hb dX1_release_52 (by decide) (fun c9 => False.elim (by revert c9; decide)) (fun _ => ?_)
      refine lv_iconst (v := 0) hx hb dX1_release_55 (by decide) ?_
      exact W.iret (v := 0) hx hb hr (fun t ht hW => ⟨⟨0, ⟨f0, f6, v1, v2, v3, f9, 1⟩, rfl, ⟨fun hz9 => by simp [q_reK, hq1, c7] at hz9, by simp [q_up, q_us, q_uA, q_reK, hq1, c7], by simp [q_up, q_us, q_uA, q_reK, hq1, c7], by simp [q_up, q_us, q_uA, q_reK, hq1, c7], by simp [q_up, q_us, q_uA, q_reK, hq1, c7], by simp [q_up, q_us, q_uA, q_reK, hq1, c7], by simp [q_up, q_us, q_uA, q_reK, hq1, c7]⟩, ⟨by rw [ht]; exact hP, va_K.moved hW.alike hK, hD⟩⟩, hS.F ht⟩) hS.2.2 dX1_release_56
    · skip
      refine lv_iconst (v := 2) hx hb dX1_release_19 (by decide) ?_
      refine lv_aload_n hx hb dX1_release_20 rfl (lv_at hl 0 rfl) ?_
      refine lv_iconst (v := 1) hx hb dX1_release_21 (by decide) ?_
      refine vp_callSi (W.runV (As := [.int 1]) (rest := [.int 2]) ⟨hx, hb, hml, hown, hts⟩ (c_X1_weightOf l D cI cZ cJ h a0 a4 a5 a6 a7 a8 a9 f0 f4 f5 f6 f7 f8 f9 v0 v1 v2 v3 v4 1 he (by decide)) (cwV 1 hts gX1_release_X1_weightOf rfl rfl rfl (by decide +kernel) ⟨Nat.le_of_ble_eq_true rfl, Nat.le_of_ble_eq_true rfl⟩) ⟨zP_blind, va_recv hK hP (ci := 1) (q0 := 0) rfl rfl, fun U hU hW => ⟨rfl, zP_mk hP hK hU hW⟩⟩ rfl rfl hl.1 rfl (lv_room (Nat.le_of_ble_eq_true rfl)) dX1_release_22 ⟨Nat.le_of_ble_eq_true rfl, Nat.le_of_ble_eq_true rfl⟩) (fun r11 w11 => ?_)
      subst w11
      refine lv_imul hx hb dX1_release_25 ?_
      refine lv_aload_n hx hb dX1_release_26 rfl (lv_at hl 0 rfl) ?_
      refine vp_callSi (W.runV (As := []) (rest := [.int (2 * (q_wt f0 f4 f6 1 8))]) ⟨hx, hb, hml, hown, hts⟩ (c_X1_all l D cI cZ cJ h a0 a4 a5 a6 a7 a8 a9 f0 f4 f5 f6 f7 f8 f9 v0 v1 v2 v3 v4) (cwV 0 hts gX1_release_X1_all rfl rfl rfl (by decide +kernel) ⟨Nat.le_of_ble_eq_true rfl, Nat.le_of_ble_eq_true rfl⟩) ⟨zP_blind, va_recv hK hP (ci := 1) (q0 := 0) rfl rfl, fun U hU hW => ⟨rfl, zP_mk hP hK hU hW⟩⟩ rfl rfl hl.1 rfl (lv_room (Nat.le_of_ble_eq_true rfl)) dX1_release_27 ⟨Nat.le_of_ble_eq_true rfl, Nat.le_of_ble_eq_true rfl⟩) (fun r12 w12 => ?_)
      subst w12
      refine lv_icmp_le (tgt := 37) hx hb dX1_release_30 (by decide) (fun c13 => ?_) (fun c13 => ?_)
      · skip
        have hm := z_nlt.mpr c13
        refine lv_iconst (v := 0) hx hb dX1_release_37 (by decide) ?_
        refine lv_istore_n (lv' := [(1, .int 0), (0, .ref h)]) hx hb dX1_release_38 rfl hl (by decide) rfl (fun ls hl => ?_)
        refine lv_aload_n hx hb dX1_release_39 rfl (lv_at hl 1 rfl) ?_
        refine lv_iload_n hx hb dX1_release_40 rfl (lv_at hl 0 rfl) ?_
        refine lv_if_eq (tgt := 48) hx hb dX1_release_41 (by decide) (fun _ => ?_) (fun c9 => False.elim (by revert c9; decide))
        refine lv_iconst (v := 1) hx hb dX1_release_48 (by decide) ?_
        have hFc := va_free (wc := wM cI cZ h a0 a4 a5 a6 a7 a8 a9 f0 f4 f5 f6 f7 f8 f9 v0 v1 v2 v3 v4) hD hS hA [0, 1, 2, 3, 4, 5, 6, 7] rfl
        refine va_calli (va_runV (As := [.int 1]) (rest := []) ⟨hx, hb, hml, hown, hts⟩ (c_X1_goes l D cI cZ cJ s.heap.size h a0 a4 a5 a6 a7 a8 a9 f0 f4 f5 f6 f7 f8 f9 v0 v1 v2 v3 v4 1) (cwV 1 hts gX1_release_X1_goes rfl rfl rfl (by decide +kernel) ⟨Nat.le_of_ble_eq_true rfl, Nat.le_of_ble_eq_true rfl⟩) ⟨zD_blind, va_recv hK hP (ci := 1) (q0 := 0) rfl rfl, fun U hU hW => ⟨rfl, zD_mk hP hK hD hU hW⟩⟩ rfl rfl hl.1 rfl (lv_room (Nat.le_of_ble_eq_true rfl)) dX1_release_49 ⟨Nat.le_of_ble_eq_true rfl, Nat.le_of_ble_eq_true rfl⟩) hS (fun q _ h => hFc q h) hFc (fun r15 u15 t H1 locs ht hvm w15 hB hz1 hk1 hS => ?_)
        obtain ⟨hP1, hK1, hD1⟩ := hB
        rw [ht] at hP1
        generalize H1 = H at hP1 hS ⊢
        try dsimp only at w15
        obtain ⟨w15_p, w15_0⟩ := w15
        subst w15_0
        have hP : va_P D vwCl (wM cI cZ h a0 a4 a5 a6 a7 a8 a9 f0 f4 f5 f6 f7 f8 f9 v0 v1 v2 v3 1) H := hP1
        have hD : va_D A (wM cI cZ h a0 a4 a5 a6 a7 a8 a9 f0 f4 f5 f6 f7 f8 f9 v0 v1 v2 v3 1) := hD1.weaken (fun _ _ _ h => hFc _ h)
        have w15_p : r15 = 0 := w15_p.trans (by decide)
        subst w15_p
        refine lv_if_ne (tgt := 57) hx hb dX1_release_52 (by decide) (fun c9 => False.elim (by revert c9; decide)) (fun _ => ?_)
        refine lv_iconst (v := 0) hx hb dX1_release_55 (by decide) ?_
        exact W.iret (v := 0) hx hb hr (fun t ht hW => ⟨⟨0, ⟨f0, f6, v1, v2, v3, f9, 1⟩, rfl, ⟨fun hz9 => by simp [q_reK, hq1, c7, c13, hm] at hz9, by simp [q_up, q_us, q_uA, q_reK, hq1, c7, c13, hm], by simp [q_up, q_us, q_uA, q_reK, hq1, c7, c13, hm], by simp [q_up, q_us, q_uA, q_reK, hq1, c7, c13, hm], by simp [q_up, q_us, q_uA, q_reK, hq1, c7, c13, hm], by simp [q_up, q_us, q_uA, q_reK, hq1, c7, c13, hm], by simp [q_up, q_us, q_uA, q_reK, hq1, c7, c13, hm]⟩, ⟨by rw [ht]; exact hP, va_K.moved hW.alike hK, hD⟩⟩, hS.F ht⟩) hS.2.2 dX1_release_56
      · skip
        have hm := z_nle.mp c13
        refine lv_iconst (v := 1) hx hb dX1_release_33 (by decide) ?_
        refine lv_goto (tgt := 38) hx hb dX1_release_34 (by decide) ?_
        refine lv_istore_n (lv' := [(1, .int 1), (0, .ref h)]) hx hb dX1_release_38 rfl hl (by decide) rfl (fun ls hl => ?_)
        refine lv_aload_n hx hb dX1_release_39 rfl (lv_at hl 1 rfl) ?_
        refine lv_iload_n hx hb dX1_release_40 rfl (lv_at hl 0 rfl) ?_
        refine lv_if_eq (tgt := 48) hx hb dX1_release_41 (by decide) (fun c9 => False.elim (by revert c9; decide)) (fun _ => ?_)
        refine lv_iconst (v := 0) hx hb dX1_release_44 (by decide) ?_
        refine lv_goto (tgt := 49) hx hb dX1_release_45 (by decide) ?_
        have hFc := va_free (wc := wM cI cZ h a0 a4 a5 a6 a7 a8 a9 f0 f4 f5 f6 f7 f8 f9 v0 v1 v2 v3 v4) hD hS hA [0, 1, 2, 3, 4, 5, 6, 7] rfl
        refine va_calli (va_runV (As := [.int 0]) (rest := []) ⟨hx, hb, hml, hown, hts⟩ (c_X1_goes l D cI cZ cJ s.heap.size h a0 a4 a5 a6 a7 a8 a9 f0 f4 f5 f6 f7 f8 f9 v0 v1 v2 v3 v4 0) (cwV 1 hts gX1_release_X1_goes rfl rfl rfl (by decide +kernel) ⟨Nat.le_of_ble_eq_true rfl, Nat.le_of_ble_eq_true rfl⟩) ⟨zD_blind, va_recv hK hP (ci := 1) (q0 := 0) rfl rfl, fun U hU hW => ⟨rfl, zD_mk hP hK hD hU hW⟩⟩ rfl rfl hl.1 rfl (lv_room (Nat.le_of_ble_eq_true rfl)) dX1_release_49 ⟨Nat.le_of_ble_eq_true rfl, Nat.le_of_ble_eq_true rfl⟩) hS (fun q _ h => hFc q h) hFc (fun r18 u18 t H1 locs ht hvm w18 hB hz1 hk1 hS => ?_)
        obtain ⟨hP1, hK1, hD1⟩ := hB
        rw [ht] at hP1
        generalize H1 = H at hP1 hS ⊢
        try dsimp only at w18
        obtain ⟨w18_p, w18_0⟩ := w18
        subst w18_0
        have hP : va_P D vwCl (wM cI cZ h a0 a4 a5 a6 a7 a8 a9 f0 f4 f5 f6 f7 f8 f9 v0 v1 v2 v3 0) H := hP1
        have hD : va_D A (wM cI cZ h a0 a4 a5 a6 a7 a8 a9 f0 f4 f5 f6 f7 f8 f9 v0 v1 v2 v3 0) := hD1.weaken (fun _ _ _ h => hFc _ h)
        have w18_p : r18 = 1 := w18_p.trans (by decide)
        subst w18_p
        refine lv_if_ne (tgt := 57) hx hb dX1_release_52 (by decide) (fun _ => ?_) (fun c9 => False.elim (by revert c9; decide))
        refine lv_aload_n hx hb dX1_release_57 rfl (lv_at hl 1 rfl) ?_
        have hFc := va_free (wc := wM cI cZ h a0 a4 a5 a6 a7 a8 a9 f0 f4 f5 f6 f7 f8 f9 v0 v1 v2 v3 0) hD hS hA [0, 1, 2, 3, 4, 5, 6, 7] rfl
        refine va_callv (va_runV (As := []) (rest := []) ⟨hx, hb, hml, hown, hts⟩ (c_X1_laysShares l D cI cZ cJ H.size h a0 a4 a5 a6 a7 a8 a9 f0 f4 f5 f6 f7 f8 f9 v0 v1 v2 v3 0 hv1 hT) (cwV 0 hts gX1_release_X1_laysShares rfl rfl rfl (by decide +kernel) ⟨Nat.le_of_ble_eq_true rfl, Nat.le_of_ble_eq_true rfl⟩) ⟨zD_blind, va_recv hK hP (ci := 1) (q0 := 0) rfl rfl, fun U hU hW => ⟨rfl, zD_mk hP hK hD hU hW⟩⟩ rfl rfl hl.1 rfl (lv_room (Nat.le_of_ble_eq_true rfl)) dX1_release_58 ⟨Nat.le_of_ble_eq_true rfl, Nat.le_of_ble_eq_true rfl⟩) hS (fun q _ h => hFc q h) hFc (fun u20 t H1 locs ht hvm w20 hB hz1 hk1 hS => ?_)
        obtain ⟨hP1, hK1, hD1⟩ := hB
        rw [ht] at hP1
        generalize H1 = H at hP1 hS ⊢
        try dsimp only at w20
        have w20_0 := w20
        subst w20_0
        have hP : va_P D vwCl (wM cI cZ h a0 a4 a5 a6 a7 a8 a9 f0 f4 f5 f6 f7 f8 (q_fill (q_sh f0 (f7 v1.toNatClampNeg)) f9 8) v0 v1 v2 v3 0) H := hP1
        have hD : va_D A (wM cI cZ h a0 a4 a5 a6 a7 a8 a9 f0 f4 f5 f6 f7 f8 (q_fill (q_sh f0 (f7 v1.toNatClampNeg)) f9 8) v0 v1 v2 v3 0) := hD1.weaken (fun _ _ _ h => hFc _ h)
        refine lv_aload_n hx hb dX1_release_61 rfl (lv_at hl 1 rfl) ?_
        refine vp_callSi (W.runV (As := []) (rest := []) ⟨hx, hb, hml, hown, hts⟩ (c_X1_matched l D cI cZ cJ h a0 a4 a5 a6 a7 a8 a9 f0 f4 f5 f6 f7 f8 (q_fill (q_sh f0 (f7 v1.toNatClampNeg)) f9 8) v0 v1 v2 v3 0 hv1 (fun w hw => by rw [z_partF]; exact hpb w hw)) (cwV 0 hts gX1_release_X1_matched rfl rfl rfl (by decide +kernel) ⟨Nat.le_of_ble_eq_true rfl, Nat.le_of_ble_eq_true rfl⟩) ⟨zP_blind, va_recv hK hP (ci := 1) (q0 := 0) rfl rfl, fun U hU hW => ⟨rfl, zP_mk hP hK hU hW⟩⟩ rfl rfl hl.1 rfl (lv_room (Nat.le_of_ble_eq_true rfl)) dX1_release_62 ⟨Nat.le_of_ble_eq_true rfl, Nat.le_of_ble_eq_true rfl⟩) (fun r21 w21 => ?_)
        subst w21
        rw [show q_mt f5 (q_fill (q_sh f0 (f7 v1.toNatClampNeg)) f9 8) (f7 v1.toNatClampNeg) v2 = q_mt f5 (q_sh f0 (f7 v1.toNatClampNeg)) (f7 v1.toNatClampNeg) v2 from by simp only [q_mt, z_rtsF]]
        refine lv_istore_n (lv' := [(2, .int (q_mt f5 (q_sh f0 (f7 v1.toNatClampNeg)) (f7 v1.toNatClampNeg) v2)), (1, .int 1), (0, .ref h)]) hx hb dX1_release_65 rfl hl (by decide) rfl (fun ls hl => ?_)
        refine lv_aload_n hx hb dX1_release_66 rfl (lv_at hl 2 rfl) ?_
        refine va_get (D := D) (ci := 1) (v := .ref a7) (C := RX1) (T := TX1) (N := 12) hx hb hts hin hown hK hP 0 rfl rfl 6 (by decide) (hts (.fieldLink RX1 22 "QuorumfundModel" "amounts" "[I") (by decide +kernel)) (fun _ h9 => h9) rfl dX1_release_67 ?_
        refine lv_aload_n hx hb dX1_release_70 rfl (lv_at hl 2 rfl) ?_
        refine va_get (D := D) (ci := 1) (v := .int v1) (C := RX1) (T := TX1) (N := 12) hx hb hts hin hown hK hP 0 rfl rfl 5 (by decide) (hts (.fieldLink RX1 63 "QuorumfundModel" "released" "I") (by decide +kernel)) (fun _ h9 => h9) rfl dX1_release_71 ?_
        refine va_iald (D := D) hx hb hK hP 5 0 rfl rfl hv1 dX1_release_74 ?_
        refine lv_iload_n hx hb dX1_release_75 rfl (lv_at hl 0 rfl) ?_
        refine lv_iadd hx hb dX1_release_76 ?_
        refine lv_istore_n (lv' := [(3, .int ((f7 v1.toNatClampNeg) + (q_mt f5 (q_sh f0 (f7 v1.toNatClampNeg)) (f7 v1.toNatClampNeg) v2))), (2, .int (q_mt f5 (q_sh f0 (f7 v1.toNatClampNeg)) (f7 v1.toNatClampNeg) v2)), (1, .int 1), (0, .ref h)]) hx hb dX1_release_77 rfl hl (by decide) rfl (fun ls hl => ?_)
        refine lv_iconst (v := 0) hx hb dX1_release_78 (by decide) ?_
        refine lv_istore (lv' := [(4, .int 0), (3, .int ((f7 v1.toNatClampNeg) + (q_mt f5 (q_sh f0 (f7 v1.toNatClampNeg)) (f7 v1.toNatClampNeg) v2))), (2, .int (q_mt f5 (q_sh f0 (f7 v1.toNatClampNeg)) (f7 v1.toNatClampNeg) v2)), (1, .int 1), (0, .ref h)]) hx hb dX1_release_79 hl (by decide) rfl (fun ls hl => ?_)
        have hloop81 : ∀ (n81 : Nat) (i : Nat) (g : Nat → Int32) (k : Nat → Int32), (9 ≤ i + n81) → (i ≤ 8) → (g = q_fill (fun n => f0 n - q_sh f0 (f7 v1.toNatClampNeg) n) f0 i) → (k = q_fill (fun _ => 0) f6 i) → ∀ (H : Heap) (locs : List Loc), va_P D vwCl (wM cI cZ h a0 a4 a5 a6 a7 a8 a9 g f4 f5 k f7 f8 (q_fill (q_sh f0 (f7 v1.toNatClampNeg)) f9 8) v0 v1 v2 v3 0) H → va_D A (wM cI cZ h a0 a4 a5 a6 a7 a8 a9 g f4 f5 k f7 f8 (q_fill (q_sh f0 (f7 v1.toNatClampNeg)) f9 8) v0 v1 v2 v3 0) → va_S A s.heap H locs → ∀ (ls : Array Slot), lv_has ls 5 [(4, .int (nI i)), (3, .int ((f7 v1.toNatClampNeg) + (q_mt f5 (q_sh f0 (f7 v1.toNatClampNeg)) (f7 v1.toNatClampNeg) v2))), (2, .int (q_mt f5 (q_sh f0 (f7 v1.toNatClampNeg)) (f7 v1.toNatClampNeg) v2)), (1, .int 1), (0, .ref h)] → W p l e (headSpec wsX1_release ({ frames := 2, cells := 0, slots := 0, locals := 47 })).room s m ([Value.ref h] : List Value).toArray below meth c H locs 0 0 (MQ below (va_Qi (fun (r : Int32) (u : (Nat → Int32) × (Nat → Int32) × Int32 × Int32 × Int32 × (Nat → Int32) × Int32) => (q_reK f0 f4 f6 f7 f8 v0 v1 = 0 → r = (f7 v1.toNatClampNeg) + q_mt f5 (q_sh f0 (f7 v1.toNatClampNeg)) (f7 v1.toNatClampNeg) v2) ∧ u.1 = q_uA (q_reK f0 f4 f6 f7 f8 v0 v1) f0 (q_fill (fun n => f0 n - q_sh f0 (f7 v1.toNatClampNeg) n) f0 8) ∧ u.2.1 = q_uA (q_reK f0 f4 f6 f7 f8 v0 v1) f6 (q_fill (fun _ => 0) f6 8) ∧ u.2.2.1 = q_us (q_reK f0 f4 f6 f7 f8 v0 v1) v1 (v1 + 1) ∧ u.2.2.2.1 = q_us (q_reK f0 f4 f6 f7 f8 v0 v1) v2 (v2 - q_mt f5 (q_sh f0 (f7 v1.toNatClampNeg)) (f7 v1.toNatClampNeg) v2) ∧ u.2.2.2.2.1 = q_us (q_reK f0 f4 f6 f7 f8 v0 v1) v3 (v3 + ((f7 v1.toNatClampNeg) + q_mt f5 (q_sh f0 (f7 v1.toNatClampNeg)) (f7 v1.toNatClampNeg) v2)) ∧ u.2.2.2.2.2.2 = q_reK f0 f4 f6 f7 f8 v0 v1) (fun u t => zB D cI cZ cJ A (wM cI cZ h a0 a4 a5 a6 a7 a8 a9 u.1 f4 f5 u.2.1 f7 f8 u.2.2.2.2.2.1 v0 u.2.2.1 u.2.2.2.1 u.2.2.2.2.1 u.2.2.2.2.2.2) t) A) ([Value.ref h] : List Value).toArray s 0 0 A) (F0 m 81 ls []) := by
          intro n81
          induction n81 with
          | zero => intro i g k hn hi eg ek; exact False.elim (by omega)
          | succ n81 ih81 =>
            intro i g k hn hi eg ek H locs hP hD hS ls hl
            refine lv_iload hx hb dX1_release_81 (lv_at hl 0 rfl) ?_
            refine lv_bipush (v := 8) hx hb dX1_release_83 (by decide) ?_
            refine lv_icmp_ge (tgt := 119) hx hb dX1_release_85 (by decide) (fun c22 => ?_) (fun c22 => ?_)
            · skip
              have hj := z_ge8 hi c22
              subst hj
              refine lv_aload_n hx hb dX1_release_119 rfl (lv_at hl 4 rfl) ?_
              refine lv_dup hx hb dX1_release_120 rfl ?_
              refine va_get (D := D) (ci := 1) (v := .int v2) (C := RX1) (T := TX1) (N := 12) hx hb hts hin hown hK hP 0 rfl rfl 8 (by decide) (hts (.fieldLink RX1 56 "QuorumfundModel" "pot" "I") (by decide +kernel)) (fun _ h9 => h9) rfl dX1_release_121 ?_
              refine lv_iload_n hx hb dX1_release_124 rfl (lv_at hl 2 rfl) ?_
              refine lv_isub hx hb dX1_release_125 ?_
              refine va_put (D := D) (ci := 1) (v := .int (v2 - (q_mt f5 (q_sh f0 (f7 v1.toNatClampNeg)) (f7 v1.toNatClampNeg) v2))) (ty := .int) (C := RX1) (T := TX1) (N := 12) hx hb hts hin tyX1 tyX1_ok nmX1 hown hK hP hD hS 0 rfl rfl 8 (by decide) (hts (.fieldLink RX1 56 "QuorumfundModel" "pot" "I") (by decide +kernel)) (fun _ h9 => h9) rfl (by decide +kernel) rfl rfl (Nat.le_of_ble_eq_true rfl) dX1_release_126 (fun H locs hP hD hS => ?_)
              have hP : va_P D vwCl (wM cI cZ h a0 a4 a5 a6 a7 a8 a9 g f4 f5 k f7 f8 (q_fill (q_sh f0 (f7 v1.toNatClampNeg)) f9 8) v0 v1 (v2 - (q_mt f5 (q_sh f0 (f7 v1.toNatClampNeg)) (f7 v1.toNatClampNeg) v2)) v3 0) H := hP
              have hD : va_D A (wM cI cZ h a0 a4 a5 a6 a7 a8 a9 g f4 f5 k f7 f8 (q_fill (q_sh f0 (f7 v1.toNatClampNeg)) f9 8) v0 v1 (v2 - (q_mt f5 (q_sh f0 (f7 v1.toNatClampNeg)) (f7 v1.toNatClampNeg) v2)) v3 0) := hD
              refine lv_aload_n hx hb dX1_release_129 rfl (lv_at hl 4 rfl) ?_
              refine lv_dup hx hb dX1_release_130 rfl ?_
              refine va_get (D := D) (ci := 1) (v := .int v3) (C := RX1) (T := TX1) (N := 12) hx hb hts hin hown hK hP 0 rfl rfl 9 (by decide) (hts (.fieldLink RX1 92 "QuorumfundModel" "out" "I") (by decide +kernel)) (fun _ h9 => h9) rfl dX1_release_131 ?_
              refine lv_iload_n hx hb dX1_release_134 rfl (lv_at hl 1 rfl) ?_
              refine lv_iadd hx hb dX1_release_135 ?_
              refine va_put (D := D) (ci := 1) (v := .int (v3 + ((f7 v1.toNatClampNeg) + (q_mt f5 (q_sh f0 (f7 v1.toNatClampNeg)) (f7 v1.toNatClampNeg) v2)))) (ty := .int) (C := RX1) (T := TX1) (N := 12) hx hb hts hin tyX1 tyX1_ok nmX1 hown hK hP hD hS 0 rfl rfl 9 (by decide) (hts (.fieldLink RX1 92 "QuorumfundModel" "out" "I") (by decide +kernel)) (fun _ h9 => h9) rfl (by decide +kernel) rfl rfl (Nat.le_of_ble_eq_true rfl) dX1_release_136 (fun H locs hP hD hS => ?_)
              have hP : va_P D vwCl (wM cI cZ h a0 a4 a5 a6 a7 a8 a9 g f4 f5 k f7 f8 (q_fill (q_sh f0 (f7 v1.toNatClampNeg)) f9 8) v0 v1 (v2 - (q_mt f5 (q_sh f0 (f7 v1.toNatClampNeg)) (f7 v1.toNatClampNeg) v2)) (v3 + ((f7 v1.toNatClampNeg) + (q_mt f5 (q_sh f0 (f7 v1.toNatClampNeg)) (f7 v1.toNatClampNeg) v2))) 0) H := hP
              have hD : va_D A (wM cI cZ h a0 a4 a5 a6 a7 a8 a9 g f4 f5 k f7 f8 (q_fill (q_sh f0 (f7 v1.toNatClampNeg)) f9 8) v0 v1 (v2 - (q_mt f5 (q_sh f0 (f7 v1.toNatClampNeg)) (f7 v1.toNatClampNeg) v2)) (v3 + ((f7 v1.toNatClampNeg) + (q_mt f5 (q_sh f0 (f7 v1.toNatClampNeg)) (f7 v1.toNatClampNeg) v2))) 0) := hD
              refine lv_aload_n hx hb dX1_release_139 rfl (lv_at hl 4 rfl) ?_
              refine lv_dup hx hb dX1_release_140 rfl ?_
              refine va_get (D := D) (ci := 1) (v := .int v1) (C := RX1) (T := TX1) (N := 12) hx hb hts hin hown hK hP 0 rfl rfl 5 (by decide) (hts (.fieldLink RX1 63 "QuorumfundModel" "released" "I") (by decide +kernel)) (fun _ h9 => h9) rfl dX1_release_141 ?_
              refine lv_iconst (v := 1) hx hb dX1_release_144 (by decide) ?_
              refine lv_iadd hx hb dX1_release_145 ?_
              refine va_put (D := D) (ci := 1) (v := .int (v1 + 1)) (ty := .int) (C := RX1) (T := TX1) (N := 12) hx hb hts hin tyX1 tyX1_ok nmX1 hown hK hP hD hS 0 rfl rfl 5 (by decide) (hts (.fieldLink RX1 63 "QuorumfundModel" "released" "I") (by decide +kernel)) (fun _ h9 => h9) rfl (by decide +kernel) rfl rfl (Nat.le_of_ble_eq_true rfl) dX1_release_146 (fun H locs hP hD hS => ?_)
              have hP : va_P D vwCl (wM cI cZ h a0 a4 a5 a6 a7 a8 a9 g f4 f5 k f7 f8 (q_fill (q_sh f0 (f7 v1.toNatClampNeg)) f9 8) v0 (v1 + 1) (v2 - (q_mt f5 (q_sh f0 (f7 v1.toNatClampNeg)) (f7 v1.toNatClampNeg) v2)) (v3 + ((f7 v1.toNatClampNeg) + (q_mt f5 (q_sh f0 (f7 v1.toNatClampNeg)) (f7 v1.toNatClampNeg) v2))) 0) H := hP
              have hD : va_D A (wM cI cZ h a0 a4 a5 a6 a7 a8 a9 g f4 f5 k f7 f8 (q_fill (q_sh f0 (f7 v1.toNatClampNeg)) f9 8) v0 (v1 + 1) (v2 - (q_mt f5 (q_sh f0 (f7 v1.toNatClampNeg)) (f7 v1.toNatClampNeg) v2)) (v3 + ((f7 v1.toNatClampNeg) + (q_mt f5 (q_sh f0 (f7 v1.toNatClampNeg)) (f7 v1.toNatClampNeg) v2))) 0) := hD
              refine lv_iload_n hx hb dX1_release_149 rfl (lv_at hl 1 rfl) ?_
              exact W.iret (v := (f7 v1.toNatClampNeg) + (q_mt f5 (q_sh f0 (f7 v1.toNatClampNeg)) (f7 v1.toNatClampNeg) v2)) hx hb hr (fun t ht hW => ⟨⟨(f7 v1.toNatClampNeg) + (q_mt f5 (q_sh f0 (f7 v1.toNatClampNeg)) (f7 v1.toNatClampNeg) v2), ⟨g, k, (v1 + 1), (v2 - (q_mt f5 (q_sh f0 (f7 v1.toNatClampNeg)) (f7 v1.toNatClampNeg) v2)), (v3 + ((f7 v1.toNatClampNeg) + (q_mt f5 (q_sh f0 (f7 v1.toNatClampNeg)) (f7 v1.toNatClampNeg) v2))), (q_fill (q_sh f0 (f7 v1.toNatClampNeg)) f9 8), 0⟩, rfl, ⟨fun _ => rfl, by simp [eg, ek, q_up, q_us, q_uA, q_reK, hq1, c7, c13, hm, c22], by simp [eg, ek, q_up, q_us, q_uA, q_reK, hq1, c7, c13, hm, c22], by simp [eg, ek, q_up, q_us, q_uA, q_reK, hq1, c7, c13, hm, c22], by simp [eg, ek, q_up, q_us, q_uA, q_reK, hq1, c7, c13, hm, c22], by simp [eg, ek, q_up, q_us, q_uA, q_reK, hq1, c7, c13, hm, c22], by simp [eg, ek, q_up, q_us, q_uA, q_reK, hq1, c7, c13, hm, c22]⟩, ⟨by rw [ht]; exact hP, va_K.moved hW.alike hK, hD⟩⟩, hS.F ht⟩) hS.2.2 dX1_release_150
            · skip
              have hj := z_lt8 hi c22
              refine lv_aload_n hx hb dX1_release_88 rfl (lv_at hl 4 rfl) ?_
              refine va_get (D := D) (ci := 1) (v := .ref a0) (C := RX1) (T := TX1) (N := 12) hx hb hts hin hown hK hP 0 rfl rfl 0 (by decide) (hts (.fieldLink RX1 7 "QuorumfundModel" "ins" "[I") (by decide +kernel)) (fun _ h9 => h9) rfl dX1_release_89 ?_
              refine lv_iload hx hb dX1_release_92 (lv_at hl 0 rfl) ?_
              refine lv_dup2_11 hx hb dX1_release_94 rfl rfl ?_
              refine va_iald (D := D) hx hb hK hP 1 0 rfl rfl (z_in8 hj) dX1_release_95 ?_
              refine lv_aload_n hx hb dX1_release_96 rfl (lv_at hl 4 rfl) ?_
              refine va_get (D := D) (ci := 1) (v := .ref a9) (C := RX1) (T := TX1) (N := 12) hx hb hts hin hown hK hP 0 rfl rfl 10 (by decide) (hts (.fieldLink RX1 29 "QuorumfundModel" "shares" "[I") (by decide +kernel)) (fun _ h9 => h9) rfl dX1_release_97 ?_
              refine lv_iload hx hb dX1_release_100 (lv_at hl 0 rfl) ?_
              refine va_iald (D := D) hx hb hK hP 7 0 rfl rfl (z_in8 hj) dX1_release_102 ?_
              refine lv_isub hx hb dX1_release_103 ?_
              refine va_iast (D := D) hx hb hK hP hD hS 1 0 rfl rfl (z_in8 hj) dX1_release_104 (fun H locs hP hD hS => ?_)
              have hP : va_P D vwCl (wM cI cZ h a0 a4 a5 a6 a7 a8 a9 (upd g (nI i).toNatClampNeg ((g (nI i).toNatClampNeg) - ((q_fill (q_sh f0 (f7 v1.toNatClampNeg)) f9 8) (nI i).toNatClampNeg))) f4 f5 k f7 f8 (q_fill (q_sh f0 (f7 v1.toNatClampNeg)) f9 8) v0 v1 v2 v3 0) H := hP
              have hD : va_D A (wM cI cZ h a0 a4 a5 a6 a7 a8 a9 (upd g (nI i).toNatClampNeg ((g (nI i).toNatClampNeg) - ((q_fill (q_sh f0 (f7 v1.toNatClampNeg)) f9 8) (nI i).toNatClampNeg))) f4 f5 k f7 f8 (q_fill (q_sh f0 (f7 v1.toNatClampNeg)) f9 8) v0 v1 v2 v3 0) := hD
              refine lv_aload_n hx hb dX1_release_105 rfl (lv_at hl 4 rfl) ?_
              refine va_get (D := D) (ci := 1) (v := .ref a6) (C := RX1) (T := TX1) (N := 12) hx hb hts hin hown hK hP 0 rfl rfl 3 (by decide) (hts (.fieldLink RX1 19 "QuorumfundModel" "votes" "[I") (by decide +kernel)) (fun _ h9 => h9) rfl dX1_release_106 ?_
              refine lv_iload hx hb dX1_release_109 (lv_at hl 0 rfl) ?_
              refine lv_iconst (v := 0) hx hb dX1_release_111 (by decide) ?_
              refine va_iast (D := D) hx hb hK hP hD hS 4 0 rfl rfl (z_in8 hj) dX1_release_112 (fun H locs hP hD hS => ?_)
              have hP : va_P D vwCl (wM cI cZ h a0 a4 a5 a6 a7 a8 a9 (upd g (nI i).toNatClampNeg ((g (nI i).toNatClampNeg) - ((q_fill (q_sh f0 (f7 v1.toNatClampNeg)) f9 8) (nI i).toNatClampNeg))) f4 f5 (upd k (nI i).toNatClampNeg 0) f7 f8 (q_fill (q_sh f0 (f7 v1.toNatClampNeg)) f9 8) v0 v1 v2 v3 0) H := hP
              have hD : va_D A (wM cI cZ h a0 a4 a5 a6 a7 a8 a9 (upd g (nI i).toNatClampNeg ((g (nI i).toNatClampNeg) - ((q_fill (q_sh f0 (f7 v1.toNatClampNeg)) f9 8) (nI i).toNatClampNeg))) f4 f5 (upd k (nI i).toNatClampNeg 0) f7 f8 (q_fill (q_sh f0 (f7 v1.toNatClampNeg)) f9 8) v0 v1 v2 v3 0) := hD
              refine lv_iinc (v := nI (i + 1)) (lv' := [(4, .int (nI (i + 1))), (3, .int ((f7 v1.toNatClampNeg) + (q_mt f5 (q_sh f0 (f7 v1.toNatClampNeg)) (f7 v1.toNatClampNeg) v2))), (2, .int (q_mt f5 (q_sh f0 (f7 v1.toNatClampNeg)) (f7 v1.toNatClampNeg) v2)), (1, .int 1), (0, .ref h)]) hx hb dX1_release_113 hl (k := 0) rfl (nI_1 _) (by decide) rfl (fun ls hl => ?_)
              refine lv_goto (tgt := 81) hx hb dX1_release_116 (by decide) ?_
              exact ih81 (i + 1) (upd g (nI i).toNatClampNeg ((g (nI i).toNatClampNeg) - ((q_fill (q_sh f0 (f7 v1.toNatClampNeg)) f9 8) (nI i).toNatClampNeg))) (upd k (nI i).toNatClampNeg 0) (by omega) (by omega) (by rw [z_cl hj, z_fill_lt hj, show g i = f0 i from by rw [eg]; exact z_fill_ge (Nat.le_refl i), eg]; exact z_fillS (fun n => f0 n - q_sh f0 (f7 v1.toNatClampNeg) n) f0 i) (by rw [z_cl hj, ek]; exact z_fillS (fun _ => 0) f6 i) H locs hP hD hS ls (lv_sub hl [0, 1, 2, 3, 4] rfl)
        exact hloop81 9 0 f0 f6 (by omega) (by omega) ((z_fill0 _ _).symm) ((z_fill0 _ _).symm) _ _ hP hD hS ls (lv_sub hl [0, 1, 2, 3, 4] rfl)
