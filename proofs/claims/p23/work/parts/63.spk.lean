set_option maxHeartbeats 4000000 in
set_option maxRecDepth 100000 in
theorem k_areSpeakers (l : Launch) (hl0 : l.stackTraces = false) (D : va_G) (cI cZ cJ : ClassId) (sz : Nat) (h a0 a1 a2 a3 a4 a5 a6 a7 a8 a9 a10 : Nat) (ga : Nat) : vx_Met l yL_areSpeakers wsL_areSpeakers ({ frames := 4, cells := 0, slots := 0, locals := 88 }) (va_Pc [.ref h, .ref ga] (zKX D cI cZ cJ sz (w0 cI cZ h a0 a1 a2 a3 a4 a5 a6 a7 a8 a9 a10 ++ [(ga, .inl (cI, 24, .inl zg))]))) (va_Qi (fun (r : Int32) (_ : Unit) => r = 1) (fun _ t => sz + 0 ≤ t.heap.size) (fun _ => False)) (zXC (fun _ => False)) 0 0 (fun _ => False) := by
  refine vx_ofW (cc := cL_areSpeakers) (maxL := 8) (ret := (some .boolean)) (by decide) rfl ?_
  intro p e s m args below meth c s₁ B hml hout hv
  obtain ⟨rfl, hsz, hZ, hP, hK⟩ := hv
  have hx := B.exec
  have hb := B.bytes
  have hr := B.returns
  have hts := atoms_spec (ws := wsL_areSpeakers) B.pre
  have hown : s.vm.findClass RL = some m.cls := findClass_of_methodNamed B.named
  have hlocks := B.notSynchronized
  subst hsz
  have hS : va_S (fun _ : Nat => False) s.heap s.heap [] := va_S.rf
  have hgr : s.heap.size + 0 ≤ s.heap.size := Nat.le_refl _
  have hl := lv_entry ([.ref h, .ref ga]) (n := 8) (Nat.le_of_ble_eq_true rfl)
  rw [lg_entry_eq]
  generalize (lg_sl ([.ref h, .ref ga]) ++ List.replicate (8 - (lg_sl ([.ref h, .ref ga])).length) Slot.unset).toArray = ls at hl ⊢
  have hl : lv_has ls 8 [(0, .ref h), (1, .ref ga)] := hl
  refine lv_iconst (v := 0) hx hb dL_areSpeakers_0 (by decide) ?_
  refine lv_istore_n (lv' := [(2, .int 0), (0, .ref h), (1, .ref ga)]) hx hb dL_areSpeakers_1 rfl hl (by decide) rfl (fun ls hl => ?_)
  refine lv_iconst (v := 0) hx hb dL_areSpeakers_2 (by decide) ?_
  refine lv_istore_n (lv' := [(3, .int 0), (2, .int 0), (0, .ref h), (1, .ref ga)]) hx hb dL_areSpeakers_3 rfl hl (by decide) rfl (fun ls hl => ?_)
  refine lv_iconst (v := 1) hx hb dL_areSpeakers_4 (by decide) ?_
  refine lv_istore (lv' := [(4, .int 1), (3, .int 0), (2, .int 0), (0, .ref h), (1, .ref ga)]) hx hb dL_areSpeakers_5 hl (by decide) rfl (fun ls hl => ?_)
  refine lv_iconst (v := 0) hx hb dL_areSpeakers_7 (by decide) ?_
  refine lv_istore (lv' := [(5, .int 0), (4, .int 1), (3, .int 0), (2, .int 0), (0, .ref h), (1, .ref ga)]) hx hb dL_areSpeakers_8 hl (by decide) rfl (fun ls hl => ?_)
  refine lv_iload hx hb dL_areSpeakers_10 (lv_at hl 0 rfl) ?_
  refine lv_bipush (v := 8) hx hb dL_areSpeakers_12 (by decide) ?_
  refine lv_icmp_ge (tgt := 179) hx hb dL_areSpeakers_14 (by decide) (fun c9 => False.elim (by revert c9; decide)) (fun _ => ?_)
  refine lv_iload hx hb dL_areSpeakers_17 (lv_at hl 1 rfl) ?_
  refine lv_if_eq (tgt := 179) hx hb dL_areSpeakers_19 (by decide) (fun c9 => False.elim (by revert c9; decide)) (fun _ => ?_)
  refine lv_aload_n hx hb dL_areSpeakers_22 rfl (lv_at hl 4 rfl) ?_
  refine lv_iload hx hb dL_areSpeakers_23 (lv_at hl 0 rfl) ?_
  refine vp_callSi (W.runV (As := [.int 0]) (rest := []) ⟨hx, hb, hml, hown, hts⟩ (c_X0_speaker l D cI cZ cJ h a0 a1 a2 a3 a4 a5 a6 a7 a8 a9 a10 z0 z0 z0 z0 zf4 zf5 z0 z0 z0 z0 z0 0 0 0 0 0 (by decide +kernel)) (cwV 1 hts gL_areSpeakers_X0_speaker rfl rfl rfl (by decide +kernel) ⟨Nat.le_of_ble_eq_true rfl, Nat.le_of_ble_eq_true rfl⟩) ⟨zP_blind, va_recv hK hP (ci := 0) (q0 := 0) rfl rfl, fun U hU hW => ⟨rfl, zP_mk (hP.sub (ws' := w0 cI cZ h a0 a1 a2 a3 a4 a5 a6 a7 a8 a9 a10) [0, 1, 2, 3, 4, 5, 6, 7, 8, 9, 10, 11] rfl) hK hU hW⟩⟩ rfl rfl hl.1 rfl (lv_room (Nat.le_of_ble_eq_true rfl)) dL_areSpeakers_25 ⟨Nat.le_of_ble_eq_true rfl, Nat.le_of_ble_eq_true rfl⟩) (fun r3 w3 => ?_)
  have w3 : r3 = (-1) := w3.trans (by decide +kernel)
  subst w3
  refine lv_istore (lv' := [(6, .int (-1)), (5, .int 0), (4, .int 1), (3, .int 0), (2, .int 0), (0, .ref h), (1, .ref ga)]) hx hb dL_areSpeakers_28 hl (by decide) rfl (fun ls hl => ?_)
  refine lv_aload_n hx hb dL_areSpeakers_30 rfl (lv_at hl 6 rfl) ?_
  refine lv_iload hx hb dL_areSpeakers_31 (lv_at hl 1 rfl) ?_
  refine va_iald (D := D) hx hb hK hP 12 0 rfl rfl (vp_in_iff.mpr (by decide +kernel)) dL_areSpeakers_33 ?_
  refine lv_topi (fun y4 hy4 => ?_)
  have hy4 : y4 = (-1) := hy4.trans (by decide +kernel)
  subst hy4
  refine lv_istore (lv' := [(7, .int (-1)), (6, .int (-1)), (5, .int 0), (4, .int 1), (3, .int 0), (2, .int 0), (0, .ref h), (1, .ref ga)]) hx hb dL_areSpeakers_34 hl (by decide) rfl (fun ls hl => ?_)
  refine lv_aload_n hx hb dL_areSpeakers_36 rfl (lv_at hl 7 rfl) ?_
  refine lv_bipush (v := 16) hx hb dL_areSpeakers_37 (by decide) ?_
  refine lv_iload hx hb dL_areSpeakers_39 (lv_at hl 2 rfl) ?_
  refine lv_iadd hx hb dL_areSpeakers_41 ?_
  refine lv_topi (fun y5 hy5 => ?_)
  have hy5 : y5 = 16 := hy5.trans (by decide +kernel)
  subst hy5
  refine va_iald (D := D) hx hb hK hP 12 0 rfl rfl (vp_in_iff.mpr (by decide +kernel)) dL_areSpeakers_42 ?_
  refine lv_topi (fun y6 hy6 => ?_)
  have hy6 : y6 = 0 := hy6.trans (by decide +kernel)
  subst hy6
  refine lv_if_le (tgt := 61) hx hb dL_areSpeakers_43 (by decide) (fun _ => ?_) (fun c9 => False.elim (by revert c9; decide))
  refine lv_iload hx hb dL_areSpeakers_61 (lv_at hl 1 rfl) ?_
  refine lv_iload hx hb dL_areSpeakers_63 (lv_at hl 0 rfl) ?_
  refine lv_if_ge (tgt := 72) hx hb dL_areSpeakers_65 (by decide) (fun c9 => False.elim (by revert c9; decide)) (fun _ => ?_)
  refine lv_iconst (v := (-1)) hx hb dL_areSpeakers_68 (by decide) ?_
  refine lv_goto (tgt := 78) hx hb dL_areSpeakers_69 (by decide) ?_
  refine lv_icmp_ne (tgt := 85) hx hb dL_areSpeakers_78 (by decide) (fun c9 => False.elim (by revert c9; decide)) (fun _ => ?_)
  refine lv_iconst (v := 1) hx hb dL_areSpeakers_81 (by decide) ?_
  refine lv_goto (tgt := 86) hx hb dL_areSpeakers_82 (by decide) ?_
  refine lv_istore (lv' := [(4, .int 1), (7, .int (-1)), (6, .int (-1)), (5, .int 0), (3, .int 0), (2, .int 0), (0, .ref h), (1, .ref ga)]) hx hb dL_areSpeakers_86 hl (by decide) rfl (fun ls hl => ?_)
  refine lv_iload hx hb dL_areSpeakers_88 (lv_at hl 0 rfl) ?_
  refine lv_if_eq (tgt := 112) hx hb dL_areSpeakers_90 (by decide) (fun c9 => False.elim (by revert c9; decide)) (fun _ => ?_)
  refine lv_iload hx hb dL_areSpeakers_93 (lv_at hl 2 rfl) ?_
  refine lv_if_lt (tgt := 108) hx hb dL_areSpeakers_95 (by decide) (fun _ => ?_) (fun c9 => False.elim (by revert c9; decide))
  refine lv_iconst (v := 1) hx hb dL_areSpeakers_108 (by decide) ?_
  refine lv_goto (tgt := 113) hx hb dL_areSpeakers_109 (by decide) ?_
  refine lv_istore (lv' := [(4, .int 1), (7, .int (-1)), (6, .int (-1)), (5, .int 0), (3, .int 0), (2, .int 0), (0, .ref h), (1, .ref ga)]) hx hb dL_areSpeakers_113 hl (by decide) rfl (fun ls hl => ?_)
  refine lv_iload_n hx hb dL_areSpeakers_115 rfl (lv_at hl 5 rfl) ?_
  refine lv_iload hx hb dL_areSpeakers_116 (lv_at hl 2 rfl) ?_
  refine lv_if_lt (tgt := 141) hx hb dL_areSpeakers_118 (by decide) (fun _ => ?_) (fun c9 => False.elim (by revert c9; decide))
  refine lv_iconst (v := 0) hx hb dL_areSpeakers_141 (by decide) ?_
  refine lv_iadd hx hb dL_areSpeakers_142 ?_
  refine lv_topi (fun y13 hy13 => ?_)
  have hy13 : y13 = 0 := hy13.trans (by decide +kernel)
  subst hy13
  refine lv_istore_n (lv' := [(2, .int 0), (4, .int 1), (7, .int (-1)), (6, .int (-1)), (5, .int 0), (3, .int 0), (0, .ref h), (1, .ref ga)]) hx hb dL_areSpeakers_143 rfl hl (by decide) rfl (fun ls hl => ?_)
  refine lv_iload_n hx hb dL_areSpeakers_144 rfl (lv_at hl 5 rfl) ?_
  refine lv_iload hx hb dL_areSpeakers_145 (lv_at hl 3 rfl) ?_
  refine lv_if_lt (tgt := 170) hx hb dL_areSpeakers_147 (by decide) (fun _ => ?_) (fun c9 => False.elim (by revert c9; decide))
  refine lv_iconst (v := 0) hx hb dL_areSpeakers_170 (by decide) ?_
  refine lv_iadd hx hb dL_areSpeakers_171 ?_
  refine lv_topi (fun y15 hy15 => ?_)
  have hy15 : y15 = 0 := hy15.trans (by decide +kernel)
  subst hy15
  refine lv_istore_n (lv' := [(3, .int 0), (2, .int 0), (4, .int 1), (7, .int (-1)), (6, .int (-1)), (5, .int 0), (0, .ref h), (1, .ref ga)]) hx hb dL_areSpeakers_172 rfl hl (by decide) rfl (fun ls hl => ?_)
  refine lv_iinc (v := 1) (lv' := [(5, .int 1), (3, .int 0), (2, .int 0), (4, .int 1), (7, .int (-1)), (6, .int (-1)), (0, .ref h), (1, .ref ga)]) hx hb dL_areSpeakers_173 hl (k := 5) rfl (by decide) (by decide) rfl (fun ls hl => ?_)
  refine lv_goto (tgt := 10) hx hb dL_areSpeakers_176 (by decide) ?_
  refine lv_iload hx hb dL_areSpeakers_10 (lv_at hl 0 rfl) ?_
  refine lv_bipush (v := 8) hx hb dL_areSpeakers_12 (by decide) ?_
  refine lv_icmp_ge (tgt := 179) hx hb dL_areSpeakers_14 (by decide) (fun c9 => False.elim (by revert c9; decide)) (fun _ => ?_)
  refine lv_iload hx hb dL_areSpeakers_17 (lv_at hl 3 rfl) ?_
  refine lv_if_eq (tgt := 179) hx hb dL_areSpeakers_19 (by decide) (fun c9 => False.elim (by revert c9; decide)) (fun _ => ?_)
  refine lv_aload_n hx hb dL_areSpeakers_22 rfl (lv_at hl 6 rfl) ?_
  refine lv_iload hx hb dL_areSpeakers_23 (lv_at hl 0 rfl) ?_
  refine vp_callSi (W.runV (As := [.int 1]) (rest := []) ⟨hx, hb, hml, hown, hts⟩ (c_X0_speaker l D cI cZ cJ h a0 a1 a2 a3 a4 a5 a6 a7 a8 a9 a10 z0 z0 z0 z0 zf4 zf5 z0 z0 z0 z0 z0 0 0 0 0 1 (by decide +kernel)) (cwV 1 hts gL_areSpeakers_X0_speaker rfl rfl rfl (by decide +kernel) ⟨Nat.le_of_ble_eq_true rfl, Nat.le_of_ble_eq_true rfl⟩) ⟨zP_blind, va_recv hK hP (ci := 0) (q0 := 0) rfl rfl, fun U hU hW => ⟨rfl, zP_mk (hP.sub (ws' := w0 cI cZ h a0 a1 a2 a3 a4 a5 a6 a7 a8 a9 a10) [0, 1, 2, 3, 4, 5, 6, 7, 8, 9, 10, 11] rfl) hK hU hW⟩⟩ rfl rfl hl.1 rfl (lv_room (Nat.le_of_ble_eq_true rfl)) dL_areSpeakers_25 ⟨Nat.le_of_ble_eq_true rfl, Nat.le_of_ble_eq_true rfl⟩) (fun r18 w18 => ?_)
  have w18 : r18 = (-1) := w18.trans (by decide +kernel)
  subst w18
  refine lv_istore (lv' := [(6, .int (-1)), (5, .int 1), (3, .int 0), (2, .int 0), (4, .int 1), (7, .int (-1)), (0, .ref h), (1, .ref ga)]) hx hb dL_areSpeakers_28 hl (by decide) rfl (fun ls hl => ?_)
  refine lv_aload_n hx hb dL_areSpeakers_30 rfl (lv_at hl 7 rfl) ?_
  refine lv_iload hx hb dL_areSpeakers_31 (lv_at hl 1 rfl) ?_
  refine va_iald (D := D) hx hb hK hP 12 0 rfl rfl (vp_in_iff.mpr (by decide +kernel)) dL_areSpeakers_33 ?_
  refine lv_topi (fun y19 hy19 => ?_)
  have hy19 : y19 = (-1) := hy19.trans (by decide +kernel)
  subst hy19
  refine lv_istore (lv' := [(7, .int (-1)), (6, .int (-1)), (5, .int 1), (3, .int 0), (2, .int 0), (4, .int 1), (0, .ref h), (1, .ref ga)]) hx hb dL_areSpeakers_34 hl (by decide) rfl (fun ls hl => ?_)
  refine lv_aload_n hx hb dL_areSpeakers_36 rfl (lv_at hl 7 rfl) ?_
  refine lv_bipush (v := 16) hx hb dL_areSpeakers_37 (by decide) ?_
  refine lv_iload hx hb dL_areSpeakers_39 (lv_at hl 2 rfl) ?_
  refine lv_iadd hx hb dL_areSpeakers_41 ?_
  refine lv_topi (fun y20 hy20 => ?_)
  have hy20 : y20 = 17 := hy20.trans (by decide +kernel)
  subst hy20
  refine va_iald (D := D) hx hb hK hP 12 0 rfl rfl (vp_in_iff.mpr (by decide +kernel)) dL_areSpeakers_42 ?_
  refine lv_topi (fun y21 hy21 => ?_)
  have hy21 : y21 = 0 := hy21.trans (by decide +kernel)
  subst hy21
  refine lv_if_le (tgt := 61) hx hb dL_areSpeakers_43 (by decide) (fun _ => ?_) (fun c9 => False.elim (by revert c9; decide))
  refine lv_iload hx hb dL_areSpeakers_61 (lv_at hl 1 rfl) ?_
  refine lv_iload hx hb dL_areSpeakers_63 (lv_at hl 0 rfl) ?_
  refine lv_if_ge (tgt := 72) hx hb dL_areSpeakers_65 (by decide) (fun c9 => False.elim (by revert c9; decide)) (fun _ => ?_)
  refine lv_iconst (v := (-1)) hx hb dL_areSpeakers_68 (by decide) ?_
  refine lv_goto (tgt := 78) hx hb dL_areSpeakers_69 (by decide) ?_
  refine lv_icmp_ne (tgt := 85) hx hb dL_areSpeakers_78 (by decide) (fun c9 => False.elim (by revert c9; decide)) (fun _ => ?_)
  refine lv_iconst (v := 1) hx hb dL_areSpeakers_81 (by decide) ?_
  refine lv_goto (tgt := 86) hx hb dL_areSpeakers_82 (by decide) ?_
  refine lv_istore (lv' := [(4, .int 1), (7, .int (-1)), (6, .int (-1)), (5, .int 1), (3, .int 0), (2, .int 0), (0, .ref h), (1, .ref ga)]) hx hb dL_areSpeakers_86 hl (by decide) rfl (fun ls hl => ?_)
  refine lv_iload hx hb dL_areSpeakers_88 (lv_at hl 0 rfl) ?_
  refine lv_if_eq (tgt := 112) hx hb dL_areSpeakers_90 (by decide) (fun c9 => False.elim (by revert c9; decide)) (fun _ => ?_)
  refine lv_iload hx hb dL_areSpeakers_93 (lv_at hl 2 rfl) ?_
  refine lv_if_lt (tgt := 108) hx hb dL_areSpeakers_95 (by decide) (fun _ => ?_) (fun c9 => False.elim (by revert c9; decide))
  refine lv_iconst (v := 1) hx hb dL_areSpeakers_108 (by decide) ?_
  refine lv_goto (tgt := 113) hx hb dL_areSpeakers_109 (by decide) ?_
  refine lv_istore (lv' := [(4, .int 1), (7, .int (-1)), (6, .int (-1)), (5, .int 1), (3, .int 0), (2, .int 0), (0, .ref h), (1, .ref ga)]) hx hb dL_areSpeakers_113 hl (by decide) rfl (fun ls hl => ?_)
  refine lv_iload_n hx hb dL_areSpeakers_115 rfl (lv_at hl 5 rfl) ?_
  refine lv_iload hx hb dL_areSpeakers_116 (lv_at hl 2 rfl) ?_
  refine lv_if_lt (tgt := 141) hx hb dL_areSpeakers_118 (by decide) (fun _ => ?_) (fun c9 => False.elim (by revert c9; decide))
  refine lv_iconst (v := 0) hx hb dL_areSpeakers_141 (by decide) ?_
  refine lv_iadd hx hb dL_areSpeakers_142 ?_
  refine lv_topi (fun y28 hy28 => ?_)
  have hy28 : y28 = 0 := hy28.trans (by decide +kernel)
  subst hy28
  refine lv_istore_n (lv' := [(2, .int 0), (4, .int 1), (7, .int (-1)), (6, .int (-1)), (5, .int 1), (3, .int 0), (0, .ref h), (1, .ref ga)]) hx hb dL_areSpeakers_143 rfl hl (by decide) rfl (fun ls hl => ?_)
  refine lv_iload_n hx hb dL_areSpeakers_144 rfl (lv_at hl 5 rfl) ?_
  refine lv_iload hx hb dL_areSpeakers_145 (lv_at hl 3 rfl) ?_
  refine lv_if_lt (tgt := 170) hx hb dL_areSpeakers_147 (by decide) (fun _ => ?_) (fun c9 => False.elim (by revert c9; decide))
  refine lv_iconst (v := 0) hx hb dL_areSpeakers_170 (by decide) ?_
  refine lv_iadd hx hb dL_areSpeakers_171 ?_
  refine lv_topi (fun y30 hy30 => ?_)
  have hy30 : y30 = 0 := hy30.trans (by decide +kernel)
  subst hy30
  refine lv_istore_n (lv' := [(3, .int 0), (2, .int 0), (4, .int 1), (7, .int (-1)), (6, .int (-1)), (5, .int 1), (0, .ref h), (1, .ref ga)]) hx hb dL_areSpeakers_172 rfl hl (by decide) rfl (fun ls hl => ?_)
  refine lv_iinc (v := 2) (lv' := [(5, .int 2), (3, .int 0), (2, .int 0), (4, .int 1), (7, .int (-1)), (6, .int (-1)), (0, .ref h), (1, .ref ga)]) hx hb dL_areSpeakers_173 hl (k := 5) rfl (by decide) (by decide) rfl (fun ls hl => ?_)
  refine lv_goto (tgt := 10) hx hb dL_areSpeakers_176 (by decide) ?_
  refine lv_iload hx hb dL_areSpeakers_10 (lv_at hl 0 rfl) ?_
  refine lv_bipush (v := 8) hx hb dL_areSpeakers_12 (by decide) ?_
  refine lv_icmp_ge (tgt := 179) hx hb dL_areSpeakers_14 (by decide) (fun c9 => False.elim (by revert c9; decide)) (fun _ => ?_)
  refine lv_iload hx hb dL_areSpeakers_17 (lv_at hl 3 rfl) ?_
  refine lv_if_eq (tgt := 179) hx hb dL_areSpeakers_19 (by decide) (fun c9 => False.elim (by revert c9; decide)) (fun _ => ?_)
  refine lv_aload_n hx hb dL_areSpeakers_22 rfl (lv_at hl 6 rfl) ?_
  refine lv_iload hx hb dL_areSpeakers_23 (lv_at hl 0 rfl) ?_
  refine vp_callSi (W.runV (As := [.int 2]) (rest := []) ⟨hx, hb, hml, hown, hts⟩ (c_X0_speaker l D cI cZ cJ h a0 a1 a2 a3 a4 a5 a6 a7 a8 a9 a10 z0 z0 z0 z0 zf4 zf5 z0 z0 z0 z0 z0 0 0 0 0 2 (by decide +kernel)) (cwV 1 hts gL_areSpeakers_X0_speaker rfl rfl rfl (by decide +kernel) ⟨Nat.le_of_ble_eq_true rfl, Nat.le_of_ble_eq_true rfl⟩) ⟨zP_blind, va_recv hK hP (ci := 0) (q0 := 0) rfl rfl, fun U hU hW => ⟨rfl, zP_mk (hP.sub (ws' := w0 cI cZ h a0 a1 a2 a3 a4 a5 a6 a7 a8 a9 a10) [0, 1, 2, 3, 4, 5, 6, 7, 8, 9, 10, 11] rfl) hK hU hW⟩⟩ rfl rfl hl.1 rfl (lv_room (Nat.le_of_ble_eq_true rfl)) dL_areSpeakers_25 ⟨Nat.le_of_ble_eq_true rfl, Nat.le_of_ble_eq_true rfl⟩) (fun r33 w33 => ?_)
  have w33 : r33 = (-1) := w33.trans (by decide +kernel)
  subst w33
  refine lv_istore (lv' := [(6, .int (-1)), (5, .int 2), (3, .int 0), (2, .int 0), (4, .int 1), (7, .int (-1)), (0, .ref h), (1, .ref ga)]) hx hb dL_areSpeakers_28 hl (by decide) rfl (fun ls hl => ?_)
  refine lv_aload_n hx hb dL_areSpeakers_30 rfl (lv_at hl 7 rfl) ?_
  refine lv_iload hx hb dL_areSpeakers_31 (lv_at hl 1 rfl) ?_
  refine va_iald (D := D) hx hb hK hP 12 0 rfl rfl (vp_in_iff.mpr (by decide +kernel)) dL_areSpeakers_33 ?_
  refine lv_topi (fun y34 hy34 => ?_)
  have hy34 : y34 = (-1) := hy34.trans (by decide +kernel)
  subst hy34
  refine lv_istore (lv' := [(7, .int (-1)), (6, .int (-1)), (5, .int 2), (3, .int 0), (2, .int 0), (4, .int 1), (0, .ref h), (1, .ref ga)]) hx hb dL_areSpeakers_34 hl (by decide) rfl (fun ls hl => ?_)
  refine lv_aload_n hx hb dL_areSpeakers_36 rfl (lv_at hl 7 rfl) ?_
  refine lv_bipush (v := 16) hx hb dL_areSpeakers_37 (by decide) ?_
  refine lv_iload hx hb dL_areSpeakers_39 (lv_at hl 2 rfl) ?_
  refine lv_iadd hx hb dL_areSpeakers_41 ?_
  refine lv_topi (fun y35 hy35 => ?_)
  have hy35 : y35 = 18 := hy35.trans (by decide +kernel)
  subst hy35
  refine va_iald (D := D) hx hb hK hP 12 0 rfl rfl (vp_in_iff.mpr (by decide +kernel)) dL_areSpeakers_42 ?_
  refine lv_topi (fun y36 hy36 => ?_)
  have hy36 : y36 = 0 := hy36.trans (by decide +kernel)
  subst hy36
  refine lv_if_le (tgt := 61) hx hb dL_areSpeakers_43 (by decide) (fun _ => ?_) (fun c9 => False.elim (by revert c9; decide))
  refine lv_iload hx hb dL_areSpeakers_61 (lv_at hl 1 rfl) ?_
  refine lv_iload hx hb dL_areSpeakers_63 (lv_at hl 0 rfl) ?_
  refine lv_if_ge (tgt := 72) hx hb dL_areSpeakers_65 (by decide) (fun c9 => False.elim (by revert c9; decide)) (fun _ => ?_)
  refine lv_iconst (v := (-1)) hx hb dL_areSpeakers_68 (by decide) ?_
  refine lv_goto (tgt := 78) hx hb dL_areSpeakers_69 (by decide) ?_
  refine lv_icmp_ne (tgt := 85) hx hb dL_areSpeakers_78 (by decide) (fun c9 => False.elim (by revert c9; decide)) (fun _ => ?_)
  refine lv_iconst (v := 1) hx hb dL_areSpeakers_81 (by decide) ?_
  refine lv_goto (tgt := 86) hx hb dL_areSpeakers_82 (by decide) ?_
  refine lv_istore (lv' := [(4, .int 1), (7, .int (-1)), (6, .int (-1)), (5, .int 2), (3, .int 0), (2, .int 0), (0, .ref h), (1, .ref ga)]) hx hb dL_areSpeakers_86 hl (by decide) rfl (fun ls hl => ?_)
  refine lv_iload hx hb dL_areSpeakers_88 (lv_at hl 0 rfl) ?_
  refine lv_if_eq (tgt := 112) hx hb dL_areSpeakers_90 (by decide) (fun c9 => False.elim (by revert c9; decide)) (fun _ => ?_)
  refine lv_iload hx hb dL_areSpeakers_93 (lv_at hl 2 rfl) ?_
  refine lv_if_lt (tgt := 108) hx hb dL_areSpeakers_95 (by decide) (fun _ => ?_) (fun c9 => False.elim (by revert c9; decide))
  refine lv_iconst (v := 1) hx hb dL_areSpeakers_108 (by decide) ?_
  refine lv_goto (tgt := 113) hx hb dL_areSpeakers_109 (by decide) ?_
  refine lv_istore (lv' := [(4, .int 1), (7, .int (-1)), (6, .int (-1)), (5, .int 2), (3, .int 0), (2, .int 0), (0, .ref h), (1, .ref ga)]) hx hb dL_areSpeakers_113 hl (by decide) rfl (fun ls hl => ?_)
  refine lv_iload_n hx hb dL_areSpeakers_115 rfl (lv_at hl 5 rfl) ?_
  refine lv_iload hx hb dL_areSpeakers_116 (lv_at hl 2 rfl) ?_
  refine lv_if_lt (tgt := 141) hx hb dL_areSpeakers_118 (by decide) (fun _ => ?_) (fun c9 => False.elim (by revert c9; decide))
  refine lv_iconst (v := 0) hx hb dL_areSpeakers_141 (by decide) ?_
  refine lv_iadd hx hb dL_areSpeakers_142 ?_
  refine lv_topi (fun y43 hy43 => ?_)
  have hy43 : y43 = 0 := hy43.trans (by decide +kernel)
  subst hy43
  refine lv_istore_n (lv' := [(2, .int 0), (4, .int 1), (7, .int (-1)), (6, .int (-1)), (5, .int 2), (3, .int 0), (0, .ref h), (1, .ref ga)]) hx hb dL_areSpeakers_143 rfl hl (by decide) rfl (fun ls hl => ?_)
  refine lv_iload_n hx hb dL_areSpeakers_144 rfl (lv_at hl 5 rfl) ?_
  refine lv_iload hx hb dL_areSpeakers_145 (lv_at hl 3 rfl) ?_
  refine lv_if_lt (tgt := 170) hx hb dL_areSpeakers_147 (by decide) (fun _ => ?_) (fun c9 => False.elim (by revert c9; decide))
  refine lv_iconst (v := 0) hx hb dL_areSpeakers_170 (by decide) ?_
  refine lv_iadd hx hb dL_areSpeakers_171 ?_
  refine lv_topi (fun y45 hy45 => ?_)
  have hy45 : y45 = 0 := hy45.trans (by decide +kernel)
  subst hy45
  refine lv_istore_n (lv' := [(3, .int 0), (2, .int 0), (4, .int 1), (7, .int (-1)), (6, .int (-1)), (5, .int 2), (0, .ref h), (1, .ref ga)]) hx hb dL_areSpeakers_172 rfl hl (by decide) rfl (fun ls hl => ?_)
  refine lv_iinc (v := 3) (lv' := [(5, .int 3), (3, .int 0), (2, .int 0), (4, .int 1), (7, .int (-1)), (6, .int (-1)), (0, .ref h), (1, .ref ga)]) hx hb dL_areSpeakers_173 hl (k := 5) rfl (by decide) (by decide) rfl (fun ls hl => ?_)
  refine lv_goto (tgt := 10) hx hb dL_areSpeakers_176 (by decide) ?_
  refine lv_iload hx hb dL_areSpeakers_10 (lv_at hl 0 rfl) ?_
  refine lv_bipush (v := 8) hx hb dL_areSpeakers_12 (by decide) ?_
  refine lv_icmp_ge (tgt := 179) hx hb dL_areSpeakers_14 (by decide) (fun c9 => False.elim (by revert c9; decide)) (fun _ => ?_)
  refine lv_iload hx hb dL_areSpeakers_17 (lv_at hl 3 rfl) ?_
  refine lv_if_eq (tgt := 179) hx hb dL_areSpeakers_19 (by decide) (fun c9 => False.elim (by revert c9; decide)) (fun _ => ?_)
  refine lv_aload_n hx hb dL_areSpeakers_22 rfl (lv_at hl 6 rfl) ?_
  refine lv_iload hx hb dL_areSpeakers_23 (lv_at hl 0 rfl) ?_
  refine vp_callSi (W.runV (As := [.int 3]) (rest := []) ⟨hx, hb, hml, hown, hts⟩ (c_X0_speaker l D cI cZ cJ h a0 a1 a2 a3 a4 a5 a6 a7 a8 a9 a10 z0 z0 z0 z0 zf4 zf5 z0 z0 z0 z0 z0 0 0 0 0 3 (by decide +kernel)) (cwV 1 hts gL_areSpeakers_X0_speaker rfl rfl rfl (by decide +kernel) ⟨Nat.le_of_ble_eq_true rfl, Nat.le_of_ble_eq_true rfl⟩) ⟨zP_blind, va_recv hK hP (ci := 0) (q0 := 0) rfl rfl, fun U hU hW => ⟨rfl, zP_mk (hP.sub (ws' := w0 cI cZ h a0 a1 a2 a3 a4 a5 a6 a7 a8 a9 a10) [0, 1, 2, 3, 4, 5, 6, 7, 8, 9, 10, 11] rfl) hK hU hW⟩⟩ rfl rfl hl.1 rfl (lv_room (Nat.le_of_ble_eq_true rfl)) dL_areSpeakers_25 ⟨Nat.le_of_ble_eq_true rfl, Nat.le_of_ble_eq_true rfl⟩) (fun r48 w48 => ?_)
  have w48 : r48 = (-1) := w48.trans (by decide +kernel)
  subst w48
  refine lv_istore (lv' := [(6, .int (-1)), (5, .int 3), (3, .int 0), (2, .int 0), (4, .int 1), (7, .int (-1)), (0, .ref h), (1, .ref ga)]) hx hb dL_areSpeakers_28 hl (by decide) rfl (fun ls hl => ?_)
  refine lv_aload_n hx hb dL_areSpeakers_30 rfl (lv_at hl 7 rfl) ?_
  refine lv_iload hx hb dL_areSpeakers_31 (lv_at hl 1 rfl) ?_
  refine va_iald (D := D) hx hb hK hP 12 0 rfl rfl (vp_in_iff.mpr (by decide +kernel)) dL_areSpeakers_33 ?_
  refine lv_topi (fun y49 hy49 => ?_)
  have hy49 : y49 = (-1) := hy49.trans (by decide +kernel)
  subst hy49
  refine lv_istore (lv' := [(7, .int (-1)), (6, .int (-1)), (5, .int 3), (3, .int 0), (2, .int 0), (4, .int 1), (0, .ref h), (1, .ref ga)]) hx hb dL_areSpeakers_34 hl (by decide) rfl (fun ls hl => ?_)
  refine lv_aload_n hx hb dL_areSpeakers_36 rfl (lv_at hl 7 rfl) ?_
  refine lv_bipush (v := 16) hx hb dL_areSpeakers_37 (by decide) ?_
  refine lv_iload hx hb dL_areSpeakers_39 (lv_at hl 2 rfl) ?_
  refine lv_iadd hx hb dL_areSpeakers_41 ?_
  refine lv_topi (fun y50 hy50 => ?_)
  have hy50 : y50 = 19 := hy50.trans (by decide +kernel)
  subst hy50
  refine va_iald (D := D) hx hb hK hP 12 0 rfl rfl (vp_in_iff.mpr (by decide +kernel)) dL_areSpeakers_42 ?_
  refine lv_topi (fun y51 hy51 => ?_)
  have hy51 : y51 = 0 := hy51.trans (by decide +kernel)
  subst hy51
  refine lv_if_le (tgt := 61) hx hb dL_areSpeakers_43 (by decide) (fun _ => ?_) (fun c9 => False.elim (by revert c9; decide))
  refine lv_iload hx hb dL_areSpeakers_61 (lv_at hl 1 rfl) ?_
  refine lv_iload hx hb dL_areSpeakers_63 (lv_at hl 0 rfl) ?_
  refine lv_if_ge (tgt := 72) hx hb dL_areSpeakers_65 (by decide) (fun c9 => False.elim (by revert c9; decide)) (fun _ => ?_)
  refine lv_iconst (v := (-1)) hx hb dL_areSpeakers_68 (by decide) ?_
  refine lv_goto (tgt := 78) hx hb dL_areSpeakers_69 (by decide) ?_
  refine lv_icmp_ne (tgt := 85) hx hb dL_areSpeakers_78 (by decide) (fun c9 => False.elim (by revert c9; decide)) (fun _ => ?_)
  refine lv_iconst (v := 1) hx hb dL_areSpeakers_81 (by decide) ?_
  refine lv_goto (tgt := 86) hx hb dL_areSpeakers_82 (by decide) ?_
  refine lv_istore (lv' := [(4, .int 1), (7, .int (-1)), (6, .int (-1)), (5, .int 3), (3, .int 0), (2, .int 0), (0, .ref h), (1, .ref ga)]) hx hb dL_areSpeakers_86 hl (by decide) rfl (fun ls hl => ?_)
  refine lv_iload hx hb dL_areSpeakers_88 (lv_at hl 0 rfl) ?_
  refine lv_if_eq (tgt := 112) hx hb dL_areSpeakers_90 (by decide) (fun c9 => False.elim (by revert c9; decide)) (fun _ => ?_)
  refine lv_iload hx hb dL_areSpeakers_93 (lv_at hl 2 rfl) ?_
  refine lv_if_lt (tgt := 108) hx hb dL_areSpeakers_95 (by decide) (fun _ => ?_) (fun c9 => False.elim (by revert c9; decide))
  refine lv_iconst (v := 1) hx hb dL_areSpeakers_108 (by decide) ?_
  refine lv_goto (tgt := 113) hx hb dL_areSpeakers_109 (by decide) ?_
  refine lv_istore (lv' := [(4, .int 1), (7, .int (-1)), (6, .int (-1)), (5, .int 3), (3, .int 0), (2, .int 0), (0, .ref h), (1, .ref ga)]) hx hb dL_areSpeakers_113 hl (by decide) rfl (fun ls hl => ?_)
  refine lv_iload_n hx hb dL_areSpeakers_115 rfl (lv_at hl 5 rfl) ?_
  refine lv_iload hx hb dL_areSpeakers_116 (lv_at hl 2 rfl) ?_
  refine lv_if_lt (tgt := 141) hx hb dL_areSpeakers_118 (by decide) (fun _ => ?_) (fun c9 => False.elim (by revert c9; decide))
  refine lv_iconst (v := 0) hx hb dL_areSpeakers_141 (by decide) ?_
  refine lv_iadd hx hb dL_areSpeakers_142 ?_
  refine lv_topi (fun y58 hy58 => ?_)
  have hy58 : y58 = 0 := hy58.trans (by decide +kernel)
  subst hy58
  refine lv_istore_n (lv' := [(2, .int 0), (4, .int 1), (7, .int (-1)), (6, .int (-1)), (5, .int 3), (3, .int 0), (0, .ref h), (1, .ref ga)]) hx hb dL_areSpeakers_143 rfl hl (by decide) rfl (fun ls hl => ?_)
  refine lv_iload_n hx hb dL_areSpeakers_144 rfl (lv_at hl 5 rfl) ?_
  refine lv_iload hx hb dL_areSpeakers_145 (lv_at hl 3 rfl) ?_
  refine lv_if_lt (tgt := 170) hx hb dL_areSpeakers_147 (by decide) (fun _ => ?_) (fun c9 => False.elim (by revert c9; decide))
  refine lv_iconst (v := 0) hx hb dL_areSpeakers_170 (by decide) ?_
  refine lv_iadd hx hb dL_areSpeakers_171 ?_
  refine lv_topi (fun y60 hy60 => ?_)
  have hy60 : y60 = 0 := hy60.trans (by decide +kernel)
  subst hy60
  refine lv_istore_n (lv' := [(3, .int 0), (2, .int 0), (4, .int 1), (7, .int (-1)), (6, .int (-1)), (5, .int 3), (0, .ref h), (1, .ref ga)]) hx hb dL_areSpeakers_172 rfl hl (by decide) rfl (fun ls hl => ?_)
  refine lv_iinc (v := 4) (lv' := [(5, .int 4), (3, .int 0), (2, .int 0), (4, .int 1), (7, .int (-1)), (6, .int (-1)), (0, .ref h), (1, .ref ga)]) hx hb dL_areSpeakers_173 hl (k := 5) rfl (by decide) (by decide) rfl (fun ls hl => ?_)
  refine lv_goto (tgt := 10) hx hb dL_areSpeakers_176 (by decide) ?_
  refine lv_iload hx hb dL_areSpeakers_10 (lv_at hl 0 rfl) ?_
  refine lv_bipush (v := 8) hx hb dL_areSpeakers_12 (by decide) ?_
  refine lv_icmp_ge (tgt := 179) hx hb dL_areSpeakers_14 (by decide) (fun c9 => False.elim (by revert c9; decide)) (fun _ => ?_)
  refine lv_iload hx hb dL_areSpeakers_17 (lv_at hl 3 rfl) ?_
  refine lv_if_eq (tgt := 179) hx hb dL_areSpeakers_19 (by decide) (fun c9 => False.elim (by revert c9; decide)) (fun _ => ?_)
  refine lv_aload_n hx hb dL_areSpeakers_22 rfl (lv_at hl 6 rfl) ?_
  refine lv_iload hx hb dL_areSpeakers_23 (lv_at hl 0 rfl) ?_
  refine vp_callSi (W.runV (As := [.int 4]) (rest := []) ⟨hx, hb, hml, hown, hts⟩ (c_X0_speaker l D cI cZ cJ h a0 a1 a2 a3 a4 a5 a6 a7 a8 a9 a10 z0 z0 z0 z0 zf4 zf5 z0 z0 z0 z0 z0 0 0 0 0 4 (by decide +kernel)) (cwV 1 hts gL_areSpeakers_X0_speaker rfl rfl rfl (by decide +kernel) ⟨Nat.le_of_ble_eq_true rfl, Nat.le_of_ble_eq_true rfl⟩) ⟨zP_blind, va_recv hK hP (ci := 0) (q0 := 0) rfl rfl, fun U hU hW => ⟨rfl, zP_mk (hP.sub (ws' := w0 cI cZ h a0 a1 a2 a3 a4 a5 a6 a7 a8 a9 a10) [0, 1, 2, 3, 4, 5, 6, 7, 8, 9, 10, 11] rfl) hK hU hW⟩⟩ rfl rfl hl.1 rfl (lv_room (Nat.le_of_ble_eq_true rfl)) dL_areSpeakers_25 ⟨Nat.le_of_ble_eq_true rfl, Nat.le_of_ble_eq_true rfl⟩) (fun r63 w63 => ?_)
  have w63 : r63 = (-1) := w63.trans (by decide +kernel)
  subst w63
  refine lv_istore (lv' := [(6, .int (-1)), (5, .int 4), (3, .int 0), (2, .int 0), (4, .int 1), (7, .int (-1)), (0, .ref h), (1, .ref ga)]) hx hb dL_areSpeakers_28 hl (by decide) rfl (fun ls hl => ?_)
  refine lv_aload_n hx hb dL_areSpeakers_30 rfl (lv_at hl 7 rfl) ?_
  refine lv_iload hx hb dL_areSpeakers_31 (lv_at hl 1 rfl) ?_
  refine va_iald (D := D) hx hb hK hP 12 0 rfl rfl (vp_in_iff.mpr (by decide +kernel)) dL_areSpeakers_33 ?_
  refine lv_topi (fun y64 hy64 => ?_)
  have hy64 : y64 = (-1) := hy64.trans (by decide +kernel)
  subst hy64
  refine lv_istore (lv' := [(7, .int (-1)), (6, .int (-1)), (5, .int 4), (3, .int 0), (2, .int 0), (4, .int 1), (0, .ref h), (1, .ref ga)]) hx hb dL_areSpeakers_34 hl (by decide) rfl (fun ls hl => ?_)
  refine lv_aload_n hx hb dL_areSpeakers_36 rfl (lv_at hl 7 rfl) ?_
  refine lv_bipush (v := 16) hx hb dL_areSpeakers_37 (by decide) ?_
  refine lv_iload hx hb dL_areSpeakers_39 (lv_at hl 2 rfl) ?_
  refine lv_iadd hx hb dL_areSpeakers_41 ?_
  refine lv_topi (fun y65 hy65 => ?_)
  have hy65 : y65 = 20 := hy65.trans (by decide +kernel)
  subst hy65
  refine va_iald (D := D) hx hb hK hP 12 0 rfl rfl (vp_in_iff.mpr (by decide +kernel)) dL_areSpeakers_42 ?_
  refine lv_topi (fun y66 hy66 => ?_)
  have hy66 : y66 = 0 := hy66.trans (by decide +kernel)
  subst hy66
  refine lv_if_le (tgt := 61) hx hb dL_areSpeakers_43 (by decide) (fun _ => ?_) (fun c9 => False.elim (by revert c9; decide))
  refine lv_iload hx hb dL_areSpeakers_61 (lv_at hl 1 rfl) ?_
  refine lv_iload hx hb dL_areSpeakers_63 (lv_at hl 0 rfl) ?_
  refine lv_if_ge (tgt := 72) hx hb dL_areSpeakers_65 (by decide) (fun c9 => False.elim (by revert c9; decide)) (fun _ => ?_)
  refine lv_iconst (v := (-1)) hx hb dL_areSpeakers_68 (by decide) ?_
  refine lv_goto (tgt := 78) hx hb dL_areSpeakers_69 (by decide) ?_
  refine lv_icmp_ne (tgt := 85) hx hb dL_areSpeakers_78 (by decide) (fun c9 => False.elim (by revert c9; decide)) (fun _ => ?_)
  refine lv_iconst (v := 1) hx hb dL_areSpeakers_81 (by decide) ?_
  refine lv_goto (tgt := 86) hx hb dL_areSpeakers_82 (by decide) ?_
  refine lv_istore (lv' := [(4, .int 1), (7, .int (-1)), (6, .int (-1)), (5, .int 4), (3, .int 0), (2, .int 0), (0, .ref h), (1, .ref ga)]) hx hb dL_areSpeakers_86 hl (by decide) rfl (fun ls hl => ?_)
  refine lv_iload hx hb dL_areSpeakers_88 (lv_at hl 0 rfl) ?_
  refine lv_if_eq (tgt := 112) hx hb dL_areSpeakers_90 (by decide) (fun c9 => False.elim (by revert c9; decide)) (fun _ => ?_)
  refine lv_iload hx hb dL_areSpeakers_93 (lv_at hl 2 rfl) ?_
  refine lv_if_lt (tgt := 108) hx hb dL_areSpeakers_95 (by decide) (fun _ => ?_) (fun c9 => False.elim (by revert c9; decide))
  refine lv_iconst (v := 1) hx hb dL_areSpeakers_108 (by decide) ?_
  refine lv_goto (tgt := 113) hx hb dL_areSpeakers_109 (by decide) ?_
  refine lv_istore (lv' := [(4, .int 1), (7, .int (-1)), (6, .int (-1)), (5, .int 4), (3, .int 0), (2, .int 0), (0, .ref h), (1, .ref ga)]) hx hb dL_areSpeakers_113 hl (by decide) rfl (fun ls hl => ?_)
  refine lv_iload_n hx hb dL_areSpeakers_115 rfl (lv_at hl 5 rfl) ?_
  refine lv_iload hx hb dL_areSpeakers_116 (lv_at hl 2 rfl) ?_
  refine lv_if_lt (tgt := 141) hx hb dL_areSpeakers_118 (by decide) (fun _ => ?_) (fun c9 => False.elim (by revert c9; decide))
  refine lv_iconst (v := 0) hx hb dL_areSpeakers_141 (by decide) ?_
  refine lv_iadd hx hb dL_areSpeakers_142 ?_
  refine lv_topi (fun y73 hy73 => ?_)
  have hy73 : y73 = 0 := hy73.trans (by decide +kernel)
  subst hy73
  refine lv_istore_n (lv' := [(2, .int 0), (4, .int 1), (7, .int (-1)), (6, .int (-1)), (5, .int 4), (3, .int 0), (0, .ref h), (1, .ref ga)]) hx hb dL_areSpeakers_143 rfl hl (by decide) rfl (fun ls hl => ?_)
  refine lv_iload_n hx hb dL_areSpeakers_144 rfl (lv_at hl 5 rfl) ?_
  refine lv_iload hx hb dL_areSpeakers_145 (lv_at hl 3 rfl) ?_
  refine lv_if_lt (tgt := 170) hx hb dL_areSpeakers_147 (by decide) (fun _ => ?_) (fun c9 => False.elim (by revert c9; decide))
  refine lv_iconst (v := 0) hx hb dL_areSpeakers_170 (by decide) ?_
  refine lv_iadd hx hb dL_areSpeakers_171 ?_
  refine lv_topi (fun y75 hy75 => ?_)
  have hy75 : y75 = 0 := hy75.trans (by decide +kernel)
  subst hy75
  refine lv_istore_n (lv' := [(3, .int 0), (2, .int 0), (4, .int 1), (7, .int (-1)), (6, .int (-1)), (5, .int 4), (0, .ref h), (1, .ref ga)]) hx hb dL_areSpeakers_172 rfl hl (by decide) rfl (fun ls hl => ?_)
  refine lv_iinc (v := 5) (lv' := [(5, .int 5), (3, .int 0), (2, .int 0), (4, .int 1), (7, .int (-1)), (6, .int (-1)), (0, .ref h), (1, .ref ga)]) hx hb dL_areSpeakers_173 hl (k := 5) rfl (by decide) (by decide) rfl (fun ls hl => ?_)
  refine lv_goto (tgt := 10) hx hb dL_areSpeakers_176 (by decide) ?_
  refine lv_iload hx hb dL_areSpeakers_10 (lv_at hl 0 rfl) ?_
  refine lv_bipush (v := 8) hx hb dL_areSpeakers_12 (by decide) ?_
  refine lv_icmp_ge (tgt := 179) hx hb dL_areSpeakers_14 (by decide) (fun c9 => False.elim (by revert c9; decide)) (fun _ => ?_)
  refine lv_iload hx hb dL_areSpeakers_17 (lv_at hl 3 rfl) ?_
  refine lv_if_eq (tgt := 179) hx hb dL_areSpeakers_19 (by decide) (fun c9 => False.elim (by revert c9; decide)) (fun _ => ?_)
  refine lv_aload_n hx hb dL_areSpeakers_22 rfl (lv_at hl 6 rfl) ?_
  refine lv_iload hx hb dL_areSpeakers_23 (lv_at hl 0 rfl) ?_
  refine vp_callSi (W.runV (As := [.int 5]) (rest := []) ⟨hx, hb, hml, hown, hts⟩ (c_X0_speaker l D cI cZ cJ h a0 a1 a2 a3 a4 a5 a6 a7 a8 a9 a10 z0 z0 z0 z0 zf4 zf5 z0 z0 z0 z0 z0 0 0 0 0 5 (by decide +kernel)) (cwV 1 hts gL_areSpeakers_X0_speaker rfl rfl rfl (by decide +kernel) ⟨Nat.le_of_ble_eq_true rfl, Nat.le_of_ble_eq_true rfl⟩) ⟨zP_blind, va_recv hK hP (ci := 0) (q0 := 0) rfl rfl, fun U hU hW => ⟨rfl, zP_mk (hP.sub (ws' := w0 cI cZ h a0 a1 a2 a3 a4 a5 a6 a7 a8 a9 a10) [0, 1, 2, 3, 4, 5, 6, 7, 8, 9, 10, 11] rfl) hK hU hW⟩⟩ rfl rfl hl.1 rfl (lv_room (Nat.le_of_ble_eq_true rfl)) dL_areSpeakers_25 ⟨Nat.le_of_ble_eq_true rfl, Nat.le_of_ble_eq_true rfl⟩) (fun r78 w78 => ?_)
  have w78 : r78 = (-1) := w78.trans (by decide +kernel)
  subst w78
  refine lv_istore (lv' := [(6, .int (-1)), (5, .int 5), (3, .int 0), (2, .int 0), (4, .int 1), (7, .int (-1)), (0, .ref h), (1, .ref ga)]) hx hb dL_areSpeakers_28 hl (by decide) rfl (fun ls hl => ?_)
  refine lv_aload_n hx hb dL_areSpeakers_30 rfl (lv_at hl 7 rfl) ?_
  refine lv_iload hx hb dL_areSpeakers_31 (lv_at hl 1 rfl) ?_
  refine va_iald (D := D) hx hb hK hP 12 0 rfl rfl (vp_in_iff.mpr (by decide +kernel)) dL_areSpeakers_33 ?_
  refine lv_topi (fun y79 hy79 => ?_)
  have hy79 : y79 = (-1) := hy79.trans (by decide +kernel)
  subst hy79
  refine lv_istore (lv' := [(7, .int (-1)), (6, .int (-1)), (5, .int 5), (3, .int 0), (2, .int 0), (4, .int 1), (0, .ref h), (1, .ref ga)]) hx hb dL_areSpeakers_34 hl (by decide) rfl (fun ls hl => ?_)
  refine lv_aload_n hx hb dL_areSpeakers_36 rfl (lv_at hl 7 rfl) ?_
  refine lv_bipush (v := 16) hx hb dL_areSpeakers_37 (by decide) ?_
  refine lv_iload hx hb dL_areSpeakers_39 (lv_at hl 2 rfl) ?_
  refine lv_iadd hx hb dL_areSpeakers_41 ?_
  refine lv_topi (fun y80 hy80 => ?_)
  have hy80 : y80 = 21 := hy80.trans (by decide +kernel)
  subst hy80
  refine va_iald (D := D) hx hb hK hP 12 0 rfl rfl (vp_in_iff.mpr (by decide +kernel)) dL_areSpeakers_42 ?_
  refine lv_topi (fun y81 hy81 => ?_)
  have hy81 : y81 = 0 := hy81.trans (by decide +kernel)
  subst hy81
  refine lv_if_le (tgt := 61) hx hb dL_areSpeakers_43 (by decide) (fun _ => ?_) (fun c9 => False.elim (by revert c9; decide))
  refine lv_iload hx hb dL_areSpeakers_61 (lv_at hl 1 rfl) ?_
  refine lv_iload hx hb dL_areSpeakers_63 (lv_at hl 0 rfl) ?_
  refine lv_if_ge (tgt := 72) hx hb dL_areSpeakers_65 (by decide) (fun c9 => False.elim (by revert c9; decide)) (fun _ => ?_)
  refine lv_iconst (v := (-1)) hx hb dL_areSpeakers_68 (by decide) ?_
  refine lv_goto (tgt := 78) hx hb dL_areSpeakers_69 (by decide) ?_
  refine lv_icmp_ne (tgt := 85) hx hb dL_areSpeakers_78 (by decide) (fun c9 => False.elim (by revert c9; decide)) (fun _ => ?_)
  refine lv_iconst (v := 1) hx hb dL_areSpeakers_81 (by decide) ?_
  refine lv_goto (tgt := 86) hx hb dL_areSpeakers_82 (by decide) ?_
  refine lv_istore (lv' := [(4, .int 1), (7, .int (-1)), (6, .int (-1)), (5, .int 5), (3, .int 0), (2, .int 0), (0, .ref h), (1, .ref ga)]) hx hb dL_areSpeakers_86 hl (by decide) rfl (fun ls hl => ?_)
  refine lv_iload hx hb dL_areSpeakers_88 (lv_at hl 0 rfl) ?_
  refine lv_if_eq (tgt := 112) hx hb dL_areSpeakers_90 (by decide) (fun c9 => False.elim (by revert c9; decide)) (fun _ => ?_)
  refine lv_iload hx hb dL_areSpeakers_93 (lv_at hl 2 rfl) ?_
  refine lv_if_lt (tgt := 108) hx hb dL_areSpeakers_95 (by decide) (fun _ => ?_) (fun c9 => False.elim (by revert c9; decide))
  refine lv_iconst (v := 1) hx hb dL_areSpeakers_108 (by decide) ?_
  refine lv_goto (tgt := 113) hx hb dL_areSpeakers_109 (by decide) ?_
  refine lv_istore (lv' := [(4, .int 1), (7, .int (-1)), (6, .int (-1)), (5, .int 5), (3, .int 0), (2, .int 0), (0, .ref h), (1, .ref ga)]) hx hb dL_areSpeakers_113 hl (by decide) rfl (fun ls hl => ?_)
  refine lv_iload_n hx hb dL_areSpeakers_115 rfl (lv_at hl 5 rfl) ?_
  refine lv_iload hx hb dL_areSpeakers_116 (lv_at hl 2 rfl) ?_
  refine lv_if_lt (tgt := 141) hx hb dL_areSpeakers_118 (by decide) (fun _ => ?_) (fun c9 => False.elim (by revert c9; decide))
  refine lv_iconst (v := 0) hx hb dL_areSpeakers_141 (by decide) ?_
  refine lv_iadd hx hb dL_areSpeakers_142 ?_
  refine lv_topi (fun y88 hy88 => ?_)
  have hy88 : y88 = 0 := hy88.trans (by decide +kernel)
  subst hy88
  refine lv_istore_n (lv' := [(2, .int 0), (4, .int 1), (7, .int (-1)), (6, .int (-1)), (5, .int 5), (3, .int 0), (0, .ref h), (1, .ref ga)]) hx hb dL_areSpeakers_143 rfl hl (by decide) rfl (fun ls hl => ?_)
  refine lv_iload_n hx hb dL_areSpeakers_144 rfl (lv_at hl 5 rfl) ?_
  refine lv_iload hx hb dL_areSpeakers_145 (lv_at hl 3 rfl) ?_
  refine lv_if_lt (tgt := 170) hx hb dL_areSpeakers_147 (by decide) (fun _ => ?_) (fun c9 => False.elim (by revert c9; decide))
  refine lv_iconst (v := 0) hx hb dL_areSpeakers_170 (by decide) ?_
  refine lv_iadd hx hb dL_areSpeakers_171 ?_
  refine lv_topi (fun y90 hy90 => ?_)
  have hy90 : y90 = 0 := hy90.trans (by decide +kernel)
  subst hy90
  refine lv_istore_n (lv' := [(3, .int 0), (2, .int 0), (4, .int 1), (7, .int (-1)), (6, .int (-1)), (5, .int 5), (0, .ref h), (1, .ref ga)]) hx hb dL_areSpeakers_172 rfl hl (by decide) rfl (fun ls hl => ?_)
  refine lv_iinc (v := 6) (lv' := [(5, .int 6), (3, .int 0), (2, .int 0), (4, .int 1), (7, .int (-1)), (6, .int (-1)), (0, .ref h), (1, .ref ga)]) hx hb dL_areSpeakers_173 hl (k := 5) rfl (by decide) (by decide) rfl (fun ls hl => ?_)
  refine lv_goto (tgt := 10) hx hb dL_areSpeakers_176 (by decide) ?_
  refine lv_iload hx hb dL_areSpeakers_10 (lv_at hl 0 rfl) ?_
  refine lv_bipush (v := 8) hx hb dL_areSpeakers_12 (by decide) ?_
  refine lv_icmp_ge (tgt := 179) hx hb dL_areSpeakers_14 (by decide) (fun c9 => False.elim (by revert c9; decide)) (fun _ => ?_)
  refine lv_iload hx hb dL_areSpeakers_17 (lv_at hl 3 rfl) ?_
  refine lv_if_eq (tgt := 179) hx hb dL_areSpeakers_19 (by decide) (fun c9 => False.elim (by revert c9; decide)) (fun _ => ?_)
  refine lv_aload_n hx hb dL_areSpeakers_22 rfl (lv_at hl 6 rfl) ?_
  refine lv_iload hx hb dL_areSpeakers_23 (lv_at hl 0 rfl) ?_
  refine vp_callSi (W.runV (As := [.int 6]) (rest := []) ⟨hx, hb, hml, hown, hts⟩ (c_X0_speaker l D cI cZ cJ h a0 a1 a2 a3 a4 a5 a6 a7 a8 a9 a10 z0 z0 z0 z0 zf4 zf5 z0 z0 z0 z0 z0 0 0 0 0 6 (by decide +kernel)) (cwV 1 hts gL_areSpeakers_X0_speaker rfl rfl rfl (by decide +kernel) ⟨Nat.le_of_ble_eq_true rfl, Nat.le_of_ble_eq_true rfl⟩) ⟨zP_blind, va_recv hK hP (ci := 0) (q0 := 0) rfl rfl, fun U hU hW => ⟨rfl, zP_mk (hP.sub (ws' := w0 cI cZ h a0 a1 a2 a3 a4 a5 a6 a7 a8 a9 a10) [0, 1, 2, 3, 4, 5, 6, 7, 8, 9, 10, 11] rfl) hK hU hW⟩⟩ rfl rfl hl.1 rfl (lv_room (Nat.le_of_ble_eq_true rfl)) dL_areSpeakers_25 ⟨Nat.le_of_ble_eq_true rfl, Nat.le_of_ble_eq_true rfl⟩) (fun r93 w93 => ?_)
  have w93 : r93 = (-1) := w93.trans (by decide +kernel)
  subst w93
  refine lv_istore (lv' := [(6, .int (-1)), (5, .int 6), (3, .int 0), (2, .int 0), (4, .int 1), (7, .int (-1)), (0, .ref h), (1, .ref ga)]) hx hb dL_areSpeakers_28 hl (by decide) rfl (fun ls hl => ?_)
  refine lv_aload_n hx hb dL_areSpeakers_30 rfl (lv_at hl 7 rfl) ?_
  refine lv_iload hx hb dL_areSpeakers_31 (lv_at hl 1 rfl) ?_
  refine va_iald (D := D) hx hb hK hP 12 0 rfl rfl (vp_in_iff.mpr (by decide +kernel)) dL_areSpeakers_33 ?_
  refine lv_topi (fun y94 hy94 => ?_)
  have hy94 : y94 = (-1) := hy94.trans (by decide +kernel)
  subst hy94
  refine lv_istore (lv' := [(7, .int (-1)), (6, .int (-1)), (5, .int 6), (3, .int 0), (2, .int 0), (4, .int 1), (0, .ref h), (1, .ref ga)]) hx hb dL_areSpeakers_34 hl (by decide) rfl (fun ls hl => ?_)
  refine lv_aload_n hx hb dL_areSpeakers_36 rfl (lv_at hl 7 rfl) ?_
  refine lv_bipush (v := 16) hx hb dL_areSpeakers_37 (by decide) ?_
  refine lv_iload hx hb dL_areSpeakers_39 (lv_at hl 2 rfl) ?_
  refine lv_iadd hx hb dL_areSpeakers_41 ?_
  refine lv_topi (fun y95 hy95 => ?_)
  have hy95 : y95 = 22 := hy95.trans (by decide +kernel)
  subst hy95
  refine va_iald (D := D) hx hb hK hP 12 0 rfl rfl (vp_in_iff.mpr (by decide +kernel)) dL_areSpeakers_42 ?_
  refine lv_topi (fun y96 hy96 => ?_)
  have hy96 : y96 = 0 := hy96.trans (by decide +kernel)
  subst hy96
  refine lv_if_le (tgt := 61) hx hb dL_areSpeakers_43 (by decide) (fun _ => ?_) (fun c9 => False.elim (by revert c9; decide))
  refine lv_iload hx hb dL_areSpeakers_61 (lv_at hl 1 rfl) ?_
  refine lv_iload hx hb dL_areSpeakers_63 (lv_at hl 0 rfl) ?_
  refine lv_if_ge (tgt := 72) hx hb dL_areSpeakers_65 (by decide) (fun c9 => False.elim (by revert c9; decide)) (fun _ => ?_)
  refine lv_iconst (v := (-1)) hx hb dL_areSpeakers_68 (by decide) ?_
  refine lv_goto (tgt := 78) hx hb dL_areSpeakers_69 (by decide) ?_
  refine lv_icmp_ne (tgt := 85) hx hb dL_areSpeakers_78 (by decide) (fun c9 => False.elim (by revert c9; decide)) (fun _ => ?_)
  refine lv_iconst (v := 1) hx hb dL_areSpeakers_81 (by decide) ?_
  refine lv_goto (tgt := 86) hx hb dL_areSpeakers_82 (by decide) ?_
  refine lv_istore (lv' := [(4, .int 1), (7, .int (-1)), (6, .int (-1)), (5, .int 6), (3, .int 0), (2, .int 0), (0, .ref h), (1, .ref ga)]) hx hb dL_areSpeakers_86 hl (by decide) rfl (fun ls hl => ?_)
  refine lv_iload hx hb dL_areSpeakers_88 (lv_at hl 0 rfl) ?_
  refine lv_if_eq (tgt := 112) hx hb dL_areSpeakers_90 (by decide) (fun c9 => False.elim (by revert c9; decide)) (fun _ => ?_)
  refine lv_iload hx hb dL_areSpeakers_93 (lv_at hl 2 rfl) ?_
  refine lv_if_lt (tgt := 108) hx hb dL_areSpeakers_95 (by decide) (fun _ => ?_) (fun c9 => False.elim (by revert c9; decide))
  refine lv_iconst (v := 1) hx hb dL_areSpeakers_108 (by decide) ?_
  refine lv_goto (tgt := 113) hx hb dL_areSpeakers_109 (by decide) ?_
  refine lv_istore (lv' := [(4, .int 1), (7, .int (-1)), (6, .int (-1)), (5, .int 6), (3, .int 0), (2, .int 0), (0, .ref h), (1, .ref ga)]) hx hb dL_areSpeakers_113 hl (by decide) rfl (fun ls hl => ?_)
  refine lv_iload_n hx hb dL_areSpeakers_115 rfl (lv_at hl 5 rfl) ?_
  refine lv_iload hx hb dL_areSpeakers_116 (lv_at hl 2 rfl) ?_
  refine lv_if_lt (tgt := 141) hx hb dL_areSpeakers_118 (by decide) (fun _ => ?_) (fun c9 => False.elim (by revert c9; decide))
  refine lv_iconst (v := 0) hx hb dL_areSpeakers_141 (by decide) ?_
  refine lv_iadd hx hb dL_areSpeakers_142 ?_
  refine lv_topi (fun y103 hy103 => ?_)
  have hy103 : y103 = 0 := hy103.trans (by decide +kernel)
  subst hy103
  refine lv_istore_n (lv' := [(2, .int 0), (4, .int 1), (7, .int (-1)), (6, .int (-1)), (5, .int 6), (3, .int 0), (0, .ref h), (1, .ref ga)]) hx hb dL_areSpeakers_143 rfl hl (by decide) rfl (fun ls hl => ?_)
  refine lv_iload_n hx hb dL_areSpeakers_144 rfl (lv_at hl 5 rfl) ?_
  refine lv_iload hx hb dL_areSpeakers_145 (lv_at hl 3 rfl) ?_
  refine lv_if_lt (tgt := 170) hx hb dL_areSpeakers_147 (by decide) (fun _ => ?_) (fun c9 => False.elim (by revert c9; decide))
  refine lv_iconst (v := 0) hx hb dL_areSpeakers_170 (by decide) ?_
  refine lv_iadd hx hb dL_areSpeakers_171 ?_
  refine lv_topi (fun y105 hy105 => ?_)
  have hy105 : y105 = 0 := hy105.trans (by decide +kernel)
  subst hy105
  refine lv_istore_n (lv' := [(3, .int 0), (2, .int 0), (4, .int 1), (7, .int (-1)), (6, .int (-1)), (5, .int 6), (0, .ref h), (1, .ref ga)]) hx hb dL_areSpeakers_172 rfl hl (by decide) rfl (fun ls hl => ?_)
  refine lv_iinc (v := 7) (lv' := [(5, .int 7), (3, .int 0), (2, .int 0), (4, .int 1), (7, .int (-1)), (6, .int (-1)), (0, .ref h), (1, .ref ga)]) hx hb dL_areSpeakers_173 hl (k := 5) rfl (by decide) (by decide) rfl (fun ls hl => ?_)
  refine lv_goto (tgt := 10) hx hb dL_areSpeakers_176 (by decide) ?_
  refine lv_iload hx hb dL_areSpeakers_10 (lv_at hl 0 rfl) ?_
  refine lv_bipush (v := 8) hx hb dL_areSpeakers_12 (by decide) ?_
  refine lv_icmp_ge (tgt := 179) hx hb dL_areSpeakers_14 (by decide) (fun c9 => False.elim (by revert c9; decide)) (fun _ => ?_)
  refine lv_iload hx hb dL_areSpeakers_17 (lv_at hl 3 rfl) ?_
  refine lv_if_eq (tgt := 179) hx hb dL_areSpeakers_19 (by decide) (fun c9 => False.elim (by revert c9; decide)) (fun _ => ?_)
  refine lv_aload_n hx hb dL_areSpeakers_22 rfl (lv_at hl 6 rfl) ?_
  refine lv_iload hx hb dL_areSpeakers_23 (lv_at hl 0 rfl) ?_
  refine vp_callSi (W.runV (As := [.int 7]) (rest := []) ⟨hx, hb, hml, hown, hts⟩ (c_X0_speaker l D cI cZ cJ h a0 a1 a2 a3 a4 a5 a6 a7 a8 a9 a10 z0 z0 z0 z0 zf4 zf5 z0 z0 z0 z0 z0 0 0 0 0 7 (by decide +kernel)) (cwV 1 hts gL_areSpeakers_X0_speaker rfl rfl rfl (by decide +kernel) ⟨Nat.le_of_ble_eq_true rfl, Nat.le_of_ble_eq_true rfl⟩) ⟨zP_blind, va_recv hK hP (ci := 0) (q0 := 0) rfl rfl, fun U hU hW => ⟨rfl, zP_mk (hP.sub (ws' := w0 cI cZ h a0 a1 a2 a3 a4 a5 a6 a7 a8 a9 a10) [0, 1, 2, 3, 4, 5, 6, 7, 8, 9, 10, 11] rfl) hK hU hW⟩⟩ rfl rfl hl.1 rfl (lv_room (Nat.le_of_ble_eq_true rfl)) dL_areSpeakers_25 ⟨Nat.le_of_ble_eq_true rfl, Nat.le_of_ble_eq_true rfl⟩) (fun r108 w108 => ?_)
  have w108 : r108 = (-1) := w108.trans (by decide +kernel)
  subst w108
  refine lv_istore (lv' := [(6, .int (-1)), (5, .int 7), (3, .int 0), (2, .int 0), (4, .int 1), (7, .int (-1)), (0, .ref h), (1, .ref ga)]) hx hb dL_areSpeakers_28 hl (by decide) rfl (fun ls hl => ?_)
  refine lv_aload_n hx hb dL_areSpeakers_30 rfl (lv_at hl 7 rfl) ?_
  refine lv_iload hx hb dL_areSpeakers_31 (lv_at hl 1 rfl) ?_
  refine va_iald (D := D) hx hb hK hP 12 0 rfl rfl (vp_in_iff.mpr (by decide +kernel)) dL_areSpeakers_33 ?_
  refine lv_topi (fun y109 hy109 => ?_)
  have hy109 : y109 = (-1) := hy109.trans (by decide +kernel)
  subst hy109
  refine lv_istore (lv' := [(7, .int (-1)), (6, .int (-1)), (5, .int 7), (3, .int 0), (2, .int 0), (4, .int 1), (0, .ref h), (1, .ref ga)]) hx hb dL_areSpeakers_34 hl (by decide) rfl (fun ls hl => ?_)
  refine lv_aload_n hx hb dL_areSpeakers_36 rfl (lv_at hl 7 rfl) ?_
  refine lv_bipush (v := 16) hx hb dL_areSpeakers_37 (by decide) ?_
  refine lv_iload hx hb dL_areSpeakers_39 (lv_at hl 2 rfl) ?_
  refine lv_iadd hx hb dL_areSpeakers_41 ?_
  refine lv_topi (fun y110 hy110 => ?_)
  have hy110 : y110 = 23 := hy110.trans (by decide +kernel)
  subst hy110
  refine va_iald (D := D) hx hb hK hP 12 0 rfl rfl (vp_in_iff.mpr (by decide +kernel)) dL_areSpeakers_42 ?_
  refine lv_topi (fun y111 hy111 => ?_)
  have hy111 : y111 = 0 := hy111.trans (by decide +kernel)
  subst hy111
  refine lv_if_le (tgt := 61) hx hb dL_areSpeakers_43 (by decide) (fun _ => ?_) (fun c9 => False.elim (by revert c9; decide))
  refine lv_iload hx hb dL_areSpeakers_61 (lv_at hl 1 rfl) ?_
  refine lv_iload hx hb dL_areSpeakers_63 (lv_at hl 0 rfl) ?_
  refine lv_if_ge (tgt := 72) hx hb dL_areSpeakers_65 (by decide) (fun c9 => False.elim (by revert c9; decide)) (fun _ => ?_)
  refine lv_iconst (v := (-1)) hx hb dL_areSpeakers_68 (by decide) ?_
  refine lv_goto (tgt := 78) hx hb dL_areSpeakers_69 (by decide) ?_
  refine lv_icmp_ne (tgt := 85) hx hb dL_areSpeakers_78 (by decide) (fun c9 => False.elim (by revert c9; decide)) (fun _ => ?_)
  refine lv_iconst (v := 1) hx hb dL_areSpeakers_81 (by decide) ?_
  refine lv_goto (tgt := 86) hx hb dL_areSpeakers_82 (by decide) ?_
  refine lv_istore (lv' := [(4, .int 1), (7, .int (-1)), (6, .int (-1)), (5, .int 7), (3, .int 0), (2, .int 0), (0, .ref h), (1, .ref ga)]) hx hb dL_areSpeakers_86 hl (by decide) rfl (fun ls hl => ?_)
  refine lv_iload hx hb dL_areSpeakers_88 (lv_at hl 0 rfl) ?_
  refine lv_if_eq (tgt := 112) hx hb dL_areSpeakers_90 (by decide) (fun c9 => False.elim (by revert c9; decide)) (fun _ => ?_)
  refine lv_iload hx hb dL_areSpeakers_93 (lv_at hl 2 rfl) ?_
  refine lv_if_lt (tgt := 108) hx hb dL_areSpeakers_95 (by decide) (fun _ => ?_) (fun c9 => False.elim (by revert c9; decide))
  refine lv_iconst (v := 1) hx hb dL_areSpeakers_108 (by decide) ?_
  refine lv_goto (tgt := 113) hx hb dL_areSpeakers_109 (by decide) ?_
  refine lv_istore (lv' := [(4, .int 1), (7, .int (-1)), (6, .int (-1)), (5, .int 7), (3, .int 0), (2, .int 0), (0, .ref h), (1, .ref ga)]) hx hb dL_areSpeakers_113 hl (by decide) rfl (fun ls hl => ?_)
  refine lv_iload_n hx hb dL_areSpeakers_115 rfl (lv_at hl 5 rfl) ?_
  refine lv_iload hx hb dL_areSpeakers_116 (lv_at hl 2 rfl) ?_
  refine lv_if_lt (tgt := 141) hx hb dL_areSpeakers_118 (by decide) (fun _ => ?_) (fun c9 => False.elim (by revert c9; decide))
  refine lv_iconst (v := 0) hx hb dL_areSpeakers_141 (by decide) ?_
  refine lv_iadd hx hb dL_areSpeakers_142 ?_
  refine lv_topi (fun y118 hy118 => ?_)
  have hy118 : y118 = 0 := hy118.trans (by decide +kernel)
  subst hy118
  refine lv_istore_n (lv' := [(2, .int 0), (4, .int 1), (7, .int (-1)), (6, .int (-1)), (5, .int 7), (3, .int 0), (0, .ref h), (1, .ref ga)]) hx hb dL_areSpeakers_143 rfl hl (by decide) rfl (fun ls hl => ?_)
  refine lv_iload_n hx hb dL_areSpeakers_144 rfl (lv_at hl 5 rfl) ?_
  refine lv_iload hx hb dL_areSpeakers_145 (lv_at hl 3 rfl) ?_
  refine lv_if_lt (tgt := 170) hx hb dL_areSpeakers_147 (by decide) (fun _ => ?_) (fun c9 => False.elim (by revert c9; decide))
  refine lv_iconst (v := 0) hx hb dL_areSpeakers_170 (by decide) ?_
  refine lv_iadd hx hb dL_areSpeakers_171 ?_
  refine lv_topi (fun y120 hy120 => ?_)
  have hy120 : y120 = 0 := hy120.trans (by decide +kernel)
  subst hy120
  refine lv_istore_n (lv' := [(3, .int 0), (2, .int 0), (4, .int 1), (7, .int (-1)), (6, .int (-1)), (5, .int 7), (0, .ref h), (1, .ref ga)]) hx hb dL_areSpeakers_172 rfl hl (by decide) rfl (fun ls hl => ?_)
  refine lv_iinc (v := 8) (lv' := [(5, .int 8), (3, .int 0), (2, .int 0), (4, .int 1), (7, .int (-1)), (6, .int (-1)), (0, .ref h), (1, .ref ga)]) hx hb dL_areSpeakers_173 hl (k := 5) rfl (by decide) (by decide) rfl (fun ls hl => ?_)
  refine lv_goto (tgt := 10) hx hb dL_areSpeakers_176 (by decide) ?_
  refine lv_iload hx hb dL_areSpeakers_10 (lv_at hl 0 rfl) ?_
  refine lv_bipush (v := 8) hx hb dL_areSpeakers_12 (by decide) ?_
  refine lv_icmp_ge (tgt := 179) hx hb dL_areSpeakers_14 (by decide) (fun _ => ?_) (fun c9 => False.elim (by revert c9; decide))
  refine lv_iload hx hb dL_areSpeakers_179 (lv_at hl 3 rfl) ?_
  refine lv_if_eq (tgt := 206) hx hb dL_areSpeakers_181 (by decide) (fun c9 => False.elim (by revert c9; decide)) (fun _ => ?_)
  refine lv_aload_n hx hb dL_areSpeakers_184 rfl (lv_at hl 6 rfl) ?_
  refine lv_iconst (v := 1) hx hb dL_areSpeakers_185 (by decide) ?_
  refine vp_callSi (W.runV (As := [.int 1]) (rest := []) ⟨hx, hb, hml, hown, hts⟩ (c_X0_weight l D cI cZ cJ h a0 a1 a2 a3 a4 a5 a6 a7 a8 a9 a10 z0 z0 z0 z0 zf4 zf5 z0 z0 z0 z0 z0 0 0 0 0 1 (by decide +kernel)) (cwV 1 hts gL_areSpeakers_X0_weight rfl rfl rfl (by decide +kernel) ⟨Nat.le_of_ble_eq_true rfl, Nat.le_of_ble_eq_true rfl⟩) ⟨zP_blind, va_recv hK hP (ci := 0) (q0 := 0) rfl rfl, fun U hU hW => ⟨rfl, zP_mk (hP.sub (ws' := w0 cI cZ h a0 a1 a2 a3 a4 a5 a6 a7 a8 a9 a10) [0, 1, 2, 3, 4, 5, 6, 7, 8, 9, 10, 11] rfl) hK hU hW⟩⟩ rfl rfl hl.1 rfl (lv_room (Nat.le_of_ble_eq_true rfl)) dL_areSpeakers_186 ⟨Nat.le_of_ble_eq_true rfl, Nat.le_of_ble_eq_true rfl⟩) (fun r123 w123 => ?_)
  have w123 : r123 = 0 := w123.trans (by decide +kernel)
  subst w123
  refine lv_iload_n hx hb dL_areSpeakers_189 rfl (lv_at hl 2 rfl) ?_
  refine lv_icmp_ne (tgt := 206) hx hb dL_areSpeakers_190 (by decide) (fun c9 => False.elim (by revert c9; decide)) (fun _ => ?_)
  refine lv_aload_n hx hb dL_areSpeakers_193 rfl (lv_at hl 6 rfl) ?_
  refine lv_iconst (v := 2) hx hb dL_areSpeakers_194 (by decide) ?_
  refine vp_callSi (W.runV (As := [.int 2]) (rest := []) ⟨hx, hb, hml, hown, hts⟩ (c_X0_weight l D cI cZ cJ h a0 a1 a2 a3 a4 a5 a6 a7 a8 a9 a10 z0 z0 z0 z0 zf4 zf5 z0 z0 z0 z0 z0 0 0 0 0 2 (by decide +kernel)) (cwV 1 hts gL_areSpeakers_X0_weight rfl rfl rfl (by decide +kernel) ⟨Nat.le_of_ble_eq_true rfl, Nat.le_of_ble_eq_true rfl⟩) ⟨zP_blind, va_recv hK hP (ci := 0) (q0 := 0) rfl rfl, fun U hU hW => ⟨rfl, zP_mk (hP.sub (ws' := w0 cI cZ h a0 a1 a2 a3 a4 a5 a6 a7 a8 a9 a10) [0, 1, 2, 3, 4, 5, 6, 7, 8, 9, 10, 11] rfl) hK hU hW⟩⟩ rfl rfl hl.1 rfl (lv_room (Nat.le_of_ble_eq_true rfl)) dL_areSpeakers_195 ⟨Nat.le_of_ble_eq_true rfl, Nat.le_of_ble_eq_true rfl⟩) (fun r125 w125 => ?_)
  have w125 : r125 = 0 := w125.trans (by decide +kernel)
  subst w125
  refine lv_iload_n hx hb dL_areSpeakers_198 rfl (lv_at hl 1 rfl) ?_
  refine lv_icmp_ne (tgt := 206) hx hb dL_areSpeakers_199 (by decide) (fun c9 => False.elim (by revert c9; decide)) (fun _ => ?_)
  refine lv_iconst (v := 1) hx hb dL_areSpeakers_202 (by decide) ?_
  refine lv_goto (tgt := 207) hx hb dL_areSpeakers_203 (by decide) ?_
  refine W.widen (k := 0) (n := 0) (Nat.le_of_ble_eq_true rfl) (Nat.le_of_ble_eq_true rfl) ?_
  refine vx_ret ?_
  exact W.zret (v := 1) hx hb hr rfl (fun t ht hW => ⟨⟨1, (), rfl, rfl, by show s.heap.size + 0 ≤ t.heap.size; rw [ht]; exact hgr⟩, hS.F ht⟩) hS.2.2 dL_areSpeakers_207
