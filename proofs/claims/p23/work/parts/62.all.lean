set_option maxHeartbeats 4000000 in
set_option maxRecDepth 100000 in
theorem k_all (l : Launch) (hl0 : l.stackTraces = false) (D : va_G) (cI cZ cJ : ClassId) (sz : Nat) (h a0 a1 a2 a3 a4 a5 a6 a7 a8 a9 a10 : Nat) : vx_Met l yL_all wsL_all ({ frames := 9, cells := 9, slots := 54, locals := 154 }) (va_Pc [.ref h] (zKX D cI cZ cJ sz (w0 cI cZ h a0 a1 a2 a3 a4 a5 a6 a7 a8 a9 a10))) (va_Ql (fun (r : Int64) (_ : Unit) => r = 547619638806036508) (fun _ t => sz + 1 ≤ t.heap.size) (fun _ => False)) (zXC (fun _ => False)) 9 54 (fun _ => False) := by
  refine vx_ofW (cc := cL_all) (maxL := 4) (ret := (some .long)) (by decide) rfl ?_
  intro p e s m args below meth c s₁ B hml hout hv
  obtain ⟨rfl, hsz, hZ, hP, hK⟩ := hv
  have hx := B.exec
  have hb := B.bytes
  have hr := B.returns
  have hts := atoms_spec (ws := wsL_all) B.pre
  have hown : s.vm.findClass RL = some m.cls := findClass_of_methodNamed B.named
  have hlocks := B.notSynchronized
  subst hsz
  have hS : va_S (fun _ : Nat => False) s.heap s.heap [] := va_S.rf
  have hgr : s.heap.size + 0 ≤ s.heap.size := Nat.le_refl _
  have hl := lv_entry ([.ref h]) (n := 4) (Nat.le_of_ble_eq_true rfl)
  rw [lg_entry_eq]
  generalize (lg_sl ([.ref h]) ++ List.replicate (4 - (lg_sl ([.ref h])).length) Slot.unset).toArray = ls at hl ⊢
  have hl : lv_has ls 4 [(0, .ref h)] := hl
  refine lv_aload_n hx hb dL_all_0 rfl (lv_at hl 0 rfl) ?_
  refine vp_callSi (W.runV (As := []) (rest := []) ⟨hx, hb, hml, hown, hts⟩ (c_X0_total l D cI cZ cJ h a0 a1 a2 a3 a4 a5 a6 a7 a8 a9 a10 z0 z0 z0 z0 zf4 zf5 z0 z0 z0 z0 z0 0 0 0 0) (cwV 0 hts gL_all_X0_total rfl rfl rfl (by decide +kernel) ⟨Nat.le_of_ble_eq_true rfl, Nat.le_of_ble_eq_true rfl⟩) ⟨zP_blind, va_recv hK hP (ci := 0) (q0 := 0) rfl rfl, fun U hU hW => ⟨rfl, zP_mk hP hK hU hW⟩⟩ rfl rfl hl.1 rfl (lv_room (Nat.le_of_ble_eq_true rfl)) dL_all_1 ⟨Nat.le_of_ble_eq_true rfl, Nat.le_of_ble_eq_true rfl⟩) (fun r1 w1 => ?_)
  have w1 : r1 = 0 := w1.trans (by decide +kernel)
  subst w1
  refine lv_i2l (v := 0) hx hb dL_all_4 (by decide +kernel) ?_
  refine lv_ldc2 hx hb hown (hts (.constantLong RL 74 (31)) (by decide +kernel)) dL_all_5 ?_
  refine lv_aload_n hx hb dL_all_8 rfl (lv_at hl 0 rfl) ?_
  refine vp_callSi (W.runV (As := []) (rest := [.long 31, .long 0]) ⟨hx, hb, hml, hown, hts⟩ (c_X0_pot l D cI cZ cJ h a0 a1 a2 a3 a4 a5 a6 a7 a8 a9 a10 z0 z0 z0 z0 zf4 zf5 z0 z0 z0 z0 z0 0 0 0 0) (cwV 0 hts gL_all_X0_pot rfl rfl rfl (by decide +kernel) ⟨Nat.le_of_ble_eq_true rfl, Nat.le_of_ble_eq_true rfl⟩) ⟨zP_blind, va_recv hK hP (ci := 0) (q0 := 0) rfl rfl, fun U hU hW => ⟨rfl, zP_mk hP hK hU hW⟩⟩ rfl rfl hl.1 rfl (lv_room (Nat.le_of_ble_eq_true rfl)) dL_all_9 ⟨Nat.le_of_ble_eq_true rfl, Nat.le_of_ble_eq_true rfl⟩) (fun r2 w2 => ?_)
  have w2 : r2 = 0 := w2.trans (by decide +kernel)
  subst w2
  refine lv_i2l (v := 0) hx hb dL_all_12 (by decide +kernel) ?_
  refine lv_lmul hx hb dL_all_13 ?_
  refine lv_topl (fun y3 hy3 => ?_)
  have hy3 : y3 = 0 := hy3.trans (by decide +kernel)
  subst hy3
  refine lv_ladd hx hb dL_all_14 ?_
  refine lv_topl (fun y4 hy4 => ?_)
  have hy4 : y4 = 0 := hy4.trans (by decide +kernel)
  subst hy4
  refine lv_ldc2 hx hb hown (hts (.constantLong RL 79 (1009)) (by decide +kernel)) dL_all_15 ?_
  refine lv_aload_n hx hb dL_all_18 rfl (lv_at hl 0 rfl) ?_
  refine vp_callSi (W.runV (As := []) (rest := [.long 1009, .long 0]) ⟨hx, hb, hml, hown, hts⟩ (c_X0_out l D cI cZ cJ h a0 a1 a2 a3 a4 a5 a6 a7 a8 a9 a10 z0 z0 z0 z0 zf4 zf5 z0 z0 z0 z0 z0 0 0 0 0) (cwV 0 hts gL_all_X0_out rfl rfl rfl (by decide +kernel) ⟨Nat.le_of_ble_eq_true rfl, Nat.le_of_ble_eq_true rfl⟩) ⟨zP_blind, va_recv hK hP (ci := 0) (q0 := 0) rfl rfl, fun U hU hW => ⟨rfl, zP_mk hP hK hU hW⟩⟩ rfl rfl hl.1 rfl (lv_room (Nat.le_of_ble_eq_true rfl)) dL_all_19 ⟨Nat.le_of_ble_eq_true rfl, Nat.le_of_ble_eq_true rfl⟩) (fun r5 w5 => ?_)
  have w5 : r5 = 0 := w5.trans (by decide +kernel)
  subst w5
  refine lv_i2l (v := 0) hx hb dL_all_22 (by decide +kernel) ?_
  refine lv_lmul hx hb dL_all_23 ?_
  refine lv_topl (fun y6 hy6 => ?_)
  have hy6 : y6 = 0 := hy6.trans (by decide +kernel)
  subst hy6
  refine lv_ladd hx hb dL_all_24 ?_
  refine lv_topl (fun y7 hy7 => ?_)
  have hy7 : y7 = 0 := hy7.trans (by decide +kernel)
  subst hy7
  refine lv_ldc2 hx hb hown (hts (.constantLong RL 84 (65537)) (by decide +kernel)) dL_all_25 ?_
  refine lv_aload_n hx hb dL_all_28 rfl (lv_at hl 0 rfl) ?_
  refine vp_callSi (W.runV (As := []) (rest := [.long 65537, .long 0]) ⟨hx, hb, hml, hown, hts⟩ (c_X0_current l D cI cZ cJ h a0 a1 a2 a3 a4 a5 a6 a7 a8 a9 a10 z0 z0 z0 z0 zf4 zf5 z0 z0 z0 z0 z0 0 0 0 0) (cwV 0 hts gL_all_X0_current rfl rfl rfl (by decide +kernel) ⟨Nat.le_of_ble_eq_true rfl, Nat.le_of_ble_eq_true rfl⟩) ⟨zP_blind, va_recv hK hP (ci := 0) (q0 := 0) rfl rfl, fun U hU hW => ⟨rfl, zP_mk hP hK hU hW⟩⟩ rfl rfl hl.1 rfl (lv_room (Nat.le_of_ble_eq_true rfl)) dL_all_29 ⟨Nat.le_of_ble_eq_true rfl, Nat.le_of_ble_eq_true rfl⟩) (fun r8 w8 => ?_)
  have w8 : r8 = (-1) := w8.trans (by decide +kernel)
  subst w8
  refine lv_iconst (v := 1) hx hb dL_all_32 (by decide) ?_
  refine lv_iadd hx hb dL_all_33 ?_
  refine lv_topi (fun y9 hy9 => ?_)
  have hy9 : y9 = 0 := hy9.trans (by decide +kernel)
  subst hy9
  refine lv_i2l (v := 0) hx hb dL_all_34 (by decide +kernel) ?_
  refine lv_lmul hx hb dL_all_35 ?_
  refine lv_topl (fun y10 hy10 => ?_)
  have hy10 : y10 = 0 := hy10.trans (by decide +kernel)
  subst hy10
  refine lv_ladd hx hb dL_all_36 ?_
  refine lv_topl (fun y11 hy11 => ?_)
  have hy11 : y11 = 0 := hy11.trans (by decide +kernel)
  subst hy11
  refine lv_ldc2 hx hb hown (hts (.constantLong RL 89 (7)) (by decide +kernel)) dL_all_37 ?_
  refine lv_aload_n hx hb dL_all_40 rfl (lv_at hl 0 rfl) ?_
  refine lv_iconst (v := 5) hx hb dL_all_41 (by decide) ?_
  refine lv_iconst (v := 0) hx hb dL_all_42 (by decide) ?_
  refine vx_calli (vx_runSX (As := [.ref h, .int 5, .int 0]) (rest := [.long 7, .long 0]) ⟨hx, hb, hml, hown, hts⟩ (k_of_match_t l hl0 D cI cZ cJ s.heap.size h a0 a1 a2 a3 a4 a5 a6 a7 a8 a9 a10 z0 z0 z0 z0 zf4 zf5 z0 z0 z0 z0 z0 0 0 0 0 0 (by decide +kernel) (by decide +kernel)) (vx_cwSW 3 hts gL_all_L_of rfl rfl rfl (by decide +kernel) ⟨Nat.le_of_ble_eq_true rfl, Nat.le_of_ble_eq_true rfl⟩) ⟨zKX_blind, fun U hU hW => ⟨rfl, by rw [hU], zX_on hZ hS (fun _ z => z.elim) hU hW, zP_mk hP hK hU hW⟩⟩ rfl rfl hl.1 rfl (lv_room (Nat.le_of_ble_eq_true rfl)) dL_all_43 ⟨Nat.le_of_ble_eq_true rfl, Nat.le_of_ble_eq_true rfl⟩) hS (fun _ _ z => z.elim) (fun _ z => z.elim) (fun _ _ z => z.elim) (fun E ce q9 u t H1 locs1 _ _ _ hE _ _ _ _ _ _ => hE.elim) (fun r12 u12 t12 H12 locs ht hvm w12 hB hz1 hk1 hS => ?_)
  have w12 : r12 = (-1044) := w12
  subst w12
  have hB9 : s.heap.size + 1 ≤ H12.size := by rw [← ht]; exact hB
  have hP := hP.kept (fun k q hk => hk1 q.1 (vx_lt hP hk) (fun z => z))
  have hgr : s.heap.size + 1 ≤ H12.size := by omega
  clear hk1 hz1 hvm ht hB hB9 t12 u12
  refine lv_i2l (v := (-1044)) hx hb dL_all_46 (by decide +kernel) ?_
  refine lv_lmul hx hb dL_all_47 ?_
  refine lv_topl (fun y13 hy13 => ?_)
  have hy13 : y13 = (-7308) := hy13.trans (by decide +kernel)
  subst hy13
  refine lv_ladd hx hb dL_all_48 ?_
  refine lv_topl (fun y14 hy14 => ?_)
  have hy14 : y14 = (-7308) := hy14.trans (by decide +kernel)
  subst hy14
  refine lv_lstore_n (lv' := [(1, .long (-7308)), (0, .ref h)]) hx hb dL_all_49 rfl hl (by decide) rfl (fun ls hl => ?_)
  refine lv_iconst (v := 0) hx hb dL_all_50 (by decide) ?_
  refine lv_istore_n (lv' := [(3, .int 0), (1, .long (-7308)), (0, .ref h)]) hx hb dL_all_51 rfl hl (by decide) rfl (fun ls hl => ?_)
  refine lv_iload_n hx hb dL_all_52 rfl (lv_at hl 0 rfl) ?_
  refine lv_bipush (v := 8) hx hb dL_all_53 (by decide) ?_
  refine lv_icmp_ge (tgt := 102) hx hb dL_all_55 (by decide) (fun c9 => False.elim (by revert c9; decide)) (fun _ => ?_)
  refine lv_ldc2 hx hb hown (hts (.constantLong RL 97 (1000003)) (by decide +kernel)) dL_all_58 ?_
  refine lv_lload_n hx hb dL_all_61 rfl (lv_at hl 1 rfl) ?_
  refine lv_lmul hx hb dL_all_62 ?_
  refine lv_topl (fun y16 hy16 => ?_)
  have hy16 : y16 = (-7308021924) := hy16.trans (by decide +kernel)
  subst hy16
  refine lv_aload_n hx hb dL_all_63 rfl (lv_at hl 2 rfl) ?_
  refine lv_iload_n hx hb dL_all_64 rfl (lv_at hl 0 rfl) ?_
  refine vp_callSi (W.runV (As := [.int 0]) (rest := [.long (-7308021924)]) ⟨hx, hb, hml, hown, hts⟩ (c_X0_in l D cI cZ cJ h a0 a1 a2 a3 a4 a5 a6 a7 a8 a9 a10 z0 z0 z0 z0 zf4 zf5 z0 z0 z0 z0 z0 0 0 0 0 0 (by decide +kernel)) (cwV 1 hts gL_all_X0_in rfl rfl rfl (by decide +kernel) ⟨Nat.le_of_ble_eq_true rfl, Nat.le_of_ble_eq_true rfl⟩) ⟨zP_blind, va_recv hK hP (ci := 0) (q0 := 0) rfl rfl, fun U hU hW => ⟨rfl, zP_mk hP hK hU hW⟩⟩ rfl rfl hl.1 rfl (lv_room (Nat.le_of_ble_eq_true rfl)) dL_all_65 ⟨Nat.le_of_ble_eq_true rfl, Nat.le_of_ble_eq_true rfl⟩) (fun r17 w17 => ?_)
  have w17 : r17 = 0 := w17.trans (by decide +kernel)
  subst w17
  refine lv_i2l (v := 0) hx hb dL_all_68 (by decide +kernel) ?_
  refine lv_ladd hx hb dL_all_69 ?_
  refine lv_topl (fun y18 hy18 => ?_)
  have hy18 : y18 = (-7308021924) := hy18.trans (by decide +kernel)
  subst hy18
  refine lv_ldc2 hx hb hown (hts (.constantLong RL 74 (31)) (by decide +kernel)) dL_all_70 ?_
  refine lv_aload_n hx hb dL_all_73 rfl (lv_at hl 2 rfl) ?_
  refine lv_iload_n hx hb dL_all_74 rfl (lv_at hl 0 rfl) ?_
  refine vp_callSi (W.runV (As := [.int 0]) (rest := [.long 31, .long (-7308021924)]) ⟨hx, hb, hml, hown, hts⟩ (c_X0_speaker l D cI cZ cJ h a0 a1 a2 a3 a4 a5 a6 a7 a8 a9 a10 z0 z0 z0 z0 zf4 zf5 z0 z0 z0 z0 z0 0 0 0 0 0 (by decide +kernel)) (cwV 1 hts gL_all_X0_speaker rfl rfl rfl (by decide +kernel) ⟨Nat.le_of_ble_eq_true rfl, Nat.le_of_ble_eq_true rfl⟩) ⟨zP_blind, va_recv hK hP (ci := 0) (q0 := 0) rfl rfl, fun U hU hW => ⟨rfl, zP_mk hP hK hU hW⟩⟩ rfl rfl hl.1 rfl (lv_room (Nat.le_of_ble_eq_true rfl)) dL_all_75 ⟨Nat.le_of_ble_eq_true rfl, Nat.le_of_ble_eq_true rfl⟩) (fun r19 w19 => ?_)
  have w19 : r19 = (-1) := w19.trans (by decide +kernel)
  subst w19
  refine lv_iconst (v := 1) hx hb dL_all_78 (by decide) ?_
  refine lv_iadd hx hb dL_all_79 ?_
  refine lv_topi (fun y20 hy20 => ?_)
  have hy20 : y20 = 0 := hy20.trans (by decide +kernel)
  subst hy20
  refine lv_i2l (v := 0) hx hb dL_all_80 (by decide +kernel) ?_
  refine lv_lmul hx hb dL_all_81 ?_
  refine lv_topl (fun y21 hy21 => ?_)
  have hy21 : y21 = 0 := hy21.trans (by decide +kernel)
  subst hy21
  refine lv_ladd hx hb dL_all_82 ?_
  refine lv_topl (fun y22 hy22 => ?_)
  have hy22 : y22 = (-7308021924) := hy22.trans (by decide +kernel)
  subst hy22
  refine lv_ldc2 hx hb hown (hts (.constantLong RL 99 (257)) (by decide +kernel)) dL_all_83 ?_
  refine lv_aload_n hx hb dL_all_86 rfl (lv_at hl 2 rfl) ?_
  refine lv_iconst (v := 4) hx hb dL_all_87 (by decide) ?_
  refine lv_iload_n hx hb dL_all_88 rfl (lv_at hl 0 rfl) ?_
  refine vx_calli (vx_runSX (As := [.ref h, .int 4, .int 0]) (rest := [.long 257, .long (-7308021924)]) ⟨hx, hb, hml, hown, hts⟩ (k_of_share_t2 l hl0 D cI cZ cJ H12.size h a0 a1 a2 a3 a4 a5 a6 a7 a8 a9 a10 z0 z0 z0 z0 zf4 zf5 z0 z0 z0 z0 z0 0 0 0 0 0 (by decide +kernel) (by decide +kernel) (by decide +kernel)) (vx_cwSW 3 hts gL_all_L_of rfl rfl rfl (by decide +kernel) ⟨Nat.le_of_ble_eq_true rfl, Nat.le_of_ble_eq_true rfl⟩) ⟨zKX_blind, fun U hU hW => ⟨rfl, by rw [hU], zX_on hZ hS (fun _ z => z.elim) hU hW, zP_mk hP hK hU hW⟩⟩ rfl rfl hl.1 rfl (lv_room (Nat.le_of_ble_eq_true rfl)) dL_all_89 ⟨Nat.le_of_ble_eq_true rfl, Nat.le_of_ble_eq_true rfl⟩) hS (fun _ _ z => z.elim) (fun _ z => z.elim) (fun _ _ z => z.elim) (fun E ce q9 u t H1 locs1 _ _ _ hE _ _ _ _ _ _ => hE.elim) (fun r23 u23 t23 H23 locs ht hvm w23 hB hz1 hk1 hS => ?_)
  have w23 : r23 = (-1044) := w23
  subst w23
  have hB9 : H12.size + 0 ≤ H23.size := by rw [← ht]; exact hB
  have hP := hP.kept (fun k q hk => hk1 q.1 (vx_lt hP hk) (fun z => z))
  have hgr : s.heap.size + 1 ≤ H23.size := by omega
  clear hk1 hz1 hvm ht hB hB9 t23 u23
  refine lv_i2l (v := (-1044)) hx hb dL_all_92 (by decide +kernel) ?_
  refine lv_lmul hx hb dL_all_93 ?_
  refine lv_topl (fun y24 hy24 => ?_)
  have hy24 : y24 = (-268308) := hy24.trans (by decide +kernel)
  subst hy24
  refine lv_ladd hx hb dL_all_94 ?_
  refine lv_topl (fun y25 hy25 => ?_)
  have hy25 : y25 = (-7308290232) := hy25.trans (by decide +kernel)
  subst hy25
  refine lv_lstore_n (lv' := [(1, .long (-7308290232)), (3, .int 0), (0, .ref h)]) hx hb dL_all_95 rfl hl (by decide) rfl (fun ls hl => ?_)
  refine lv_iinc (v := 1) (lv' := [(3, .int 1), (1, .long (-7308290232)), (0, .ref h)]) hx hb dL_all_96 hl (k := 1) rfl (by decide) (by decide) rfl (fun ls hl => ?_)
  refine lv_goto (tgt := 52) hx hb dL_all_99 (by decide) ?_
  refine lv_iload_n hx hb dL_all_52 rfl (lv_at hl 0 rfl) ?_
  refine lv_bipush (v := 8) hx hb dL_all_53 (by decide) ?_
  refine lv_icmp_ge (tgt := 102) hx hb dL_all_55 (by decide) (fun c9 => False.elim (by revert c9; decide)) (fun _ => ?_)
  refine lv_ldc2 hx hb hown (hts (.constantLong RL 97 (1000003)) (by decide +kernel)) dL_all_58 ?_
  refine lv_lload_n hx hb dL_all_61 rfl (lv_at hl 1 rfl) ?_
  refine lv_lmul hx hb dL_all_62 ?_
  refine lv_topl (fun y27 hy27 => ?_)
  have hy27 : y27 = (-7308312156870696) := hy27.trans (by decide +kernel)
  subst hy27
  refine lv_aload_n hx hb dL_all_63 rfl (lv_at hl 2 rfl) ?_
  refine lv_iload_n hx hb dL_all_64 rfl (lv_at hl 0 rfl) ?_
  refine vp_callSi (W.runV (As := [.int 1]) (rest := [.long (-7308312156870696)]) ⟨hx, hb, hml, hown, hts⟩ (c_X0_in l D cI cZ cJ h a0 a1 a2 a3 a4 a5 a6 a7 a8 a9 a10 z0 z0 z0 z0 zf4 zf5 z0 z0 z0 z0 z0 0 0 0 0 1 (by decide +kernel)) (cwV 1 hts gL_all_X0_in rfl rfl rfl (by decide +kernel) ⟨Nat.le_of_ble_eq_true rfl, Nat.le_of_ble_eq_true rfl⟩) ⟨zP_blind, va_recv hK hP (ci := 0) (q0 := 0) rfl rfl, fun U hU hW => ⟨rfl, zP_mk hP hK hU hW⟩⟩ rfl rfl hl.1 rfl (lv_room (Nat.le_of_ble_eq_true rfl)) dL_all_65 ⟨Nat.le_of_ble_eq_true rfl, Nat.le_of_ble_eq_true rfl⟩) (fun r28 w28 => ?_)
  have w28 : r28 = 0 := w28.trans (by decide +kernel)
  subst w28
  refine lv_i2l (v := 0) hx hb dL_all_68 (by decide +kernel) ?_
  refine lv_ladd hx hb dL_all_69 ?_
  refine lv_topl (fun y29 hy29 => ?_)
  have hy29 : y29 = (-7308312156870696) := hy29.trans (by decide +kernel)
  subst hy29
  refine lv_ldc2 hx hb hown (hts (.constantLong RL 74 (31)) (by decide +kernel)) dL_all_70 ?_
  refine lv_aload_n hx hb dL_all_73 rfl (lv_at hl 2 rfl) ?_
  refine lv_iload_n hx hb dL_all_74 rfl (lv_at hl 0 rfl) ?_
  refine vp_callSi (W.runV (As := [.int 1]) (rest := [.long 31, .long (-7308312156870696)]) ⟨hx, hb, hml, hown, hts⟩ (c_X0_speaker l D cI cZ cJ h a0 a1 a2 a3 a4 a5 a6 a7 a8 a9 a10 z0 z0 z0 z0 zf4 zf5 z0 z0 z0 z0 z0 0 0 0 0 1 (by decide +kernel)) (cwV 1 hts gL_all_X0_speaker rfl rfl rfl (by decide +kernel) ⟨Nat.le_of_ble_eq_true rfl, Nat.le_of_ble_eq_true rfl⟩) ⟨zP_blind, va_recv hK hP (ci := 0) (q0 := 0) rfl rfl, fun U hU hW => ⟨rfl, zP_mk hP hK hU hW⟩⟩ rfl rfl hl.1 rfl (lv_room (Nat.le_of_ble_eq_true rfl)) dL_all_75 ⟨Nat.le_of_ble_eq_true rfl, Nat.le_of_ble_eq_true rfl⟩) (fun r30 w30 => ?_)
  have w30 : r30 = (-1) := w30.trans (by decide +kernel)
  subst w30
  refine lv_iconst (v := 1) hx hb dL_all_78 (by decide) ?_
  refine lv_iadd hx hb dL_all_79 ?_
  refine lv_topi (fun y31 hy31 => ?_)
  have hy31 : y31 = 0 := hy31.trans (by decide +kernel)
  subst hy31
  refine lv_i2l (v := 0) hx hb dL_all_80 (by decide +kernel) ?_
  refine lv_lmul hx hb dL_all_81 ?_
  refine lv_topl (fun y32 hy32 => ?_)
  have hy32 : y32 = 0 := hy32.trans (by decide +kernel)
  subst hy32
  refine lv_ladd hx hb dL_all_82 ?_
  refine lv_topl (fun y33 hy33 => ?_)
  have hy33 : y33 = (-7308312156870696) := hy33.trans (by decide +kernel)
  subst hy33
  refine lv_ldc2 hx hb hown (hts (.constantLong RL 99 (257)) (by decide +kernel)) dL_all_83 ?_
  refine lv_aload_n hx hb dL_all_86 rfl (lv_at hl 2 rfl) ?_
  refine lv_iconst (v := 4) hx hb dL_all_87 (by decide) ?_
  refine lv_iload_n hx hb dL_all_88 rfl (lv_at hl 0 rfl) ?_
  refine vx_calli (vx_runSX (As := [.ref h, .int 4, .int 1]) (rest := [.long 257, .long (-7308312156870696)]) ⟨hx, hb, hml, hown, hts⟩ (k_of_share_t2 l hl0 D cI cZ cJ H23.size h a0 a1 a2 a3 a4 a5 a6 a7 a8 a9 a10 z0 z0 z0 z0 zf4 zf5 z0 z0 z0 z0 z0 0 0 0 0 1 (by decide +kernel) (by decide +kernel) (by decide +kernel)) (vx_cwSW 3 hts gL_all_L_of rfl rfl rfl (by decide +kernel) ⟨Nat.le_of_ble_eq_true rfl, Nat.le_of_ble_eq_true rfl⟩) ⟨zKX_blind, fun U hU hW => ⟨rfl, by rw [hU], zX_on hZ hS (fun _ z => z.elim) hU hW, zP_mk hP hK hU hW⟩⟩ rfl rfl hl.1 rfl (lv_room (Nat.le_of_ble_eq_true rfl)) dL_all_89 ⟨Nat.le_of_ble_eq_true rfl, Nat.le_of_ble_eq_true rfl⟩) hS (fun _ _ z => z.elim) (fun _ z => z.elim) (fun _ _ z => z.elim) (fun E ce q9 u t H1 locs1 _ _ _ hE _ _ _ _ _ _ => hE.elim) (fun r34 u34 t34 H34 locs ht hvm w34 hB hz1 hk1 hS => ?_)
  have w34 : r34 = (-1044) := w34
  subst w34
  have hB9 : H23.size + 0 ≤ H34.size := by rw [← ht]; exact hB
  have hP := hP.kept (fun k q hk => hk1 q.1 (vx_lt hP hk) (fun z => z))
  have hgr : s.heap.size + 1 ≤ H34.size := by omega
  clear hk1 hz1 hvm ht hB hB9 t34 u34
  refine lv_i2l (v := (-1044)) hx hb dL_all_92 (by decide +kernel) ?_
  refine lv_lmul hx hb dL_all_93 ?_
  refine lv_topl (fun y35 hy35 => ?_)
  have hy35 : y35 = (-268308) := hy35.trans (by decide +kernel)
  subst hy35
  refine lv_ladd hx hb dL_all_94 ?_
  refine lv_topl (fun y36 hy36 => ?_)
  have hy36 : y36 = (-7308312157139004) := hy36.trans (by decide +kernel)
  subst hy36
  refine lv_lstore_n (lv' := [(1, .long (-7308312157139004)), (3, .int 1), (0, .ref h)]) hx hb dL_all_95 rfl hl (by decide) rfl (fun ls hl => ?_)
  refine lv_iinc (v := 2) (lv' := [(3, .int 2), (1, .long (-7308312157139004)), (0, .ref h)]) hx hb dL_all_96 hl (k := 1) rfl (by decide) (by decide) rfl (fun ls hl => ?_)
  refine lv_goto (tgt := 52) hx hb dL_all_99 (by decide) ?_
  refine lv_iload_n hx hb dL_all_52 rfl (lv_at hl 0 rfl) ?_
  refine lv_bipush (v := 8) hx hb dL_all_53 (by decide) ?_
  refine lv_icmp_ge (tgt := 102) hx hb dL_all_55 (by decide) (fun c9 => False.elim (by revert c9; decide)) (fun _ => ?_)
  refine lv_ldc2 hx hb hown (hts (.constantLong RL 97 (1000003)) (by decide +kernel)) dL_all_58 ?_
  refine lv_lload_n hx hb dL_all_61 rfl (lv_at hl 1 rfl) ?_
  refine lv_lmul hx hb dL_all_62 ?_
  refine lv_topl (fun y38 hy38 => ?_)
  have hy38 : y38 = (-3423428886492977076) := hy38.trans (by decide +kernel)
  subst hy38
  refine lv_aload_n hx hb dL_all_63 rfl (lv_at hl 2 rfl) ?_
  refine lv_iload_n hx hb dL_all_64 rfl (lv_at hl 0 rfl) ?_
  refine vp_callSi (W.runV (As := [.int 2]) (rest := [.long (-3423428886492977076)]) ⟨hx, hb, hml, hown, hts⟩ (c_X0_in l D cI cZ cJ h a0 a1 a2 a3 a4 a5 a6 a7 a8 a9 a10 z0 z0 z0 z0 zf4 zf5 z0 z0 z0 z0 z0 0 0 0 0 2 (by decide +kernel)) (cwV 1 hts gL_all_X0_in rfl rfl rfl (by decide +kernel) ⟨Nat.le_of_ble_eq_true rfl, Nat.le_of_ble_eq_true rfl⟩) ⟨zP_blind, va_recv hK hP (ci := 0) (q0 := 0) rfl rfl, fun U hU hW => ⟨rfl, zP_mk hP hK hU hW⟩⟩ rfl rfl hl.1 rfl (lv_room (Nat.le_of_ble_eq_true rfl)) dL_all_65 ⟨Nat.le_of_ble_eq_true rfl, Nat.le_of_ble_eq_true rfl⟩) (fun r39 w39 => ?_)
  have w39 : r39 = 0 := w39.trans (by decide +kernel)
  subst w39
  refine lv_i2l (v := 0) hx hb dL_all_68 (by decide +kernel) ?_
  refine lv_ladd hx hb dL_all_69 ?_
  refine lv_topl (fun y40 hy40 => ?_)
  have hy40 : y40 = (-3423428886492977076) := hy40.trans (by decide +kernel)
  subst hy40
  refine lv_ldc2 hx hb hown (hts (.constantLong RL 74 (31)) (by decide +kernel)) dL_all_70 ?_
  refine lv_aload_n hx hb dL_all_73 rfl (lv_at hl 2 rfl) ?_
  refine lv_iload_n hx hb dL_all_74 rfl (lv_at hl 0 rfl) ?_
  refine vp_callSi (W.runV (As := [.int 2]) (rest := [.long 31, .long (-3423428886492977076)]) ⟨hx, hb, hml, hown, hts⟩ (c_X0_speaker l D cI cZ cJ h a0 a1 a2 a3 a4 a5 a6 a7 a8 a9 a10 z0 z0 z0 z0 zf4 zf5 z0 z0 z0 z0 z0 0 0 0 0 2 (by decide +kernel)) (cwV 1 hts gL_all_X0_speaker rfl rfl rfl (by decide +kernel) ⟨Nat.le_of_ble_eq_true rfl, Nat.le_of_ble_eq_true rfl⟩) ⟨zP_blind, va_recv hK hP (ci := 0) (q0 := 0) rfl rfl, fun U hU hW => ⟨rfl, zP_mk hP hK hU hW⟩⟩ rfl rfl hl.1 rfl (lv_room (Nat.le_of_ble_eq_true rfl)) dL_all_75 ⟨Nat.le_of_ble_eq_true rfl, Nat.le_of_ble_eq_true rfl⟩) (fun r41 w41 => ?_)
  have w41 : r41 = (-1) := w41.trans (by decide +kernel)
  subst w41
  refine lv_iconst (v := 1) hx hb dL_all_78 (by decide) ?_
  refine lv_iadd hx hb dL_all_79 ?_
  refine lv_topi (fun y42 hy42 => ?_)
  have hy42 : y42 = 0 := hy42.trans (by decide +kernel)
  subst hy42
  refine lv_i2l (v := 0) hx hb dL_all_80 (by decide +kernel) ?_
  refine lv_lmul hx hb dL_all_81 ?_
  refine lv_topl (fun y43 hy43 => ?_)
  have hy43 : y43 = 0 := hy43.trans (by decide +kernel)
  subst hy43
  refine lv_ladd hx hb dL_all_82 ?_
  refine lv_topl (fun y44 hy44 => ?_)
  have hy44 : y44 = (-3423428886492977076) := hy44.trans (by decide +kernel)
  subst hy44
  refine lv_ldc2 hx hb hown (hts (.constantLong RL 99 (257)) (by decide +kernel)) dL_all_83 ?_
  refine lv_aload_n hx hb dL_all_86 rfl (lv_at hl 2 rfl) ?_
  refine lv_iconst (v := 4) hx hb dL_all_87 (by decide) ?_
  refine lv_iload_n hx hb dL_all_88 rfl (lv_at hl 0 rfl) ?_
  refine vx_calli (vx_runSX (As := [.ref h, .int 4, .int 2]) (rest := [.long 257, .long (-3423428886492977076)]) ⟨hx, hb, hml, hown, hts⟩ (k_of_share_t2 l hl0 D cI cZ cJ H34.size h a0 a1 a2 a3 a4 a5 a6 a7 a8 a9 a10 z0 z0 z0 z0 zf4 zf5 z0 z0 z0 z0 z0 0 0 0 0 2 (by decide +kernel) (by decide +kernel) (by decide +kernel)) (vx_cwSW 3 hts gL_all_L_of rfl rfl rfl (by decide +kernel) ⟨Nat.le_of_ble_eq_true rfl, Nat.le_of_ble_eq_true rfl⟩) ⟨zKX_blind, fun U hU hW => ⟨rfl, by rw [hU], zX_on hZ hS (fun _ z => z.elim) hU hW, zP_mk hP hK hU hW⟩⟩ rfl rfl hl.1 rfl (lv_room (Nat.le_of_ble_eq_true rfl)) dL_all_89 ⟨Nat.le_of_ble_eq_true rfl, Nat.le_of_ble_eq_true rfl⟩) hS (fun _ _ z => z.elim) (fun _ z => z.elim) (fun _ _ z => z.elim) (fun E ce q9 u t H1 locs1 _ _ _ hE _ _ _ _ _ _ => hE.elim) (fun r45 u45 t45 H45 locs ht hvm w45 hB hz1 hk1 hS => ?_)
  have w45 : r45 = (-1044) := w45
  subst w45
  have hB9 : H34.size + 0 ≤ H45.size := by rw [← ht]; exact hB
  have hP := hP.kept (fun k q hk => hk1 q.1 (vx_lt hP hk) (fun z => z))
  have hgr : s.heap.size + 1 ≤ H45.size := by omega
  clear hk1 hz1 hvm ht hB hB9 t45 u45
  refine lv_i2l (v := (-1044)) hx hb dL_all_92 (by decide +kernel) ?_
  refine lv_lmul hx hb dL_all_93 ?_
  refine lv_topl (fun y46 hy46 => ?_)
  have hy46 : y46 = (-268308) := hy46.trans (by decide +kernel)
  subst hy46
  refine lv_ladd hx hb dL_all_94 ?_
  refine lv_topl (fun y47 hy47 => ?_)
  have hy47 : y47 = (-3423428886493245384) := hy47.trans (by decide +kernel)
  subst hy47
  refine lv_lstore_n (lv' := [(1, .long (-3423428886493245384)), (3, .int 2), (0, .ref h)]) hx hb dL_all_95 rfl hl (by decide) rfl (fun ls hl => ?_)
  refine lv_iinc (v := 3) (lv' := [(3, .int 3), (1, .long (-3423428886493245384)), (0, .ref h)]) hx hb dL_all_96 hl (k := 1) rfl (by decide) (by decide) rfl (fun ls hl => ?_)
  refine lv_goto (tgt := 52) hx hb dL_all_99 (by decide) ?_
  refine lv_iload_n hx hb dL_all_52 rfl (lv_at hl 0 rfl) ?_
  refine lv_bipush (v := 8) hx hb dL_all_53 (by decide) ?_
  refine lv_icmp_ge (tgt := 102) hx hb dL_all_55 (by decide) (fun c9 => False.elim (by revert c9; decide)) (fun _ => ?_)
  refine lv_ldc2 hx hb hown (hts (.constantLong RL 97 (1000003)) (by decide +kernel)) dL_all_58 ?_
  refine lv_lload_n hx hb dL_all_61 rfl (lv_at hl 1 rfl) ?_
  refine lv_lmul hx hb dL_all_62 ?_
  refine lv_topl (fun y49 hy49 => ?_)
  have hy49 : y49 = (-157860517727080792) := hy49.trans (by decide +kernel)
  subst hy49
  refine lv_aload_n hx hb dL_all_63 rfl (lv_at hl 2 rfl) ?_
  refine lv_iload_n hx hb dL_all_64 rfl (lv_at hl 0 rfl) ?_
  refine vp_callSi (W.runV (As := [.int 3]) (rest := [.long (-157860517727080792)]) ⟨hx, hb, hml, hown, hts⟩ (c_X0_in l D cI cZ cJ h a0 a1 a2 a3 a4 a5 a6 a7 a8 a9 a10 z0 z0 z0 z0 zf4 zf5 z0 z0 z0 z0 z0 0 0 0 0 3 (by decide +kernel)) (cwV 1 hts gL_all_X0_in rfl rfl rfl (by decide +kernel) ⟨Nat.le_of_ble_eq_true rfl, Nat.le_of_ble_eq_true rfl⟩) ⟨zP_blind, va_recv hK hP (ci := 0) (q0 := 0) rfl rfl, fun U hU hW => ⟨rfl, zP_mk hP hK hU hW⟩⟩ rfl rfl hl.1 rfl (lv_room (Nat.le_of_ble_eq_true rfl)) dL_all_65 ⟨Nat.le_of_ble_eq_true rfl, Nat.le_of_ble_eq_true rfl⟩) (fun r50 w50 => ?_)
  have w50 : r50 = 0 := w50.trans (by decide +kernel)
  subst w50
  refine lv_i2l (v := 0) hx hb dL_all_68 (by decide +kernel) ?_
  refine lv_ladd hx hb dL_all_69 ?_
  refine lv_topl (fun y51 hy51 => ?_)
  have hy51 : y51 = (-157860517727080792) := hy51.trans (by decide +kernel)
  subst hy51
  refine lv_ldc2 hx hb hown (hts (.constantLong RL 74 (31)) (by decide +kernel)) dL_all_70 ?_
  refine lv_aload_n hx hb dL_all_73 rfl (lv_at hl 2 rfl) ?_
  refine lv_iload_n hx hb dL_all_74 rfl (lv_at hl 0 rfl) ?_
  refine vp_callSi (W.runV (As := [.int 3]) (rest := [.long 31, .long (-157860517727080792)]) ⟨hx, hb, hml, hown, hts⟩ (c_X0_speaker l D cI cZ cJ h a0 a1 a2 a3 a4 a5 a6 a7 a8 a9 a10 z0 z0 z0 z0 zf4 zf5 z0 z0 z0 z0 z0 0 0 0 0 3 (by decide +kernel)) (cwV 1 hts gL_all_X0_speaker rfl rfl rfl (by decide +kernel) ⟨Nat.le_of_ble_eq_true rfl, Nat.le_of_ble_eq_true rfl⟩) ⟨zP_blind, va_recv hK hP (ci := 0) (q0 := 0) rfl rfl, fun U hU hW => ⟨rfl, zP_mk hP hK hU hW⟩⟩ rfl rfl hl.1 rfl (lv_room (Nat.le_of_ble_eq_true rfl)) dL_all_75 ⟨Nat.le_of_ble_eq_true rfl, Nat.le_of_ble_eq_true rfl⟩) (fun r52 w52 => ?_)
  have w52 : r52 = (-1) := w52.trans (by decide +kernel)
  subst w52
  refine lv_iconst (v := 1) hx hb dL_all_78 (by decide) ?_
  refine lv_iadd hx hb dL_all_79 ?_
  refine lv_topi (fun y53 hy53 => ?_)
  have hy53 : y53 = 0 := hy53.trans (by decide +kernel)
  subst hy53
  refine lv_i2l (v := 0) hx hb dL_all_80 (by decide +kernel) ?_
  refine lv_lmul hx hb dL_all_81 ?_
  refine lv_topl (fun y54 hy54 => ?_)
  have hy54 : y54 = 0 := hy54.trans (by decide +kernel)
  subst hy54
  refine lv_ladd hx hb dL_all_82 ?_
  refine lv_topl (fun y55 hy55 => ?_)
  have hy55 : y55 = (-157860517727080792) := hy55.trans (by decide +kernel)
  subst hy55
  refine lv_ldc2 hx hb hown (hts (.constantLong RL 99 (257)) (by decide +kernel)) dL_all_83 ?_
  refine lv_aload_n hx hb dL_all_86 rfl (lv_at hl 2 rfl) ?_
  refine lv_iconst (v := 4) hx hb dL_all_87 (by decide) ?_
  refine lv_iload_n hx hb dL_all_88 rfl (lv_at hl 0 rfl) ?_
  refine vx_calli (vx_runSX (As := [.ref h, .int 4, .int 3]) (rest := [.long 257, .long (-157860517727080792)]) ⟨hx, hb, hml, hown, hts⟩ (k_of_share_t2 l hl0 D cI cZ cJ H45.size h a0 a1 a2 a3 a4 a5 a6 a7 a8 a9 a10 z0 z0 z0 z0 zf4 zf5 z0 z0 z0 z0 z0 0 0 0 0 3 (by decide +kernel) (by decide +kernel) (by decide +kernel)) (vx_cwSW 3 hts gL_all_L_of rfl rfl rfl (by decide +kernel) ⟨Nat.le_of_ble_eq_true rfl, Nat.le_of_ble_eq_true rfl⟩) ⟨zKX_blind, fun U hU hW => ⟨rfl, by rw [hU], zX_on hZ hS (fun _ z => z.elim) hU hW, zP_mk hP hK hU hW⟩⟩ rfl rfl hl.1 rfl (lv_room (Nat.le_of_ble_eq_true rfl)) dL_all_89 ⟨Nat.le_of_ble_eq_true rfl, Nat.le_of_ble_eq_true rfl⟩) hS (fun _ _ z => z.elim) (fun _ z => z.elim) (fun _ _ z => z.elim) (fun E ce q9 u t H1 locs1 _ _ _ hE _ _ _ _ _ _ => hE.elim) (fun r56 u56 t56 H56 locs ht hvm w56 hB hz1 hk1 hS => ?_)
  have w56 : r56 = (-1044) := w56
  subst w56
  have hB9 : H45.size + 0 ≤ H56.size := by rw [← ht]; exact hB
  have hP := hP.kept (fun k q hk => hk1 q.1 (vx_lt hP hk) (fun z => z))
  have hgr : s.heap.size + 1 ≤ H56.size := by omega
  clear hk1 hz1 hvm ht hB hB9 t56 u56
  refine lv_i2l (v := (-1044)) hx hb dL_all_92 (by decide +kernel) ?_
  refine lv_lmul hx hb dL_all_93 ?_
  refine lv_topl (fun y57 hy57 => ?_)
  have hy57 : y57 = (-268308) := hy57.trans (by decide +kernel)
  subst hy57
  refine lv_ladd hx hb dL_all_94 ?_
  refine lv_topl (fun y58 hy58 => ?_)
  have hy58 : y58 = (-157860517727349100) := hy58.trans (by decide +kernel)
  subst hy58
  refine lv_lstore_n (lv' := [(1, .long (-157860517727349100)), (3, .int 3), (0, .ref h)]) hx hb dL_all_95 rfl hl (by decide) rfl (fun ls hl => ?_)
  refine lv_iinc (v := 4) (lv' := [(3, .int 4), (1, .long (-157860517727349100)), (0, .ref h)]) hx hb dL_all_96 hl (k := 1) rfl (by decide) (by decide) rfl (fun ls hl => ?_)
  refine lv_goto (tgt := 52) hx hb dL_all_99 (by decide) ?_
  refine lv_iload_n hx hb dL_all_52 rfl (lv_at hl 0 rfl) ?_
  refine lv_bipush (v := 8) hx hb dL_all_53 (by decide) ?_
  refine lv_icmp_ge (tgt := 102) hx hb dL_all_55 (by decide) (fun c9 => False.elim (by revert c9; decide)) (fun _ => ?_)
  refine lv_ldc2 hx hb hown (hts (.constantLong RL 97 (1000003)) (by decide +kernel)) dL_all_58 ?_
  refine lv_lload_n hx hb dL_all_61 rfl (lv_at hl 1 rfl) ?_
  refine lv_lmul hx hb dL_all_62 ?_
  refine lv_topl (fun y60 hy60 => ?_)
  have hy60 : y60 = 6244473904060682428 := hy60.trans (by decide +kernel)
  subst hy60
  refine lv_aload_n hx hb dL_all_63 rfl (lv_at hl 2 rfl) ?_
  refine lv_iload_n hx hb dL_all_64 rfl (lv_at hl 0 rfl) ?_
  refine vp_callSi (W.runV (As := [.int 4]) (rest := [.long 6244473904060682428]) ⟨hx, hb, hml, hown, hts⟩ (c_X0_in l D cI cZ cJ h a0 a1 a2 a3 a4 a5 a6 a7 a8 a9 a10 z0 z0 z0 z0 zf4 zf5 z0 z0 z0 z0 z0 0 0 0 0 4 (by decide +kernel)) (cwV 1 hts gL_all_X0_in rfl rfl rfl (by decide +kernel) ⟨Nat.le_of_ble_eq_true rfl, Nat.le_of_ble_eq_true rfl⟩) ⟨zP_blind, va_recv hK hP (ci := 0) (q0 := 0) rfl rfl, fun U hU hW => ⟨rfl, zP_mk hP hK hU hW⟩⟩ rfl rfl hl.1 rfl (lv_room (Nat.le_of_ble_eq_true rfl)) dL_all_65 ⟨Nat.le_of_ble_eq_true rfl, Nat.le_of_ble_eq_true rfl⟩) (fun r61 w61 => ?_)
  have w61 : r61 = 0 := w61.trans (by decide +kernel)
  subst w61
  refine lv_i2l (v := 0) hx hb dL_all_68 (by decide +kernel) ?_
  refine lv_ladd hx hb dL_all_69 ?_
  refine lv_topl (fun y62 hy62 => ?_)
  have hy62 : y62 = 6244473904060682428 := hy62.trans (by decide +kernel)
  subst hy62
  refine lv_ldc2 hx hb hown (hts (.constantLong RL 74 (31)) (by decide +kernel)) dL_all_70 ?_
  refine lv_aload_n hx hb dL_all_73 rfl (lv_at hl 2 rfl) ?_
  refine lv_iload_n hx hb dL_all_74 rfl (lv_at hl 0 rfl) ?_
  refine vp_callSi (W.runV (As := [.int 4]) (rest := [.long 31, .long 6244473904060682428]) ⟨hx, hb, hml, hown, hts⟩ (c_X0_speaker l D cI cZ cJ h a0 a1 a2 a3 a4 a5 a6 a7 a8 a9 a10 z0 z0 z0 z0 zf4 zf5 z0 z0 z0 z0 z0 0 0 0 0 4 (by decide +kernel)) (cwV 1 hts gL_all_X0_speaker rfl rfl rfl (by decide +kernel) ⟨Nat.le_of_ble_eq_true rfl, Nat.le_of_ble_eq_true rfl⟩) ⟨zP_blind, va_recv hK hP (ci := 0) (q0 := 0) rfl rfl, fun U hU hW => ⟨rfl, zP_mk hP hK hU hW⟩⟩ rfl rfl hl.1 rfl (lv_room (Nat.le_of_ble_eq_true rfl)) dL_all_75 ⟨Nat.le_of_ble_eq_true rfl, Nat.le_of_ble_eq_true rfl⟩) (fun r63 w63 => ?_)
  have w63 : r63 = (-1) := w63.trans (by decide +kernel)
  subst w63
  refine lv_iconst (v := 1) hx hb dL_all_78 (by decide) ?_
  refine lv_iadd hx hb dL_all_79 ?_
  refine lv_topi (fun y64 hy64 => ?_)
  have hy64 : y64 = 0 := hy64.trans (by decide +kernel)
  subst hy64
  refine lv_i2l (v := 0) hx hb dL_all_80 (by decide +kernel) ?_
  refine lv_lmul hx hb dL_all_81 ?_
  refine lv_topl (fun y65 hy65 => ?_)
  have hy65 : y65 = 0 := hy65.trans (by decide +kernel)
  subst hy65
  refine lv_ladd hx hb dL_all_82 ?_
  refine lv_topl (fun y66 hy66 => ?_)
  have hy66 : y66 = 6244473904060682428 := hy66.trans (by decide +kernel)
  subst hy66
  refine lv_ldc2 hx hb hown (hts (.constantLong RL 99 (257)) (by decide +kernel)) dL_all_83 ?_
  refine lv_aload_n hx hb dL_all_86 rfl (lv_at hl 2 rfl) ?_
  refine lv_iconst (v := 4) hx hb dL_all_87 (by decide) ?_
  refine lv_iload_n hx hb dL_all_88 rfl (lv_at hl 0 rfl) ?_
  refine vx_calli (vx_runSX (As := [.ref h, .int 4, .int 4]) (rest := [.long 257, .long 6244473904060682428]) ⟨hx, hb, hml, hown, hts⟩ (k_of_share_t2 l hl0 D cI cZ cJ H56.size h a0 a1 a2 a3 a4 a5 a6 a7 a8 a9 a10 z0 z0 z0 z0 zf4 zf5 z0 z0 z0 z0 z0 0 0 0 0 4 (by decide +kernel) (by decide +kernel) (by decide +kernel)) (vx_cwSW 3 hts gL_all_L_of rfl rfl rfl (by decide +kernel) ⟨Nat.le_of_ble_eq_true rfl, Nat.le_of_ble_eq_true rfl⟩) ⟨zKX_blind, fun U hU hW => ⟨rfl, by rw [hU], zX_on hZ hS (fun _ z => z.elim) hU hW, zP_mk hP hK hU hW⟩⟩ rfl rfl hl.1 rfl (lv_room (Nat.le_of_ble_eq_true rfl)) dL_all_89 ⟨Nat.le_of_ble_eq_true rfl, Nat.le_of_ble_eq_true rfl⟩) hS (fun _ _ z => z.elim) (fun _ z => z.elim) (fun _ _ z => z.elim) (fun E ce q9 u t H1 locs1 _ _ _ hE _ _ _ _ _ _ => hE.elim) (fun r67 u67 t67 H67 locs ht hvm w67 hB hz1 hk1 hS => ?_)
  have w67 : r67 = (-1044) := w67
  subst w67
  have hB9 : H56.size + 0 ≤ H67.size := by rw [← ht]; exact hB
  have hP := hP.kept (fun k q hk => hk1 q.1 (vx_lt hP hk) (fun z => z))
  have hgr : s.heap.size + 1 ≤ H67.size := by omega
  clear hk1 hz1 hvm ht hB hB9 t67 u67
  refine lv_i2l (v := (-1044)) hx hb dL_all_92 (by decide +kernel) ?_
  refine lv_lmul hx hb dL_all_93 ?_
  refine lv_topl (fun y68 hy68 => ?_)
  have hy68 : y68 = (-268308) := hy68.trans (by decide +kernel)
  subst hy68
  refine lv_ladd hx hb dL_all_94 ?_
  refine lv_topl (fun y69 hy69 => ?_)
  have hy69 : y69 = 6244473904060414120 := hy69.trans (by decide +kernel)
  subst hy69
  refine lv_lstore_n (lv' := [(1, .long 6244473904060414120), (3, .int 4), (0, .ref h)]) hx hb dL_all_95 rfl hl (by decide) rfl (fun ls hl => ?_)
  refine lv_iinc (v := 5) (lv' := [(3, .int 5), (1, .long 6244473904060414120), (0, .ref h)]) hx hb dL_all_96 hl (k := 1) rfl (by decide) (by decide) rfl (fun ls hl => ?_)
  refine lv_goto (tgt := 52) hx hb dL_all_99 (by decide) ?_
  refine lv_iload_n hx hb dL_all_52 rfl (lv_at hl 0 rfl) ?_
  refine lv_bipush (v := 8) hx hb dL_all_53 (by decide) ?_
  refine lv_icmp_ge (tgt := 102) hx hb dL_all_55 (by decide) (fun c9 => False.elim (by revert c9; decide)) (fun _ => ?_)
  refine lv_ldc2 hx hb hown (hts (.constantLong RL 97 (1000003)) (by decide +kernel)) dL_all_58 ?_
  refine lv_lload_n hx hb dL_all_61 rfl (lv_at hl 1 rfl) ?_
  refine lv_lmul hx hb dL_all_62 ?_
  refine lv_topl (fun y71 hy71 => ?_)
  have hy71 : y71 = (-6932629662564047880) := hy71.trans (by decide +kernel)
  subst hy71
  refine lv_aload_n hx hb dL_all_63 rfl (lv_at hl 2 rfl) ?_
  refine lv_iload_n hx hb dL_all_64 rfl (lv_at hl 0 rfl) ?_
  refine vp_callSi (W.runV (As := [.int 5]) (rest := [.long (-6932629662564047880)]) ⟨hx, hb, hml, hown, hts⟩ (c_X0_in l D cI cZ cJ h a0 a1 a2 a3 a4 a5 a6 a7 a8 a9 a10 z0 z0 z0 z0 zf4 zf5 z0 z0 z0 z0 z0 0 0 0 0 5 (by decide +kernel)) (cwV 1 hts gL_all_X0_in rfl rfl rfl (by decide +kernel) ⟨Nat.le_of_ble_eq_true rfl, Nat.le_of_ble_eq_true rfl⟩) ⟨zP_blind, va_recv hK hP (ci := 0) (q0 := 0) rfl rfl, fun U hU hW => ⟨rfl, zP_mk hP hK hU hW⟩⟩ rfl rfl hl.1 rfl (lv_room (Nat.le_of_ble_eq_true rfl)) dL_all_65 ⟨Nat.le_of_ble_eq_true rfl, Nat.le_of_ble_eq_true rfl⟩) (fun r72 w72 => ?_)
  have w72 : r72 = 0 := w72.trans (by decide +kernel)
  subst w72
  refine lv_i2l (v := 0) hx hb dL_all_68 (by decide +kernel) ?_
  refine lv_ladd hx hb dL_all_69 ?_
  refine lv_topl (fun y73 hy73 => ?_)
  have hy73 : y73 = (-6932629662564047880) := hy73.trans (by decide +kernel)
  subst hy73
  refine lv_ldc2 hx hb hown (hts (.constantLong RL 74 (31)) (by decide +kernel)) dL_all_70 ?_
  refine lv_aload_n hx hb dL_all_73 rfl (lv_at hl 2 rfl) ?_
  refine lv_iload_n hx hb dL_all_74 rfl (lv_at hl 0 rfl) ?_
  refine vp_callSi (W.runV (As := [.int 5]) (rest := [.long 31, .long (-6932629662564047880)]) ⟨hx, hb, hml, hown, hts⟩ (c_X0_speaker l D cI cZ cJ h a0 a1 a2 a3 a4 a5 a6 a7 a8 a9 a10 z0 z0 z0 z0 zf4 zf5 z0 z0 z0 z0 z0 0 0 0 0 5 (by decide +kernel)) (cwV 1 hts gL_all_X0_speaker rfl rfl rfl (by decide +kernel) ⟨Nat.le_of_ble_eq_true rfl, Nat.le_of_ble_eq_true rfl⟩) ⟨zP_blind, va_recv hK hP (ci := 0) (q0 := 0) rfl rfl, fun U hU hW => ⟨rfl, zP_mk hP hK hU hW⟩⟩ rfl rfl hl.1 rfl (lv_room (Nat.le_of_ble_eq_true rfl)) dL_all_75 ⟨Nat.le_of_ble_eq_true rfl, Nat.le_of_ble_eq_true rfl⟩) (fun r74 w74 => ?_)
  have w74 : r74 = (-1) := w74.trans (by decide +kernel)
  subst w74
  refine lv_iconst (v := 1) hx hb dL_all_78 (by decide) ?_
  refine lv_iadd hx hb dL_all_79 ?_
  refine lv_topi (fun y75 hy75 => ?_)
  have hy75 : y75 = 0 := hy75.trans (by decide +kernel)
  subst hy75
  refine lv_i2l (v := 0) hx hb dL_all_80 (by decide +kernel) ?_
  refine lv_lmul hx hb dL_all_81 ?_
  refine lv_topl (fun y76 hy76 => ?_)
  have hy76 : y76 = 0 := hy76.trans (by decide +kernel)
  subst hy76
  refine lv_ladd hx hb dL_all_82 ?_
  refine lv_topl (fun y77 hy77 => ?_)
  have hy77 : y77 = (-6932629662564047880) := hy77.trans (by decide +kernel)
  subst hy77
  refine lv_ldc2 hx hb hown (hts (.constantLong RL 99 (257)) (by decide +kernel)) dL_all_83 ?_
  refine lv_aload_n hx hb dL_all_86 rfl (lv_at hl 2 rfl) ?_
  refine lv_iconst (v := 4) hx hb dL_all_87 (by decide) ?_
  refine lv_iload_n hx hb dL_all_88 rfl (lv_at hl 0 rfl) ?_
  refine vx_calli (vx_runSX (As := [.ref h, .int 4, .int 5]) (rest := [.long 257, .long (-6932629662564047880)]) ⟨hx, hb, hml, hown, hts⟩ (k_of_share_t2 l hl0 D cI cZ cJ H67.size h a0 a1 a2 a3 a4 a5 a6 a7 a8 a9 a10 z0 z0 z0 z0 zf4 zf5 z0 z0 z0 z0 z0 0 0 0 0 5 (by decide +kernel) (by decide +kernel) (by decide +kernel)) (vx_cwSW 3 hts gL_all_L_of rfl rfl rfl (by decide +kernel) ⟨Nat.le_of_ble_eq_true rfl, Nat.le_of_ble_eq_true rfl⟩) ⟨zKX_blind, fun U hU hW => ⟨rfl, by rw [hU], zX_on hZ hS (fun _ z => z.elim) hU hW, zP_mk hP hK hU hW⟩⟩ rfl rfl hl.1 rfl (lv_room (Nat.le_of_ble_eq_true rfl)) dL_all_89 ⟨Nat.le_of_ble_eq_true rfl, Nat.le_of_ble_eq_true rfl⟩) hS (fun _ _ z => z.elim) (fun _ z => z.elim) (fun _ _ z => z.elim) (fun E ce q9 u t H1 locs1 _ _ _ hE _ _ _ _ _ _ => hE.elim) (fun r78 u78 t78 H78 locs ht hvm w78 hB hz1 hk1 hS => ?_)
  have w78 : r78 = (-1044) := w78
  subst w78
  have hB9 : H67.size + 0 ≤ H78.size := by rw [← ht]; exact hB
  have hP := hP.kept (fun k q hk => hk1 q.1 (vx_lt hP hk) (fun z => z))
  have hgr : s.heap.size + 1 ≤ H78.size := by omega
  clear hk1 hz1 hvm ht hB hB9 t78 u78
  refine lv_i2l (v := (-1044)) hx hb dL_all_92 (by decide +kernel) ?_
  refine lv_lmul hx hb dL_all_93 ?_
  refine lv_topl (fun y79 hy79 => ?_)
  have hy79 : y79 = (-268308) := hy79.trans (by decide +kernel)
  subst hy79
  refine lv_ladd hx hb dL_all_94 ?_
  refine lv_topl (fun y80 hy80 => ?_)
  have hy80 : y80 = (-6932629662564316188) := hy80.trans (by decide +kernel)
  subst hy80
  refine lv_lstore_n (lv' := [(1, .long (-6932629662564316188)), (3, .int 5), (0, .ref h)]) hx hb dL_all_95 rfl hl (by decide) rfl (fun ls hl => ?_)
  refine lv_iinc (v := 6) (lv' := [(3, .int 6), (1, .long (-6932629662564316188)), (0, .ref h)]) hx hb dL_all_96 hl (k := 1) rfl (by decide) (by decide) rfl (fun ls hl => ?_)
  refine lv_goto (tgt := 52) hx hb dL_all_99 (by decide) ?_
  refine lv_iload_n hx hb dL_all_52 rfl (lv_at hl 0 rfl) ?_
  refine lv_bipush (v := 8) hx hb dL_all_53 (by decide) ?_
  refine lv_icmp_ge (tgt := 102) hx hb dL_all_55 (by decide) (fun c9 => False.elim (by revert c9; decide)) (fun _ => ?_)
  refine lv_ldc2 hx hb hown (hts (.constantLong RL 97 (1000003)) (by decide +kernel)) dL_all_58 ?_
  refine lv_lload_n hx hb dL_all_61 rfl (lv_at hl 1 rfl) ?_
  refine lv_lmul hx hb dL_all_62 ?_
  refine lv_topl (fun y82 hy82 => ?_)
  have hy82 : y82 = 4897328219807376556 := hy82.trans (by decide +kernel)
  subst hy82
  refine lv_aload_n hx hb dL_all_63 rfl (lv_at hl 2 rfl) ?_
  refine lv_iload_n hx hb dL_all_64 rfl (lv_at hl 0 rfl) ?_
  refine vp_callSi (W.runV (As := [.int 6]) (rest := [.long 4897328219807376556]) ⟨hx, hb, hml, hown, hts⟩ (c_X0_in l D cI cZ cJ h a0 a1 a2 a3 a4 a5 a6 a7 a8 a9 a10 z0 z0 z0 z0 zf4 zf5 z0 z0 z0 z0 z0 0 0 0 0 6 (by decide +kernel)) (cwV 1 hts gL_all_X0_in rfl rfl rfl (by decide +kernel) ⟨Nat.le_of_ble_eq_true rfl, Nat.le_of_ble_eq_true rfl⟩) ⟨zP_blind, va_recv hK hP (ci := 0) (q0 := 0) rfl rfl, fun U hU hW => ⟨rfl, zP_mk hP hK hU hW⟩⟩ rfl rfl hl.1 rfl (lv_room (Nat.le_of_ble_eq_true rfl)) dL_all_65 ⟨Nat.le_of_ble_eq_true rfl, Nat.le_of_ble_eq_true rfl⟩) (fun r83 w83 => ?_)
  have w83 : r83 = 0 := w83.trans (by decide +kernel)
  subst w83
  refine lv_i2l (v := 0) hx hb dL_all_68 (by decide +kernel) ?_
  refine lv_ladd hx hb dL_all_69 ?_
  refine lv_topl (fun y84 hy84 => ?_)
  have hy84 : y84 = 4897328219807376556 := hy84.trans (by decide +kernel)
  subst hy84
  refine lv_ldc2 hx hb hown (hts (.constantLong RL 74 (31)) (by decide +kernel)) dL_all_70 ?_
  refine lv_aload_n hx hb dL_all_73 rfl (lv_at hl 2 rfl) ?_
  refine lv_iload_n hx hb dL_all_74 rfl (lv_at hl 0 rfl) ?_
  refine vp_callSi (W.runV (As := [.int 6]) (rest := [.long 31, .long 4897328219807376556]) ⟨hx, hb, hml, hown, hts⟩ (c_X0_speaker l D cI cZ cJ h a0 a1 a2 a3 a4 a5 a6 a7 a8 a9 a10 z0 z0 z0 z0 zf4 zf5 z0 z0 z0 z0 z0 0 0 0 0 6 (by decide +kernel)) (cwV 1 hts gL_all_X0_speaker rfl rfl rfl (by decide +kernel) ⟨Nat.le_of_ble_eq_true rfl, Nat.le_of_ble_eq_true rfl⟩) ⟨zP_blind, va_recv hK hP (ci := 0) (q0 := 0) rfl rfl, fun U hU hW => ⟨rfl, zP_mk hP hK hU hW⟩⟩ rfl rfl hl.1 rfl (lv_room (Nat.le_of_ble_eq_true rfl)) dL_all_75 ⟨Nat.le_of_ble_eq_true rfl, Nat.le_of_ble_eq_true rfl⟩) (fun r85 w85 => ?_)
  have w85 : r85 = (-1) := w85.trans (by decide +kernel)
  subst w85
  refine lv_iconst (v := 1) hx hb dL_all_78 (by decide) ?_
  refine lv_iadd hx hb dL_all_79 ?_
  refine lv_topi (fun y86 hy86 => ?_)
  have hy86 : y86 = 0 := hy86.trans (by decide +kernel)
  subst hy86
  refine lv_i2l (v := 0) hx hb dL_all_80 (by decide +kernel) ?_
  refine lv_lmul hx hb dL_all_81 ?_
  refine lv_topl (fun y87 hy87 => ?_)
  have hy87 : y87 = 0 := hy87.trans (by decide +kernel)
  subst hy87
  refine lv_ladd hx hb dL_all_82 ?_
  refine lv_topl (fun y88 hy88 => ?_)
  have hy88 : y88 = 4897328219807376556 := hy88.trans (by decide +kernel)
  subst hy88
  refine lv_ldc2 hx hb hown (hts (.constantLong RL 99 (257)) (by decide +kernel)) dL_all_83 ?_
  refine lv_aload_n hx hb dL_all_86 rfl (lv_at hl 2 rfl) ?_
  refine lv_iconst (v := 4) hx hb dL_all_87 (by decide) ?_
  refine lv_iload_n hx hb dL_all_88 rfl (lv_at hl 0 rfl) ?_
  refine vx_calli (vx_runSX (As := [.ref h, .int 4, .int 6]) (rest := [.long 257, .long 4897328219807376556]) ⟨hx, hb, hml, hown, hts⟩ (k_of_share_t2 l hl0 D cI cZ cJ H78.size h a0 a1 a2 a3 a4 a5 a6 a7 a8 a9 a10 z0 z0 z0 z0 zf4 zf5 z0 z0 z0 z0 z0 0 0 0 0 6 (by decide +kernel) (by decide +kernel) (by decide +kernel)) (vx_cwSW 3 hts gL_all_L_of rfl rfl rfl (by decide +kernel) ⟨Nat.le_of_ble_eq_true rfl, Nat.le_of_ble_eq_true rfl⟩) ⟨zKX_blind, fun U hU hW => ⟨rfl, by rw [hU], zX_on hZ hS (fun _ z => z.elim) hU hW, zP_mk hP hK hU hW⟩⟩ rfl rfl hl.1 rfl (lv_room (Nat.le_of_ble_eq_true rfl)) dL_all_89 ⟨Nat.le_of_ble_eq_true rfl, Nat.le_of_ble_eq_true rfl⟩) hS (fun _ _ z => z.elim) (fun _ z => z.elim) (fun _ _ z => z.elim) (fun E ce q9 u t H1 locs1 _ _ _ hE _ _ _ _ _ _ => hE.elim) (fun r89 u89 t89 H89 locs ht hvm w89 hB hz1 hk1 hS => ?_)
  have w89 : r89 = (-1044) := w89
  subst w89
  have hB9 : H78.size + 0 ≤ H89.size := by rw [← ht]; exact hB
  have hP := hP.kept (fun k q hk => hk1 q.1 (vx_lt hP hk) (fun z => z))
  have hgr : s.heap.size + 1 ≤ H89.size := by omega
  clear hk1 hz1 hvm ht hB hB9 t89 u89
  refine lv_i2l (v := (-1044)) hx hb dL_all_92 (by decide +kernel) ?_
  refine lv_lmul hx hb dL_all_93 ?_
  refine lv_topl (fun y90 hy90 => ?_)
  have hy90 : y90 = (-268308) := hy90.trans (by decide +kernel)
  subst hy90
  refine lv_ladd hx hb dL_all_94 ?_
  refine lv_topl (fun y91 hy91 => ?_)
  have hy91 : y91 = 4897328219807108248 := hy91.trans (by decide +kernel)
  subst hy91
  refine lv_lstore_n (lv' := [(1, .long 4897328219807108248), (3, .int 6), (0, .ref h)]) hx hb dL_all_95 rfl hl (by decide) rfl (fun ls hl => ?_)
  refine lv_iinc (v := 7) (lv' := [(3, .int 7), (1, .long 4897328219807108248), (0, .ref h)]) hx hb dL_all_96 hl (k := 1) rfl (by decide) (by decide) rfl (fun ls hl => ?_)
  refine lv_goto (tgt := 52) hx hb dL_all_99 (by decide) ?_
  refine lv_iload_n hx hb dL_all_52 rfl (lv_at hl 0 rfl) ?_
  refine lv_bipush (v := 8) hx hb dL_all_53 (by decide) ?_
  refine lv_icmp_ge (tgt := 102) hx hb dL_all_55 (by decide) (fun c9 => False.elim (by revert c9; decide)) (fun _ => ?_)
  refine lv_ldc2 hx hb hown (hts (.constantLong RL 97 (1000003)) (by decide +kernel)) dL_all_58 ?_
  refine lv_lload_n hx hb dL_all_61 rfl (lv_at hl 1 rfl) ?_
  refine lv_lmul hx hb dL_all_62 ?_
  refine lv_topl (fun y93 hy93 => ?_)
  have hy93 : y93 = 9061382987358550984 := hy93.trans (by decide +kernel)
  subst hy93
  refine lv_aload_n hx hb dL_all_63 rfl (lv_at hl 2 rfl) ?_
  refine lv_iload_n hx hb dL_all_64 rfl (lv_at hl 0 rfl) ?_
  refine vp_callSi (W.runV (As := [.int 7]) (rest := [.long 9061382987358550984]) ⟨hx, hb, hml, hown, hts⟩ (c_X0_in l D cI cZ cJ h a0 a1 a2 a3 a4 a5 a6 a7 a8 a9 a10 z0 z0 z0 z0 zf4 zf5 z0 z0 z0 z0 z0 0 0 0 0 7 (by decide +kernel)) (cwV 1 hts gL_all_X0_in rfl rfl rfl (by decide +kernel) ⟨Nat.le_of_ble_eq_true rfl, Nat.le_of_ble_eq_true rfl⟩) ⟨zP_blind, va_recv hK hP (ci := 0) (q0 := 0) rfl rfl, fun U hU hW => ⟨rfl, zP_mk hP hK hU hW⟩⟩ rfl rfl hl.1 rfl (lv_room (Nat.le_of_ble_eq_true rfl)) dL_all_65 ⟨Nat.le_of_ble_eq_true rfl, Nat.le_of_ble_eq_true rfl⟩) (fun r94 w94 => ?_)
  have w94 : r94 = 0 := w94.trans (by decide +kernel)
  subst w94
  refine lv_i2l (v := 0) hx hb dL_all_68 (by decide +kernel) ?_
  refine lv_ladd hx hb dL_all_69 ?_
  refine lv_topl (fun y95 hy95 => ?_)
  have hy95 : y95 = 9061382987358550984 := hy95.trans (by decide +kernel)
  subst hy95
  refine lv_ldc2 hx hb hown (hts (.constantLong RL 74 (31)) (by decide +kernel)) dL_all_70 ?_
  refine lv_aload_n hx hb dL_all_73 rfl (lv_at hl 2 rfl) ?_
  refine lv_iload_n hx hb dL_all_74 rfl (lv_at hl 0 rfl) ?_
  refine vp_callSi (W.runV (As := [.int 7]) (rest := [.long 31, .long 9061382987358550984]) ⟨hx, hb, hml, hown, hts⟩ (c_X0_speaker l D cI cZ cJ h a0 a1 a2 a3 a4 a5 a6 a7 a8 a9 a10 z0 z0 z0 z0 zf4 zf5 z0 z0 z0 z0 z0 0 0 0 0 7 (by decide +kernel)) (cwV 1 hts gL_all_X0_speaker rfl rfl rfl (by decide +kernel) ⟨Nat.le_of_ble_eq_true rfl, Nat.le_of_ble_eq_true rfl⟩) ⟨zP_blind, va_recv hK hP (ci := 0) (q0 := 0) rfl rfl, fun U hU hW => ⟨rfl, zP_mk hP hK hU hW⟩⟩ rfl rfl hl.1 rfl (lv_room (Nat.le_of_ble_eq_true rfl)) dL_all_75 ⟨Nat.le_of_ble_eq_true rfl, Nat.le_of_ble_eq_true rfl⟩) (fun r96 w96 => ?_)
  have w96 : r96 = (-1) := w96.trans (by decide +kernel)
  subst w96
  refine lv_iconst (v := 1) hx hb dL_all_78 (by decide) ?_
  refine lv_iadd hx hb dL_all_79 ?_
  refine lv_topi (fun y97 hy97 => ?_)
  have hy97 : y97 = 0 := hy97.trans (by decide +kernel)
  subst hy97
  refine lv_i2l (v := 0) hx hb dL_all_80 (by decide +kernel) ?_
  refine lv_lmul hx hb dL_all_81 ?_
  refine lv_topl (fun y98 hy98 => ?_)
  have hy98 : y98 = 0 := hy98.trans (by decide +kernel)
  subst hy98
  refine lv_ladd hx hb dL_all_82 ?_
  refine lv_topl (fun y99 hy99 => ?_)
  have hy99 : y99 = 9061382987358550984 := hy99.trans (by decide +kernel)
  subst hy99
  refine lv_ldc2 hx hb hown (hts (.constantLong RL 99 (257)) (by decide +kernel)) dL_all_83 ?_
  refine lv_aload_n hx hb dL_all_86 rfl (lv_at hl 2 rfl) ?_
  refine lv_iconst (v := 4) hx hb dL_all_87 (by decide) ?_
  refine lv_iload_n hx hb dL_all_88 rfl (lv_at hl 0 rfl) ?_
  refine vx_calli (vx_runSX (As := [.ref h, .int 4, .int 7]) (rest := [.long 257, .long 9061382987358550984]) ⟨hx, hb, hml, hown, hts⟩ (k_of_share_t2 l hl0 D cI cZ cJ H89.size h a0 a1 a2 a3 a4 a5 a6 a7 a8 a9 a10 z0 z0 z0 z0 zf4 zf5 z0 z0 z0 z0 z0 0 0 0 0 7 (by decide +kernel) (by decide +kernel) (by decide +kernel)) (vx_cwSW 3 hts gL_all_L_of rfl rfl rfl (by decide +kernel) ⟨Nat.le_of_ble_eq_true rfl, Nat.le_of_ble_eq_true rfl⟩) ⟨zKX_blind, fun U hU hW => ⟨rfl, by rw [hU], zX_on hZ hS (fun _ z => z.elim) hU hW, zP_mk hP hK hU hW⟩⟩ rfl rfl hl.1 rfl (lv_room (Nat.le_of_ble_eq_true rfl)) dL_all_89 ⟨Nat.le_of_ble_eq_true rfl, Nat.le_of_ble_eq_true rfl⟩) hS (fun _ _ z => z.elim) (fun _ z => z.elim) (fun _ _ z => z.elim) (fun E ce q9 u t H1 locs1 _ _ _ hE _ _ _ _ _ _ => hE.elim) (fun r100 u100 t100 H100 locs ht hvm w100 hB hz1 hk1 hS => ?_)
  have w100 : r100 = (-1044) := w100
  subst w100
  have hB9 : H89.size + 0 ≤ H100.size := by rw [← ht]; exact hB
  have hP := hP.kept (fun k q hk => hk1 q.1 (vx_lt hP hk) (fun z => z))
  have hgr : s.heap.size + 1 ≤ H100.size := by omega
  clear hk1 hz1 hvm ht hB hB9 t100 u100
  refine lv_i2l (v := (-1044)) hx hb dL_all_92 (by decide +kernel) ?_
  refine lv_lmul hx hb dL_all_93 ?_
  refine lv_topl (fun y101 hy101 => ?_)
  have hy101 : y101 = (-268308) := hy101.trans (by decide +kernel)
  subst hy101
  refine lv_ladd hx hb dL_all_94 ?_
  refine lv_topl (fun y102 hy102 => ?_)
  have hy102 : y102 = 9061382987358282676 := hy102.trans (by decide +kernel)
  subst hy102
  refine lv_lstore_n (lv' := [(1, .long 9061382987358282676), (3, .int 7), (0, .ref h)]) hx hb dL_all_95 rfl hl (by decide) rfl (fun ls hl => ?_)
  refine lv_iinc (v := 8) (lv' := [(3, .int 8), (1, .long 9061382987358282676), (0, .ref h)]) hx hb dL_all_96 hl (k := 1) rfl (by decide) (by decide) rfl (fun ls hl => ?_)
  refine lv_goto (tgt := 52) hx hb dL_all_99 (by decide) ?_
  refine lv_iload_n hx hb dL_all_52 rfl (lv_at hl 0 rfl) ?_
  refine lv_bipush (v := 8) hx hb dL_all_53 (by decide) ?_
  refine lv_icmp_ge (tgt := 102) hx hb dL_all_55 (by decide) (fun _ => ?_) (fun c9 => False.elim (by revert c9; decide))
  refine lv_ldc2 hx hb hown (hts (.constantLong RL 97 (1000003)) (by decide +kernel)) dL_all_102 ?_
  refine lv_lload_n hx hb dL_all_105 rfl (lv_at hl 1 rfl) ?_
  refine lv_lmul hx hb dL_all_106 ?_
  refine lv_topl (fun y104 hy104 => ?_)
  have hy104 : y104 = 547619638806036508 := hy104.trans (by decide +kernel)
  subst hy104
  refine lv_aload_n hx hb dL_all_107 rfl (lv_at hl 2 rfl) ?_
  refine lv_iconst (v := 1) hx hb dL_all_108 (by decide) ?_
  refine vp_callSi (W.runV (As := [.int 1]) (rest := [.long 547619638806036508]) ⟨hx, hb, hml, hown, hts⟩ (c_X0_weight l D cI cZ cJ h a0 a1 a2 a3 a4 a5 a6 a7 a8 a9 a10 z0 z0 z0 z0 zf4 zf5 z0 z0 z0 z0 z0 0 0 0 0 1 (by decide +kernel)) (cwV 1 hts gL_all_X0_weight rfl rfl rfl (by decide +kernel) ⟨Nat.le_of_ble_eq_true rfl, Nat.le_of_ble_eq_true rfl⟩) ⟨zP_blind, va_recv hK hP (ci := 0) (q0 := 0) rfl rfl, fun U hU hW => ⟨rfl, zP_mk hP hK hU hW⟩⟩ rfl rfl hl.1 rfl (lv_room (Nat.le_of_ble_eq_true rfl)) dL_all_109 ⟨Nat.le_of_ble_eq_true rfl, Nat.le_of_ble_eq_true rfl⟩) (fun r105 w105 => ?_)
  have w105 : r105 = 0 := w105.trans (by decide +kernel)
  subst w105
  refine lv_i2l (v := 0) hx hb dL_all_112 (by decide +kernel) ?_
  refine lv_ladd hx hb dL_all_113 ?_
  refine lv_topl (fun y106 hy106 => ?_)
  have hy106 : y106 = 547619638806036508 := hy106.trans (by decide +kernel)
  subst hy106
  refine lv_ldc2 hx hb hown (hts (.constantLong RL 74 (31)) (by decide +kernel)) dL_all_114 ?_
  refine lv_aload_n hx hb dL_all_117 rfl (lv_at hl 2 rfl) ?_
  refine lv_iconst (v := 2) hx hb dL_all_118 (by decide) ?_
  refine vp_callSi (W.runV (As := [.int 2]) (rest := [.long 31, .long 547619638806036508]) ⟨hx, hb, hml, hown, hts⟩ (c_X0_weight l D cI cZ cJ h a0 a1 a2 a3 a4 a5 a6 a7 a8 a9 a10 z0 z0 z0 z0 zf4 zf5 z0 z0 z0 z0 z0 0 0 0 0 2 (by decide +kernel)) (cwV 1 hts gL_all_X0_weight rfl rfl rfl (by decide +kernel) ⟨Nat.le_of_ble_eq_true rfl, Nat.le_of_ble_eq_true rfl⟩) ⟨zP_blind, va_recv hK hP (ci := 0) (q0 := 0) rfl rfl, fun U hU hW => ⟨rfl, zP_mk hP hK hU hW⟩⟩ rfl rfl hl.1 rfl (lv_room (Nat.le_of_ble_eq_true rfl)) dL_all_119 ⟨Nat.le_of_ble_eq_true rfl, Nat.le_of_ble_eq_true rfl⟩) (fun r107 w107 => ?_)
  have w107 : r107 = 0 := w107.trans (by decide +kernel)
  subst w107
  refine lv_i2l (v := 0) hx hb dL_all_122 (by decide +kernel) ?_
  refine lv_lmul hx hb dL_all_123 ?_
  refine lv_topl (fun y108 hy108 => ?_)
  have hy108 : y108 = 0 := hy108.trans (by decide +kernel)
  subst hy108
  refine lv_ladd hx hb dL_all_124 ?_
  refine lv_topl (fun y109 hy109 => ?_)
  have hy109 : y109 = 547619638806036508 := hy109.trans (by decide +kernel)
  subst hy109
  refine W.widen (k := 9) (n := 54) (Nat.le_of_ble_eq_true rfl) (Nat.le_of_ble_eq_true rfl) ?_
  refine vx_ret ?_
  exact W.lret (v := 547619638806036508) hx hb hr (fun t ht hW => ⟨⟨547619638806036508, (), rfl, rfl, by show s.heap.size + 1 ≤ t.heap.size; rw [ht]; exact hgr⟩, hS.F ht⟩) hS.2.2 dL_all_125
set_option maxHeartbeats 4000000 in
set_option maxRecDepth 100000 in
theorem k_areSums (l : Launch) (hl0 : l.stackTraces = false) (D : va_G) (cI cZ cJ : ClassId) (sz : Nat) (h a0 a1 a2 a3 a4 a5 a6 a7 a8 a9 a10 : Nat) (ma : Nat) : vx_Met l yL_areSums wsL_areSums ({ frames := 3, cells := 0, slots := 0, locals := 61 }) (va_Pc [.ref h, .ref ma] (zKX D cI cZ cJ sz (w0 cI cZ h a0 a1 a2 a3 a4 a5 a6 a7 a8 a9 a10 ++ [(ma, .inl (cI, 4, .inl z0))]))) (va_Qi (fun (r : Int32) (_ : Unit) => r = 1) (fun _ t => sz + 0 ≤ t.heap.size) (fun _ => False)) (zXC (fun _ => False)) 0 0 (fun _ => False) := by
  refine vx_ofW (cc := cL_areSums) (maxL := 6) (ret := (some .boolean)) (by decide) rfl ?_
  intro p e s m args below meth c s₁ B hml hout hv
  obtain ⟨rfl, hsz, hZ, hP, hK⟩ := hv
  have hx := B.exec
  have hb := B.bytes
  have hr := B.returns
  have hts := atoms_spec (ws := wsL_areSums) B.pre
  have hown : s.vm.findClass RL = some m.cls := findClass_of_methodNamed B.named
  have hlocks := B.notSynchronized
  subst hsz
  have hS : va_S (fun _ : Nat => False) s.heap s.heap [] := va_S.rf
  have hgr : s.heap.size + 0 ≤ s.heap.size := Nat.le_refl _
  have hl := lv_entry ([.ref h, .ref ma]) (n := 6) (Nat.le_of_ble_eq_true rfl)
  rw [lg_entry_eq]
  generalize (lg_sl ([.ref h, .ref ma]) ++ List.replicate (6 - (lg_sl ([.ref h, .ref ma])).length) Slot.unset).toArray = ls at hl ⊢
  have hl : lv_has ls 6 [(0, .ref h), (1, .ref ma)] := hl
  refine lv_iconst (v := 0) hx hb dL_areSums_0 (by decide) ?_
  refine lv_istore_n (lv' := [(2, .int 0), (0, .ref h), (1, .ref ma)]) hx hb dL_areSums_1 rfl hl (by decide) rfl (fun ls hl => ?_)
  refine lv_iconst (v := 1) hx hb dL_areSums_2 (by decide) ?_
  refine lv_istore_n (lv' := [(3, .int 1), (2, .int 0), (0, .ref h), (1, .ref ma)]) hx hb dL_areSums_3 rfl hl (by decide) rfl (fun ls hl => ?_)
  refine lv_iconst (v := 0) hx hb dL_areSums_4 (by decide) ?_
  refine lv_istore (lv' := [(4, .int 0), (3, .int 1), (2, .int 0), (0, .ref h), (1, .ref ma)]) hx hb dL_areSums_5 hl (by decide) rfl (fun ls hl => ?_)
  refine lv_iload hx hb dL_areSums_7 (lv_at hl 0 rfl) ?_
  refine lv_bipush (v := 8) hx hb dL_areSums_9 (by decide) ?_
  refine lv_icmp_ge (tgt := 74) hx hb dL_areSums_11 (by decide) (fun c9 => False.elim (by revert c9; decide)) (fun _ => ?_)
  refine lv_iload_n hx hb dL_areSums_14 rfl (lv_at hl 1 rfl) ?_
  refine lv_if_eq (tgt := 74) hx hb dL_areSums_15 (by decide) (fun c9 => False.elim (by revert c9; decide)) (fun _ => ?_)
  refine lv_iload_n hx hb dL_areSums_18 rfl (lv_at hl 2 rfl) ?_
  refine lv_aload_n hx hb dL_areSums_19 rfl (lv_at hl 3 rfl) ?_
  refine lv_iload hx hb dL_areSums_20 (lv_at hl 0 rfl) ?_
  refine vp_callSi (W.runV (As := [.int 0]) (rest := [.int 0]) ⟨hx, hb, hml, hown, hts⟩ (c_X0_in l D cI cZ cJ h a0 a1 a2 a3 a4 a5 a6 a7 a8 a9 a10 z0 z0 z0 z0 zf4 zf5 z0 z0 z0 z0 z0 0 0 0 0 0 (by decide +kernel)) (cwV 1 hts gL_areSums_X0_in rfl rfl rfl (by decide +kernel) ⟨Nat.le_of_ble_eq_true rfl, Nat.le_of_ble_eq_true rfl⟩) ⟨zP_blind, va_recv hK hP (ci := 0) (q0 := 0) rfl rfl, fun U hU hW => ⟨rfl, zP_mk (hP.sub (ws' := w0 cI cZ h a0 a1 a2 a3 a4 a5 a6 a7 a8 a9 a10) [0, 1, 2, 3, 4, 5, 6, 7, 8, 9, 10, 11] rfl) hK hU hW⟩⟩ rfl rfl hl.1 rfl (lv_room (Nat.le_of_ble_eq_true rfl)) dL_areSums_22 ⟨Nat.le_of_ble_eq_true rfl, Nat.le_of_ble_eq_true rfl⟩) (fun r3 w3 => ?_)
  have w3 : r3 = 0 := w3.trans (by decide +kernel)
  subst w3
  refine lv_iadd hx hb dL_areSums_25 ?_
  refine lv_topi (fun y4 hy4 => ?_)
  have hy4 : y4 = 0 := hy4.trans (by decide +kernel)
  subst hy4
  refine lv_istore_n (lv' := [(2, .int 0), (4, .int 0), (3, .int 1), (0, .ref h), (1, .ref ma)]) hx hb dL_areSums_26 rfl hl (by decide) rfl (fun ls hl => ?_)
  refine lv_aload_n hx hb dL_areSums_27 rfl (lv_at hl 3 rfl) ?_
  refine lv_iload hx hb dL_areSums_28 (lv_at hl 1 rfl) ?_
  refine vp_callSi (W.runV (As := [.int 0]) (rest := []) ⟨hx, hb, hml, hown, hts⟩ (c_X0_in l D cI cZ cJ h a0 a1 a2 a3 a4 a5 a6 a7 a8 a9 a10 z0 z0 z0 z0 zf4 zf5 z0 z0 z0 z0 z0 0 0 0 0 0 (by decide +kernel)) (cwV 1 hts gL_areSums_X0_in rfl rfl rfl (by decide +kernel) ⟨Nat.le_of_ble_eq_true rfl, Nat.le_of_ble_eq_true rfl⟩) ⟨zP_blind, va_recv hK hP (ci := 0) (q0 := 0) rfl rfl, fun U hU hW => ⟨rfl, zP_mk (hP.sub (ws' := w0 cI cZ h a0 a1 a2 a3 a4 a5 a6 a7 a8 a9 a10) [0, 1, 2, 3, 4, 5, 6, 7, 8, 9, 10, 11] rfl) hK hU hW⟩⟩ rfl rfl hl.1 rfl (lv_room (Nat.le_of_ble_eq_true rfl)) dL_areSums_30 ⟨Nat.le_of_ble_eq_true rfl, Nat.le_of_ble_eq_true rfl⟩) (fun r5 w5 => ?_)
  have w5 : r5 = 0 := w5.trans (by decide +kernel)
  subst w5
  refine lv_if_lt (tgt := 66) hx hb dL_areSums_33 (by decide) (fun c9 => False.elim (by revert c9; decide)) (fun _ => ?_)
  refine lv_aload_n hx hb dL_areSums_36 rfl (lv_at hl 3 rfl) ?_
  refine lv_iload hx hb dL_areSums_37 (lv_at hl 1 rfl) ?_
  refine vp_callSi (W.runV (As := [.int 0]) (rest := []) ⟨hx, hb, hml, hown, hts⟩ (c_X0_in l D cI cZ cJ h a0 a1 a2 a3 a4 a5 a6 a7 a8 a9 a10 z0 z0 z0 z0 zf4 zf5 z0 z0 z0 z0 z0 0 0 0 0 0 (by decide +kernel)) (cwV 1 hts gL_areSums_X0_in rfl rfl rfl (by decide +kernel) ⟨Nat.le_of_ble_eq_true rfl, Nat.le_of_ble_eq_true rfl⟩) ⟨zP_blind, va_recv hK hP (ci := 0) (q0 := 0) rfl rfl, fun U hU hW => ⟨rfl, zP_mk (hP.sub (ws' := w0 cI cZ h a0 a1 a2 a3 a4 a5 a6 a7 a8 a9 a10) [0, 1, 2, 3, 4, 5, 6, 7, 8, 9, 10, 11] rfl) hK hU hW⟩⟩ rfl rfl hl.1 rfl (lv_room (Nat.le_of_ble_eq_true rfl)) dL_areSums_39 ⟨Nat.le_of_ble_eq_true rfl, Nat.le_of_ble_eq_true rfl⟩) (fun r7 w7 => ?_)
  have w7 : r7 = 0 := w7.trans (by decide +kernel)
  subst w7
  refine lv_ldc hx hb hown (hts (.constant RL 101 (100000)) (by decide +kernel)) dL_areSums_42 ?_
  refine lv_icmp_gt (tgt := 66) hx hb dL_areSums_44 (by decide) (fun c9 => False.elim (by revert c9; decide)) (fun _ => ?_)
  refine lv_aload_n hx hb dL_areSums_47 rfl (lv_at hl 3 rfl) ?_
  refine lv_iload hx hb dL_areSums_48 (lv_at hl 1 rfl) ?_
  refine vp_callSi (W.runV (As := [.int 0]) (rest := []) ⟨hx, hb, hml, hown, hts⟩ (c_X0_inByBook l D cI cZ cJ h a0 a1 a2 a3 a4 a5 a6 a7 a8 a9 a10 z0 z0 z0 z0 zf4 zf5 z0 z0 z0 z0 z0 0 0 0 0 0 (by decide +kernel)) (cwV 1 hts gL_areSums_X0_inByBook rfl rfl rfl (by decide +kernel) ⟨Nat.le_of_ble_eq_true rfl, Nat.le_of_ble_eq_true rfl⟩) ⟨zP_blind, va_recv hK hP (ci := 0) (q0 := 0) rfl rfl, fun U hU hW => ⟨rfl, zP_mk (hP.sub (ws' := w0 cI cZ h a0 a1 a2 a3 a4 a5 a6 a7 a8 a9 a10) [0, 1, 2, 3, 4, 5, 6, 7, 8, 9, 10, 11] rfl) hK hU hW⟩⟩ rfl rfl hl.1 rfl (lv_room (Nat.le_of_ble_eq_true rfl)) dL_areSums_50 ⟨Nat.le_of_ble_eq_true rfl, Nat.le_of_ble_eq_true rfl⟩) (fun r9 w9 => ?_)
  have w9 : r9 = 0 := w9.trans (by decide +kernel)
  subst w9
  refine lv_aload_n hx hb dL_areSums_53 rfl (lv_at hl 3 rfl) ?_
  refine lv_iload hx hb dL_areSums_54 (lv_at hl 1 rfl) ?_
  refine vp_callSi (W.runV (As := [.int 0]) (rest := [.int 0]) ⟨hx, hb, hml, hown, hts⟩ (c_X0_in l D cI cZ cJ h a0 a1 a2 a3 a4 a5 a6 a7 a8 a9 a10 z0 z0 z0 z0 zf4 zf5 z0 z0 z0 z0 z0 0 0 0 0 0 (by decide +kernel)) (cwV 1 hts gL_areSums_X0_in rfl rfl rfl (by decide +kernel) ⟨Nat.le_of_ble_eq_true rfl, Nat.le_of_ble_eq_true rfl⟩) ⟨zP_blind, va_recv hK hP (ci := 0) (q0 := 0) rfl rfl, fun U hU hW => ⟨rfl, zP_mk (hP.sub (ws' := w0 cI cZ h a0 a1 a2 a3 a4 a5 a6 a7 a8 a9 a10) [0, 1, 2, 3, 4, 5, 6, 7, 8, 9, 10, 11] rfl) hK hU hW⟩⟩ rfl rfl hl.1 rfl (lv_room (Nat.le_of_ble_eq_true rfl)) dL_areSums_56 ⟨Nat.le_of_ble_eq_true rfl, Nat.le_of_ble_eq_true rfl⟩) (fun r10 w10 => ?_)
  have w10 : r10 = 0 := w10.trans (by decide +kernel)
  subst w10
  refine lv_icmp_ne (tgt := 66) hx hb dL_areSums_59 (by decide) (fun c9 => False.elim (by revert c9; decide)) (fun _ => ?_)
  refine lv_iconst (v := 1) hx hb dL_areSums_62 (by decide) ?_
  refine lv_goto (tgt := 67) hx hb dL_areSums_63 (by decide) ?_
  refine lv_istore_n (lv' := [(3, .int 1), (2, .int 0), (4, .int 0), (0, .ref h), (1, .ref ma)]) hx hb dL_areSums_67 rfl hl (by decide) rfl (fun ls hl => ?_)
  refine lv_iinc (v := 1) (lv' := [(4, .int 1), (3, .int 1), (2, .int 0), (0, .ref h), (1, .ref ma)]) hx hb dL_areSums_68 hl (k := 2) rfl (by decide) (by decide) rfl (fun ls hl => ?_)
  refine lv_goto (tgt := 7) hx hb dL_areSums_71 (by decide) ?_
  refine lv_iload hx hb dL_areSums_7 (lv_at hl 0 rfl) ?_
  refine lv_bipush (v := 8) hx hb dL_areSums_9 (by decide) ?_
  refine lv_icmp_ge (tgt := 74) hx hb dL_areSums_11 (by decide) (fun c9 => False.elim (by revert c9; decide)) (fun _ => ?_)
  refine lv_iload_n hx hb dL_areSums_14 rfl (lv_at hl 1 rfl) ?_
  refine lv_if_eq (tgt := 74) hx hb dL_areSums_15 (by decide) (fun c9 => False.elim (by revert c9; decide)) (fun _ => ?_)
  refine lv_iload_n hx hb dL_areSums_18 rfl (lv_at hl 2 rfl) ?_
  refine lv_aload_n hx hb dL_areSums_19 rfl (lv_at hl 3 rfl) ?_
  refine lv_iload hx hb dL_areSums_20 (lv_at hl 0 rfl) ?_
  refine vp_callSi (W.runV (As := [.int 1]) (rest := [.int 0]) ⟨hx, hb, hml, hown, hts⟩ (c_X0_in l D cI cZ cJ h a0 a1 a2 a3 a4 a5 a6 a7 a8 a9 a10 z0 z0 z0 z0 zf4 zf5 z0 z0 z0 z0 z0 0 0 0 0 1 (by decide +kernel)) (cwV 1 hts gL_areSums_X0_in rfl rfl rfl (by decide +kernel) ⟨Nat.le_of_ble_eq_true rfl, Nat.le_of_ble_eq_true rfl⟩) ⟨zP_blind, va_recv hK hP (ci := 0) (q0 := 0) rfl rfl, fun U hU hW => ⟨rfl, zP_mk (hP.sub (ws' := w0 cI cZ h a0 a1 a2 a3 a4 a5 a6 a7 a8 a9 a10) [0, 1, 2, 3, 4, 5, 6, 7, 8, 9, 10, 11] rfl) hK hU hW⟩⟩ rfl rfl hl.1 rfl (lv_room (Nat.le_of_ble_eq_true rfl)) dL_areSums_22 ⟨Nat.le_of_ble_eq_true rfl, Nat.le_of_ble_eq_true rfl⟩) (fun r14 w14 => ?_)
  have w14 : r14 = 0 := w14.trans (by decide +kernel)
  subst w14
  refine lv_iadd hx hb dL_areSums_25 ?_
  refine lv_topi (fun y15 hy15 => ?_)
  have hy15 : y15 = 0 := hy15.trans (by decide +kernel)
  subst hy15
  refine lv_istore_n (lv' := [(2, .int 0), (4, .int 1), (3, .int 1), (0, .ref h), (1, .ref ma)]) hx hb dL_areSums_26 rfl hl (by decide) rfl (fun ls hl => ?_)
  refine lv_aload_n hx hb dL_areSums_27 rfl (lv_at hl 3 rfl) ?_
  refine lv_iload hx hb dL_areSums_28 (lv_at hl 1 rfl) ?_
  refine vp_callSi (W.runV (As := [.int 1]) (rest := []) ⟨hx, hb, hml, hown, hts⟩ (c_X0_in l D cI cZ cJ h a0 a1 a2 a3 a4 a5 a6 a7 a8 a9 a10 z0 z0 z0 z0 zf4 zf5 z0 z0 z0 z0 z0 0 0 0 0 1 (by decide +kernel)) (cwV 1 hts gL_areSums_X0_in rfl rfl rfl (by decide +kernel) ⟨Nat.le_of_ble_eq_true rfl, Nat.le_of_ble_eq_true rfl⟩) ⟨zP_blind, va_recv hK hP (ci := 0) (q0 := 0) rfl rfl, fun U hU hW => ⟨rfl, zP_mk (hP.sub (ws' := w0 cI cZ h a0 a1 a2 a3 a4 a5 a6 a7 a8 a9 a10) [0, 1, 2, 3, 4, 5, 6, 7, 8, 9, 10, 11] rfl) hK hU hW⟩⟩ rfl rfl hl.1 rfl (lv_room (Nat.le_of_ble_eq_true rfl)) dL_areSums_30 ⟨Nat.le_of_ble_eq_true rfl, Nat.le_of_ble_eq_true rfl⟩) (fun r16 w16 => ?_)
  have w16 : r16 = 0 := w16.trans (by decide +kernel)
  subst w16
  refine lv_if_lt (tgt := 66) hx hb dL_areSums_33 (by decide) (fun c9 => False.elim (by revert c9; decide)) (fun _ => ?_)
  refine lv_aload_n hx hb dL_areSums_36 rfl (lv_at hl 3 rfl) ?_
  refine lv_iload hx hb dL_areSums_37 (lv_at hl 1 rfl) ?_
  refine vp_callSi (W.runV (As := [.int 1]) (rest := []) ⟨hx, hb, hml, hown, hts⟩ (c_X0_in l D cI cZ cJ h a0 a1 a2 a3 a4 a5 a6 a7 a8 a9 a10 z0 z0 z0 z0 zf4 zf5 z0 z0 z0 z0 z0 0 0 0 0 1 (by decide +kernel)) (cwV 1 hts gL_areSums_X0_in rfl rfl rfl (by decide +kernel) ⟨Nat.le_of_ble_eq_true rfl, Nat.le_of_ble_eq_true rfl⟩) ⟨zP_blind, va_recv hK hP (ci := 0) (q0 := 0) rfl rfl, fun U hU hW => ⟨rfl, zP_mk (hP.sub (ws' := w0 cI cZ h a0 a1 a2 a3 a4 a5 a6 a7 a8 a9 a10) [0, 1, 2, 3, 4, 5, 6, 7, 8, 9, 10, 11] rfl) hK hU hW⟩⟩ rfl rfl hl.1 rfl (lv_room (Nat.le_of_ble_eq_true rfl)) dL_areSums_39 ⟨Nat.le_of_ble_eq_true rfl, Nat.le_of_ble_eq_true rfl⟩) (fun r18 w18 => ?_)
  have w18 : r18 = 0 := w18.trans (by decide +kernel)
  subst w18
  refine lv_ldc hx hb hown (hts (.constant RL 101 (100000)) (by decide +kernel)) dL_areSums_42 ?_
  refine lv_icmp_gt (tgt := 66) hx hb dL_areSums_44 (by decide) (fun c9 => False.elim (by revert c9; decide)) (fun _ => ?_)
  refine lv_aload_n hx hb dL_areSums_47 rfl (lv_at hl 3 rfl) ?_
  refine lv_iload hx hb dL_areSums_48 (lv_at hl 1 rfl) ?_
  refine vp_callSi (W.runV (As := [.int 1]) (rest := []) ⟨hx, hb, hml, hown, hts⟩ (c_X0_inByBook l D cI cZ cJ h a0 a1 a2 a3 a4 a5 a6 a7 a8 a9 a10 z0 z0 z0 z0 zf4 zf5 z0 z0 z0 z0 z0 0 0 0 0 1 (by decide +kernel)) (cwV 1 hts gL_areSums_X0_inByBook rfl rfl rfl (by decide +kernel) ⟨Nat.le_of_ble_eq_true rfl, Nat.le_of_ble_eq_true rfl⟩) ⟨zP_blind, va_recv hK hP (ci := 0) (q0 := 0) rfl rfl, fun U hU hW => ⟨rfl, zP_mk (hP.sub (ws' := w0 cI cZ h a0 a1 a2 a3 a4 a5 a6 a7 a8 a9 a10) [0, 1, 2, 3, 4, 5, 6, 7, 8, 9, 10, 11] rfl) hK hU hW⟩⟩ rfl rfl hl.1 rfl (lv_room (Nat.le_of_ble_eq_true rfl)) dL_areSums_50 ⟨Nat.le_of_ble_eq_true rfl, Nat.le_of_ble_eq_true rfl⟩) (fun r20 w20 => ?_)
  have w20 : r20 = 0 := w20.trans (by decide +kernel)
  subst w20
  refine lv_aload_n hx hb dL_areSums_53 rfl (lv_at hl 3 rfl) ?_
  refine lv_iload hx hb dL_areSums_54 (lv_at hl 1 rfl) ?_
  refine vp_callSi (W.runV (As := [.int 1]) (rest := [.int 0]) ⟨hx, hb, hml, hown, hts⟩ (c_X0_in l D cI cZ cJ h a0 a1 a2 a3 a4 a5 a6 a7 a8 a9 a10 z0 z0 z0 z0 zf4 zf5 z0 z0 z0 z0 z0 0 0 0 0 1 (by decide +kernel)) (cwV 1 hts gL_areSums_X0_in rfl rfl rfl (by decide +kernel) ⟨Nat.le_of_ble_eq_true rfl, Nat.le_of_ble_eq_true rfl⟩) ⟨zP_blind, va_recv hK hP (ci := 0) (q0 := 0) rfl rfl, fun U hU hW => ⟨rfl, zP_mk (hP.sub (ws' := w0 cI cZ h a0 a1 a2 a3 a4 a5 a6 a7 a8 a9 a10) [0, 1, 2, 3, 4, 5, 6, 7, 8, 9, 10, 11] rfl) hK hU hW⟩⟩ rfl rfl hl.1 rfl (lv_room (Nat.le_of_ble_eq_true rfl)) dL_areSums_56 ⟨Nat.le_of_ble_eq_true rfl, Nat.le_of_ble_eq_true rfl⟩) (fun r21 w21 => ?_)
  have w21 : r21 = 0 := w21.trans (by decide +kernel)
  subst w21
  refine lv_icmp_ne (tgt := 66) hx hb dL_areSums_59 (by decide) (fun c9 => False.elim (by revert c9; decide)) (fun _ => ?_)
  refine lv_iconst (v := 1) hx hb dL_areSums_62 (by decide) ?_
  refine lv_goto (tgt := 67) hx hb dL_areSums_63 (by decide) ?_
  refine lv_istore_n (lv' := [(3, .int 1), (2, .int 0), (4, .int 1), (0, .ref h), (1, .ref ma)]) hx hb dL_areSums_67 rfl hl (by decide) rfl (fun ls hl => ?_)
  refine lv_iinc (v := 2) (lv' := [(4, .int 2), (3, .int 1), (2, .int 0), (0, .ref h), (1, .ref ma)]) hx hb dL_areSums_68 hl (k := 2) rfl (by decide) (by decide) rfl (fun ls hl => ?_)
  refine lv_goto (tgt := 7) hx hb dL_areSums_71 (by decide) ?_
  refine lv_iload hx hb dL_areSums_7 (lv_at hl 0 rfl) ?_
  refine lv_bipush (v := 8) hx hb dL_areSums_9 (by decide) ?_
  refine lv_icmp_ge (tgt := 74) hx hb dL_areSums_11 (by decide) (fun c9 => False.elim (by revert c9; decide)) (fun _ => ?_)
  refine lv_iload_n hx hb dL_areSums_14 rfl (lv_at hl 1 rfl) ?_
  refine lv_if_eq (tgt := 74) hx hb dL_areSums_15 (by decide) (fun c9 => False.elim (by revert c9; decide)) (fun _ => ?_)
  refine lv_iload_n hx hb dL_areSums_18 rfl (lv_at hl 2 rfl) ?_
  refine lv_aload_n hx hb dL_areSums_19 rfl (lv_at hl 3 rfl) ?_
  refine lv_iload hx hb dL_areSums_20 (lv_at hl 0 rfl) ?_
  refine vp_callSi (W.runV (As := [.int 2]) (rest := [.int 0]) ⟨hx, hb, hml, hown, hts⟩ (c_X0_in l D cI cZ cJ h a0 a1 a2 a3 a4 a5 a6 a7 a8 a9 a10 z0 z0 z0 z0 zf4 zf5 z0 z0 z0 z0 z0 0 0 0 0 2 (by decide +kernel)) (cwV 1 hts gL_areSums_X0_in rfl rfl rfl (by decide +kernel) ⟨Nat.le_of_ble_eq_true rfl, Nat.le_of_ble_eq_true rfl⟩) ⟨zP_blind, va_recv hK hP (ci := 0) (q0 := 0) rfl rfl, fun U hU hW => ⟨rfl, zP_mk (hP.sub (ws' := w0 cI cZ h a0 a1 a2 a3 a4 a5 a6 a7 a8 a9 a10) [0, 1, 2, 3, 4, 5, 6, 7, 8, 9, 10, 11] rfl) hK hU hW⟩⟩ rfl rfl hl.1 rfl (lv_room (Nat.le_of_ble_eq_true rfl)) dL_areSums_22 ⟨Nat.le_of_ble_eq_true rfl, Nat.le_of_ble_eq_true rfl⟩) (fun r25 w25 => ?_)
  have w25 : r25 = 0 := w25.trans (by decide +kernel)
  subst w25
  refine lv_iadd hx hb dL_areSums_25 ?_
  refine lv_topi (fun y26 hy26 => ?_)
  have hy26 : y26 = 0 := hy26.trans (by decide +kernel)
  subst hy26
  refine lv_istore_n (lv' := [(2, .int 0), (4, .int 2), (3, .int 1), (0, .ref h), (1, .ref ma)]) hx hb dL_areSums_26 rfl hl (by decide) rfl (fun ls hl => ?_)
  refine lv_aload_n hx hb dL_areSums_27 rfl (lv_at hl 3 rfl) ?_
  refine lv_iload hx hb dL_areSums_28 (lv_at hl 1 rfl) ?_
  refine vp_callSi (W.runV (As := [.int 2]) (rest := []) ⟨hx, hb, hml, hown, hts⟩ (c_X0_in l D cI cZ cJ h a0 a1 a2 a3 a4 a5 a6 a7 a8 a9 a10 z0 z0 z0 z0 zf4 zf5 z0 z0 z0 z0 z0 0 0 0 0 2 (by decide +kernel)) (cwV 1 hts gL_areSums_X0_in rfl rfl rfl (by decide +kernel) ⟨Nat.le_of_ble_eq_true rfl, Nat.le_of_ble_eq_true rfl⟩) ⟨zP_blind, va_recv hK hP (ci := 0) (q0 := 0) rfl rfl, fun U hU hW => ⟨rfl, zP_mk (hP.sub (ws' := w0 cI cZ h a0 a1 a2 a3 a4 a5 a6 a7 a8 a9 a10) [0, 1, 2, 3, 4, 5, 6, 7, 8, 9, 10, 11] rfl) hK hU hW⟩⟩ rfl rfl hl.1 rfl (lv_room (Nat.le_of_ble_eq_true rfl)) dL_areSums_30 ⟨Nat.le_of_ble_eq_true rfl, Nat.le_of_ble_eq_true rfl⟩) (fun r27 w27 => ?_)
  have w27 : r27 = 0 := w27.trans (by decide +kernel)
  subst w27
  refine lv_if_lt (tgt := 66) hx hb dL_areSums_33 (by decide) (fun c9 => False.elim (by revert c9; decide)) (fun _ => ?_)
  refine lv_aload_n hx hb dL_areSums_36 rfl (lv_at hl 3 rfl) ?_
  refine lv_iload hx hb dL_areSums_37 (lv_at hl 1 rfl) ?_
  refine vp_callSi (W.runV (As := [.int 2]) (rest := []) ⟨hx, hb, hml, hown, hts⟩ (c_X0_in l D cI cZ cJ h a0 a1 a2 a3 a4 a5 a6 a7 a8 a9 a10 z0 z0 z0 z0 zf4 zf5 z0 z0 z0 z0 z0 0 0 0 0 2 (by decide +kernel)) (cwV 1 hts gL_areSums_X0_in rfl rfl rfl (by decide +kernel) ⟨Nat.le_of_ble_eq_true rfl, Nat.le_of_ble_eq_true rfl⟩) ⟨zP_blind, va_recv hK hP (ci := 0) (q0 := 0) rfl rfl, fun U hU hW => ⟨rfl, zP_mk (hP.sub (ws' := w0 cI cZ h a0 a1 a2 a3 a4 a5 a6 a7 a8 a9 a10) [0, 1, 2, 3, 4, 5, 6, 7, 8, 9, 10, 11] rfl) hK hU hW⟩⟩ rfl rfl hl.1 rfl (lv_room (Nat.le_of_ble_eq_true rfl)) dL_areSums_39 ⟨Nat.le_of_ble_eq_true rfl, Nat.le_of_ble_eq_true rfl⟩) (fun r29 w29 => ?_)
  have w29 : r29 = 0 := w29.trans (by decide +kernel)
  subst w29
  refine lv_ldc hx hb hown (hts (.constant RL 101 (100000)) (by decide +kernel)) dL_areSums_42 ?_
  refine lv_icmp_gt (tgt := 66) hx hb dL_areSums_44 (by decide) (fun c9 => False.elim (by revert c9; decide)) (fun _ => ?_)
  refine lv_aload_n hx hb dL_areSums_47 rfl (lv_at hl 3 rfl) ?_
  refine lv_iload hx hb dL_areSums_48 (lv_at hl 1 rfl) ?_
  refine vp_callSi (W.runV (As := [.int 2]) (rest := []) ⟨hx, hb, hml, hown, hts⟩ (c_X0_inByBook l D cI cZ cJ h a0 a1 a2 a3 a4 a5 a6 a7 a8 a9 a10 z0 z0 z0 z0 zf4 zf5 z0 z0 z0 z0 z0 0 0 0 0 2 (by decide +kernel)) (cwV 1 hts gL_areSums_X0_inByBook rfl rfl rfl (by decide +kernel) ⟨Nat.le_of_ble_eq_true rfl, Nat.le_of_ble_eq_true rfl⟩) ⟨zP_blind, va_recv hK hP (ci := 0) (q0 := 0) rfl rfl, fun U hU hW => ⟨rfl, zP_mk (hP.sub (ws' := w0 cI cZ h a0 a1 a2 a3 a4 a5 a6 a7 a8 a9 a10) [0, 1, 2, 3, 4, 5, 6, 7, 8, 9, 10, 11] rfl) hK hU hW⟩⟩ rfl rfl hl.1 rfl (lv_room (Nat.le_of_ble_eq_true rfl)) dL_areSums_50 ⟨Nat.le_of_ble_eq_true rfl, Nat.le_of_ble_eq_true rfl⟩) (fun r31 w31 => ?_)
  have w31 : r31 = 0 := w31.trans (by decide +kernel)
  subst w31
  refine lv_aload_n hx hb dL_areSums_53 rfl (lv_at hl 3 rfl) ?_
  refine lv_iload hx hb dL_areSums_54 (lv_at hl 1 rfl) ?_
  refine vp_callSi (W.runV (As := [.int 2]) (rest := [.int 0]) ⟨hx, hb, hml, hown, hts⟩ (c_X0_in l D cI cZ cJ h a0 a1 a2 a3 a4 a5 a6 a7 a8 a9 a10 z0 z0 z0 z0 zf4 zf5 z0 z0 z0 z0 z0 0 0 0 0 2 (by decide +kernel)) (cwV 1 hts gL_areSums_X0_in rfl rfl rfl (by decide +kernel) ⟨Nat.le_of_ble_eq_true rfl, Nat.le_of_ble_eq_true rfl⟩) ⟨zP_blind, va_recv hK hP (ci := 0) (q0 := 0) rfl rfl, fun U hU hW => ⟨rfl, zP_mk (hP.sub (ws' := w0 cI cZ h a0 a1 a2 a3 a4 a5 a6 a7 a8 a9 a10) [0, 1, 2, 3, 4, 5, 6, 7, 8, 9, 10, 11] rfl) hK hU hW⟩⟩ rfl rfl hl.1 rfl (lv_room (Nat.le_of_ble_eq_true rfl)) dL_areSums_56 ⟨Nat.le_of_ble_eq_true rfl, Nat.le_of_ble_eq_true rfl⟩) (fun r32 w32 => ?_)
  have w32 : r32 = 0 := w32.trans (by decide +kernel)
  subst w32
  refine lv_icmp_ne (tgt := 66) hx hb dL_areSums_59 (by decide) (fun c9 => False.elim (by revert c9; decide)) (fun _ => ?_)
  refine lv_iconst (v := 1) hx hb dL_areSums_62 (by decide) ?_
  refine lv_goto (tgt := 67) hx hb dL_areSums_63 (by decide) ?_
  refine lv_istore_n (lv' := [(3, .int 1), (2, .int 0), (4, .int 2), (0, .ref h), (1, .ref ma)]) hx hb dL_areSums_67 rfl hl (by decide) rfl (fun ls hl => ?_)
  refine lv_iinc (v := 3) (lv' := [(4, .int 3), (3, .int 1), (2, .int 0), (0, .ref h), (1, .ref ma)]) hx hb dL_areSums_68 hl (k := 2) rfl (by decide) (by decide) rfl (fun ls hl => ?_)
  refine lv_goto (tgt := 7) hx hb dL_areSums_71 (by decide) ?_
  refine lv_iload hx hb dL_areSums_7 (lv_at hl 0 rfl) ?_
  refine lv_bipush (v := 8) hx hb dL_areSums_9 (by decide) ?_
  refine lv_icmp_ge (tgt := 74) hx hb dL_areSums_11 (by decide) (fun c9 => False.elim (by revert c9; decide)) (fun _ => ?_)
  refine lv_iload_n hx hb dL_areSums_14 rfl (lv_at hl 1 rfl) ?_
  refine lv_if_eq (tgt := 74) hx hb dL_areSums_15 (by decide) (fun c9 => False.elim (by revert c9; decide)) (fun _ => ?_)
  refine lv_iload_n hx hb dL_areSums_18 rfl (lv_at hl 2 rfl) ?_
  refine lv_aload_n hx hb dL_areSums_19 rfl (lv_at hl 3 rfl) ?_
  refine lv_iload hx hb dL_areSums_20 (lv_at hl 0 rfl) ?_
  refine vp_callSi (W.runV (As := [.int 3]) (rest := [.int 0]) ⟨hx, hb, hml, hown, hts⟩ (c_X0_in l D cI cZ cJ h a0 a1 a2 a3 a4 a5 a6 a7 a8 a9 a10 z0 z0 z0 z0 zf4 zf5 z0 z0 z0 z0 z0 0 0 0 0 3 (by decide +kernel)) (cwV 1 hts gL_areSums_X0_in rfl rfl rfl (by decide +kernel) ⟨Nat.le_of_ble_eq_true rfl, Nat.le_of_ble_eq_true rfl⟩) ⟨zP_blind, va_recv hK hP (ci := 0) (q0 := 0) rfl rfl, fun U hU hW => ⟨rfl, zP_mk (hP.sub (ws' := w0 cI cZ h a0 a1 a2 a3 a4 a5 a6 a7 a8 a9 a10) [0, 1, 2, 3, 4, 5, 6, 7, 8, 9, 10, 11] rfl) hK hU hW⟩⟩ rfl rfl hl.1 rfl (lv_room (Nat.le_of_ble_eq_true rfl)) dL_areSums_22 ⟨Nat.le_of_ble_eq_true rfl, Nat.le_of_ble_eq_true rfl⟩) (fun r36 w36 => ?_)
  have w36 : r36 = 0 := w36.trans (by decide +kernel)
  subst w36
  refine lv_iadd hx hb dL_areSums_25 ?_
  refine lv_topi (fun y37 hy37 => ?_)
  have hy37 : y37 = 0 := hy37.trans (by decide +kernel)
  subst hy37
  refine lv_istore_n (lv' := [(2, .int 0), (4, .int 3), (3, .int 1), (0, .ref h), (1, .ref ma)]) hx hb dL_areSums_26 rfl hl (by decide) rfl (fun ls hl => ?_)
  refine lv_aload_n hx hb dL_areSums_27 rfl (lv_at hl 3 rfl) ?_
  refine lv_iload hx hb dL_areSums_28 (lv_at hl 1 rfl) ?_
  refine vp_callSi (W.runV (As := [.int 3]) (rest := []) ⟨hx, hb, hml, hown, hts⟩ (c_X0_in l D cI cZ cJ h a0 a1 a2 a3 a4 a5 a6 a7 a8 a9 a10 z0 z0 z0 z0 zf4 zf5 z0 z0 z0 z0 z0 0 0 0 0 3 (by decide +kernel)) (cwV 1 hts gL_areSums_X0_in rfl rfl rfl (by decide +kernel) ⟨Nat.le_of_ble_eq_true rfl, Nat.le_of_ble_eq_true rfl⟩) ⟨zP_blind, va_recv hK hP (ci := 0) (q0 := 0) rfl rfl, fun U hU hW => ⟨rfl, zP_mk (hP.sub (ws' := w0 cI cZ h a0 a1 a2 a3 a4 a5 a6 a7 a8 a9 a10) [0, 1, 2, 3, 4, 5, 6, 7, 8, 9, 10, 11] rfl) hK hU hW⟩⟩ rfl rfl hl.1 rfl (lv_room (Nat.le_of_ble_eq_true rfl)) dL_areSums_30 ⟨Nat.le_of_ble_eq_true rfl, Nat.le_of_ble_eq_true rfl⟩) (fun r38 w38 => ?_)
  have w38 : r38 = 0 := w38.trans (by decide +kernel)
  subst w38
  refine lv_if_lt (tgt := 66) hx hb dL_areSums_33 (by decide) (fun c9 => False.elim (by revert c9; decide)) (fun _ => ?_)
  refine lv_aload_n hx hb dL_areSums_36 rfl (lv_at hl 3 rfl) ?_
  refine lv_iload hx hb dL_areSums_37 (lv_at hl 1 rfl) ?_
  refine vp_callSi (W.runV (As := [.int 3]) (rest := []) ⟨hx, hb, hml, hown, hts⟩ (c_X0_in l D cI cZ cJ h a0 a1 a2 a3 a4 a5 a6 a7 a8 a9 a10 z0 z0 z0 z0 zf4 zf5 z0 z0 z0 z0 z0 0 0 0 0 3 (by decide +kernel)) (cwV 1 hts gL_areSums_X0_in rfl rfl rfl (by decide +kernel) ⟨Nat.le_of_ble_eq_true rfl, Nat.le_of_ble_eq_true rfl⟩) ⟨zP_blind, va_recv hK hP (ci := 0) (q0 := 0) rfl rfl, fun U hU hW => ⟨rfl, zP_mk (hP.sub (ws' := w0 cI cZ h a0 a1 a2 a3 a4 a5 a6 a7 a8 a9 a10) [0, 1, 2, 3, 4, 5, 6, 7, 8, 9, 10, 11] rfl) hK hU hW⟩⟩ rfl rfl hl.1 rfl (lv_room (Nat.le_of_ble_eq_true rfl)) dL_areSums_39 ⟨Nat.le_of_ble_eq_true rfl, Nat.le_of_ble_eq_true rfl⟩) (fun r40 w40 => ?_)
  have w40 : r40 = 0 := w40.trans (by decide +kernel)
  subst w40
  refine lv_ldc hx hb hown (hts (.constant RL 101 (100000)) (by decide +kernel)) dL_areSums_42 ?_
  refine lv_icmp_gt (tgt := 66) hx hb dL_areSums_44 (by decide) (fun c9 => False.elim (by revert c9; decide)) (fun _ => ?_)
  refine lv_aload_n hx hb dL_areSums_47 rfl (lv_at hl 3 rfl) ?_
  refine lv_iload hx hb dL_areSums_48 (lv_at hl 1 rfl) ?_
  refine vp_callSi (W.runV (As := [.int 3]) (rest := []) ⟨hx, hb, hml, hown, hts⟩ (c_X0_inByBook l D cI cZ cJ h a0 a1 a2 a3 a4 a5 a6 a7 a8 a9 a10 z0 z0 z0 z0 zf4 zf5 z0 z0 z0 z0 z0 0 0 0 0 3 (by decide +kernel)) (cwV 1 hts gL_areSums_X0_inByBook rfl rfl rfl (by decide +kernel) ⟨Nat.le_of_ble_eq_true rfl, Nat.le_of_ble_eq_true rfl⟩) ⟨zP_blind, va_recv hK hP (ci := 0) (q0 := 0) rfl rfl, fun U hU hW => ⟨rfl, zP_mk (hP.sub (ws' := w0 cI cZ h a0 a1 a2 a3 a4 a5 a6 a7 a8 a9 a10) [0, 1, 2, 3, 4, 5, 6, 7, 8, 9, 10, 11] rfl) hK hU hW⟩⟩ rfl rfl hl.1 rfl (lv_room (Nat.le_of_ble_eq_true rfl)) dL_areSums_50 ⟨Nat.le_of_ble_eq_true rfl, Nat.le_of_ble_eq_true rfl⟩) (fun r42 w42 => ?_)
  have w42 : r42 = 0 := w42.trans (by decide +kernel)
  subst w42
  refine lv_aload_n hx hb dL_areSums_53 rfl (lv_at hl 3 rfl) ?_
  refine lv_iload hx hb dL_areSums_54 (lv_at hl 1 rfl) ?_
  refine vp_callSi (W.runV (As := [.int 3]) (rest := [.int 0]) ⟨hx, hb, hml, hown, hts⟩ (c_X0_in l D cI cZ cJ h a0 a1 a2 a3 a4 a5 a6 a7 a8 a9 a10 z0 z0 z0 z0 zf4 zf5 z0 z0 z0 z0 z0 0 0 0 0 3 (by decide +kernel)) (cwV 1 hts gL_areSums_X0_in rfl rfl rfl (by decide +kernel) ⟨Nat.le_of_ble_eq_true rfl, Nat.le_of_ble_eq_true rfl⟩) ⟨zP_blind, va_recv hK hP (ci := 0) (q0 := 0) rfl rfl, fun U hU hW => ⟨rfl, zP_mk (hP.sub (ws' := w0 cI cZ h a0 a1 a2 a3 a4 a5 a6 a7 a8 a9 a10) [0, 1, 2, 3, 4, 5, 6, 7, 8, 9, 10, 11] rfl) hK hU hW⟩⟩ rfl rfl hl.1 rfl (lv_room (Nat.le_of_ble_eq_true rfl)) dL_areSums_56 ⟨Nat.le_of_ble_eq_true rfl, Nat.le_of_ble_eq_true rfl⟩) (fun r43 w43 => ?_)
  have w43 : r43 = 0 := w43.trans (by decide +kernel)
  subst w43
  refine lv_icmp_ne (tgt := 66) hx hb dL_areSums_59 (by decide) (fun c9 => False.elim (by revert c9; decide)) (fun _ => ?_)
  refine lv_iconst (v := 1) hx hb dL_areSums_62 (by decide) ?_
  refine lv_goto (tgt := 67) hx hb dL_areSums_63 (by decide) ?_
  refine lv_istore_n (lv' := [(3, .int 1), (2, .int 0), (4, .int 3), (0, .ref h), (1, .ref ma)]) hx hb dL_areSums_67 rfl hl (by decide) rfl (fun ls hl => ?_)
  refine lv_iinc (v := 4) (lv' := [(4, .int 4), (3, .int 1), (2, .int 0), (0, .ref h), (1, .ref ma)]) hx hb dL_areSums_68 hl (k := 2) rfl (by decide) (by decide) rfl (fun ls hl => ?_)
  refine lv_goto (tgt := 7) hx hb dL_areSums_71 (by decide) ?_
  refine lv_iload hx hb dL_areSums_7 (lv_at hl 0 rfl) ?_
  refine lv_bipush (v := 8) hx hb dL_areSums_9 (by decide) ?_
  refine lv_icmp_ge (tgt := 74) hx hb dL_areSums_11 (by decide) (fun c9 => False.elim (by revert c9; decide)) (fun _ => ?_)
  refine lv_iload_n hx hb dL_areSums_14 rfl (lv_at hl 1 rfl) ?_
  refine lv_if_eq (tgt := 74) hx hb dL_areSums_15 (by decide) (fun c9 => False.elim (by revert c9; decide)) (fun _ => ?_)
  refine lv_iload_n hx hb dL_areSums_18 rfl (lv_at hl 2 rfl) ?_
  refine lv_aload_n hx hb dL_areSums_19 rfl (lv_at hl 3 rfl) ?_
  refine lv_iload hx hb dL_areSums_20 (lv_at hl 0 rfl) ?_
  refine vp_callSi (W.runV (As := [.int 4]) (rest := [.int 0]) ⟨hx, hb, hml, hown, hts⟩ (c_X0_in l D cI cZ cJ h a0 a1 a2 a3 a4 a5 a6 a7 a8 a9 a10 z0 z0 z0 z0 zf4 zf5 z0 z0 z0 z0 z0 0 0 0 0 4 (by decide +kernel)) (cwV 1 hts gL_areSums_X0_in rfl rfl rfl (by decide +kernel) ⟨Nat.le_of_ble_eq_true rfl, Nat.le_of_ble_eq_true rfl⟩) ⟨zP_blind, va_recv hK hP (ci := 0) (q0 := 0) rfl rfl, fun U hU hW => ⟨rfl, zP_mk (hP.sub (ws' := w0 cI cZ h a0 a1 a2 a3 a4 a5 a6 a7 a8 a9 a10) [0, 1, 2, 3, 4, 5, 6, 7, 8, 9, 10, 11] rfl) hK hU hW⟩⟩ rfl rfl hl.1 rfl (lv_room (Nat.le_of_ble_eq_true rfl)) dL_areSums_22 ⟨Nat.le_of_ble_eq_true rfl, Nat.le_of_ble_eq_true rfl⟩) (fun r47 w47 => ?_)
  have w47 : r47 = 0 := w47.trans (by decide +kernel)
  subst w47
  refine lv_iadd hx hb dL_areSums_25 ?_
  refine lv_topi (fun y48 hy48 => ?_)
  have hy48 : y48 = 0 := hy48.trans (by decide +kernel)
  subst hy48
  refine lv_istore_n (lv' := [(2, .int 0), (4, .int 4), (3, .int 1), (0, .ref h), (1, .ref ma)]) hx hb dL_areSums_26 rfl hl (by decide) rfl (fun ls hl => ?_)
  refine lv_aload_n hx hb dL_areSums_27 rfl (lv_at hl 3 rfl) ?_
  refine lv_iload hx hb dL_areSums_28 (lv_at hl 1 rfl) ?_
  refine vp_callSi (W.runV (As := [.int 4]) (rest := []) ⟨hx, hb, hml, hown, hts⟩ (c_X0_in l D cI cZ cJ h a0 a1 a2 a3 a4 a5 a6 a7 a8 a9 a10 z0 z0 z0 z0 zf4 zf5 z0 z0 z0 z0 z0 0 0 0 0 4 (by decide +kernel)) (cwV 1 hts gL_areSums_X0_in rfl rfl rfl (by decide +kernel) ⟨Nat.le_of_ble_eq_true rfl, Nat.le_of_ble_eq_true rfl⟩) ⟨zP_blind, va_recv hK hP (ci := 0) (q0 := 0) rfl rfl, fun U hU hW => ⟨rfl, zP_mk (hP.sub (ws' := w0 cI cZ h a0 a1 a2 a3 a4 a5 a6 a7 a8 a9 a10) [0, 1, 2, 3, 4, 5, 6, 7, 8, 9, 10, 11] rfl) hK hU hW⟩⟩ rfl rfl hl.1 rfl (lv_room (Nat.le_of_ble_eq_true rfl)) dL_areSums_30 ⟨Nat.le_of_ble_eq_true rfl, Nat.le_of_ble_eq_true rfl⟩) (fun r49 w49 => ?_)
  have w49 : r49 = 0 := w49.trans (by decide +kernel)
  subst w49
  refine lv_if_lt (tgt := 66) hx hb dL_areSums_33 (by decide) (fun c9 => False.elim (by revert c9; decide)) (fun _ => ?_)
  refine lv_aload_n hx hb dL_areSums_36 rfl (lv_at hl 3 rfl) ?_
  refine lv_iload hx hb dL_areSums_37 (lv_at hl 1 rfl) ?_
  refine vp_callSi (W.runV (As := [.int 4]) (rest := []) ⟨hx, hb, hml, hown, hts⟩ (c_X0_in l D cI cZ cJ h a0 a1 a2 a3 a4 a5 a6 a7 a8 a9 a10 z0 z0 z0 z0 zf4 zf5 z0 z0 z0 z0 z0 0 0 0 0 4 (by decide +kernel)) (cwV 1 hts gL_areSums_X0_in rfl rfl rfl (by decide +kernel) ⟨Nat.le_of_ble_eq_true rfl, Nat.le_of_ble_eq_true rfl⟩) ⟨zP_blind, va_recv hK hP (ci := 0) (q0 := 0) rfl rfl, fun U hU hW => ⟨rfl, zP_mk (hP.sub (ws' := w0 cI cZ h a0 a1 a2 a3 a4 a5 a6 a7 a8 a9 a10) [0, 1, 2, 3, 4, 5, 6, 7, 8, 9, 10, 11] rfl) hK hU hW⟩⟩ rfl rfl hl.1 rfl (lv_room (Nat.le_of_ble_eq_true rfl)) dL_areSums_39 ⟨Nat.le_of_ble_eq_true rfl, Nat.le_of_ble_eq_true rfl⟩) (fun r51 w51 => ?_)
  have w51 : r51 = 0 := w51.trans (by decide +kernel)
  subst w51
  refine lv_ldc hx hb hown (hts (.constant RL 101 (100000)) (by decide +kernel)) dL_areSums_42 ?_
  refine lv_icmp_gt (tgt := 66) hx hb dL_areSums_44 (by decide) (fun c9 => False.elim (by revert c9; decide)) (fun _ => ?_)
  refine lv_aload_n hx hb dL_areSums_47 rfl (lv_at hl 3 rfl) ?_
  refine lv_iload hx hb dL_areSums_48 (lv_at hl 1 rfl) ?_
  refine vp_callSi (W.runV (As := [.int 4]) (rest := []) ⟨hx, hb, hml, hown, hts⟩ (c_X0_inByBook l D cI cZ cJ h a0 a1 a2 a3 a4 a5 a6 a7 a8 a9 a10 z0 z0 z0 z0 zf4 zf5 z0 z0 z0 z0 z0 0 0 0 0 4 (by decide +kernel)) (cwV 1 hts gL_areSums_X0_inByBook rfl rfl rfl (by decide +kernel) ⟨Nat.le_of_ble_eq_true rfl, Nat.le_of_ble_eq_true rfl⟩) ⟨zP_blind, va_recv hK hP (ci := 0) (q0 := 0) rfl rfl, fun U hU hW => ⟨rfl, zP_mk (hP.sub (ws' := w0 cI cZ h a0 a1 a2 a3 a4 a5 a6 a7 a8 a9 a10) [0, 1, 2, 3, 4, 5, 6, 7, 8, 9, 10, 11] rfl) hK hU hW⟩⟩ rfl rfl hl.1 rfl (lv_room (Nat.le_of_ble_eq_true rfl)) dL_areSums_50 ⟨Nat.le_of_ble_eq_true rfl, Nat.le_of_ble_eq_true rfl⟩) (fun r53 w53 => ?_)
  have w53 : r53 = 0 := w53.trans (by decide +kernel)
  subst w53
  refine lv_aload_n hx hb dL_areSums_53 rfl (lv_at hl 3 rfl) ?_
  refine lv_iload hx hb dL_areSums_54 (lv_at hl 1 rfl) ?_
  refine vp_callSi (W.runV (As := [.int 4]) (rest := [.int 0]) ⟨hx, hb, hml, hown, hts⟩ (c_X0_in l D cI cZ cJ h a0 a1 a2 a3 a4 a5 a6 a7 a8 a9 a10 z0 z0 z0 z0 zf4 zf5 z0 z0 z0 z0 z0 0 0 0 0 4 (by decide +kernel)) (cwV 1 hts gL_areSums_X0_in rfl rfl rfl (by decide +kernel) ⟨Nat.le_of_ble_eq_true rfl, Nat.le_of_ble_eq_true rfl⟩) ⟨zP_blind, va_recv hK hP (ci := 0) (q0 := 0) rfl rfl, fun U hU hW => ⟨rfl, zP_mk (hP.sub (ws' := w0 cI cZ h a0 a1 a2 a3 a4 a5 a6 a7 a8 a9 a10) [0, 1, 2, 3, 4, 5, 6, 7, 8, 9, 10, 11] rfl) hK hU hW⟩⟩ rfl rfl hl.1 rfl (lv_room (Nat.le_of_ble_eq_true rfl)) dL_areSums_56 ⟨Nat.le_of_ble_eq_true rfl, Nat.le_of_ble_eq_true rfl⟩) (fun r54 w54 => ?_)
  have w54 : r54 = 0 := w54.trans (by decide +kernel)
  subst w54
  refine lv_icmp_ne (tgt := 66) hx hb dL_areSums_59 (by decide) (fun c9 => False.elim (by revert c9; decide)) (fun _ => ?_)
  refine lv_iconst (v := 1) hx hb dL_areSums_62 (by decide) ?_
  refine lv_goto (tgt := 67) hx hb dL_areSums_63 (by decide) ?_
  refine lv_istore_n (lv' := [(3, .int 1), (2, .int 0), (4, .int 4), (0, .ref h), (1, .ref ma)]) hx hb dL_areSums_67 rfl hl (by decide) rfl (fun ls hl => ?_)
  refine lv_iinc (v := 5) (lv' := [(4, .int 5), (3, .int 1), (2, .int 0), (0, .ref h), (1, .ref ma)]) hx hb dL_areSums_68 hl (k := 2) rfl (by decide) (by decide) rfl (fun ls hl => ?_)
  refine lv_goto (tgt := 7) hx hb dL_areSums_71 (by decide) ?_
  refine lv_iload hx hb dL_areSums_7 (lv_at hl 0 rfl) ?_
  refine lv_bipush (v := 8) hx hb dL_areSums_9 (by decide) ?_
  refine lv_icmp_ge (tgt := 74) hx hb dL_areSums_11 (by decide) (fun c9 => False.elim (by revert c9; decide)) (fun _ => ?_)
  refine lv_iload_n hx hb dL_areSums_14 rfl (lv_at hl 1 rfl) ?_
  refine lv_if_eq (tgt := 74) hx hb dL_areSums_15 (by decide) (fun c9 => False.elim (by revert c9; decide)) (fun _ => ?_)
  refine lv_iload_n hx hb dL_areSums_18 rfl (lv_at hl 2 rfl) ?_
  refine lv_aload_n hx hb dL_areSums_19 rfl (lv_at hl 3 rfl) ?_
  refine lv_iload hx hb dL_areSums_20 (lv_at hl 0 rfl) ?_
  refine vp_callSi (W.runV (As := [.int 5]) (rest := [.int 0]) ⟨hx, hb, hml, hown, hts⟩ (c_X0_in l D cI cZ cJ h a0 a1 a2 a3 a4 a5 a6 a7 a8 a9 a10 z0 z0 z0 z0 zf4 zf5 z0 z0 z0 z0 z0 0 0 0 0 5 (by decide +kernel)) (cwV 1 hts gL_areSums_X0_in rfl rfl rfl (by decide +kernel) ⟨Nat.le_of_ble_eq_true rfl, Nat.le_of_ble_eq_true rfl⟩) ⟨zP_blind, va_recv hK hP (ci := 0) (q0 := 0) rfl rfl, fun U hU hW => ⟨rfl, zP_mk (hP.sub (ws' := w0 cI cZ h a0 a1 a2 a3 a4 a5 a6 a7 a8 a9 a10) [0, 1, 2, 3, 4, 5, 6, 7, 8, 9, 10, 11] rfl) hK hU hW⟩⟩ rfl rfl hl.1 rfl (lv_room (Nat.le_of_ble_eq_true rfl)) dL_areSums_22 ⟨Nat.le_of_ble_eq_true rfl, Nat.le_of_ble_eq_true rfl⟩) (fun r58 w58 => ?_)
  have w58 : r58 = 0 := w58.trans (by decide +kernel)
  subst w58
  refine lv_iadd hx hb dL_areSums_25 ?_
  refine lv_topi (fun y59 hy59 => ?_)
  have hy59 : y59 = 0 := hy59.trans (by decide +kernel)
  subst hy59
  refine lv_istore_n (lv' := [(2, .int 0), (4, .int 5), (3, .int 1), (0, .ref h), (1, .ref ma)]) hx hb dL_areSums_26 rfl hl (by decide) rfl (fun ls hl => ?_)
  refine lv_aload_n hx hb dL_areSums_27 rfl (lv_at hl 3 rfl) ?_
  refine lv_iload hx hb dL_areSums_28 (lv_at hl 1 rfl) ?_
  refine vp_callSi (W.runV (As := [.int 5]) (rest := []) ⟨hx, hb, hml, hown, hts⟩ (c_X0_in l D cI cZ cJ h a0 a1 a2 a3 a4 a5 a6 a7 a8 a9 a10 z0 z0 z0 z0 zf4 zf5 z0 z0 z0 z0 z0 0 0 0 0 5 (by decide +kernel)) (cwV 1 hts gL_areSums_X0_in rfl rfl rfl (by decide +kernel) ⟨Nat.le_of_ble_eq_true rfl, Nat.le_of_ble_eq_true rfl⟩) ⟨zP_blind, va_recv hK hP (ci := 0) (q0 := 0) rfl rfl, fun U hU hW => ⟨rfl, zP_mk (hP.sub (ws' := w0 cI cZ h a0 a1 a2 a3 a4 a5 a6 a7 a8 a9 a10) [0, 1, 2, 3, 4, 5, 6, 7, 8, 9, 10, 11] rfl) hK hU hW⟩⟩ rfl rfl hl.1 rfl (lv_room (Nat.le_of_ble_eq_true rfl)) dL_areSums_30 ⟨Nat.le_of_ble_eq_true rfl, Nat.le_of_ble_eq_true rfl⟩) (fun r60 w60 => ?_)
  have w60 : r60 = 0 := w60.trans (by decide +kernel)
  subst w60
  refine lv_if_lt (tgt := 66) hx hb dL_areSums_33 (by decide) (fun c9 => False.elim (by revert c9; decide)) (fun _ => ?_)
  refine lv_aload_n hx hb dL_areSums_36 rfl (lv_at hl 3 rfl) ?_
  refine lv_iload hx hb dL_areSums_37 (lv_at hl 1 rfl) ?_
  refine vp_callSi (W.runV (As := [.int 5]) (rest := []) ⟨hx, hb, hml, hown, hts⟩ (c_X0_in l D cI cZ cJ h a0 a1 a2 a3 a4 a5 a6 a7 a8 a9 a10 z0 z0 z0 z0 zf4 zf5 z0 z0 z0 z0 z0 0 0 0 0 5 (by decide +kernel)) (cwV 1 hts gL_areSums_X0_in rfl rfl rfl (by decide +kernel) ⟨Nat.le_of_ble_eq_true rfl, Nat.le_of_ble_eq_true rfl⟩) ⟨zP_blind, va_recv hK hP (ci := 0) (q0 := 0) rfl rfl, fun U hU hW => ⟨rfl, zP_mk (hP.sub (ws' := w0 cI cZ h a0 a1 a2 a3 a4 a5 a6 a7 a8 a9 a10) [0, 1, 2, 3, 4, 5, 6, 7, 8, 9, 10, 11] rfl) hK hU hW⟩⟩ rfl rfl hl.1 rfl (lv_room (Nat.le_of_ble_eq_true rfl)) dL_areSums_39 ⟨Nat.le_of_ble_eq_true rfl, Nat.le_of_ble_eq_true rfl⟩) (fun r62 w62 => ?_)
  have w62 : r62 = 0 := w62.trans (by decide +kernel)
  subst w62
  refine lv_ldc hx hb hown (hts (.constant RL 101 (100000)) (by decide +kernel)) dL_areSums_42 ?_
  refine lv_icmp_gt (tgt := 66) hx hb dL_areSums_44 (by decide) (fun c9 => False.elim (by revert c9; decide)) (fun _ => ?_)
  refine lv_aload_n hx hb dL_areSums_47 rfl (lv_at hl 3 rfl) ?_
  refine lv_iload hx hb dL_areSums_48 (lv_at hl 1 rfl) ?_
  refine vp_callSi (W.runV (As := [.int 5]) (rest := []) ⟨hx, hb, hml, hown, hts⟩ (c_X0_inByBook l D cI cZ cJ h a0 a1 a2 a3 a4 a5 a6 a7 a8 a9 a10 z0 z0 z0 z0 zf4 zf5 z0 z0 z0 z0 z0 0 0 0 0 5 (by decide +kernel)) (cwV 1 hts gL_areSums_X0_inByBook rfl rfl rfl (by decide +kernel) ⟨Nat.le_of_ble_eq_true rfl, Nat.le_of_ble_eq_true rfl⟩) ⟨zP_blind, va_recv hK hP (ci := 0) (q0 := 0) rfl rfl, fun U hU hW => ⟨rfl, zP_mk (hP.sub (ws' := w0 cI cZ h a0 a1 a2 a3 a4 a5 a6 a7 a8 a9 a10) [0, 1, 2, 3, 4, 5, 6, 7, 8, 9, 10, 11] rfl) hK hU hW⟩⟩ rfl rfl hl.1 rfl (lv_room (Nat.le_of_ble_eq_true rfl)) dL_areSums_50 ⟨Nat.le_of_ble_eq_true rfl, Nat.le_of_ble_eq_true rfl⟩) (fun r64 w64 => ?_)
  have w64 : r64 = 0 := w64.trans (by decide +kernel)
  subst w64
  refine lv_aload_n hx hb dL_areSums_53 rfl (lv_at hl 3 rfl) ?_
  refine lv_iload hx hb dL_areSums_54 (lv_at hl 1 rfl) ?_
  refine vp_callSi (W.runV (As := [.int 5]) (rest := [.int 0]) ⟨hx, hb, hml, hown, hts⟩ (c_X0_in l D cI cZ cJ h a0 a1 a2 a3 a4 a5 a6 a7 a8 a9 a10 z0 z0 z0 z0 zf4 zf5 z0 z0 z0 z0 z0 0 0 0 0 5 (by decide +kernel)) (cwV 1 hts gL_areSums_X0_in rfl rfl rfl (by decide +kernel) ⟨Nat.le_of_ble_eq_true rfl, Nat.le_of_ble_eq_true rfl⟩) ⟨zP_blind, va_recv hK hP (ci := 0) (q0 := 0) rfl rfl, fun U hU hW => ⟨rfl, zP_mk (hP.sub (ws' := w0 cI cZ h a0 a1 a2 a3 a4 a5 a6 a7 a8 a9 a10) [0, 1, 2, 3, 4, 5, 6, 7, 8, 9, 10, 11] rfl) hK hU hW⟩⟩ rfl rfl hl.1 rfl (lv_room (Nat.le_of_ble_eq_true rfl)) dL_areSums_56 ⟨Nat.le_of_ble_eq_true rfl, Nat.le_of_ble_eq_true rfl⟩) (fun r65 w65 => ?_)
  have w65 : r65 = 0 := w65.trans (by decide +kernel)
  subst w65
  refine lv_icmp_ne (tgt := 66) hx hb dL_areSums_59 (by decide) (fun c9 => False.elim (by revert c9; decide)) (fun _ => ?_)
  refine lv_iconst (v := 1) hx hb dL_areSums_62 (by decide) ?_
  refine lv_goto (tgt := 67) hx hb dL_areSums_63 (by decide) ?_
  refine lv_istore_n (lv' := [(3, .int 1), (2, .int 0), (4, .int 5), (0, .ref h), (1, .ref ma)]) hx hb dL_areSums_67 rfl hl (by decide) rfl (fun ls hl => ?_)
  refine lv_iinc (v := 6) (lv' := [(4, .int 6), (3, .int 1), (2, .int 0), (0, .ref h), (1, .ref ma)]) hx hb dL_areSums_68 hl (k := 2) rfl (by decide) (by decide) rfl (fun ls hl => ?_)
  refine lv_goto (tgt := 7) hx hb dL_areSums_71 (by decide) ?_
  refine lv_iload hx hb dL_areSums_7 (lv_at hl 0 rfl) ?_
  refine lv_bipush (v := 8) hx hb dL_areSums_9 (by decide) ?_
  refine lv_icmp_ge (tgt := 74) hx hb dL_areSums_11 (by decide) (fun c9 => False.elim (by revert c9; decide)) (fun _ => ?_)
  refine lv_iload_n hx hb dL_areSums_14 rfl (lv_at hl 1 rfl) ?_
  refine lv_if_eq (tgt := 74) hx hb dL_areSums_15 (by decide) (fun c9 => False.elim (by revert c9; decide)) (fun _ => ?_)
  refine lv_iload_n hx hb dL_areSums_18 rfl (lv_at hl 2 rfl) ?_
  refine lv_aload_n hx hb dL_areSums_19 rfl (lv_at hl 3 rfl) ?_
  refine lv_iload hx hb dL_areSums_20 (lv_at hl 0 rfl) ?_
  refine vp_callSi (W.runV (As := [.int 6]) (rest := [.int 0]) ⟨hx, hb, hml, hown, hts⟩ (c_X0_in l D cI cZ cJ h a0 a1 a2 a3 a4 a5 a6 a7 a8 a9 a10 z0 z0 z0 z0 zf4 zf5 z0 z0 z0 z0 z0 0 0 0 0 6 (by decide +kernel)) (cwV 1 hts gL_areSums_X0_in rfl rfl rfl (by decide +kernel) ⟨Nat.le_of_ble_eq_true rfl, Nat.le_of_ble_eq_true rfl⟩) ⟨zP_blind, va_recv hK hP (ci := 0) (q0 := 0) rfl rfl, fun U hU hW => ⟨rfl, zP_mk (hP.sub (ws' := w0 cI cZ h a0 a1 a2 a3 a4 a5 a6 a7 a8 a9 a10) [0, 1, 2, 3, 4, 5, 6, 7, 8, 9, 10, 11] rfl) hK hU hW⟩⟩ rfl rfl hl.1 rfl (lv_room (Nat.le_of_ble_eq_true rfl)) dL_areSums_22 ⟨Nat.le_of_ble_eq_true rfl, Nat.le_of_ble_eq_true rfl⟩) (fun r69 w69 => ?_)
  have w69 : r69 = 0 := w69.trans (by decide +kernel)
  subst w69
  refine lv_iadd hx hb dL_areSums_25 ?_
  refine lv_topi (fun y70 hy70 => ?_)
  have hy70 : y70 = 0 := hy70.trans (by decide +kernel)
  subst hy70
  refine lv_istore_n (lv' := [(2, .int 0), (4, .int 6), (3, .int 1), (0, .ref h), (1, .ref ma)]) hx hb dL_areSums_26 rfl hl (by decide) rfl (fun ls hl => ?_)
  refine lv_aload_n hx hb dL_areSums_27 rfl (lv_at hl 3 rfl) ?_
  refine lv_iload hx hb dL_areSums_28 (lv_at hl 1 rfl) ?_
  refine vp_callSi (W.runV (As := [.int 6]) (rest := []) ⟨hx, hb, hml, hown, hts⟩ (c_X0_in l D cI cZ cJ h a0 a1 a2 a3 a4 a5 a6 a7 a8 a9 a10 z0 z0 z0 z0 zf4 zf5 z0 z0 z0 z0 z0 0 0 0 0 6 (by decide +kernel)) (cwV 1 hts gL_areSums_X0_in rfl rfl rfl (by decide +kernel) ⟨Nat.le_of_ble_eq_true rfl, Nat.le_of_ble_eq_true rfl⟩) ⟨zP_blind, va_recv hK hP (ci := 0) (q0 := 0) rfl rfl, fun U hU hW => ⟨rfl, zP_mk (hP.sub (ws' := w0 cI cZ h a0 a1 a2 a3 a4 a5 a6 a7 a8 a9 a10) [0, 1, 2, 3, 4, 5, 6, 7, 8, 9, 10, 11] rfl) hK hU hW⟩⟩ rfl rfl hl.1 rfl (lv_room (Nat.le_of_ble_eq_true rfl)) dL_areSums_30 ⟨Nat.le_of_ble_eq_true rfl, Nat.le_of_ble_eq_true rfl⟩) (fun r71 w71 => ?_)
  have w71 : r71 = 0 := w71.trans (by decide +kernel)
  subst w71
  refine lv_if_lt (tgt := 66) hx hb dL_areSums_33 (by decide) (fun c9 => False.elim (by revert c9; decide)) (fun _ => ?_)
  refine lv_aload_n hx hb dL_areSums_36 rfl (lv_at hl 3 rfl) ?_
  refine lv_iload hx hb dL_areSums_37 (lv_at hl 1 rfl) ?_
  refine vp_callSi (W.runV (As := [.int 6]) (rest := []) ⟨hx, hb, hml, hown, hts⟩ (c_X0_in l D cI cZ cJ h a0 a1 a2 a3 a4 a5 a6 a7 a8 a9 a10 z0 z0 z0 z0 zf4 zf5 z0 z0 z0 z0 z0 0 0 0 0 6 (by decide +kernel)) (cwV 1 hts gL_areSums_X0_in rfl rfl rfl (by decide +kernel) ⟨Nat.le_of_ble_eq_true rfl, Nat.le_of_ble_eq_true rfl⟩) ⟨zP_blind, va_recv hK hP (ci := 0) (q0 := 0) rfl rfl, fun U hU hW => ⟨rfl, zP_mk (hP.sub (ws' := w0 cI cZ h a0 a1 a2 a3 a4 a5 a6 a7 a8 a9 a10) [0, 1, 2, 3, 4, 5, 6, 7, 8, 9, 10, 11] rfl) hK hU hW⟩⟩ rfl rfl hl.1 rfl (lv_room (Nat.le_of_ble_eq_true rfl)) dL_areSums_39 ⟨Nat.le_of_ble_eq_true rfl, Nat.le_of_ble_eq_true rfl⟩) (fun r73 w73 => ?_)
  have w73 : r73 = 0 := w73.trans (by decide +kernel)
  subst w73
  refine lv_ldc hx hb hown (hts (.constant RL 101 (100000)) (by decide +kernel)) dL_areSums_42 ?_
  refine lv_icmp_gt (tgt := 66) hx hb dL_areSums_44 (by decide) (fun c9 => False.elim (by revert c9; decide)) (fun _ => ?_)
  refine lv_aload_n hx hb dL_areSums_47 rfl (lv_at hl 3 rfl) ?_
  refine lv_iload hx hb dL_areSums_48 (lv_at hl 1 rfl) ?_
  refine vp_callSi (W.runV (As := [.int 6]) (rest := []) ⟨hx, hb, hml, hown, hts⟩ (c_X0_inByBook l D cI cZ cJ h a0 a1 a2 a3 a4 a5 a6 a7 a8 a9 a10 z0 z0 z0 z0 zf4 zf5 z0 z0 z0 z0 z0 0 0 0 0 6 (by decide +kernel)) (cwV 1 hts gL_areSums_X0_inByBook rfl rfl rfl (by decide +kernel) ⟨Nat.le_of_ble_eq_true rfl, Nat.le_of_ble_eq_true rfl⟩) ⟨zP_blind, va_recv hK hP (ci := 0) (q0 := 0) rfl rfl, fun U hU hW => ⟨rfl, zP_mk (hP.sub (ws' := w0 cI cZ h a0 a1 a2 a3 a4 a5 a6 a7 a8 a9 a10) [0, 1, 2, 3, 4, 5, 6, 7, 8, 9, 10, 11] rfl) hK hU hW⟩⟩ rfl rfl hl.1 rfl (lv_room (Nat.le_of_ble_eq_true rfl)) dL_areSums_50 ⟨Nat.le_of_ble_eq_true rfl, Nat.le_of_ble_eq_true rfl⟩) (fun r75 w75 => ?_)
  have w75 : r75 = 0 := w75.trans (by decide +kernel)
  subst w75
  refine lv_aload_n hx hb dL_areSums_53 rfl (lv_at hl 3 rfl) ?_
  refine lv_iload hx hb dL_areSums_54 (lv_at hl 1 rfl) ?_
  refine vp_callSi (W.runV (As := [.int 6]) (rest := [.int 0]) ⟨hx, hb, hml, hown, hts⟩ (c_X0_in l D cI cZ cJ h a0 a1 a2 a3 a4 a5 a6 a7 a8 a9 a10 z0 z0 z0 z0 zf4 zf5 z0 z0 z0 z0 z0 0 0 0 0 6 (by decide +kernel)) (cwV 1 hts gL_areSums_X0_in rfl rfl rfl (by decide +kernel) ⟨Nat.le_of_ble_eq_true rfl, Nat.le_of_ble_eq_true rfl⟩) ⟨zP_blind, va_recv hK hP (ci := 0) (q0 := 0) rfl rfl, fun U hU hW => ⟨rfl, zP_mk (hP.sub (ws' := w0 cI cZ h a0 a1 a2 a3 a4 a5 a6 a7 a8 a9 a10) [0, 1, 2, 3, 4, 5, 6, 7, 8, 9, 10, 11] rfl) hK hU hW⟩⟩ rfl rfl hl.1 rfl (lv_room (Nat.le_of_ble_eq_true rfl)) dL_areSums_56 ⟨Nat.le_of_ble_eq_true rfl, Nat.le_of_ble_eq_true rfl⟩) (fun r76 w76 => ?_)
  have w76 : r76 = 0 := w76.trans (by decide +kernel)
  subst w76
  refine lv_icmp_ne (tgt := 66) hx hb dL_areSums_59 (by decide) (fun c9 => False.elim (by revert c9; decide)) (fun _ => ?_)
  refine lv_iconst (v := 1) hx hb dL_areSums_62 (by decide) ?_
  refine lv_goto (tgt := 67) hx hb dL_areSums_63 (by decide) ?_
  refine lv_istore_n (lv' := [(3, .int 1), (2, .int 0), (4, .int 6), (0, .ref h), (1, .ref ma)]) hx hb dL_areSums_67 rfl hl (by decide) rfl (fun ls hl => ?_)
  refine lv_iinc (v := 7) (lv' := [(4, .int 7), (3, .int 1), (2, .int 0), (0, .ref h), (1, .ref ma)]) hx hb dL_areSums_68 hl (k := 2) rfl (by decide) (by decide) rfl (fun ls hl => ?_)
  refine lv_goto (tgt := 7) hx hb dL_areSums_71 (by decide) ?_
  refine lv_iload hx hb dL_areSums_7 (lv_at hl 0 rfl) ?_
  refine lv_bipush (v := 8) hx hb dL_areSums_9 (by decide) ?_
  refine lv_icmp_ge (tgt := 74) hx hb dL_areSums_11 (by decide) (fun c9 => False.elim (by revert c9; decide)) (fun _ => ?_)
  refine lv_iload_n hx hb dL_areSums_14 rfl (lv_at hl 1 rfl) ?_
  refine lv_if_eq (tgt := 74) hx hb dL_areSums_15 (by decide) (fun c9 => False.elim (by revert c9; decide)) (fun _ => ?_)
  refine lv_iload_n hx hb dL_areSums_18 rfl (lv_at hl 2 rfl) ?_
  refine lv_aload_n hx hb dL_areSums_19 rfl (lv_at hl 3 rfl) ?_
  refine lv_iload hx hb dL_areSums_20 (lv_at hl 0 rfl) ?_
  refine vp_callSi (W.runV (As := [.int 7]) (rest := [.int 0]) ⟨hx, hb, hml, hown, hts⟩ (c_X0_in l D cI cZ cJ h a0 a1 a2 a3 a4 a5 a6 a7 a8 a9 a10 z0 z0 z0 z0 zf4 zf5 z0 z0 z0 z0 z0 0 0 0 0 7 (by decide +kernel)) (cwV 1 hts gL_areSums_X0_in rfl rfl rfl (by decide +kernel) ⟨Nat.le_of_ble_eq_true rfl, Nat.le_of_ble_eq_true rfl⟩) ⟨zP_blind, va_recv hK hP (ci := 0) (q0 := 0) rfl rfl, fun U hU hW => ⟨rfl, zP_mk (hP.sub (ws' := w0 cI cZ h a0 a1 a2 a3 a4 a5 a6 a7 a8 a9 a10) [0, 1, 2, 3, 4, 5, 6, 7, 8, 9, 10, 11] rfl) hK hU hW⟩⟩ rfl rfl hl.1 rfl (lv_room (Nat.le_of_ble_eq_true rfl)) dL_areSums_22 ⟨Nat.le_of_ble_eq_true rfl, Nat.le_of_ble_eq_true rfl⟩) (fun r80 w80 => ?_)
  have w80 : r80 = 0 := w80.trans (by decide +kernel)
  subst w80
  refine lv_iadd hx hb dL_areSums_25 ?_
  refine lv_topi (fun y81 hy81 => ?_)
  have hy81 : y81 = 0 := hy81.trans (by decide +kernel)
  subst hy81
  refine lv_istore_n (lv' := [(2, .int 0), (4, .int 7), (3, .int 1), (0, .ref h), (1, .ref ma)]) hx hb dL_areSums_26 rfl hl (by decide) rfl (fun ls hl => ?_)
  refine lv_aload_n hx hb dL_areSums_27 rfl (lv_at hl 3 rfl) ?_
  refine lv_iload hx hb dL_areSums_28 (lv_at hl 1 rfl) ?_
  refine vp_callSi (W.runV (As := [.int 7]) (rest := []) ⟨hx, hb, hml, hown, hts⟩ (c_X0_in l D cI cZ cJ h a0 a1 a2 a3 a4 a5 a6 a7 a8 a9 a10 z0 z0 z0 z0 zf4 zf5 z0 z0 z0 z0 z0 0 0 0 0 7 (by decide +kernel)) (cwV 1 hts gL_areSums_X0_in rfl rfl rfl (by decide +kernel) ⟨Nat.le_of_ble_eq_true rfl, Nat.le_of_ble_eq_true rfl⟩) ⟨zP_blind, va_recv hK hP (ci := 0) (q0 := 0) rfl rfl, fun U hU hW => ⟨rfl, zP_mk (hP.sub (ws' := w0 cI cZ h a0 a1 a2 a3 a4 a5 a6 a7 a8 a9 a10) [0, 1, 2, 3, 4, 5, 6, 7, 8, 9, 10, 11] rfl) hK hU hW⟩⟩ rfl rfl hl.1 rfl (lv_room (Nat.le_of_ble_eq_true rfl)) dL_areSums_30 ⟨Nat.le_of_ble_eq_true rfl, Nat.le_of_ble_eq_true rfl⟩) (fun r82 w82 => ?_)
  have w82 : r82 = 0 := w82.trans (by decide +kernel)
  subst w82
  refine lv_if_lt (tgt := 66) hx hb dL_areSums_33 (by decide) (fun c9 => False.elim (by revert c9; decide)) (fun _ => ?_)
  refine lv_aload_n hx hb dL_areSums_36 rfl (lv_at hl 3 rfl) ?_
  refine lv_iload hx hb dL_areSums_37 (lv_at hl 1 rfl) ?_
  refine vp_callSi (W.runV (As := [.int 7]) (rest := []) ⟨hx, hb, hml, hown, hts⟩ (c_X0_in l D cI cZ cJ h a0 a1 a2 a3 a4 a5 a6 a7 a8 a9 a10 z0 z0 z0 z0 zf4 zf5 z0 z0 z0 z0 z0 0 0 0 0 7 (by decide +kernel)) (cwV 1 hts gL_areSums_X0_in rfl rfl rfl (by decide +kernel) ⟨Nat.le_of_ble_eq_true rfl, Nat.le_of_ble_eq_true rfl⟩) ⟨zP_blind, va_recv hK hP (ci := 0) (q0 := 0) rfl rfl, fun U hU hW => ⟨rfl, zP_mk (hP.sub (ws' := w0 cI cZ h a0 a1 a2 a3 a4 a5 a6 a7 a8 a9 a10) [0, 1, 2, 3, 4, 5, 6, 7, 8, 9, 10, 11] rfl) hK hU hW⟩⟩ rfl rfl hl.1 rfl (lv_room (Nat.le_of_ble_eq_true rfl)) dL_areSums_39 ⟨Nat.le_of_ble_eq_true rfl, Nat.le_of_ble_eq_true rfl⟩) (fun r84 w84 => ?_)
  have w84 : r84 = 0 := w84.trans (by decide +kernel)
  subst w84
  refine lv_ldc hx hb hown (hts (.constant RL 101 (100000)) (by decide +kernel)) dL_areSums_42 ?_
  refine lv_icmp_gt (tgt := 66) hx hb dL_areSums_44 (by decide) (fun c9 => False.elim (by revert c9; decide)) (fun _ => ?_)
  refine lv_aload_n hx hb dL_areSums_47 rfl (lv_at hl 3 rfl) ?_
  refine lv_iload hx hb dL_areSums_48 (lv_at hl 1 rfl) ?_
  refine vp_callSi (W.runV (As := [.int 7]) (rest := []) ⟨hx, hb, hml, hown, hts⟩ (c_X0_inByBook l D cI cZ cJ h a0 a1 a2 a3 a4 a5 a6 a7 a8 a9 a10 z0 z0 z0 z0 zf4 zf5 z0 z0 z0 z0 z0 0 0 0 0 7 (by decide +kernel)) (cwV 1 hts gL_areSums_X0_inByBook rfl rfl rfl (by decide +kernel) ⟨Nat.le_of_ble_eq_true rfl, Nat.le_of_ble_eq_true rfl⟩) ⟨zP_blind, va_recv hK hP (ci := 0) (q0 := 0) rfl rfl, fun U hU hW => ⟨rfl, zP_mk (hP.sub (ws' := w0 cI cZ h a0 a1 a2 a3 a4 a5 a6 a7 a8 a9 a10) [0, 1, 2, 3, 4, 5, 6, 7, 8, 9, 10, 11] rfl) hK hU hW⟩⟩ rfl rfl hl.1 rfl (lv_room (Nat.le_of_ble_eq_true rfl)) dL_areSums_50 ⟨Nat.le_of_ble_eq_true rfl, Nat.le_of_ble_eq_true rfl⟩) (fun r86 w86 => ?_)
  have w86 : r86 = 0 := w86.trans (by decide +kernel)
  subst w86
  refine lv_aload_n hx hb dL_areSums_53 rfl (lv_at hl 3 rfl) ?_
  refine lv_iload hx hb dL_areSums_54 (lv_at hl 1 rfl) ?_
  refine vp_callSi (W.runV (As := [.int 7]) (rest := [.int 0]) ⟨hx, hb, hml, hown, hts⟩ (c_X0_in l D cI cZ cJ h a0 a1 a2 a3 a4 a5 a6 a7 a8 a9 a10 z0 z0 z0 z0 zf4 zf5 z0 z0 z0 z0 z0 0 0 0 0 7 (by decide +kernel)) (cwV 1 hts gL_areSums_X0_in rfl rfl rfl (by decide +kernel) ⟨Nat.le_of_ble_eq_true rfl, Nat.le_of_ble_eq_true rfl⟩) ⟨zP_blind, va_recv hK hP (ci := 0) (q0 := 0) rfl rfl, fun U hU hW => ⟨rfl, zP_mk (hP.sub (ws' := w0 cI cZ h a0 a1 a2 a3 a4 a5 a6 a7 a8 a9 a10) [0, 1, 2, 3, 4, 5, 6, 7, 8, 9, 10, 11] rfl) hK hU hW⟩⟩ rfl rfl hl.1 rfl (lv_room (Nat.le_of_ble_eq_true rfl)) dL_areSums_56 ⟨Nat.le_of_ble_eq_true rfl, Nat.le_of_ble_eq_true rfl⟩) (fun r87 w87 => ?_)
  have w87 : r87 = 0 := w87.trans (by decide +kernel)
  subst w87
  refine lv_icmp_ne (tgt := 66) hx hb dL_areSums_59 (by decide) (fun c9 => False.elim (by revert c9; decide)) (fun _ => ?_)
  refine lv_iconst (v := 1) hx hb dL_areSums_62 (by decide) ?_
  refine lv_goto (tgt := 67) hx hb dL_areSums_63 (by decide) ?_
  refine lv_istore_n (lv' := [(3, .int 1), (2, .int 0), (4, .int 7), (0, .ref h), (1, .ref ma)]) hx hb dL_areSums_67 rfl hl (by decide) rfl (fun ls hl => ?_)
  refine lv_iinc (v := 8) (lv' := [(4, .int 8), (3, .int 1), (2, .int 0), (0, .ref h), (1, .ref ma)]) hx hb dL_areSums_68 hl (k := 2) rfl (by decide) (by decide) rfl (fun ls hl => ?_)
  refine lv_goto (tgt := 7) hx hb dL_areSums_71 (by decide) ?_
  refine lv_iload hx hb dL_areSums_7 (lv_at hl 0 rfl) ?_
  refine lv_bipush (v := 8) hx hb dL_areSums_9 (by decide) ?_
  refine lv_icmp_ge (tgt := 74) hx hb dL_areSums_11 (by decide) (fun _ => ?_) (fun c9 => False.elim (by revert c9; decide))
  refine lv_aload_n hx hb dL_areSums_74 rfl (lv_at hl 4 rfl) ?_
  refine lv_iconst (v := 1) hx hb dL_areSums_75 (by decide) ?_
  refine va_iald (D := D) hx hb hK hP 12 0 rfl rfl (vp_in_iff.mpr (by decide +kernel)) dL_areSums_76 ?_
  refine lv_topi (fun y90 hy90 => ?_)
  have hy90 : y90 = 0 := hy90.trans (by decide +kernel)
  subst hy90
  refine lv_aload_n hx hb dL_areSums_77 rfl (lv_at hl 4 rfl) ?_
  refine lv_iconst (v := 2) hx hb dL_areSums_78 (by decide) ?_
  refine va_iald (D := D) hx hb hK hP 12 0 rfl rfl (vp_in_iff.mpr (by decide +kernel)) dL_areSums_79 ?_
  refine lv_topi (fun y91 hy91 => ?_)
  have hy91 : y91 = 0 := hy91.trans (by decide +kernel)
  subst hy91
  refine lv_isub hx hb dL_areSums_80 ?_
  refine lv_topi (fun y92 hy92 => ?_)
  have hy92 : y92 = 0 := hy92.trans (by decide +kernel)
  subst hy92
  refine lv_iload_n hx hb dL_areSums_81 rfl (lv_at hl 2 rfl) ?_
  refine lv_isub hx hb dL_areSums_82 ?_
  refine lv_topi (fun y93 hy93 => ?_)
  have hy93 : y93 = 0 := hy93.trans (by decide +kernel)
  subst hy93
  refine lv_istore (lv' := [(4, .int 0), (3, .int 1), (2, .int 0), (0, .ref h), (1, .ref ma)]) hx hb dL_areSums_83 hl (by decide) rfl (fun ls hl => ?_)
  refine lv_aload_n hx hb dL_areSums_85 rfl (lv_at hl 4 rfl) ?_
  refine lv_iconst (v := 3) hx hb dL_areSums_86 (by decide) ?_
  refine va_iald (D := D) hx hb hK hP 12 0 rfl rfl (vp_in_iff.mpr (by decide +kernel)) dL_areSums_87 ?_
  refine lv_topi (fun y94 hy94 => ?_)
  have hy94 : y94 = 0 := hy94.trans (by decide +kernel)
  subst hy94
  refine lv_aload_n hx hb dL_areSums_88 rfl (lv_at hl 3 rfl) ?_
  refine vp_callSi (W.runV (As := []) (rest := [.int 0]) ⟨hx, hb, hml, hown, hts⟩ (c_X0_pot l D cI cZ cJ h a0 a1 a2 a3 a4 a5 a6 a7 a8 a9 a10 z0 z0 z0 z0 zf4 zf5 z0 z0 z0 z0 z0 0 0 0 0) (cwV 0 hts gL_areSums_X0_pot rfl rfl rfl (by decide +kernel) ⟨Nat.le_of_ble_eq_true rfl, Nat.le_of_ble_eq_true rfl⟩) ⟨zP_blind, va_recv hK hP (ci := 0) (q0 := 0) rfl rfl, fun U hU hW => ⟨rfl, zP_mk (hP.sub (ws' := w0 cI cZ h a0 a1 a2 a3 a4 a5 a6 a7 a8 a9 a10) [0, 1, 2, 3, 4, 5, 6, 7, 8, 9, 10, 11] rfl) hK hU hW⟩⟩ rfl rfl hl.1 rfl (lv_room (Nat.le_of_ble_eq_true rfl)) dL_areSums_89 ⟨Nat.le_of_ble_eq_true rfl, Nat.le_of_ble_eq_true rfl⟩) (fun r95 w95 => ?_)
  have w95 : r95 = 0 := w95.trans (by decide +kernel)
  subst w95
  refine lv_isub hx hb dL_areSums_92 ?_
  refine lv_topi (fun y96 hy96 => ?_)
  have hy96 : y96 = 0 := hy96.trans (by decide +kernel)
  subst hy96
  refine lv_istore (lv' := [(5, .int 0), (4, .int 0), (3, .int 1), (2, .int 0), (0, .ref h), (1, .ref ma)]) hx hb dL_areSums_93 hl (by decide) rfl (fun ls hl => ?_)
  refine lv_iload_n hx hb dL_areSums_95 rfl (lv_at hl 2 rfl) ?_
  refine lv_if_eq (tgt := 142) hx hb dL_areSums_96 (by decide) (fun c9 => False.elim (by revert c9; decide)) (fun _ => ?_)
  refine lv_aload_n hx hb dL_areSums_99 rfl (lv_at hl 4 rfl) ?_
  refine vp_callSi (W.runV (As := []) (rest := []) ⟨hx, hb, hml, hown, hts⟩ (c_X0_total l D cI cZ cJ h a0 a1 a2 a3 a4 a5 a6 a7 a8 a9 a10 z0 z0 z0 z0 zf4 zf5 z0 z0 z0 z0 z0 0 0 0 0) (cwV 0 hts gL_areSums_X0_total rfl rfl rfl (by decide +kernel) ⟨Nat.le_of_ble_eq_true rfl, Nat.le_of_ble_eq_true rfl⟩) ⟨zP_blind, va_recv hK hP (ci := 0) (q0 := 0) rfl rfl, fun U hU hW => ⟨rfl, zP_mk (hP.sub (ws' := w0 cI cZ h a0 a1 a2 a3 a4 a5 a6 a7 a8 a9 a10) [0, 1, 2, 3, 4, 5, 6, 7, 8, 9, 10, 11] rfl) hK hU hW⟩⟩ rfl rfl hl.1 rfl (lv_room (Nat.le_of_ble_eq_true rfl)) dL_areSums_100 ⟨Nat.le_of_ble_eq_true rfl, Nat.le_of_ble_eq_true rfl⟩) (fun r98 w98 => ?_)
  have w98 : r98 = 0 := w98.trans (by decide +kernel)
  subst w98
  refine lv_iload_n hx hb dL_areSums_103 rfl (lv_at hl 3 rfl) ?_
  refine lv_icmp_ne (tgt := 142) hx hb dL_areSums_104 (by decide) (fun c9 => False.elim (by revert c9; decide)) (fun _ => ?_)
  refine lv_iload hx hb dL_areSums_107 (lv_at hl 1 rfl) ?_
  refine lv_if_lt (tgt := 142) hx hb dL_areSums_109 (by decide) (fun c9 => False.elim (by revert c9; decide)) (fun _ => ?_)
  refine lv_iload hx hb dL_areSums_112 (lv_at hl 0 rfl) ?_
  refine lv_if_lt (tgt := 142) hx hb dL_areSums_114 (by decide) (fun c9 => False.elim (by revert c9; decide)) (fun _ => ?_)
  refine lv_aload_n hx hb dL_areSums_117 rfl (lv_at hl 4 rfl) ?_
  refine vp_callSi (W.runV (As := []) (rest := []) ⟨hx, hb, hml, hown, hts⟩ (c_X0_out l D cI cZ cJ h a0 a1 a2 a3 a4 a5 a6 a7 a8 a9 a10 z0 z0 z0 z0 zf4 zf5 z0 z0 z0 z0 z0 0 0 0 0) (cwV 0 hts gL_areSums_X0_out rfl rfl rfl (by decide +kernel) ⟨Nat.le_of_ble_eq_true rfl, Nat.le_of_ble_eq_true rfl⟩) ⟨zP_blind, va_recv hK hP (ci := 0) (q0 := 0) rfl rfl, fun U hU hW => ⟨rfl, zP_mk (hP.sub (ws' := w0 cI cZ h a0 a1 a2 a3 a4 a5 a6 a7 a8 a9 a10) [0, 1, 2, 3, 4, 5, 6, 7, 8, 9, 10, 11] rfl) hK hU hW⟩⟩ rfl rfl hl.1 rfl (lv_room (Nat.le_of_ble_eq_true rfl)) dL_areSums_118 ⟨Nat.le_of_ble_eq_true rfl, Nat.le_of_ble_eq_true rfl⟩) (fun r102 w102 => ?_)
  have w102 : r102 = 0 := w102.trans (by decide +kernel)
  subst w102
  refine lv_iload hx hb dL_areSums_121 (lv_at hl 1 rfl) ?_
  refine lv_iload hx hb dL_areSums_123 (lv_at hl 0 rfl) ?_
  refine lv_iadd hx hb dL_areSums_125 ?_
  refine lv_topi (fun y103 hy103 => ?_)
  have hy103 : y103 = 0 := hy103.trans (by decide +kernel)
  subst hy103
  refine lv_icmp_ne (tgt := 142) hx hb dL_areSums_126 (by decide) (fun c9 => False.elim (by revert c9; decide)) (fun _ => ?_)
  refine lv_aload_n hx hb dL_areSums_129 rfl (lv_at hl 4 rfl) ?_
  refine vp_callSi (W.runV (As := []) (rest := []) ⟨hx, hb, hml, hown, hts⟩ (c_X0_pot l D cI cZ cJ h a0 a1 a2 a3 a4 a5 a6 a7 a8 a9 a10 z0 z0 z0 z0 zf4 zf5 z0 z0 z0 z0 z0 0 0 0 0) (cwV 0 hts gL_areSums_X0_pot rfl rfl rfl (by decide +kernel) ⟨Nat.le_of_ble_eq_true rfl, Nat.le_of_ble_eq_true rfl⟩) ⟨zP_blind, va_recv hK hP (ci := 0) (q0 := 0) rfl rfl, fun U hU hW => ⟨rfl, zP_mk (hP.sub (ws' := w0 cI cZ h a0 a1 a2 a3 a4 a5 a6 a7 a8 a9 a10) [0, 1, 2, 3, 4, 5, 6, 7, 8, 9, 10, 11] rfl) hK hU hW⟩⟩ rfl rfl hl.1 rfl (lv_room (Nat.le_of_ble_eq_true rfl)) dL_areSums_130 ⟨Nat.le_of_ble_eq_true rfl, Nat.le_of_ble_eq_true rfl⟩) (fun r105 w105 => ?_)
  have w105 : r105 = 0 := w105.trans (by decide +kernel)
  subst w105
  refine lv_ldc hx hb hown (hts (.constant RL 102 (1000000)) (by decide +kernel)) dL_areSums_133 ?_
  refine lv_icmp_gt (tgt := 142) hx hb dL_areSums_135 (by decide) (fun c9 => False.elim (by revert c9; decide)) (fun _ => ?_)
  refine lv_iconst (v := 1) hx hb dL_areSums_138 (by decide) ?_
  refine lv_goto (tgt := 143) hx hb dL_areSums_139 (by decide) ?_
  refine W.widen (k := 0) (n := 0) (Nat.le_of_ble_eq_true rfl) (Nat.le_of_ble_eq_true rfl) ?_
  refine vx_ret ?_
  exact W.zret (v := 1) hx hb hr rfl (fun t ht hW => ⟨⟨1, (), rfl, rfl, by show s.heap.size + 0 ≤ t.heap.size; rw [ht]; exact hgr⟩, hS.F ht⟩) hS.2.2 dL_areSums_143
set_option maxHeartbeats 4000000 in
set_option maxRecDepth 100000 in
theorem k_areShares (l : Launch) (hl0 : l.stackTraces = false) (D : va_G) (cI cZ cJ : ClassId) (sz : Nat) (h a0 a1 a2 a3 a4 a5 a6 a7 a8 a9 a10 : Nat) (ga aa ma ha : Nat) : vx_Met l yL_areShares wsL_areShares ({ frames := 9, cells := 10, slots := 60, locals := 154 }) (va_Pc [.ref h, .ref ga, .ref aa, .ref ma, .ref ha] (zKX D cI cZ cJ sz (w0 cI cZ h a0 a1 a2 a3 a4 a5 a6 a7 a8 a9 a10))) (va_Qi (fun (r : Int32) (_ : Unit) => r = 1) (fun _ t => sz + 2 ≤ t.heap.size) (fun _ => False)) (zXC (fun _ => False)) 10 60 (fun _ => False) := by
  refine vx_ofW (cc := cL_areShares) (maxL := 15) (ret := (some .boolean)) (by decide) rfl ?_
  intro p e s m args below meth c s₁ B hml hout hv
  obtain ⟨rfl, hsz, hZ, hP, hK⟩ := hv
  have hx := B.exec
  have hb := B.bytes
  have hr := B.returns
  have hts := atoms_spec (ws := wsL_areShares) B.pre
  have hown : s.vm.findClass RL = some m.cls := findClass_of_methodNamed B.named
  have hlocks := B.notSynchronized
  subst hsz
  have hS : va_S (fun _ : Nat => False) s.heap s.heap [] := va_S.rf
  have hgr : s.heap.size + 0 ≤ s.heap.size := Nat.le_refl _
  have hl := lv_entry ([.ref h, .ref ga, .ref aa, .ref ma, .ref ha]) (n := 15) (Nat.le_of_ble_eq_true rfl)
  rw [lg_entry_eq]
  generalize (lg_sl ([.ref h, .ref ga, .ref aa, .ref ma, .ref ha]) ++ List.replicate (15 - (lg_sl ([.ref h, .ref ga, .ref aa, .ref ma, .ref ha])).length) Slot.unset).toArray = ls at hl ⊢
  have hl : lv_has ls 15 [(0, .ref h), (1, .ref ga), (2, .ref aa), (3, .ref ma), (4, .ref ha)] := hl
  refine lv_aload_n hx hb dL_areShares_0 rfl (lv_at hl 0 rfl) ?_
  refine vp_callSi (W.runV (As := []) (rest := []) ⟨hx, hb, hml, hown, hts⟩ (c_X0_current l D cI cZ cJ h a0 a1 a2 a3 a4 a5 a6 a7 a8 a9 a10 z0 z0 z0 z0 zf4 zf5 z0 z0 z0 z0 z0 0 0 0 0) (cwV 0 hts gL_areShares_X0_current rfl rfl rfl (by decide +kernel) ⟨Nat.le_of_ble_eq_true rfl, Nat.le_of_ble_eq_true rfl⟩) ⟨zP_blind, va_recv hK hP (ci := 0) (q0 := 0) rfl rfl, fun U hU hW => ⟨rfl, zP_mk hP hK hU hW⟩⟩ rfl rfl hl.1 rfl (lv_room (Nat.le_of_ble_eq_true rfl)) dL_areShares_1 ⟨Nat.le_of_ble_eq_true rfl, Nat.le_of_ble_eq_true rfl⟩) (fun r1 w1 => ?_)
  have w1 : r1 = (-1) := w1.trans (by decide +kernel)
  subst w1
  refine lv_istore (lv' := [(5, .int (-1)), (0, .ref h), (1, .ref ga), (2, .ref aa), (3, .ref ma), (4, .ref ha)]) hx hb dL_areShares_4 hl (by decide) rfl (fun ls hl => ?_)
  refine lv_aload_n hx hb dL_areShares_6 rfl (lv_at hl 1 rfl) ?_
  refine vp_callSi (W.runV (As := []) (rest := []) ⟨hx, hb, hml, hown, hts⟩ (c_X0_total l D cI cZ cJ h a0 a1 a2 a3 a4 a5 a6 a7 a8 a9 a10 z0 z0 z0 z0 zf4 zf5 z0 z0 z0 z0 z0 0 0 0 0) (cwV 0 hts gL_areShares_X0_total rfl rfl rfl (by decide +kernel) ⟨Nat.le_of_ble_eq_true rfl, Nat.le_of_ble_eq_true rfl⟩) ⟨zP_blind, va_recv hK hP (ci := 0) (q0 := 0) rfl rfl, fun U hU hW => ⟨rfl, zP_mk hP hK hU hW⟩⟩ rfl rfl hl.1 rfl (lv_room (Nat.le_of_ble_eq_true rfl)) dL_areShares_7 ⟨Nat.le_of_ble_eq_true rfl, Nat.le_of_ble_eq_true rfl⟩) (fun r2 w2 => ?_)
  have w2 : r2 = 0 := w2.trans (by decide +kernel)
  subst w2
  refine lv_i2l (v := 0) hx hb dL_areShares_10 (by decide +kernel) ?_
  refine lv_lstore (lv' := [(6, .long 0), (5, .int (-1)), (0, .ref h), (1, .ref ga), (2, .ref aa), (3, .ref ma), (4, .ref ha)]) hx hb dL_areShares_11 hl (by decide) rfl (fun ls hl => ?_)
  refine lv_iload hx hb dL_areShares_13 (lv_at hl 1 rfl) ?_
  refine lv_if_lt (tgt := 29) hx hb dL_areShares_15 (by decide) (fun _ => ?_) (fun c9 => False.elim (by revert c9; decide))
  refine lv_aload_n hx hb dL_areShares_29 rfl (lv_at hl 2 rfl) ?_
  refine lv_iconst (v := 5) hx hb dL_areShares_30 (by decide) ?_
  refine lv_iconst (v := 0) hx hb dL_areShares_31 (by decide) ?_
  refine vx_calli (vx_runSX (As := [.ref h, .int 5, .int 0]) (rest := []) ⟨hx, hb, hml, hown, hts⟩ (k_of_match_t l hl0 D cI cZ cJ s.heap.size h a0 a1 a2 a3 a4 a5 a6 a7 a8 a9 a10 z0 z0 z0 z0 zf4 zf5 z0 z0 z0 z0 z0 0 0 0 0 0 (by decide +kernel) (by decide +kernel)) (vx_cwSW 3 hts gL_areShares_L_of rfl rfl rfl (by decide +kernel) ⟨Nat.le_of_ble_eq_true rfl, Nat.le_of_ble_eq_true rfl⟩) ⟨zKX_blind, fun U hU hW => ⟨rfl, by rw [hU], zX_on hZ hS (fun _ z => z.elim) hU hW, zP_mk hP hK hU hW⟩⟩ rfl rfl hl.1 rfl (lv_room (Nat.le_of_ble_eq_true rfl)) dL_areShares_32 ⟨Nat.le_of_ble_eq_true rfl, Nat.le_of_ble_eq_true rfl⟩) hS (fun _ _ z => z.elim) (fun _ z => z.elim) (fun _ _ z => z.elim) (fun E ce q9 u t H1 locs1 _ _ _ hE _ _ _ _ _ _ => hE.elim) (fun r4 u4 t4 H4 locs ht hvm w4 hB hz1 hk1 hS => ?_)
  have w4 : r4 = (-1044) := w4
  subst w4
  have hB9 : s.heap.size + 1 ≤ H4.size := by rw [← ht]; exact hB
  have hP := hP.kept (fun k q hk => hk1 q.1 (vx_lt hP hk) (fun z => z))
  have hgr : s.heap.size + 1 ≤ H4.size := by omega
  clear hk1 hz1 hvm ht hB hB9 t4 u4
  refine lv_sipush (v := (-1044)) hx hb dL_areShares_35 (by decide) ?_
  refine lv_icmp_ne (tgt := 58) hx hb dL_areShares_38 (by decide) (fun c9 => False.elim (by revert c9; decide)) (fun _ => ?_)
  refine lv_aload_n hx hb dL_areShares_41 rfl (lv_at hl 2 rfl) ?_
  refine lv_bipush (v := 6) hx hb dL_areShares_42 (by decide) ?_
  refine lv_iconst (v := 0) hx hb dL_areShares_44 (by decide) ?_
  refine vx_calli (vx_runSX (As := [.ref h, .int 6, .int 0]) (rest := []) ⟨hx, hb, hml, hown, hts⟩ (k_of_matchByPairs_t l hl0 D cI cZ cJ H4.size h a0 a1 a2 a3 a4 a5 a6 a7 a8 a9 a10 z0 z0 z0 z0 zf4 zf5 z0 z0 z0 z0 z0 0 0 0 0 0 (by decide +kernel) (by decide +kernel)) (vx_cwSW 3 hts gL_areShares_L_of rfl rfl rfl (by decide +kernel) ⟨Nat.le_of_ble_eq_true rfl, Nat.le_of_ble_eq_true rfl⟩) ⟨zKX_blind, fun U hU hW => ⟨rfl, by rw [hU], zX_on hZ hS (fun _ z => z.elim) hU hW, zP_mk hP hK hU hW⟩⟩ rfl rfl hl.1 rfl (lv_room (Nat.le_of_ble_eq_true rfl)) dL_areShares_45 ⟨Nat.le_of_ble_eq_true rfl, Nat.le_of_ble_eq_true rfl⟩) hS (fun _ _ z => z.elim) (fun _ z => z.elim) (fun _ _ z => z.elim) (fun E ce q9 u t H1 locs1 _ _ _ hE _ _ _ _ _ _ => hE.elim) (fun r6 u6 t6 H6 locs ht hvm w6 hB hz1 hk1 hS => ?_)
  have w6 : r6 = (-1044) := w6
  subst w6
  have hB9 : H4.size + 1 ≤ H6.size := by rw [← ht]; exact hB
  have hP := hP.kept (fun k q hk => hk1 q.1 (vx_lt hP hk) (fun z => z))
  have hgr : s.heap.size + 2 ≤ H6.size := by omega
  clear hk1 hz1 hvm ht hB hB9 t6 u6
  refine lv_sipush (v := (-1044)) hx hb dL_areShares_48 (by decide) ?_
  refine lv_icmp_ne (tgt := 58) hx hb dL_areShares_51 (by decide) (fun c9 => False.elim (by revert c9; decide)) (fun _ => ?_)
  refine lv_iconst (v := 1) hx hb dL_areShares_54 (by decide) ?_
  refine lv_goto (tgt := 59) hx hb dL_areShares_55 (by decide) ?_
  refine lv_istore (lv' := [(8, .int 1), (6, .long 0), (5, .int (-1)), (0, .ref h), (1, .ref ga), (2, .ref aa), (3, .ref ma), (4, .ref ha)]) hx hb dL_areShares_59 hl (by decide) rfl (fun ls hl => ?_)
  refine lv_iconst (v := 0) hx hb dL_areShares_61 (by decide) ?_
  refine lv_istore (lv' := [(9, .int 0), (8, .int 1), (6, .long 0), (5, .int (-1)), (0, .ref h), (1, .ref ga), (2, .ref aa), (3, .ref ma), (4, .ref ha)]) hx hb dL_areShares_62 hl (by decide) rfl (fun ls hl => ?_)
  refine lv_iload hx hb dL_areShares_64 (lv_at hl 0 rfl) ?_
  refine lv_bipush (v := 8) hx hb dL_areShares_66 (by decide) ?_
  refine lv_icmp_ge (tgt := 102) hx hb dL_areShares_68 (by decide) (fun c9 => False.elim (by revert c9; decide)) (fun _ => ?_)
  refine lv_iload hx hb dL_areShares_71 (lv_at hl 1 rfl) ?_
  refine lv_if_eq (tgt := 102) hx hb dL_areShares_73 (by decide) (fun c9 => False.elim (by revert c9; decide)) (fun _ => ?_)
  refine lv_aload_n hx hb dL_areShares_76 rfl (lv_at hl 4 rfl) ?_
  refine lv_iconst (v := 4) hx hb dL_areShares_77 (by decide) ?_
  refine lv_iload hx hb dL_areShares_78 (lv_at hl 0 rfl) ?_
  refine vx_calli (vx_runSX (As := [.ref h, .int 4, .int 0]) (rest := []) ⟨hx, hb, hml, hown, hts⟩ (k_of_share_t2 l hl0 D cI cZ cJ H6.size h a0 a1 a2 a3 a4 a5 a6 a7 a8 a9 a10 z0 z0 z0 z0 zf4 zf5 z0 z0 z0 z0 z0 0 0 0 0 0 (by decide +kernel) (by decide +kernel) (by decide +kernel)) (vx_cwSW 3 hts gL_areShares_L_of rfl rfl rfl (by decide +kernel) ⟨Nat.le_of_ble_eq_true rfl, Nat.le_of_ble_eq_true rfl⟩) ⟨zKX_blind, fun U hU hW => ⟨rfl, by rw [hU], zX_on hZ hS (fun _ z => z.elim) hU hW, zP_mk hP hK hU hW⟩⟩ rfl rfl hl.1 rfl (lv_room (Nat.le_of_ble_eq_true rfl)) dL_areShares_80 ⟨Nat.le_of_ble_eq_true rfl, Nat.le_of_ble_eq_true rfl⟩) hS (fun _ _ z => z.elim) (fun _ z => z.elim) (fun _ _ z => z.elim) (fun E ce q9 u t H1 locs1 _ _ _ hE _ _ _ _ _ _ => hE.elim) (fun r10 u10 t10 H10 locs ht hvm w10 hB hz1 hk1 hS => ?_)
  have w10 : r10 = (-1044) := w10
  subst w10
  have hB9 : H6.size + 0 ≤ H10.size := by rw [← ht]; exact hB
  have hP := hP.kept (fun k q hk => hk1 q.1 (vx_lt hP hk) (fun z => z))
  have hgr : s.heap.size + 2 ≤ H10.size := by omega
  clear hk1 hz1 hvm ht hB hB9 t10 u10
  refine lv_sipush (v := (-1044)) hx hb dL_areShares_83 (by decide) ?_
  refine lv_icmp_ne (tgt := 93) hx hb dL_areShares_86 (by decide) (fun c9 => False.elim (by revert c9; decide)) (fun _ => ?_)
  refine lv_iconst (v := 1) hx hb dL_areShares_89 (by decide) ?_
  refine lv_goto (tgt := 94) hx hb dL_areShares_90 (by decide) ?_
  refine lv_istore (lv' := [(8, .int 1), (9, .int 0), (6, .long 0), (5, .int (-1)), (0, .ref h), (1, .ref ga), (2, .ref aa), (3, .ref ma), (4, .ref ha)]) hx hb dL_areShares_94 hl (by decide) rfl (fun ls hl => ?_)
  refine lv_iinc (v := 1) (lv' := [(9, .int 1), (8, .int 1), (6, .long 0), (5, .int (-1)), (0, .ref h), (1, .ref ga), (2, .ref aa), (3, .ref ma), (4, .ref ha)]) hx hb dL_areShares_96 hl (k := 1) rfl (by decide) (by decide) rfl (fun ls hl => ?_)
  refine lv_goto (tgt := 64) hx hb dL_areShares_99 (by decide) ?_
  refine lv_iload hx hb dL_areShares_64 (lv_at hl 0 rfl) ?_
  refine lv_bipush (v := 8) hx hb dL_areShares_66 (by decide) ?_
  refine lv_icmp_ge (tgt := 102) hx hb dL_areShares_68 (by decide) (fun c9 => False.elim (by revert c9; decide)) (fun _ => ?_)
  refine lv_iload hx hb dL_areShares_71 (lv_at hl 1 rfl) ?_
  refine lv_if_eq (tgt := 102) hx hb dL_areShares_73 (by decide) (fun c9 => False.elim (by revert c9; decide)) (fun _ => ?_)
  refine lv_aload_n hx hb dL_areShares_76 rfl (lv_at hl 4 rfl) ?_
  refine lv_iconst (v := 4) hx hb dL_areShares_77 (by decide) ?_
  refine lv_iload hx hb dL_areShares_78 (lv_at hl 0 rfl) ?_
  refine vx_calli (vx_runSX (As := [.ref h, .int 4, .int 1]) (rest := []) ⟨hx, hb, hml, hown, hts⟩ (k_of_share_t2 l hl0 D cI cZ cJ H10.size h a0 a1 a2 a3 a4 a5 a6 a7 a8 a9 a10 z0 z0 z0 z0 zf4 zf5 z0 z0 z0 z0 z0 0 0 0 0 1 (by decide +kernel) (by decide +kernel) (by decide +kernel)) (vx_cwSW 3 hts gL_areShares_L_of rfl rfl rfl (by decide +kernel) ⟨Nat.le_of_ble_eq_true rfl, Nat.le_of_ble_eq_true rfl⟩) ⟨zKX_blind, fun U hU hW => ⟨rfl, by rw [hU], zX_on hZ hS (fun _ z => z.elim) hU hW, zP_mk hP hK hU hW⟩⟩ rfl rfl hl.1 rfl (lv_room (Nat.le_of_ble_eq_true rfl)) dL_areShares_80 ⟨Nat.le_of_ble_eq_true rfl, Nat.le_of_ble_eq_true rfl⟩) hS (fun _ _ z => z.elim) (fun _ z => z.elim) (fun _ _ z => z.elim) (fun E ce q9 u t H1 locs1 _ _ _ hE _ _ _ _ _ _ => hE.elim) (fun r14 u14 t14 H14 locs ht hvm w14 hB hz1 hk1 hS => ?_)
  have w14 : r14 = (-1044) := w14
  subst w14
  have hB9 : H10.size + 0 ≤ H14.size := by rw [← ht]; exact hB
  have hP := hP.kept (fun k q hk => hk1 q.1 (vx_lt hP hk) (fun z => z))
  have hgr : s.heap.size + 2 ≤ H14.size := by omega
  clear hk1 hz1 hvm ht hB hB9 t14 u14
  refine lv_sipush (v := (-1044)) hx hb dL_areShares_83 (by decide) ?_
  refine lv_icmp_ne (tgt := 93) hx hb dL_areShares_86 (by decide) (fun c9 => False.elim (by revert c9; decide)) (fun _ => ?_)
  refine lv_iconst (v := 1) hx hb dL_areShares_89 (by decide) ?_
  refine lv_goto (tgt := 94) hx hb dL_areShares_90 (by decide) ?_
  refine lv_istore (lv' := [(8, .int 1), (9, .int 1), (6, .long 0), (5, .int (-1)), (0, .ref h), (1, .ref ga), (2, .ref aa), (3, .ref ma), (4, .ref ha)]) hx hb dL_areShares_94 hl (by decide) rfl (fun ls hl => ?_)
  refine lv_iinc (v := 2) (lv' := [(9, .int 2), (8, .int 1), (6, .long 0), (5, .int (-1)), (0, .ref h), (1, .ref ga), (2, .ref aa), (3, .ref ma), (4, .ref ha)]) hx hb dL_areShares_96 hl (k := 1) rfl (by decide) (by decide) rfl (fun ls hl => ?_)
  refine lv_goto (tgt := 64) hx hb dL_areShares_99 (by decide) ?_
  refine lv_iload hx hb dL_areShares_64 (lv_at hl 0 rfl) ?_
  refine lv_bipush (v := 8) hx hb dL_areShares_66 (by decide) ?_
  refine lv_icmp_ge (tgt := 102) hx hb dL_areShares_68 (by decide) (fun c9 => False.elim (by revert c9; decide)) (fun _ => ?_)
  refine lv_iload hx hb dL_areShares_71 (lv_at hl 1 rfl) ?_
  refine lv_if_eq (tgt := 102) hx hb dL_areShares_73 (by decide) (fun c9 => False.elim (by revert c9; decide)) (fun _ => ?_)
  refine lv_aload_n hx hb dL_areShares_76 rfl (lv_at hl 4 rfl) ?_
  refine lv_iconst (v := 4) hx hb dL_areShares_77 (by decide) ?_
  refine lv_iload hx hb dL_areShares_78 (lv_at hl 0 rfl) ?_
  refine vx_calli (vx_runSX (As := [.ref h, .int 4, .int 2]) (rest := []) ⟨hx, hb, hml, hown, hts⟩ (k_of_share_t2 l hl0 D cI cZ cJ H14.size h a0 a1 a2 a3 a4 a5 a6 a7 a8 a9 a10 z0 z0 z0 z0 zf4 zf5 z0 z0 z0 z0 z0 0 0 0 0 2 (by decide +kernel) (by decide +kernel) (by decide +kernel)) (vx_cwSW 3 hts gL_areShares_L_of rfl rfl rfl (by decide +kernel) ⟨Nat.le_of_ble_eq_true rfl, Nat.le_of_ble_eq_true rfl⟩) ⟨zKX_blind, fun U hU hW => ⟨rfl, by rw [hU], zX_on hZ hS (fun _ z => z.elim) hU hW, zP_mk hP hK hU hW⟩⟩ rfl rfl hl.1 rfl (lv_room (Nat.le_of_ble_eq_true rfl)) dL_areShares_80 ⟨Nat.le_of_ble_eq_true rfl, Nat.le_of_ble_eq_true rfl⟩) hS (fun _ _ z => z.elim) (fun _ z => z.elim) (fun _ _ z => z.elim) (fun E ce q9 u t H1 locs1 _ _ _ hE _ _ _ _ _ _ => hE.elim) (fun r18 u18 t18 H18 locs ht hvm w18 hB hz1 hk1 hS => ?_)
  have w18 : r18 = (-1044) := w18
  subst w18
  have hB9 : H14.size + 0 ≤ H18.size := by rw [← ht]; exact hB
  have hP := hP.kept (fun k q hk => hk1 q.1 (vx_lt hP hk) (fun z => z))
  have hgr : s.heap.size + 2 ≤ H18.size := by omega
  clear hk1 hz1 hvm ht hB hB9 t18 u18
  refine lv_sipush (v := (-1044)) hx hb dL_areShares_83 (by decide) ?_
  refine lv_icmp_ne (tgt := 93) hx hb dL_areShares_86 (by decide) (fun c9 => False.elim (by revert c9; decide)) (fun _ => ?_)
  refine lv_iconst (v := 1) hx hb dL_areShares_89 (by decide) ?_
  refine lv_goto (tgt := 94) hx hb dL_areShares_90 (by decide) ?_
  refine lv_istore (lv' := [(8, .int 1), (9, .int 2), (6, .long 0), (5, .int (-1)), (0, .ref h), (1, .ref ga), (2, .ref aa), (3, .ref ma), (4, .ref ha)]) hx hb dL_areShares_94 hl (by decide) rfl (fun ls hl => ?_)
  refine lv_iinc (v := 3) (lv' := [(9, .int 3), (8, .int 1), (6, .long 0), (5, .int (-1)), (0, .ref h), (1, .ref ga), (2, .ref aa), (3, .ref ma), (4, .ref ha)]) hx hb dL_areShares_96 hl (k := 1) rfl (by decide) (by decide) rfl (fun ls hl => ?_)
  refine lv_goto (tgt := 64) hx hb dL_areShares_99 (by decide) ?_
  refine lv_iload hx hb dL_areShares_64 (lv_at hl 0 rfl) ?_
  refine lv_bipush (v := 8) hx hb dL_areShares_66 (by decide) ?_
  refine lv_icmp_ge (tgt := 102) hx hb dL_areShares_68 (by decide) (fun c9 => False.elim (by revert c9; decide)) (fun _ => ?_)
  refine lv_iload hx hb dL_areShares_71 (lv_at hl 1 rfl) ?_
  refine lv_if_eq (tgt := 102) hx hb dL_areShares_73 (by decide) (fun c9 => False.elim (by revert c9; decide)) (fun _ => ?_)
  refine lv_aload_n hx hb dL_areShares_76 rfl (lv_at hl 4 rfl) ?_
  refine lv_iconst (v := 4) hx hb dL_areShares_77 (by decide) ?_
  refine lv_iload hx hb dL_areShares_78 (lv_at hl 0 rfl) ?_
  refine vx_calli (vx_runSX (As := [.ref h, .int 4, .int 3]) (rest := []) ⟨hx, hb, hml, hown, hts⟩ (k_of_share_t2 l hl0 D cI cZ cJ H18.size h a0 a1 a2 a3 a4 a5 a6 a7 a8 a9 a10 z0 z0 z0 z0 zf4 zf5 z0 z0 z0 z0 z0 0 0 0 0 3 (by decide +kernel) (by decide +kernel) (by decide +kernel)) (vx_cwSW 3 hts gL_areShares_L_of rfl rfl rfl (by decide +kernel) ⟨Nat.le_of_ble_eq_true rfl, Nat.le_of_ble_eq_true rfl⟩) ⟨zKX_blind, fun U hU hW => ⟨rfl, by rw [hU], zX_on hZ hS (fun _ z => z.elim) hU hW, zP_mk hP hK hU hW⟩⟩ rfl rfl hl.1 rfl (lv_room (Nat.le_of_ble_eq_true rfl)) dL_areShares_80 ⟨Nat.le_of_ble_eq_true rfl, Nat.le_of_ble_eq_true rfl⟩) hS (fun _ _ z => z.elim) (fun _ z => z.elim) (fun _ _ z => z.elim) (fun E ce q9 u t H1 locs1 _ _ _ hE _ _ _ _ _ _ => hE.elim) (fun r22 u22 t22 H22 locs ht hvm w22 hB hz1 hk1 hS => ?_)
  have w22 : r22 = (-1044) := w22
  subst w22
  have hB9 : H18.size + 0 ≤ H22.size := by rw [← ht]; exact hB
  have hP := hP.kept (fun k q hk => hk1 q.1 (vx_lt hP hk) (fun z => z))
  have hgr : s.heap.size + 2 ≤ H22.size := by omega
  clear hk1 hz1 hvm ht hB hB9 t22 u22
  refine lv_sipush (v := (-1044)) hx hb dL_areShares_83 (by decide) ?_
  refine lv_icmp_ne (tgt := 93) hx hb dL_areShares_86 (by decide) (fun c9 => False.elim (by revert c9; decide)) (fun _ => ?_)
  refine lv_iconst (v := 1) hx hb dL_areShares_89 (by decide) ?_
  refine lv_goto (tgt := 94) hx hb dL_areShares_90 (by decide) ?_
  refine lv_istore (lv' := [(8, .int 1), (9, .int 3), (6, .long 0), (5, .int (-1)), (0, .ref h), (1, .ref ga), (2, .ref aa), (3, .ref ma), (4, .ref ha)]) hx hb dL_areShares_94 hl (by decide) rfl (fun ls hl => ?_)
  refine lv_iinc (v := 4) (lv' := [(9, .int 4), (8, .int 1), (6, .long 0), (5, .int (-1)), (0, .ref h), (1, .ref ga), (2, .ref aa), (3, .ref ma), (4, .ref ha)]) hx hb dL_areShares_96 hl (k := 1) rfl (by decide) (by decide) rfl (fun ls hl => ?_)
  refine lv_goto (tgt := 64) hx hb dL_areShares_99 (by decide) ?_
  refine lv_iload hx hb dL_areShares_64 (lv_at hl 0 rfl) ?_
  refine lv_bipush (v := 8) hx hb dL_areShares_66 (by decide) ?_
  refine lv_icmp_ge (tgt := 102) hx hb dL_areShares_68 (by decide) (fun c9 => False.elim (by revert c9; decide)) (fun _ => ?_)
  refine lv_iload hx hb dL_areShares_71 (lv_at hl 1 rfl) ?_
  refine lv_if_eq (tgt := 102) hx hb dL_areShares_73 (by decide) (fun c9 => False.elim (by revert c9; decide)) (fun _ => ?_)
  refine lv_aload_n hx hb dL_areShares_76 rfl (lv_at hl 4 rfl) ?_
  refine lv_iconst (v := 4) hx hb dL_areShares_77 (by decide) ?_
  refine lv_iload hx hb dL_areShares_78 (lv_at hl 0 rfl) ?_
  refine vx_calli (vx_runSX (As := [.ref h, .int 4, .int 4]) (rest := []) ⟨hx, hb, hml, hown, hts⟩ (k_of_share_t2 l hl0 D cI cZ cJ H22.size h a0 a1 a2 a3 a4 a5 a6 a7 a8 a9 a10 z0 z0 z0 z0 zf4 zf5 z0 z0 z0 z0 z0 0 0 0 0 4 (by decide +kernel) (by decide +kernel) (by decide +kernel)) (vx_cwSW 3 hts gL_areShares_L_of rfl rfl rfl (by decide +kernel) ⟨Nat.le_of_ble_eq_true rfl, Nat.le_of_ble_eq_true rfl⟩) ⟨zKX_blind, fun U hU hW => ⟨rfl, by rw [hU], zX_on hZ hS (fun _ z => z.elim) hU hW, zP_mk hP hK hU hW⟩⟩ rfl rfl hl.1 rfl (lv_room (Nat.le_of_ble_eq_true rfl)) dL_areShares_80 ⟨Nat.le_of_ble_eq_true rfl, Nat.le_of_ble_eq_true rfl⟩) hS (fun _ _ z => z.elim) (fun _ z => z.elim) (fun _ _ z => z.elim) (fun E ce q9 u t H1 locs1 _ _ _ hE _ _ _ _ _ _ => hE.elim) (fun r26 u26 t26 H26 locs ht hvm w26 hB hz1 hk1 hS => ?_)
  have w26 : r26 = (-1044) := w26
  subst w26
  have hB9 : H22.size + 0 ≤ H26.size := by rw [← ht]; exact hB
  have hP := hP.kept (fun k q hk => hk1 q.1 (vx_lt hP hk) (fun z => z))
  have hgr : s.heap.size + 2 ≤ H26.size := by omega
  clear hk1 hz1 hvm ht hB hB9 t26 u26
  refine lv_sipush (v := (-1044)) hx hb dL_areShares_83 (by decide) ?_
  refine lv_icmp_ne (tgt := 93) hx hb dL_areShares_86 (by decide) (fun c9 => False.elim (by revert c9; decide)) (fun _ => ?_)
  refine lv_iconst (v := 1) hx hb dL_areShares_89 (by decide) ?_
  refine lv_goto (tgt := 94) hx hb dL_areShares_90 (by decide) ?_
  refine lv_istore (lv' := [(8, .int 1), (9, .int 4), (6, .long 0), (5, .int (-1)), (0, .ref h), (1, .ref ga), (2, .ref aa), (3, .ref ma), (4, .ref ha)]) hx hb dL_areShares_94 hl (by decide) rfl (fun ls hl => ?_)
  refine lv_iinc (v := 5) (lv' := [(9, .int 5), (8, .int 1), (6, .long 0), (5, .int (-1)), (0, .ref h), (1, .ref ga), (2, .ref aa), (3, .ref ma), (4, .ref ha)]) hx hb dL_areShares_96 hl (k := 1) rfl (by decide) (by decide) rfl (fun ls hl => ?_)
  refine lv_goto (tgt := 64) hx hb dL_areShares_99 (by decide) ?_
  refine lv_iload hx hb dL_areShares_64 (lv_at hl 0 rfl) ?_
  refine lv_bipush (v := 8) hx hb dL_areShares_66 (by decide) ?_
  refine lv_icmp_ge (tgt := 102) hx hb dL_areShares_68 (by decide) (fun c9 => False.elim (by revert c9; decide)) (fun _ => ?_)
  refine lv_iload hx hb dL_areShares_71 (lv_at hl 1 rfl) ?_
  refine lv_if_eq (tgt := 102) hx hb dL_areShares_73 (by decide) (fun c9 => False.elim (by revert c9; decide)) (fun _ => ?_)
  refine lv_aload_n hx hb dL_areShares_76 rfl (lv_at hl 4 rfl) ?_
  refine lv_iconst (v := 4) hx hb dL_areShares_77 (by decide) ?_
  refine lv_iload hx hb dL_areShares_78 (lv_at hl 0 rfl) ?_
  refine vx_calli (vx_runSX (As := [.ref h, .int 4, .int 5]) (rest := []) ⟨hx, hb, hml, hown, hts⟩ (k_of_share_t2 l hl0 D cI cZ cJ H26.size h a0 a1 a2 a3 a4 a5 a6 a7 a8 a9 a10 z0 z0 z0 z0 zf4 zf5 z0 z0 z0 z0 z0 0 0 0 0 5 (by decide +kernel) (by decide +kernel) (by decide +kernel)) (vx_cwSW 3 hts gL_areShares_L_of rfl rfl rfl (by decide +kernel) ⟨Nat.le_of_ble_eq_true rfl, Nat.le_of_ble_eq_true rfl⟩) ⟨zKX_blind, fun U hU hW => ⟨rfl, by rw [hU], zX_on hZ hS (fun _ z => z.elim) hU hW, zP_mk hP hK hU hW⟩⟩ rfl rfl hl.1 rfl (lv_room (Nat.le_of_ble_eq_true rfl)) dL_areShares_80 ⟨Nat.le_of_ble_eq_true rfl, Nat.le_of_ble_eq_true rfl⟩) hS (fun _ _ z => z.elim) (fun _ z => z.elim) (fun _ _ z => z.elim) (fun E ce q9 u t H1 locs1 _ _ _ hE _ _ _ _ _ _ => hE.elim) (fun r30 u30 t30 H30 locs ht hvm w30 hB hz1 hk1 hS => ?_)
  have w30 : r30 = (-1044) := w30
  subst w30
  have hB9 : H26.size + 0 ≤ H30.size := by rw [← ht]; exact hB
  have hP := hP.kept (fun k q hk => hk1 q.1 (vx_lt hP hk) (fun z => z))
  have hgr : s.heap.size + 2 ≤ H30.size := by omega
  clear hk1 hz1 hvm ht hB hB9 t30 u30
  refine lv_sipush (v := (-1044)) hx hb dL_areShares_83 (by decide) ?_
  refine lv_icmp_ne (tgt := 93) hx hb dL_areShares_86 (by decide) (fun c9 => False.elim (by revert c9; decide)) (fun _ => ?_)
  refine lv_iconst (v := 1) hx hb dL_areShares_89 (by decide) ?_
  refine lv_goto (tgt := 94) hx hb dL_areShares_90 (by decide) ?_
  refine lv_istore (lv' := [(8, .int 1), (9, .int 5), (6, .long 0), (5, .int (-1)), (0, .ref h), (1, .ref ga), (2, .ref aa), (3, .ref ma), (4, .ref ha)]) hx hb dL_areShares_94 hl (by decide) rfl (fun ls hl => ?_)
  refine lv_iinc (v := 6) (lv' := [(9, .int 6), (8, .int 1), (6, .long 0), (5, .int (-1)), (0, .ref h), (1, .ref ga), (2, .ref aa), (3, .ref ma), (4, .ref ha)]) hx hb dL_areShares_96 hl (k := 1) rfl (by decide) (by decide) rfl (fun ls hl => ?_)
  refine lv_goto (tgt := 64) hx hb dL_areShares_99 (by decide) ?_
  refine lv_iload hx hb dL_areShares_64 (lv_at hl 0 rfl) ?_
  refine lv_bipush (v := 8) hx hb dL_areShares_66 (by decide) ?_
  refine lv_icmp_ge (tgt := 102) hx hb dL_areShares_68 (by decide) (fun c9 => False.elim (by revert c9; decide)) (fun _ => ?_)
  refine lv_iload hx hb dL_areShares_71 (lv_at hl 1 rfl) ?_
  refine lv_if_eq (tgt := 102) hx hb dL_areShares_73 (by decide) (fun c9 => False.elim (by revert c9; decide)) (fun _ => ?_)
  refine lv_aload_n hx hb dL_areShares_76 rfl (lv_at hl 4 rfl) ?_
  refine lv_iconst (v := 4) hx hb dL_areShares_77 (by decide) ?_
  refine lv_iload hx hb dL_areShares_78 (lv_at hl 0 rfl) ?_
  refine vx_calli (vx_runSX (As := [.ref h, .int 4, .int 6]) (rest := []) ⟨hx, hb, hml, hown, hts⟩ (k_of_share_t2 l hl0 D cI cZ cJ H30.size h a0 a1 a2 a3 a4 a5 a6 a7 a8 a9 a10 z0 z0 z0 z0 zf4 zf5 z0 z0 z0 z0 z0 0 0 0 0 6 (by decide +kernel) (by decide +kernel) (by decide +kernel)) (vx_cwSW 3 hts gL_areShares_L_of rfl rfl rfl (by decide +kernel) ⟨Nat.le_of_ble_eq_true rfl, Nat.le_of_ble_eq_true rfl⟩) ⟨zKX_blind, fun U hU hW => ⟨rfl, by rw [hU], zX_on hZ hS (fun _ z => z.elim) hU hW, zP_mk hP hK hU hW⟩⟩ rfl rfl hl.1 rfl (lv_room (Nat.le_of_ble_eq_true rfl)) dL_areShares_80 ⟨Nat.le_of_ble_eq_true rfl, Nat.le_of_ble_eq_true rfl⟩) hS (fun _ _ z => z.elim) (fun _ z => z.elim) (fun _ _ z => z.elim) (fun E ce q9 u t H1 locs1 _ _ _ hE _ _ _ _ _ _ => hE.elim) (fun r34 u34 t34 H34 locs ht hvm w34 hB hz1 hk1 hS => ?_)
  have w34 : r34 = (-1044) := w34
  subst w34
  have hB9 : H30.size + 0 ≤ H34.size := by rw [← ht]; exact hB
  have hP := hP.kept (fun k q hk => hk1 q.1 (vx_lt hP hk) (fun z => z))
  have hgr : s.heap.size + 2 ≤ H34.size := by omega
  clear hk1 hz1 hvm ht hB hB9 t34 u34
  refine lv_sipush (v := (-1044)) hx hb dL_areShares_83 (by decide) ?_
  refine lv_icmp_ne (tgt := 93) hx hb dL_areShares_86 (by decide) (fun c9 => False.elim (by revert c9; decide)) (fun _ => ?_)
  refine lv_iconst (v := 1) hx hb dL_areShares_89 (by decide) ?_
  refine lv_goto (tgt := 94) hx hb dL_areShares_90 (by decide) ?_
  refine lv_istore (lv' := [(8, .int 1), (9, .int 6), (6, .long 0), (5, .int (-1)), (0, .ref h), (1, .ref ga), (2, .ref aa), (3, .ref ma), (4, .ref ha)]) hx hb dL_areShares_94 hl (by decide) rfl (fun ls hl => ?_)
  refine lv_iinc (v := 7) (lv' := [(9, .int 7), (8, .int 1), (6, .long 0), (5, .int (-1)), (0, .ref h), (1, .ref ga), (2, .ref aa), (3, .ref ma), (4, .ref ha)]) hx hb dL_areShares_96 hl (k := 1) rfl (by decide) (by decide) rfl (fun ls hl => ?_)
  refine lv_goto (tgt := 64) hx hb dL_areShares_99 (by decide) ?_
  refine lv_iload hx hb dL_areShares_64 (lv_at hl 0 rfl) ?_
  refine lv_bipush (v := 8) hx hb dL_areShares_66 (by decide) ?_
  refine lv_icmp_ge (tgt := 102) hx hb dL_areShares_68 (by decide) (fun c9 => False.elim (by revert c9; decide)) (fun _ => ?_)
  refine lv_iload hx hb dL_areShares_71 (lv_at hl 1 rfl) ?_
  refine lv_if_eq (tgt := 102) hx hb dL_areShares_73 (by decide) (fun c9 => False.elim (by revert c9; decide)) (fun _ => ?_)
  refine lv_aload_n hx hb dL_areShares_76 rfl (lv_at hl 4 rfl) ?_
  refine lv_iconst (v := 4) hx hb dL_areShares_77 (by decide) ?_
  refine lv_iload hx hb dL_areShares_78 (lv_at hl 0 rfl) ?_
  refine vx_calli (vx_runSX (As := [.ref h, .int 4, .int 7]) (rest := []) ⟨hx, hb, hml, hown, hts⟩ (k_of_share_t2 l hl0 D cI cZ cJ H34.size h a0 a1 a2 a3 a4 a5 a6 a7 a8 a9 a10 z0 z0 z0 z0 zf4 zf5 z0 z0 z0 z0 z0 0 0 0 0 7 (by decide +kernel) (by decide +kernel) (by decide +kernel)) (vx_cwSW 3 hts gL_areShares_L_of rfl rfl rfl (by decide +kernel) ⟨Nat.le_of_ble_eq_true rfl, Nat.le_of_ble_eq_true rfl⟩) ⟨zKX_blind, fun U hU hW => ⟨rfl, by rw [hU], zX_on hZ hS (fun _ z => z.elim) hU hW, zP_mk hP hK hU hW⟩⟩ rfl rfl hl.1 rfl (lv_room (Nat.le_of_ble_eq_true rfl)) dL_areShares_80 ⟨Nat.le_of_ble_eq_true rfl, Nat.le_of_ble_eq_true rfl⟩) hS (fun _ _ z => z.elim) (fun _ z => z.elim) (fun _ _ z => z.elim) (fun E ce q9 u t H1 locs1 _ _ _ hE _ _ _ _ _ _ => hE.elim) (fun r38 u38 t38 H38 locs ht hvm w38 hB hz1 hk1 hS => ?_)
  have w38 : r38 = (-1044) := w38
  subst w38
  have hB9 : H34.size + 0 ≤ H38.size := by rw [← ht]; exact hB
  have hP := hP.kept (fun k q hk => hk1 q.1 (vx_lt hP hk) (fun z => z))
  have hgr : s.heap.size + 2 ≤ H38.size := by omega
  clear hk1 hz1 hvm ht hB hB9 t38 u38
  refine lv_sipush (v := (-1044)) hx hb dL_areShares_83 (by decide) ?_
  refine lv_icmp_ne (tgt := 93) hx hb dL_areShares_86 (by decide) (fun c9 => False.elim (by revert c9; decide)) (fun _ => ?_)
  refine lv_iconst (v := 1) hx hb dL_areShares_89 (by decide) ?_
  refine lv_goto (tgt := 94) hx hb dL_areShares_90 (by decide) ?_
  refine lv_istore (lv' := [(8, .int 1), (9, .int 7), (6, .long 0), (5, .int (-1)), (0, .ref h), (1, .ref ga), (2, .ref aa), (3, .ref ma), (4, .ref ha)]) hx hb dL_areShares_94 hl (by decide) rfl (fun ls hl => ?_)
  refine lv_iinc (v := 8) (lv' := [(9, .int 8), (8, .int 1), (6, .long 0), (5, .int (-1)), (0, .ref h), (1, .ref ga), (2, .ref aa), (3, .ref ma), (4, .ref ha)]) hx hb dL_areShares_96 hl (k := 1) rfl (by decide) (by decide) rfl (fun ls hl => ?_)
  refine lv_goto (tgt := 64) hx hb dL_areShares_99 (by decide) ?_
  refine lv_iload hx hb dL_areShares_64 (lv_at hl 0 rfl) ?_
  refine lv_bipush (v := 8) hx hb dL_areShares_66 (by decide) ?_
  refine lv_icmp_ge (tgt := 102) hx hb dL_areShares_68 (by decide) (fun _ => ?_) (fun c9 => False.elim (by revert c9; decide))
  refine lv_iload hx hb dL_areShares_102 (lv_at hl 1 rfl) ?_
  refine W.widen (k := 10) (n := 60) (Nat.le_of_ble_eq_true rfl) (Nat.le_of_ble_eq_true rfl) ?_
  refine vx_ret ?_
  exact W.zret (v := 1) hx hb hr rfl (fun t ht hW => ⟨⟨1, (), rfl, rfl, by show s.heap.size + 2 ≤ t.heap.size; rw [ht]; exact hgr⟩, hS.F ht⟩) hS.2.2 dL_areShares_104
set_option maxHeartbeats 4000000 in
set_option maxRecDepth 100000 in
theorem k_isReleased (l : Launch) (hl0 : l.stackTraces = false) (D : va_G) (cI cZ cJ : ClassId) (sz : Nat) (h a0 a1 a2 a3 a4 a5 a6 a7 a8 a9 a10 : Nat) (ga aa ha : Nat) : vx_Met l yL_isReleased wsL_isReleased ({ frames := 8, cells := 1, slots := 6, locals := 136 }) (va_Pc [.ref h, .ref ga, .ref aa, .ref ha] (zKX D cI cZ cJ sz (w0 cI cZ h a0 a1 a2 a3 a4 a5 a6 a7 a8 a9 a10))) (va_Qi (fun (r : Int32) (_ : Unit) => r = 1) (fun _ t => sz + 0 ≤ t.heap.size) (fun _ => False)) (zXC (fun _ => False)) 1 6 (fun _ => False) := by
  refine vx_ofW (cc := cL_isReleased) (maxL := 11) (ret := (some .boolean)) (by decide) rfl ?_
  intro p e s m args below meth c s₁ B hml hout hv
  obtain ⟨rfl, hsz, hZ, hP, hK⟩ := hv
  have hx := B.exec
  have hb := B.bytes
  have hr := B.returns
  have hts := atoms_spec (ws := wsL_isReleased) B.pre
  have hown : s.vm.findClass RL = some m.cls := findClass_of_methodNamed B.named
  have hlocks := B.notSynchronized
  subst hsz
  have hS : va_S (fun _ : Nat => False) s.heap s.heap [] := va_S.rf
  have hgr : s.heap.size + 0 ≤ s.heap.size := Nat.le_refl _
  have hl := lv_entry ([.ref h, .ref ga, .ref aa, .ref ha]) (n := 11) (Nat.le_of_ble_eq_true rfl)
  rw [lg_entry_eq]
  generalize (lg_sl ([.ref h, .ref ga, .ref aa, .ref ha]) ++ List.replicate (11 - (lg_sl ([.ref h, .ref ga, .ref aa, .ref ha])).length) Slot.unset).toArray = ls at hl ⊢
  have hl : lv_has ls 11 [(0, .ref h), (1, .ref ga), (2, .ref aa), (3, .ref ha)] := hl
  refine lv_aload_n hx hb dL_isReleased_0 rfl (lv_at hl 0 rfl) ?_
  refine vp_callSi (W.runV (As := []) (rest := []) ⟨hx, hb, hml, hown, hts⟩ (c_X0_current l D cI cZ cJ h a0 a1 a2 a3 a4 a5 a6 a7 a8 a9 a10 z0 z0 z0 z0 zf4 zf5 z0 z0 z0 z0 z0 0 0 0 0) (cwV 0 hts gL_isReleased_X0_current rfl rfl rfl (by decide +kernel) ⟨Nat.le_of_ble_eq_true rfl, Nat.le_of_ble_eq_true rfl⟩) ⟨zP_blind, va_recv hK hP (ci := 0) (q0 := 0) rfl rfl, fun U hU hW => ⟨rfl, zP_mk hP hK hU hW⟩⟩ rfl rfl hl.1 rfl (lv_room (Nat.le_of_ble_eq_true rfl)) dL_isReleased_1 ⟨Nat.le_of_ble_eq_true rfl, Nat.le_of_ble_eq_true rfl⟩) (fun r1 w1 => ?_)
  have w1 : r1 = (-1) := w1.trans (by decide +kernel)
  subst w1
  refine lv_istore (lv' := [(4, .int (-1)), (0, .ref h), (1, .ref ga), (2, .ref aa), (3, .ref ha)]) hx hb dL_isReleased_4 hl (by decide) rfl (fun ls hl => ?_)
  refine lv_iload hx hb dL_isReleased_6 (lv_at hl 0 rfl) ?_
  refine lv_if_lt (tgt := 51) hx hb dL_isReleased_8 (by decide) (fun _ => ?_) (fun c9 => False.elim (by revert c9; decide))
  refine lv_iconst (v := 0) hx hb dL_isReleased_51 (by decide) ?_
  refine lv_istore (lv' := [(5, .int 0), (4, .int (-1)), (0, .ref h), (1, .ref ga), (2, .ref aa), (3, .ref ha)]) hx hb dL_isReleased_52 hl (by decide) rfl (fun ls hl => ?_)
  refine lv_iload hx hb dL_isReleased_54 (lv_at hl 0 rfl) ?_
  refine lv_if_ne (tgt := 79) hx hb dL_isReleased_56 (by decide) (fun c9 => False.elim (by revert c9; decide)) (fun _ => ?_)
  refine lv_aload_n hx hb dL_isReleased_59 rfl (lv_at hl 2 rfl) ?_
  refine lv_bipush (v := 8) hx hb dL_isReleased_60 (by decide) ?_
  refine lv_iconst (v := 0) hx hb dL_isReleased_62 (by decide) ?_
  refine lv_iconst (v := 0) hx hb dL_isReleased_63 (by decide) ?_
  refine vx_calli (vx_runSX (As := [.ref h, .int 8, .int 0, .int 0]) (rest := []) ⟨hx, hb, hml, hown, hts⟩ (k_act_release_t l hl0 D cI cZ cJ s.heap.size h a0 a1 a2 a3 a4 a5 a6 a7 a8 a9 a10 z0 z0 z0 z0 zf4 zf5 z0 z0 z0 z0 z0 0 0 0 0 0 0 (by decide +kernel) (by decide +kernel)) (vx_cwSW 4 hts gL_isReleased_L_act rfl rfl rfl (by decide +kernel) ⟨Nat.le_of_ble_eq_true rfl, Nat.le_of_ble_eq_true rfl⟩) ⟨zKX_blind, fun U hU hW => ⟨rfl, by rw [hU], zX_on hZ hS (fun _ z => z.elim) hU hW, zP_mk hP hK hU hW⟩⟩ rfl rfl hl.1 rfl (lv_room (Nat.le_of_ble_eq_true rfl)) dL_isReleased_64 ⟨Nat.le_of_ble_eq_true rfl, Nat.le_of_ble_eq_true rfl⟩) hS (fun _ _ z => z.elim) (fun _ z => z.elim) (fun _ _ z => z.elim) (fun E ce q9 u t H1 locs1 _ _ _ hE _ _ _ _ _ _ => hE.elim) (fun r4 u4 t4 H4 locs ht hvm w4 hB hz1 hk1 hS => ?_)
  have w4 : r4 = (-1043) := w4
  subst w4
  have hB9 : s.heap.size + 0 ≤ H4.size := by rw [← ht]; exact hB
  have hP := hP.kept (fun k q hk => hk1 q.1 (vx_lt hP hk) (fun z => z))
  have hgr : s.heap.size + 0 ≤ H4.size := by omega
  clear hk1 hz1 hvm ht hB hB9 t4 u4
  refine lv_sipush (v := (-1043)) hx hb dL_isReleased_67 (by decide) ?_
  refine lv_icmp_ne (tgt := 77) hx hb dL_isReleased_70 (by decide) (fun c9 => False.elim (by revert c9; decide)) (fun _ => ?_)
  refine lv_iconst (v := 1) hx hb dL_isReleased_73 (by decide) ?_
  refine lv_goto (tgt := 78) hx hb dL_isReleased_74 (by decide) ?_
  refine W.widen (k := 1) (n := 6) (Nat.le_of_ble_eq_true rfl) (Nat.le_of_ble_eq_true rfl) ?_
  refine vx_ret ?_
  exact W.zret (v := 1) hx hb hr rfl (fun t ht hW => ⟨⟨1, (), rfl, rfl, by show s.heap.size + 0 ≤ t.heap.size; rw [ht]; exact hgr⟩, hS.F ht⟩) hS.2.2 dL_isReleased_78
