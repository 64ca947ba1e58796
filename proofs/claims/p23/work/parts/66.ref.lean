set_option maxHeartbeats 4000000 in
set_option maxRecDepth 100000 in
theorem k_isRefused_10 (l : Launch) (hl0 : l.stackTraces = false) (D : va_G) (cI cZ cJ : ClassId) (sz : Nat) (h a0 a1 a2 a3 a4 a5 a6 a7 a8 a9 a10 : Nat) (ma : Nat) : vx_Met l yL_isRefused wsL_isRefused ({ frames := 10, cells := 38, slots := 228, locals := 177 }) (va_Pc [.ref h, .ref ma, .int 10] (zKX D cI cZ cJ sz (w0 cI cZ h a0 a1 a2 a3 a4 a5 a6 a7 a8 a9 a10 ++ [(ma, .inl (cI, 4, .inl z0))]))) (va_Qi (fun (r : Int32) (_ : Unit) => r = 1) (fun _ t => sz + 2 ≤ t.heap.size) (fun _ => False)) (zXC (fun _ => False)) 38 228 (fun _ => False) := by
  refine vx_ofW (cc := cL_isRefused) (maxL := 12) (ret := (some .boolean)) (by decide) rfl ?_
  intro p e s m args below meth c s₁ B hml hout hv
  obtain ⟨rfl, hsz, hZ, hP, hK⟩ := hv
  have hx := B.exec
  have hb := B.bytes
  have hr := B.returns
  have hts := atoms_spec (ws := wsL_isRefused) B.pre
  have hown : s.vm.findClass RL = some m.cls := findClass_of_methodNamed B.named
  have hlocks := B.notSynchronized
  subst hsz
  have hS : va_S (fun _ : Nat => False) s.heap s.heap [] := va_S.rf
  have hgr : s.heap.size + 0 ≤ s.heap.size := Nat.le_refl _
  have hl := lv_entry ([.ref h, .ref ma, .int 10]) (n := 12) (Nat.le_of_ble_eq_true rfl)
  rw [lg_entry_eq]
  generalize (lg_sl ([.ref h, .ref ma, .int 10]) ++ List.replicate (12 - (lg_sl ([.ref h, .ref ma, .int 10])).length) Slot.unset).toArray = ls at hl ⊢
  have hl : lv_has ls 12 [(0, .ref h), (1, .ref ma), (2, .int 10)] := hl
  refine lv_iload_n hx hb dL_isRefused_0 rfl (lv_at hl 2 rfl) ?_
  refine lv_iconst (v := 2) hx hb dL_isRefused_1 (by decide) ?_
  refine lv_irem hx hb dL_isRefused_2 (by decide) ?_
  refine lv_topi (fun y1 hy1 => ?_)
  have hy1 : y1 = 0 := hy1.trans (by decide +kernel)
  subst hy1
  refine lv_if_ne (tgt := 10) hx hb dL_isRefused_3 (by decide) (fun c9 => False.elim (by revert c9; decide)) (fun _ => ?_)
  refine lv_iconst (v := 1) hx hb dL_isRefused_6 (by decide) ?_
  refine lv_goto (tgt := 11) hx hb dL_isRefused_7 (by decide) ?_
  refine lv_istore_n (lv' := [(3, .int 1), (0, .ref h), (1, .ref ma), (2, .int 10)]) hx hb dL_isRefused_11 rfl hl (by decide) rfl (fun ls hl => ?_)
  refine lv_iload_n hx hb dL_isRefused_12 rfl (lv_at hl 0 rfl) ?_
  refine lv_if_eq (tgt := 25) hx hb dL_isRefused_13 (by decide) (fun c9 => False.elim (by revert c9; decide)) (fun _ => ?_)
  refine lv_iconst (v := (-1)) hx hb dL_isRefused_16 (by decide) ?_
  refine lv_iload_n hx hb dL_isRefused_17 rfl (lv_at hl 3 rfl) ?_
  refine lv_bipush (v := 30) hx hb dL_isRefused_18 (by decide) ?_
  refine lv_irem hx hb dL_isRefused_20 (by decide) ?_
  refine lv_topi (fun y4 hy4 => ?_)
  have hy4 : y4 = 10 := hy4.trans (by decide +kernel)
  subst hy4
  refine lv_isub hx hb dL_isRefused_21 ?_
  refine lv_topi (fun y5 hy5 => ?_)
  have hy5 : y5 = (-11) := hy5.trans (by decide +kernel)
  subst hy5
  refine lv_goto (tgt := 32) hx hb dL_isRefused_22 (by decide) ?_
  refine lv_istore (lv' := [(4, .int (-11)), (3, .int 1), (0, .ref h), (1, .ref ma), (2, .int 10)]) hx hb dL_isRefused_32 hl (by decide) rfl (fun ls hl => ?_)
  refine lv_iload_n hx hb dL_isRefused_34 rfl (lv_at hl 1 rfl) ?_
  refine lv_if_eq (tgt := 48) hx hb dL_isRefused_35 (by decide) (fun c9 => False.elim (by revert c9; decide)) (fun _ => ?_)
  refine lv_bipush (v := (-2)) hx hb dL_isRefused_38 (by decide) ?_
  refine lv_iload_n hx hb dL_isRefused_40 rfl (lv_at hl 4 rfl) ?_
  refine lv_bipush (v := 30) hx hb dL_isRefused_41 (by decide) ?_
  refine lv_irem hx hb dL_isRefused_43 (by decide) ?_
  refine lv_topi (fun y7 hy7 => ?_)
  have hy7 : y7 = 10 := hy7.trans (by decide +kernel)
  subst hy7
  refine lv_isub hx hb dL_isRefused_44 ?_
  refine lv_topi (fun y8 hy8 => ?_)
  have hy8 : y8 = (-12) := hy8.trans (by decide +kernel)
  subst hy8
  refine lv_goto (tgt := 55) hx hb dL_isRefused_45 (by decide) ?_
  refine lv_istore (lv' := [(5, .int (-12)), (4, .int (-11)), (3, .int 1), (0, .ref h), (1, .ref ma), (2, .int 10)]) hx hb dL_isRefused_55 hl (by decide) rfl (fun ls hl => ?_)
  refine lv_iload_n hx hb dL_isRefused_57 rfl (lv_at hl 5 rfl) ?_
  refine lv_iconst (v := 2) hx hb dL_isRefused_58 (by decide) ?_
  refine lv_idiv hx hb dL_isRefused_59 (by decide) ?_
  refine lv_topi (fun y9 hy9 => ?_)
  have hy9 : y9 = 5 := hy9.trans (by decide +kernel)
  subst hy9
  refine lv_bipush (v := 8) hx hb dL_isRefused_60 (by decide) ?_
  refine lv_irem hx hb dL_isRefused_62 (by decide) ?_
  refine lv_topi (fun y10 hy10 => ?_)
  have hy10 : y10 = 5 := hy10.trans (by decide +kernel)
  subst hy10
  refine lv_istore (lv' := [(6, .int 5), (5, .int (-12)), (4, .int (-11)), (3, .int 1), (0, .ref h), (1, .ref ma), (2, .int 10)]) hx hb dL_isRefused_63 hl (by decide) rfl (fun ls hl => ?_)
  refine lv_aload_n hx hb dL_isRefused_65 rfl (lv_at hl 4 rfl) ?_
  refine vp_callSi (W.runV (As := []) (rest := []) ⟨hx, hb, hml, hown, hts⟩ (c_X0_current l D cI cZ cJ h a0 a1 a2 a3 a4 a5 a6 a7 a8 a9 a10 z0 z0 z0 z0 zf4 zf5 z0 z0 z0 z0 z0 0 0 0 0) (cwV 0 hts gL_isRefused_X0_current rfl rfl rfl (by decide +kernel) ⟨Nat.le_of_ble_eq_true rfl, Nat.le_of_ble_eq_true rfl⟩) ⟨zP_blind, va_recv hK hP (ci := 0) (q0 := 0) rfl rfl, fun U hU hW => ⟨rfl, zP_mk (hP.sub (ws' := w0 cI cZ h a0 a1 a2 a3 a4 a5 a6 a7 a8 a9 a10) [0, 1, 2, 3, 4, 5, 6, 7, 8, 9, 10, 11] rfl) hK hU hW⟩⟩ rfl rfl hl.1 rfl (lv_room (Nat.le_of_ble_eq_true rfl)) dL_isRefused_66 ⟨Nat.le_of_ble_eq_true rfl, Nat.le_of_ble_eq_true rfl⟩) (fun r11 w11 => ?_)
  have w11 : r11 = (-1) := w11.trans (by decide +kernel)
  subst w11
  refine lv_if_ge (tgt := 78) hx hb dL_isRefused_69 (by decide) (fun c9 => False.elim (by revert c9; decide)) (fun _ => ?_)
  refine lv_aload_n hx hb dL_isRefused_72 rfl (lv_at hl 5 rfl) ?_
  refine lv_iconst (v := 0) hx hb dL_isRefused_73 (by decide) ?_
  refine va_iald (D := D) hx hb hK hP 12 0 rfl rfl (vp_in_iff.mpr (by decide +kernel)) dL_isRefused_74 ?_
  refine lv_topi (fun y13 hy13 => ?_)
  have hy13 : y13 = 0 := hy13.trans (by decide +kernel)
  subst hy13
  refine lv_goto (tgt := 82) hx hb dL_isRefused_75 (by decide) ?_
  refine lv_istore (lv' := [(7, .int 0), (6, .int 5), (5, .int (-12)), (4, .int (-11)), (3, .int 1), (0, .ref h), (1, .ref ma), (2, .int 10)]) hx hb dL_isRefused_82 hl (by decide) rfl (fun ls hl => ?_)
  refine lv_aload_n hx hb dL_isRefused_84 rfl (lv_at hl 5 rfl) ?_
  refine vx_calll (vx_runS (As := [.ref h]) (rest := []) ⟨hx, hb, hml, hown, hts⟩ (k_all l hl0 D cI cZ cJ s.heap.size h a0 a1 a2 a3 a4 a5 a6 a7 a8 a9 a10) (va_cwS 1 hts gL_isRefused_L_all rfl rfl rfl (by decide +kernel) ⟨Nat.le_of_ble_eq_true rfl, Nat.le_of_ble_eq_true rfl⟩) ⟨zKX_blind, fun U hU hW => ⟨rfl, by rw [hU], zX_on hZ hS (fun _ z => z.elim) hU hW, zP_mk (hP.sub (ws' := w0 cI cZ h a0 a1 a2 a3 a4 a5 a6 a7 a8 a9 a10) [0, 1, 2, 3, 4, 5, 6, 7, 8, 9, 10, 11] rfl) hK hU hW⟩⟩ rfl rfl hl.1 rfl (lv_room (Nat.le_of_ble_eq_true rfl)) dL_isRefused_85 ⟨Nat.le_of_ble_eq_true rfl, Nat.le_of_ble_eq_true rfl⟩) hS (fun _ _ z => z.elim) (fun _ z => z.elim) (fun _ _ z => z.elim) (fun E ce q9 u t H1 locs1 _ _ _ hE _ _ _ _ _ _ => hE.elim) (fun r14 u14 t14 H14 locs ht hvm w14 hB hz1 hk1 hS => ?_)
  have w14 : r14 = 547619638806036508 := w14
  subst w14
  have hB9 : s.heap.size + 1 ≤ H14.size := by rw [← ht]; exact hB
  have hP := hP.kept (fun k q hk => hk1 q.1 (vx_lt hP hk) (fun z => z))
  have hgr : s.heap.size + 1 ≤ H14.size := by omega
  clear hk1 hz1 hvm ht hB hB9 t14 u14
  refine lv_lstore (lv' := [(8, .long 547619638806036508), (7, .int 0), (6, .int 5), (5, .int (-12)), (4, .int (-11)), (3, .int 1), (0, .ref h), (1, .ref ma), (2, .int 10)]) hx hb dL_isRefused_88 hl (by decide) rfl (fun ls hl => ?_)
  refine lv_aload_n hx hb dL_isRefused_90 rfl (lv_at hl 6 rfl) ?_
  refine lv_iconst (v := 0) hx hb dL_isRefused_91 (by decide) ?_
  refine lv_iload hx hb dL_isRefused_92 (lv_at hl 4 rfl) ?_
  refine lv_iconst (v := 0) hx hb dL_isRefused_94 (by decide) ?_
  refine vx_calli (vx_runSX (As := [.ref h, .int 0, .int (-11), .int 0]) (rest := []) ⟨hx, hb, hml, hown, hts⟩ (k_act_give_t1 l hl0 D cI cZ cJ H14.size h a0 a1 a2 a3 a4 a5 a6 a7 a8 a9 a10 z0 z0 z0 z0 zf4 zf5 z0 z0 z0 z0 z0 0 0 0 0 (-11) 0 (by decide +kernel)) (vx_cwSW 4 hts gL_isRefused_L_act rfl rfl rfl (by decide +kernel) ⟨Nat.le_of_ble_eq_true rfl, Nat.le_of_ble_eq_true rfl⟩) ⟨zKX_blind, fun U hU hW => ⟨rfl, by rw [hU], zX_on hZ hS (fun _ z => z.elim) hU hW, zP_mk (hP.sub (ws' := w0 cI cZ h a0 a1 a2 a3 a4 a5 a6 a7 a8 a9 a10) [0, 1, 2, 3, 4, 5, 6, 7, 8, 9, 10, 11] rfl) hK hU hW⟩⟩ rfl rfl hl.1 rfl (lv_room (Nat.le_of_ble_eq_true rfl)) dL_isRefused_95 ⟨Nat.le_of_ble_eq_true rfl, Nat.le_of_ble_eq_true rfl⟩) hS (fun _ _ z => z.elim) (fun _ z => z.elim) (fun _ _ z => z.elim) (fun E ce q9 u t H1 locs1 _ _ _ hE _ _ _ _ _ _ => hE.elim) (fun r15 u15 t15 H15 locs ht hvm w15 hB hz1 hk1 hS => ?_)
  have w15 : r15 = (-1041) := w15
  subst w15
  have hB9 : H14.size + 0 ≤ H15.size := by rw [← ht]; exact hB
  have hP := hP.kept (fun k q hk => hk1 q.1 (vx_lt hP hk) (fun z => z))
  have hgr : s.heap.size + 1 ≤ H15.size := by omega
  clear hk1 hz1 hvm ht hB hB9 t15 u15
  refine lv_sipush (v := (-1041)) hx hb dL_isRefused_98 (by decide) ?_
  refine lv_icmp_ne (tgt := 396) hx hb dL_isRefused_101 (by decide) (fun c9 => False.elim (by revert c9; decide)) (fun _ => ?_)
  refine lv_aload_n hx hb dL_isRefused_104 rfl (lv_at hl 6 rfl) ?_
  refine lv_iconst (v := 0) hx hb dL_isRefused_105 (by decide) ?_
  refine lv_iload hx hb dL_isRefused_106 (lv_at hl 2 rfl) ?_
  refine lv_iload_n hx hb dL_isRefused_108 rfl (lv_at hl 5 rfl) ?_
  refine lv_if_eq (tgt := 121) hx hb dL_isRefused_109 (by decide) (fun c9 => False.elim (by revert c9; decide)) (fun _ => ?_)
  refine lv_iconst (v := 0) hx hb dL_isRefused_112 (by decide) ?_
  refine lv_iload_n hx hb dL_isRefused_113 rfl (lv_at hl 8 rfl) ?_
  refine lv_bipush (v := 30) hx hb dL_isRefused_114 (by decide) ?_
  refine lv_irem hx hb dL_isRefused_116 (by decide) ?_
  refine lv_topi (fun y18 hy18 => ?_)
  have hy18 : y18 = 10 := hy18.trans (by decide +kernel)
  subst hy18
  refine lv_isub hx hb dL_isRefused_117 ?_
  refine lv_topi (fun y19 hy19 => ?_)
  have hy19 : y19 = (-10) := hy19.trans (by decide +kernel)
  subst hy19
  refine lv_goto (tgt := 129) hx hb dL_isRefused_118 (by decide) ?_
  refine vx_calli (vx_runSX (As := [.ref h, .int 0, .int 5, .int (-10)]) (rest := []) ⟨hx, hb, hml, hown, hts⟩ (k_act_give_t2 l hl0 D cI cZ cJ H15.size h a0 a1 a2 a3 a4 a5 a6 a7 a8 a9 a10 z0 z0 z0 z0 zf4 zf5 z0 z0 z0 z0 z0 0 0 0 0 5 (-10) (by decide +kernel) (by decide +kernel)) (vx_cwSW 4 hts gL_isRefused_L_act rfl rfl rfl (by decide +kernel) ⟨Nat.le_of_ble_eq_true rfl, Nat.le_of_ble_eq_true rfl⟩) ⟨zKX_blind, fun U hU hW => ⟨rfl, by rw [hU], zX_on hZ hS (fun _ z => z.elim) hU hW, zP_mk (hP.sub (ws' := w0 cI cZ h a0 a1 a2 a3 a4 a5 a6 a7 a8 a9 a10) [0, 1, 2, 3, 4, 5, 6, 7, 8, 9, 10, 11] rfl) hK hU hW⟩⟩ rfl rfl hl.1 rfl (lv_room (Nat.le_of_ble_eq_true rfl)) dL_isRefused_129 ⟨Nat.le_of_ble_eq_true rfl, Nat.le_of_ble_eq_true rfl⟩) hS (fun _ _ z => z.elim) (fun _ z => z.elim) (fun _ _ z => z.elim) (fun E ce q9 u t H1 locs1 _ _ _ hE _ _ _ _ _ _ => hE.elim) (fun r20 u20 t20 H20 locs ht hvm w20 hB hz1 hk1 hS => ?_)
  have w20 : r20 = (-1042) := w20
  subst w20
  have hB9 : H15.size + 0 ≤ H20.size := by rw [← ht]; exact hB
  have hP := hP.kept (fun k q hk => hk1 q.1 (vx_lt hP hk) (fun z => z))
  have hgr : s.heap.size + 1 ≤ H20.size := by omega
  clear hk1 hz1 hvm ht hB hB9 t20 u20
  refine lv_sipush (v := (-1042)) hx hb dL_isRefused_132 (by decide) ?_
  refine lv_icmp_ne (tgt := 396) hx hb dL_isRefused_135 (by decide) (fun c9 => False.elim (by revert c9; decide)) (fun _ => ?_)
  refine lv_aload_n hx hb dL_isRefused_138 rfl (lv_at hl 6 rfl) ?_
  refine lv_iconst (v := 1) hx hb dL_isRefused_139 (by decide) ?_
  refine lv_iload hx hb dL_isRefused_140 (lv_at hl 4 rfl) ?_
  refine lv_iconst (v := 0) hx hb dL_isRefused_142 (by decide) ?_
  refine vx_calli (vx_runSX (As := [.ref h, .int 1, .int (-11), .int 0]) (rest := []) ⟨hx, hb, hml, hown, hts⟩ (k_act_leave_t l hl0 D cI cZ cJ H20.size h a0 a1 a2 a3 a4 a5 a6 a7 a8 a9 a10 z0 z0 z0 z0 zf4 zf5 z0 z0 z0 z0 z0 0 0 0 0 (-11) 0 (by decide +kernel)) (vx_cwSW 4 hts gL_isRefused_L_act rfl rfl rfl (by decide +kernel) ⟨Nat.le_of_ble_eq_true rfl, Nat.le_of_ble_eq_true rfl⟩) ⟨zKX_blind, fun U hU hW => ⟨rfl, by rw [hU], zX_on hZ hS (fun _ z => z.elim) hU hW, zP_mk (hP.sub (ws' := w0 cI cZ h a0 a1 a2 a3 a4 a5 a6 a7 a8 a9 a10) [0, 1, 2, 3, 4, 5, 6, 7, 8, 9, 10, 11] rfl) hK hU hW⟩⟩ rfl rfl hl.1 rfl (lv_room (Nat.le_of_ble_eq_true rfl)) dL_isRefused_143 ⟨Nat.le_of_ble_eq_true rfl, Nat.le_of_ble_eq_true rfl⟩) hS (fun _ _ z => z.elim) (fun _ z => z.elim) (fun _ _ z => z.elim) (fun E ce q9 u t H1 locs1 _ _ _ hE _ _ _ _ _ _ => hE.elim) (fun r22 u22 t22 H22 locs ht hvm w22 hB hz1 hk1 hS => ?_)
  have w22 : r22 = (-1041) := w22
  subst w22
  have hB9 : H20.size + 0 ≤ H22.size := by rw [← ht]; exact hB
  have hP := hP.kept (fun k q hk => hk1 q.1 (vx_lt hP hk) (fun z => z))
  have hgr : s.heap.size + 1 ≤ H22.size := by omega
  clear hk1 hz1 hvm ht hB hB9 t22 u22
  refine lv_sipush (v := (-1041)) hx hb dL_isRefused_146 (by decide) ?_
  refine lv_icmp_ne (tgt := 396) hx hb dL_isRefused_149 (by decide) (fun c9 => False.elim (by revert c9; decide)) (fun _ => ?_)
  refine lv_aload_n hx hb dL_isRefused_152 rfl (lv_at hl 6 rfl) ?_
  refine lv_iconst (v := 2) hx hb dL_isRefused_153 (by decide) ?_
  refine lv_iload hx hb dL_isRefused_154 (lv_at hl 4 rfl) ?_
  refine lv_iconst (v := (-1)) hx hb dL_isRefused_156 (by decide) ?_
  refine vx_calli (vx_runSX (As := [.ref h, .int 2, .int (-11), .int (-1)]) (rest := []) ⟨hx, hb, hml, hown, hts⟩ (k_act_trust_t1 l hl0 D cI cZ cJ H22.size h a0 a1 a2 a3 a4 a5 a6 a7 a8 a9 a10 z0 z0 z0 z0 zf4 zf5 z0 z0 z0 z0 z0 0 0 0 0 (-11) (-1) (by decide +kernel)) (vx_cwSW 4 hts gL_isRefused_L_act rfl rfl rfl (by decide +kernel) ⟨Nat.le_of_ble_eq_true rfl, Nat.le_of_ble_eq_true rfl⟩) ⟨zKX_blind, fun U hU hW => ⟨rfl, by rw [hU], zX_on hZ hS (fun _ z => z.elim) hU hW, zP_mk (hP.sub (ws' := w0 cI cZ h a0 a1 a2 a3 a4 a5 a6 a7 a8 a9 a10) [0, 1, 2, 3, 4, 5, 6, 7, 8, 9, 10, 11] rfl) hK hU hW⟩⟩ rfl rfl hl.1 rfl (lv_room (Nat.le_of_ble_eq_true rfl)) dL_isRefused_157 ⟨Nat.le_of_ble_eq_true rfl, Nat.le_of_ble_eq_true rfl⟩) hS (fun _ _ z => z.elim) (fun _ z => z.elim) (fun _ _ z => z.elim) (fun E ce q9 u t H1 locs1 _ _ _ hE _ _ _ _ _ _ => hE.elim) (fun r24 u24 t24 H24 locs ht hvm w24 hB hz1 hk1 hS => ?_)
  have w24 : r24 = (-1041) := w24
  subst w24
  have hB9 : H22.size + 0 ≤ H24.size := by rw [← ht]; exact hB
  have hP := hP.kept (fun k q hk => hk1 q.1 (vx_lt hP hk) (fun z => z))
  have hgr : s.heap.size + 1 ≤ H24.size := by omega
  clear hk1 hz1 hvm ht hB hB9 t24 u24
  refine lv_sipush (v := (-1041)) hx hb dL_isRefused_160 (by decide) ?_
  refine lv_icmp_ne (tgt := 396) hx hb dL_isRefused_163 (by decide) (fun c9 => False.elim (by revert c9; decide)) (fun _ => ?_)
  refine lv_aload_n hx hb dL_isRefused_166 rfl (lv_at hl 6 rfl) ?_
  refine lv_iconst (v := 2) hx hb dL_isRefused_167 (by decide) ?_
  refine lv_iload hx hb dL_isRefused_168 (lv_at hl 2 rfl) ?_
  refine lv_iload hx hb dL_isRefused_170 (lv_at hl 3 rfl) ?_
  refine vx_calli (vx_runSX (As := [.ref h, .int 2, .int 5, .int (-12)]) (rest := []) ⟨hx, hb, hml, hown, hts⟩ (k_act_trust_t2 l hl0 D cI cZ cJ H24.size h a0 a1 a2 a3 a4 a5 a6 a7 a8 a9 a10 z0 z0 z0 z0 zf4 zf5 z0 z0 z0 z0 z0 0 0 0 0 5 (-12) (by decide +kernel) (by decide +kernel)) (vx_cwSW 4 hts gL_isRefused_L_act rfl rfl rfl (by decide +kernel) ⟨Nat.le_of_ble_eq_true rfl, Nat.le_of_ble_eq_true rfl⟩) ⟨zKX_blind, fun U hU hW => ⟨rfl, by rw [hU], zX_on hZ hS (fun _ z => z.elim) hU hW, zP_mk (hP.sub (ws' := w0 cI cZ h a0 a1 a2 a3 a4 a5 a6 a7 a8 a9 a10) [0, 1, 2, 3, 4, 5, 6, 7, 8, 9, 10, 11] rfl) hK hU hW⟩⟩ rfl rfl hl.1 rfl (lv_room (Nat.le_of_ble_eq_true rfl)) dL_isRefused_172 ⟨Nat.le_of_ble_eq_true rfl, Nat.le_of_ble_eq_true rfl⟩) hS (fun _ _ z => z.elim) (fun _ z => z.elim) (fun _ _ z => z.elim) (fun E ce q9 u t H1 locs1 _ _ _ hE _ _ _ _ _ _ => hE.elim) (fun r26 u26 t26 H26 locs ht hvm w26 hB hz1 hk1 hS => ?_)
  have w26 : r26 = (-1041) := w26
  subst w26
  have hB9 : H24.size + 0 ≤ H26.size := by rw [← ht]; exact hB
  have hP := hP.kept (fun k q hk => hk1 q.1 (vx_lt hP hk) (fun z => z))
  have hgr : s.heap.size + 1 ≤ H26.size := by omega
  clear hk1 hz1 hvm ht hB hB9 t26 u26
  refine lv_sipush (v := (-1041)) hx hb dL_isRefused_175 (by decide) ?_
  refine lv_icmp_ne (tgt := 396) hx hb dL_isRefused_178 (by decide) (fun c9 => False.elim (by revert c9; decide)) (fun _ => ?_)
  refine lv_aload_n hx hb dL_isRefused_181 rfl (lv_at hl 6 rfl) ?_
  refine lv_iconst (v := 2) hx hb dL_isRefused_182 (by decide) ?_
  refine lv_iload hx hb dL_isRefused_183 (lv_at hl 2 rfl) ?_
  refine lv_iload hx hb dL_isRefused_185 (lv_at hl 2 rfl) ?_
  refine vx_calli (vx_runSX (As := [.ref h, .int 2, .int 5, .int 5]) (rest := []) ⟨hx, hb, hml, hown, hts⟩ (k_act_trust_t3 l hl0 D cI cZ cJ H26.size h a0 a1 a2 a3 a4 a5 a6 a7 a8 a9 a10 z0 z0 z0 z0 zf4 zf5 z0 z0 z0 z0 z0 0 0 0 0 5 5 (by decide +kernel) (by decide +kernel) (by decide +kernel)) (vx_cwSW 4 hts gL_isRefused_L_act rfl rfl rfl (by decide +kernel) ⟨Nat.le_of_ble_eq_true rfl, Nat.le_of_ble_eq_true rfl⟩) ⟨zKX_blind, fun U hU hW => ⟨rfl, by rw [hU], zX_on hZ hS (fun _ z => z.elim) hU hW, zP_mk (hP.sub (ws' := w0 cI cZ h a0 a1 a2 a3 a4 a5 a6 a7 a8 a9 a10) [0, 1, 2, 3, 4, 5, 6, 7, 8, 9, 10, 11] rfl) hK hU hW⟩⟩ rfl rfl hl.1 rfl (lv_room (Nat.le_of_ble_eq_true rfl)) dL_isRefused_187 ⟨Nat.le_of_ble_eq_true rfl, Nat.le_of_ble_eq_true rfl⟩) hS (fun _ _ z => z.elim) (fun _ z => z.elim) (fun _ _ z => z.elim) (fun E ce q9 u t H1 locs1 _ _ _ hE _ _ _ _ _ _ => hE.elim) (fun r28 u28 t28 H28 locs ht hvm w28 hB hz1 hk1 hS => ?_)
  have w28 : r28 = (-1043) := w28
  subst w28
  have hB9 : H26.size + 0 ≤ H28.size := by rw [← ht]; exact hB
  have hP := hP.kept (fun k q hk => hk1 q.1 (vx_lt hP hk) (fun z => z))
  have hgr : s.heap.size + 1 ≤ H28.size := by omega
  clear hk1 hz1 hvm ht hB hB9 t28 u28
  refine lv_sipush (v := (-1043)) hx hb dL_isRefused_190 (by decide) ?_
  refine lv_icmp_ne (tgt := 396) hx hb dL_isRefused_193 (by decide) (fun c9 => False.elim (by revert c9; decide)) (fun _ => ?_)
  refine lv_aload_n hx hb dL_isRefused_196 rfl (lv_at hl 6 rfl) ?_
  refine lv_iconst (v := 3) hx hb dL_isRefused_197 (by decide) ?_
  refine lv_iload hx hb dL_isRefused_198 (lv_at hl 4 rfl) ?_
  refine lv_iconst (v := 0) hx hb dL_isRefused_200 (by decide) ?_
  refine vx_calli (vx_runSX (As := [.ref h, .int 3, .int (-11), .int 0]) (rest := []) ⟨hx, hb, hml, hown, hts⟩ (k_act_setPerson_t1 l hl0 D cI cZ cJ H28.size h a0 a1 a2 a3 a4 a5 a6 a7 a8 a9 a10 z0 z0 z0 z0 zf4 zf5 z0 z0 z0 z0 z0 0 0 0 0 (-11) 0 (by decide +kernel)) (vx_cwSW 4 hts gL_isRefused_L_act rfl rfl rfl (by decide +kernel) ⟨Nat.le_of_ble_eq_true rfl, Nat.le_of_ble_eq_true rfl⟩) ⟨zKX_blind, fun U hU hW => ⟨rfl, by rw [hU], zX_on hZ hS (fun _ z => z.elim) hU hW, zP_mk (hP.sub (ws' := w0 cI cZ h a0 a1 a2 a3 a4 a5 a6 a7 a8 a9 a10) [0, 1, 2, 3, 4, 5, 6, 7, 8, 9, 10, 11] rfl) hK hU hW⟩⟩ rfl rfl hl.1 rfl (lv_room (Nat.le_of_ble_eq_true rfl)) dL_isRefused_201 ⟨Nat.le_of_ble_eq_true rfl, Nat.le_of_ble_eq_true rfl⟩) hS (fun _ _ z => z.elim) (fun _ z => z.elim) (fun _ _ z => z.elim) (fun E ce q9 u t H1 locs1 _ _ _ hE _ _ _ _ _ _ => hE.elim) (fun r30 u30 t30 H30 locs ht hvm w30 hB hz1 hk1 hS => ?_)
  have w30 : r30 = (-1041) := w30
  subst w30
  have hB9 : H28.size + 0 ≤ H30.size := by rw [← ht]; exact hB
  have hP := hP.kept (fun k q hk => hk1 q.1 (vx_lt hP hk) (fun z => z))
  have hgr : s.heap.size + 1 ≤ H30.size := by omega
  clear hk1 hz1 hvm ht hB hB9 t30 u30
  refine lv_sipush (v := (-1041)) hx hb dL_isRefused_204 (by decide) ?_
  refine lv_icmp_ne (tgt := 396) hx hb dL_isRefused_207 (by decide) (fun c9 => False.elim (by revert c9; decide)) (fun _ => ?_)
  refine lv_aload_n hx hb dL_isRefused_210 rfl (lv_at hl 6 rfl) ?_
  refine lv_iconst (v := 3) hx hb dL_isRefused_211 (by decide) ?_
  refine lv_iload hx hb dL_isRefused_212 (lv_at hl 2 rfl) ?_
  refine lv_iload hx hb dL_isRefused_214 (lv_at hl 4 rfl) ?_
  refine vx_calli (vx_runSX (As := [.ref h, .int 3, .int 5, .int (-11)]) (rest := []) ⟨hx, hb, hml, hown, hts⟩ (k_act_setPerson_t2 l hl0 D cI cZ cJ H30.size h a0 a1 a2 a3 a4 a5 a6 a7 a8 a9 a10 z0 z0 z0 z0 zf4 zf5 z0 z0 z0 z0 z0 0 0 0 0 5 (-11) (by decide +kernel) (by decide +kernel)) (vx_cwSW 4 hts gL_isRefused_L_act rfl rfl rfl (by decide +kernel) ⟨Nat.le_of_ble_eq_true rfl, Nat.le_of_ble_eq_true rfl⟩) ⟨zKX_blind, fun U hU hW => ⟨rfl, by rw [hU], zX_on hZ hS (fun _ z => z.elim) hU hW, zP_mk (hP.sub (ws' := w0 cI cZ h a0 a1 a2 a3 a4 a5 a6 a7 a8 a9 a10) [0, 1, 2, 3, 4, 5, 6, 7, 8, 9, 10, 11] rfl) hK hU hW⟩⟩ rfl rfl hl.1 rfl (lv_room (Nat.le_of_ble_eq_true rfl)) dL_isRefused_216 ⟨Nat.le_of_ble_eq_true rfl, Nat.le_of_ble_eq_true rfl⟩) hS (fun _ _ z => z.elim) (fun _ z => z.elim) (fun _ _ z => z.elim) (fun E ce q9 u t H1 locs1 _ _ _ hE _ _ _ _ _ _ => hE.elim) (fun r32 u32 t32 H32 locs ht hvm w32 hB hz1 hk1 hS => ?_)
  have w32 : r32 = (-1041) := w32
  subst w32
  have hB9 : H30.size + 0 ≤ H32.size := by rw [← ht]; exact hB
  have hP := hP.kept (fun k q hk => hk1 q.1 (vx_lt hP hk) (fun z => z))
  have hgr : s.heap.size + 1 ≤ H32.size := by omega
  clear hk1 hz1 hvm ht hB hB9 t32 u32
  refine lv_sipush (v := (-1041)) hx hb dL_isRefused_219 (by decide) ?_
  refine lv_icmp_ne (tgt := 396) hx hb dL_isRefused_222 (by decide) (fun c9 => False.elim (by revert c9; decide)) (fun _ => ?_)
  refine lv_aload_n hx hb dL_isRefused_225 rfl (lv_at hl 6 rfl) ?_
  refine lv_iconst (v := 4) hx hb dL_isRefused_226 (by decide) ?_
  refine lv_iload_n hx hb dL_isRefused_227 rfl (lv_at hl 5 rfl) ?_
  refine lv_if_eq (tgt := 240) hx hb dL_isRefused_228 (by decide) (fun c9 => False.elim (by revert c9; decide)) (fun _ => ?_)
  refine lv_iconst (v := 0) hx hb dL_isRefused_231 (by decide) ?_
  refine lv_iload_n hx hb dL_isRefused_232 rfl (lv_at hl 8 rfl) ?_
  refine lv_bipush (v := 30) hx hb dL_isRefused_233 (by decide) ?_
  refine lv_irem hx hb dL_isRefused_235 (by decide) ?_
  refine lv_topi (fun y35 hy35 => ?_)
  have hy35 : y35 = 10 := hy35.trans (by decide +kernel)
  subst hy35
  refine lv_isub hx hb dL_isRefused_236 ?_
  refine lv_topi (fun y36 hy36 => ?_)
  have hy36 : y36 = (-10) := hy36.trans (by decide +kernel)
  subst hy36
  refine lv_goto (tgt := 242) hx hb dL_isRefused_237 (by decide) ?_
  refine lv_iconst (v := 0) hx hb dL_isRefused_242 (by decide) ?_
  refine vx_calli (vx_runSX (As := [.ref h, .int 4, .int (-10), .int 0]) (rest := []) ⟨hx, hb, hml, hown, hts⟩ (k_act_fillPot_t1 l hl0 D cI cZ cJ H32.size h a0 a1 a2 a3 a4 a5 a6 a7 a8 a9 a10 z0 z0 z0 z0 zf4 zf5 z0 z0 z0 z0 z0 0 0 0 0 (-10) 0 (by decide +kernel)) (vx_cwSW 4 hts gL_isRefused_L_act rfl rfl rfl (by decide +kernel) ⟨Nat.le_of_ble_eq_true rfl, Nat.le_of_ble_eq_true rfl⟩) ⟨zKX_blind, fun U hU hW => ⟨rfl, by rw [hU], zX_on hZ hS (fun _ z => z.elim) hU hW, zP_mk (hP.sub (ws' := w0 cI cZ h a0 a1 a2 a3 a4 a5 a6 a7 a8 a9 a10) [0, 1, 2, 3, 4, 5, 6, 7, 8, 9, 10, 11] rfl) hK hU hW⟩⟩ rfl rfl hl.1 rfl (lv_room (Nat.le_of_ble_eq_true rfl)) dL_isRefused_243 ⟨Nat.le_of_ble_eq_true rfl, Nat.le_of_ble_eq_true rfl⟩) hS (fun _ _ z => z.elim) (fun _ z => z.elim) (fun _ _ z => z.elim) (fun E ce q9 u t H1 locs1 _ _ _ hE _ _ _ _ _ _ => hE.elim) (fun r37 u37 t37 H37 locs ht hvm w37 hB hz1 hk1 hS => ?_)
  have w37 : r37 = (-1042) := w37
  subst w37
  have hB9 : H32.size + 0 ≤ H37.size := by rw [← ht]; exact hB
  have hP := hP.kept (fun k q hk => hk1 q.1 (vx_lt hP hk) (fun z => z))
  have hgr : s.heap.size + 1 ≤ H37.size := by omega
  clear hk1 hz1 hvm ht hB hB9 t37 u37
  refine lv_sipush (v := (-1042)) hx hb dL_isRefused_246 (by decide) ?_
  refine lv_icmp_ne (tgt := 396) hx hb dL_isRefused_249 (by decide) (fun c9 => False.elim (by revert c9; decide)) (fun _ => ?_)
  refine lv_aload_n hx hb dL_isRefused_252 rfl (lv_at hl 6 rfl) ?_
  refine lv_iconst (v := 5) hx hb dL_isRefused_253 (by decide) ?_
  refine lv_iload_n hx hb dL_isRefused_254 rfl (lv_at hl 5 rfl) ?_
  refine lv_if_eq (tgt := 267) hx hb dL_isRefused_255 (by decide) (fun c9 => False.elim (by revert c9; decide)) (fun _ => ?_)
  refine lv_iconst (v := 0) hx hb dL_isRefused_258 (by decide) ?_
  refine lv_iload_n hx hb dL_isRefused_259 rfl (lv_at hl 8 rfl) ?_
  refine lv_bipush (v := 30) hx hb dL_isRefused_260 (by decide) ?_
  refine lv_irem hx hb dL_isRefused_262 (by decide) ?_
  refine lv_topi (fun y40 hy40 => ?_)
  have hy40 : y40 = 10 := hy40.trans (by decide +kernel)
  subst hy40
  refine lv_isub hx hb dL_isRefused_263 ?_
  refine lv_topi (fun y41 hy41 => ?_)
  have hy41 : y41 = (-10) := hy41.trans (by decide +kernel)
  subst hy41
  refine lv_goto (tgt := 269) hx hb dL_isRefused_264 (by decide) ?_
  refine lv_iconst (v := 0) hx hb dL_isRefused_269 (by decide) ?_
  refine vx_calli (vx_runSX (As := [.ref h, .int 5, .int (-10), .int 0]) (rest := []) ⟨hx, hb, hml, hown, hts⟩ (k_act_addMilestone_t1 l hl0 D cI cZ cJ H37.size h a0 a1 a2 a3 a4 a5 a6 a7 a8 a9 a10 z0 z0 z0 z0 zf4 zf5 z0 z0 z0 z0 z0 0 0 0 0 (-10) 0 (by decide +kernel)) (vx_cwSW 4 hts gL_isRefused_L_act rfl rfl rfl (by decide +kernel) ⟨Nat.le_of_ble_eq_true rfl, Nat.le_of_ble_eq_true rfl⟩) ⟨zKX_blind, fun U hU hW => ⟨rfl, by rw [hU], zX_on hZ hS (fun _ z => z.elim) hU hW, zP_mk (hP.sub (ws' := w0 cI cZ h a0 a1 a2 a3 a4 a5 a6 a7 a8 a9 a10) [0, 1, 2, 3, 4, 5, 6, 7, 8, 9, 10, 11] rfl) hK hU hW⟩⟩ rfl rfl hl.1 rfl (lv_room (Nat.le_of_ble_eq_true rfl)) dL_isRefused_270 ⟨Nat.le_of_ble_eq_true rfl, Nat.le_of_ble_eq_true rfl⟩) hS (fun _ _ z => z.elim) (fun _ z => z.elim) (fun _ _ z => z.elim) (fun E ce q9 u t H1 locs1 _ _ _ hE _ _ _ _ _ _ => hE.elim) (fun r42 u42 t42 H42 locs ht hvm w42 hB hz1 hk1 hS => ?_)
  have w42 : r42 = (-1042) := w42
  subst w42
  have hB9 : H37.size + 0 ≤ H42.size := by rw [← ht]; exact hB
  have hP := hP.kept (fun k q hk => hk1 q.1 (vx_lt hP hk) (fun z => z))
  have hgr : s.heap.size + 1 ≤ H42.size := by omega
  clear hk1 hz1 hvm ht hB hB9 t42 u42
  refine lv_sipush (v := (-1042)) hx hb dL_isRefused_273 (by decide) ?_
  refine lv_icmp_ne (tgt := 396) hx hb dL_isRefused_276 (by decide) (fun c9 => False.elim (by revert c9; decide)) (fun _ => ?_)
  refine lv_aload_n hx hb dL_isRefused_279 rfl (lv_at hl 6 rfl) ?_
  refine lv_bipush (v := 6) hx hb dL_isRefused_280 (by decide) ?_
  refine lv_iload_n hx hb dL_isRefused_282 rfl (lv_at hl 5 rfl) ?_
  refine lv_if_eq (tgt := 295) hx hb dL_isRefused_283 (by decide) (fun c9 => False.elim (by revert c9; decide)) (fun _ => ?_)
  refine lv_iconst (v := (-1)) hx hb dL_isRefused_286 (by decide) ?_
  refine lv_iload_n hx hb dL_isRefused_287 rfl (lv_at hl 8 rfl) ?_
  refine lv_bipush (v := 30) hx hb dL_isRefused_288 (by decide) ?_
  refine lv_irem hx hb dL_isRefused_290 (by decide) ?_
  refine lv_topi (fun y45 hy45 => ?_)
  have hy45 : y45 = 10 := hy45.trans (by decide +kernel)
  subst hy45
  refine lv_isub hx hb dL_isRefused_291 ?_
  refine lv_topi (fun y46 hy46 => ?_)
  have hy46 : y46 = (-11) := hy46.trans (by decide +kernel)
  subst hy46
  refine lv_goto (tgt := 303) hx hb dL_isRefused_292 (by decide) ?_
  refine lv_iconst (v := 0) hx hb dL_isRefused_303 (by decide) ?_
  refine vx_calli (vx_runSX (As := [.ref h, .int 6, .int (-11), .int 0]) (rest := []) ⟨hx, hb, hml, hown, hts⟩ (k_act_prove_t1 l hl0 D cI cZ cJ H42.size h a0 a1 a2 a3 a4 a5 a6 a7 a8 a9 a10 z0 z0 z0 z0 zf4 zf5 z0 z0 z0 z0 z0 0 0 0 0 (-11) 0 (by decide +kernel)) (vx_cwSW 4 hts gL_isRefused_L_act rfl rfl rfl (by decide +kernel) ⟨Nat.le_of_ble_eq_true rfl, Nat.le_of_ble_eq_true rfl⟩) ⟨zKX_blind, fun U hU hW => ⟨rfl, by rw [hU], zX_on hZ hS (fun _ z => z.elim) hU hW, zP_mk (hP.sub (ws' := w0 cI cZ h a0 a1 a2 a3 a4 a5 a6 a7 a8 a9 a10) [0, 1, 2, 3, 4, 5, 6, 7, 8, 9, 10, 11] rfl) hK hU hW⟩⟩ rfl rfl hl.1 rfl (lv_room (Nat.le_of_ble_eq_true rfl)) dL_isRefused_304 ⟨Nat.le_of_ble_eq_true rfl, Nat.le_of_ble_eq_true rfl⟩) hS (fun _ _ z => z.elim) (fun _ z => z.elim) (fun _ _ z => z.elim) (fun E ce q9 u t H1 locs1 _ _ _ hE _ _ _ _ _ _ => hE.elim) (fun r47 u47 t47 H47 locs ht hvm w47 hB hz1 hk1 hS => ?_)
  have w47 : r47 = (-1041) := w47
  subst w47
  have hB9 : H42.size + 0 ≤ H47.size := by rw [← ht]; exact hB
  have hP := hP.kept (fun k q hk => hk1 q.1 (vx_lt hP hk) (fun z => z))
  have hgr : s.heap.size + 1 ≤ H47.size := by omega
  clear hk1 hz1 hvm ht hB hB9 t47 u47
  refine lv_sipush (v := (-1041)) hx hb dL_isRefused_307 (by decide) ?_
  refine lv_icmp_ne (tgt := 396) hx hb dL_isRefused_310 (by decide) (fun c9 => False.elim (by revert c9; decide)) (fun _ => ?_)
  refine lv_aload_n hx hb dL_isRefused_313 rfl (lv_at hl 6 rfl) ?_
  refine lv_bipush (v := 7) hx hb dL_isRefused_314 (by decide) ?_
  refine lv_iload hx hb dL_isRefused_316 (lv_at hl 4 rfl) ?_
  refine lv_bipush (v := (-5)) hx hb dL_isRefused_318 (by decide) ?_
  refine vx_calli (vx_runSX (As := [.ref h, .int 7, .int (-11), .int (-5)]) (rest := []) ⟨hx, hb, hml, hown, hts⟩ (k_act_vote_t1 l hl0 D cI cZ cJ H47.size h a0 a1 a2 a3 a4 a5 a6 a7 a8 a9 a10 z0 z0 z0 z0 zf4 zf5 z0 z0 z0 z0 z0 0 0 0 0 (-11) (-5) (by decide +kernel)) (vx_cwSW 4 hts gL_isRefused_L_act rfl rfl rfl (by decide +kernel) ⟨Nat.le_of_ble_eq_true rfl, Nat.le_of_ble_eq_true rfl⟩) ⟨zKX_blind, fun U hU hW => ⟨rfl, by rw [hU], zX_on hZ hS (fun _ z => z.elim) hU hW, zP_mk (hP.sub (ws' := w0 cI cZ h a0 a1 a2 a3 a4 a5 a6 a7 a8 a9 a10) [0, 1, 2, 3, 4, 5, 6, 7, 8, 9, 10, 11] rfl) hK hU hW⟩⟩ rfl rfl hl.1 rfl (lv_room (Nat.le_of_ble_eq_true rfl)) dL_isRefused_320 ⟨Nat.le_of_ble_eq_true rfl, Nat.le_of_ble_eq_true rfl⟩) hS (fun _ _ z => z.elim) (fun _ z => z.elim) (fun _ _ z => z.elim) (fun E ce q9 u t H1 locs1 _ _ _ hE _ _ _ _ _ _ => hE.elim) (fun r49 u49 t49 H49 locs ht hvm w49 hB hz1 hk1 hS => ?_)
  have w49 : r49 = (-1041) := w49
  subst w49
  have hB9 : H47.size + 0 ≤ H49.size := by rw [← ht]; exact hB
  have hP := hP.kept (fun k q hk => hk1 q.1 (vx_lt hP hk) (fun z => z))
  have hgr : s.heap.size + 1 ≤ H49.size := by omega
  clear hk1 hz1 hvm ht hB hB9 t49 u49
  refine lv_sipush (v := (-1041)) hx hb dL_isRefused_323 (by decide) ?_
  refine lv_icmp_ne (tgt := 396) hx hb dL_isRefused_326 (by decide) (fun c9 => False.elim (by revert c9; decide)) (fun _ => ?_)
  refine lv_aload_n hx hb dL_isRefused_329 rfl (lv_at hl 6 rfl) ?_
  refine lv_bipush (v := 7) hx hb dL_isRefused_330 (by decide) ?_
  refine lv_iload hx hb dL_isRefused_332 (lv_at hl 2 rfl) ?_
  refine lv_iload_n hx hb dL_isRefused_334 rfl (lv_at hl 5 rfl) ?_
  refine lv_if_eq (tgt := 347) hx hb dL_isRefused_335 (by decide) (fun c9 => False.elim (by revert c9; decide)) (fun _ => ?_)
  refine lv_iconst (v := (-1)) hx hb dL_isRefused_338 (by decide) ?_
  refine lv_iload_n hx hb dL_isRefused_339 rfl (lv_at hl 8 rfl) ?_
  refine lv_bipush (v := 30) hx hb dL_isRefused_340 (by decide) ?_
  refine lv_irem hx hb dL_isRefused_342 (by decide) ?_
  refine lv_topi (fun y52 hy52 => ?_)
  have hy52 : y52 = 10 := hy52.trans (by decide +kernel)
  subst hy52
  refine lv_isub hx hb dL_isRefused_343 ?_
  refine lv_topi (fun y53 hy53 => ?_)
  have hy53 : y53 = (-11) := hy53.trans (by decide +kernel)
  subst hy53
  refine lv_goto (tgt := 353) hx hb dL_isRefused_344 (by decide) ?_
  refine vx_calli (vx_runSX (As := [.ref h, .int 7, .int 5, .int (-11)]) (rest := []) ⟨hx, hb, hml, hown, hts⟩ (k_act_vote_t2 l hl0 D cI cZ cJ H49.size h a0 a1 a2 a3 a4 a5 a6 a7 a8 a9 a10 z0 z0 z0 z0 zf4 zf5 z0 z0 z0 z0 z0 0 0 0 0 5 (-11) (by decide +kernel) (by decide +kernel)) (vx_cwSW 4 hts gL_isRefused_L_act rfl rfl rfl (by decide +kernel) ⟨Nat.le_of_ble_eq_true rfl, Nat.le_of_ble_eq_true rfl⟩) ⟨zKX_blind, fun U hU hW => ⟨rfl, by rw [hU], zX_on hZ hS (fun _ z => z.elim) hU hW, zP_mk (hP.sub (ws' := w0 cI cZ h a0 a1 a2 a3 a4 a5 a6 a7 a8 a9 a10) [0, 1, 2, 3, 4, 5, 6, 7, 8, 9, 10, 11] rfl) hK hU hW⟩⟩ rfl rfl hl.1 rfl (lv_room (Nat.le_of_ble_eq_true rfl)) dL_isRefused_353 ⟨Nat.le_of_ble_eq_true rfl, Nat.le_of_ble_eq_true rfl⟩) hS (fun _ _ z => z.elim) (fun _ z => z.elim) (fun _ _ z => z.elim) (fun E ce q9 u t H1 locs1 _ _ _ hE _ _ _ _ _ _ => hE.elim) (fun r54 u54 t54 H54 locs ht hvm w54 hB hz1 hk1 hS => ?_)
  have w54 : r54 = (-1042) := w54
  subst w54
  have hB9 : H49.size + 0 ≤ H54.size := by rw [← ht]; exact hB
  have hP := hP.kept (fun k q hk => hk1 q.1 (vx_lt hP hk) (fun z => z))
  have hgr : s.heap.size + 1 ≤ H54.size := by omega
  clear hk1 hz1 hvm ht hB hB9 t54 u54
  refine lv_sipush (v := (-1042)) hx hb dL_isRefused_356 (by decide) ?_
  refine lv_icmp_ne (tgt := 396) hx hb dL_isRefused_359 (by decide) (fun c9 => False.elim (by revert c9; decide)) (fun _ => ?_)
  refine lv_aload_n hx hb dL_isRefused_362 rfl (lv_at hl 6 rfl) ?_
  refine lv_iconst (v := 3) hx hb dL_isRefused_363 (by decide) ?_
  refine lv_iload_n hx hb dL_isRefused_364 rfl (lv_at hl 5 rfl) ?_
  refine lv_if_eq (tgt := 377) hx hb dL_isRefused_365 (by decide) (fun c9 => False.elim (by revert c9; decide)) (fun _ => ?_)
  refine lv_iconst (v := 0) hx hb dL_isRefused_368 (by decide) ?_
  refine lv_iload_n hx hb dL_isRefused_369 rfl (lv_at hl 8 rfl) ?_
  refine lv_bipush (v := 30) hx hb dL_isRefused_370 (by decide) ?_
  refine lv_irem hx hb dL_isRefused_372 (by decide) ?_
  refine lv_topi (fun y57 hy57 => ?_)
  have hy57 : y57 = 10 := hy57.trans (by decide +kernel)
  subst hy57
  refine lv_isub hx hb dL_isRefused_373 ?_
  refine lv_topi (fun y58 hy58 => ?_)
  have hy58 : y58 = (-10) := hy58.trans (by decide +kernel)
  subst hy58
  refine lv_goto (tgt := 383) hx hb dL_isRefused_374 (by decide) ?_
  refine vx_calli (vx_runSX (As := [.ref h, .int 3, .int (-10)]) (rest := []) ⟨hx, hb, hml, hown, hts⟩ (k_of_weight_t l hl0 D cI cZ cJ H54.size h a0 a1 a2 a3 a4 a5 a6 a7 a8 a9 a10 z0 z0 z0 z0 zf4 zf5 z0 z0 z0 z0 z0 0 0 0 0 (-10) (by decide +kernel)) (vx_cwSW 3 hts gL_isRefused_L_of rfl rfl rfl (by decide +kernel) ⟨Nat.le_of_ble_eq_true rfl, Nat.le_of_ble_eq_true rfl⟩) ⟨zKX_blind, fun U hU hW => ⟨rfl, by rw [hU], zX_on hZ hS (fun _ z => z.elim) hU hW, zP_mk (hP.sub (ws' := w0 cI cZ h a0 a1 a2 a3 a4 a5 a6 a7 a8 a9 a10) [0, 1, 2, 3, 4, 5, 6, 7, 8, 9, 10, 11] rfl) hK hU hW⟩⟩ rfl rfl hl.1 rfl (lv_room (Nat.le_of_ble_eq_true rfl)) dL_isRefused_383 ⟨Nat.le_of_ble_eq_true rfl, Nat.le_of_ble_eq_true rfl⟩) hS (fun _ _ z => z.elim) (fun _ z => z.elim) (fun _ _ z => z.elim) (fun E ce q9 u t H1 locs1 _ _ _ hE _ _ _ _ _ _ => hE.elim) (fun r59 u59 t59 H59 locs ht hvm w59 hB hz1 hk1 hS => ?_)
  have w59 : r59 = (-1042) := w59
  subst w59
  have hB9 : H54.size + 0 ≤ H59.size := by rw [← ht]; exact hB
  have hP := hP.kept (fun k q hk => hk1 q.1 (vx_lt hP hk) (fun z => z))
  have hgr : s.heap.size + 1 ≤ H59.size := by omega
  clear hk1 hz1 hvm ht hB hB9 t59 u59
  refine lv_sipush (v := (-1042)) hx hb dL_isRefused_386 (by decide) ?_
  refine lv_icmp_ne (tgt := 396) hx hb dL_isRefused_389 (by decide) (fun c9 => False.elim (by revert c9; decide)) (fun _ => ?_)
  refine lv_iconst (v := 1) hx hb dL_isRefused_392 (by decide) ?_
  refine lv_goto (tgt := 397) hx hb dL_isRefused_393 (by decide) ?_
  refine lv_istore (lv' := [(10, .int 1), (8, .long 547619638806036508), (7, .int 0), (6, .int 5), (5, .int (-12)), (4, .int (-11)), (3, .int 1), (0, .ref h), (1, .ref ma), (2, .int 10)]) hx hb dL_isRefused_397 hl (by decide) rfl (fun ls hl => ?_)
  refine lv_iconst (v := 0) hx hb dL_isRefused_399 (by decide) ?_
  refine lv_istore (lv' := [(11, .int 0), (10, .int 1), (8, .long 547619638806036508), (7, .int 0), (6, .int 5), (5, .int (-12)), (4, .int (-11)), (3, .int 1), (0, .ref h), (1, .ref ma), (2, .int 10)]) hx hb dL_isRefused_400 hl (by decide) rfl (fun ls hl => ?_)
  refine lv_iload hx hb dL_isRefused_402 (lv_at hl 0 rfl) ?_
  refine lv_iconst (v := 5) hx hb dL_isRefused_404 (by decide) ?_
  refine lv_icmp_ge (tgt := 446) hx hb dL_isRefused_405 (by decide) (fun c9 => False.elim (by revert c9; decide)) (fun _ => ?_)
  refine lv_iload hx hb dL_isRefused_408 (lv_at hl 1 rfl) ?_
  refine lv_if_eq (tgt := 446) hx hb dL_isRefused_410 (by decide) (fun c9 => False.elim (by revert c9; decide)) (fun _ => ?_)
  refine lv_iload hx hb dL_isRefused_413 (lv_at hl 0 rfl) ?_
  refine lv_iconst (v := 3) hx hb dL_isRefused_415 (by decide) ?_
  refine lv_icmp_eq (tgt := 433) hx hb dL_isRefused_416 (by decide) (fun c9 => False.elim (by revert c9; decide)) (fun _ => ?_)
  refine lv_aload_n hx hb dL_isRefused_419 rfl (lv_at hl 8 rfl) ?_
  refine lv_iload hx hb dL_isRefused_420 (lv_at hl 0 rfl) ?_
  refine lv_iload hx hb dL_isRefused_422 (lv_at hl 6 rfl) ?_
  refine vx_calli (vx_runSX (As := [.ref h, .int 0, .int (-11)]) (rest := []) ⟨hx, hb, hml, hown, hts⟩ (k_of_in_t l hl0 D cI cZ cJ H59.size h a0 a1 a2 a3 a4 a5 a6 a7 a8 a9 a10 z0 z0 z0 z0 zf4 zf5 z0 z0 z0 z0 z0 0 0 0 0 (-11) (by decide +kernel)) (vx_cwSW 3 hts gL_isRefused_L_of rfl rfl rfl (by decide +kernel) ⟨Nat.le_of_ble_eq_true rfl, Nat.le_of_ble_eq_true rfl⟩) ⟨zKX_blind, fun U hU hW => ⟨rfl, by rw [hU], zX_on hZ hS (fun _ z => z.elim) hU hW, zP_mk (hP.sub (ws' := w0 cI cZ h a0 a1 a2 a3 a4 a5 a6 a7 a8 a9 a10) [0, 1, 2, 3, 4, 5, 6, 7, 8, 9, 10, 11] rfl) hK hU hW⟩⟩ rfl rfl hl.1 rfl (lv_room (Nat.le_of_ble_eq_true rfl)) dL_isRefused_424 ⟨Nat.le_of_ble_eq_true rfl, Nat.le_of_ble_eq_true rfl⟩) hS (fun _ _ z => z.elim) (fun _ z => z.elim) (fun _ _ z => z.elim) (fun E ce q9 u t H1 locs1 _ _ _ hE _ _ _ _ _ _ => hE.elim) (fun r64 u64 t64 H64 locs ht hvm w64 hB hz1 hk1 hS => ?_)
  have w64 : r64 = (-1041) := w64
  subst w64
  have hB9 : H59.size + 0 ≤ H64.size := by rw [← ht]; exact hB
  have hP := hP.kept (fun k q hk => hk1 q.1 (vx_lt hP hk) (fun z => z))
  have hgr : s.heap.size + 1 ≤ H64.size := by omega
  clear hk1 hz1 hvm ht hB hB9 t64 u64
  refine lv_sipush (v := (-1041)) hx hb dL_isRefused_427 (by decide) ?_
  refine lv_icmp_ne (tgt := 437) hx hb dL_isRefused_430 (by decide) (fun c9 => False.elim (by revert c9; decide)) (fun _ => ?_)
  refine lv_iconst (v := 1) hx hb dL_isRefused_433 (by decide) ?_
  refine lv_goto (tgt := 438) hx hb dL_isRefused_434 (by decide) ?_
  refine lv_istore (lv' := [(10, .int 1), (11, .int 0), (8, .long 547619638806036508), (7, .int 0), (6, .int 5), (5, .int (-12)), (4, .int (-11)), (3, .int 1), (0, .ref h), (1, .ref ma), (2, .int 10)]) hx hb dL_isRefused_438 hl (by decide) rfl (fun ls hl => ?_)
  refine lv_iinc (v := 1) (lv' := [(11, .int 1), (10, .int 1), (8, .long 547619638806036508), (7, .int 0), (6, .int 5), (5, .int (-12)), (4, .int (-11)), (3, .int 1), (0, .ref h), (1, .ref ma), (2, .int 10)]) hx hb dL_isRefused_440 hl (k := 1) rfl (by decide) (by decide) rfl (fun ls hl => ?_)
  refine lv_goto (tgt := 402) hx hb dL_isRefused_443 (by decide) ?_
  refine lv_iload hx hb dL_isRefused_402 (lv_at hl 0 rfl) ?_
  refine lv_iconst (v := 5) hx hb dL_isRefused_404 (by decide) ?_
  refine lv_icmp_ge (tgt := 446) hx hb dL_isRefused_405 (by decide) (fun c9 => False.elim (by revert c9; decide)) (fun _ => ?_)
  refine lv_iload hx hb dL_isRefused_408 (lv_at hl 1 rfl) ?_
  refine lv_if_eq (tgt := 446) hx hb dL_isRefused_410 (by decide) (fun c9 => False.elim (by revert c9; decide)) (fun _ => ?_)
  refine lv_iload hx hb dL_isRefused_413 (lv_at hl 0 rfl) ?_
  refine lv_iconst (v := 3) hx hb dL_isRefused_415 (by decide) ?_
  refine lv_icmp_eq (tgt := 433) hx hb dL_isRefused_416 (by decide) (fun c9 => False.elim (by revert c9; decide)) (fun _ => ?_)
  refine lv_aload_n hx hb dL_isRefused_419 rfl (lv_at hl 8 rfl) ?_
  refine lv_iload hx hb dL_isRefused_420 (lv_at hl 0 rfl) ?_
  refine lv_iload hx hb dL_isRefused_422 (lv_at hl 6 rfl) ?_
  refine vx_calli (vx_runSX (As := [.ref h, .int 1, .int (-11)]) (rest := []) ⟨hx, hb, hml, hown, hts⟩ (k_of_inByBook_t l hl0 D cI cZ cJ H64.size h a0 a1 a2 a3 a4 a5 a6 a7 a8 a9 a10 z0 z0 z0 z0 zf4 zf5 z0 z0 z0 z0 z0 0 0 0 0 (-11) (by decide +kernel)) (vx_cwSW 3 hts gL_isRefused_L_of rfl rfl rfl (by decide +kernel) ⟨Nat.le_of_ble_eq_true rfl, Nat.le_of_ble_eq_true rfl⟩) ⟨zKX_blind, fun U hU hW => ⟨rfl, by rw [hU], zX_on hZ hS (fun _ z => z.elim) hU hW, zP_mk (hP.sub (ws' := w0 cI cZ h a0 a1 a2 a3 a4 a5 a6 a7 a8 a9 a10) [0, 1, 2, 3, 4, 5, 6, 7, 8, 9, 10, 11] rfl) hK hU hW⟩⟩ rfl rfl hl.1 rfl (lv_room (Nat.le_of_ble_eq_true rfl)) dL_isRefused_424 ⟨Nat.le_of_ble_eq_true rfl, Nat.le_of_ble_eq_true rfl⟩) hS (fun _ _ z => z.elim) (fun _ z => z.elim) (fun _ _ z => z.elim) (fun E ce q9 u t H1 locs1 _ _ _ hE _ _ _ _ _ _ => hE.elim) (fun r69 u69 t69 H69 locs ht hvm w69 hB hz1 hk1 hS => ?_)
  have w69 : r69 = (-1041) := w69
  subst w69
  have hB9 : H64.size + 0 ≤ H69.size := by rw [← ht]; exact hB
  have hP := hP.kept (fun k q hk => hk1 q.1 (vx_lt hP hk) (fun z => z))
  have hgr : s.heap.size + 1 ≤ H69.size := by omega
  clear hk1 hz1 hvm ht hB hB9 t69 u69
  refine lv_sipush (v := (-1041)) hx hb dL_isRefused_427 (by decide) ?_
  refine lv_icmp_ne (tgt := 437) hx hb dL_isRefused_430 (by decide) (fun c9 => False.elim (by revert c9; decide)) (fun _ => ?_)
  refine lv_iconst (v := 1) hx hb dL_isRefused_433 (by decide) ?_
  refine lv_goto (tgt := 438) hx hb dL_isRefused_434 (by decide) ?_
  refine lv_istore (lv' := [(10, .int 1), (11, .int 1), (8, .long 547619638806036508), (7, .int 0), (6, .int 5), (5, .int (-12)), (4, .int (-11)), (3, .int 1), (0, .ref h), (1, .ref ma), (2, .int 10)]) hx hb dL_isRefused_438 hl (by decide) rfl (fun ls hl => ?_)
  refine lv_iinc (v := 2) (lv' := [(11, .int 2), (10, .int 1), (8, .long 547619638806036508), (7, .int 0), (6, .int 5), (5, .int (-12)), (4, .int (-11)), (3, .int 1), (0, .ref h), (1, .ref ma), (2, .int 10)]) hx hb dL_isRefused_440 hl (k := 1) rfl (by decide) (by decide) rfl (fun ls hl => ?_)
  refine lv_goto (tgt := 402) hx hb dL_isRefused_443 (by decide) ?_
  refine lv_iload hx hb dL_isRefused_402 (lv_at hl 0 rfl) ?_
  refine lv_iconst (v := 5) hx hb dL_isRefused_404 (by decide) ?_
  refine lv_icmp_ge (tgt := 446) hx hb dL_isRefused_405 (by decide) (fun c9 => False.elim (by revert c9; decide)) (fun _ => ?_)
  refine lv_iload hx hb dL_isRefused_408 (lv_at hl 1 rfl) ?_
  refine lv_if_eq (tgt := 446) hx hb dL_isRefused_410 (by decide) (fun c9 => False.elim (by revert c9; decide)) (fun _ => ?_)
  refine lv_iload hx hb dL_isRefused_413 (lv_at hl 0 rfl) ?_
  refine lv_iconst (v := 3) hx hb dL_isRefused_415 (by decide) ?_
  refine lv_icmp_eq (tgt := 433) hx hb dL_isRefused_416 (by decide) (fun c9 => False.elim (by revert c9; decide)) (fun _ => ?_)
  refine lv_aload_n hx hb dL_isRefused_419 rfl (lv_at hl 8 rfl) ?_
  refine lv_iload hx hb dL_isRefused_420 (lv_at hl 0 rfl) ?_
  refine lv_iload hx hb dL_isRefused_422 (lv_at hl 6 rfl) ?_
  refine vx_calli (vx_runSX (As := [.ref h, .int 2, .int (-11)]) (rest := []) ⟨hx, hb, hml, hown, hts⟩ (k_of_speaker_t l hl0 D cI cZ cJ H69.size h a0 a1 a2 a3 a4 a5 a6 a7 a8 a9 a10 z0 z0 z0 z0 zf4 zf5 z0 z0 z0 z0 z0 0 0 0 0 (-11) (by decide +kernel)) (vx_cwSW 3 hts gL_isRefused_L_of rfl rfl rfl (by decide +kernel) ⟨Nat.le_of_ble_eq_true rfl, Nat.le_of_ble_eq_true rfl⟩) ⟨zKX_blind, fun U hU hW => ⟨rfl, by rw [hU], zX_on hZ hS (fun _ z => z.elim) hU hW, zP_mk (hP.sub (ws' := w0 cI cZ h a0 a1 a2 a3 a4 a5 a6 a7 a8 a9 a10) [0, 1, 2, 3, 4, 5, 6, 7, 8, 9, 10, 11] rfl) hK hU hW⟩⟩ rfl rfl hl.1 rfl (lv_room (Nat.le_of_ble_eq_true rfl)) dL_isRefused_424 ⟨Nat.le_of_ble_eq_true rfl, Nat.le_of_ble_eq_true rfl⟩) hS (fun _ _ z => z.elim) (fun _ z => z.elim) (fun _ _ z => z.elim) (fun E ce q9 u t H1 locs1 _ _ _ hE _ _ _ _ _ _ => hE.elim) (fun r74 u74 t74 H74 locs ht hvm w74 hB hz1 hk1 hS => ?_)
  have w74 : r74 = (-1041) := w74
  subst w74
  have hB9 : H69.size + 0 ≤ H74.size := by rw [← ht]; exact hB
  have hP := hP.kept (fun k q hk => hk1 q.1 (vx_lt hP hk) (fun z => z))
  have hgr : s.heap.size + 1 ≤ H74.size := by omega
  clear hk1 hz1 hvm ht hB hB9 t74 u74
  refine lv_sipush (v := (-1041)) hx hb dL_isRefused_427 (by decide) ?_
  refine lv_icmp_ne (tgt := 437) hx hb dL_isRefused_430 (by decide) (fun c9 => False.elim (by revert c9; decide)) (fun _ => ?_)
  refine lv_iconst (v := 1) hx hb dL_isRefused_433 (by decide) ?_
  refine lv_goto (tgt := 438) hx hb dL_isRefused_434 (by decide) ?_
  refine lv_istore (lv' := [(10, .int 1), (11, .int 2), (8, .long 547619638806036508), (7, .int 0), (6, .int 5), (5, .int (-12)), (4, .int (-11)), (3, .int 1), (0, .ref h), (1, .ref ma), (2, .int 10)]) hx hb dL_isRefused_438 hl (by decide) rfl (fun ls hl => ?_)
  refine lv_iinc (v := 3) (lv' := [(11, .int 3), (10, .int 1), (8, .long 547619638806036508), (7, .int 0), (6, .int 5), (5, .int (-12)), (4, .int (-11)), (3, .int 1), (0, .ref h), (1, .ref ma), (2, .int 10)]) hx hb dL_isRefused_440 hl (k := 1) rfl (by decide) (by decide) rfl (fun ls hl => ?_)
  refine lv_goto (tgt := 402) hx hb dL_isRefused_443 (by decide) ?_
  refine lv_iload hx hb dL_isRefused_402 (lv_at hl 0 rfl) ?_
  refine lv_iconst (v := 5) hx hb dL_isRefused_404 (by decide) ?_
  refine lv_icmp_ge (tgt := 446) hx hb dL_isRefused_405 (by decide) (fun c9 => False.elim (by revert c9; decide)) (fun _ => ?_)
  refine lv_iload hx hb dL_isRefused_408 (lv_at hl 1 rfl) ?_
  refine lv_if_eq (tgt := 446) hx hb dL_isRefused_410 (by decide) (fun c9 => False.elim (by revert c9; decide)) (fun _ => ?_)
  refine lv_iload hx hb dL_isRefused_413 (lv_at hl 0 rfl) ?_
  refine lv_iconst (v := 3) hx hb dL_isRefused_415 (by decide) ?_
  refine lv_icmp_eq (tgt := 433) hx hb dL_isRefused_416 (by decide) (fun _ => ?_) (fun c9 => False.elim (by revert c9; decide))
  refine lv_iconst (v := 1) hx hb dL_isRefused_433 (by decide) ?_
  refine lv_goto (tgt := 438) hx hb dL_isRefused_434 (by decide) ?_
  refine lv_istore (lv' := [(10, .int 1), (11, .int 3), (8, .long 547619638806036508), (7, .int 0), (6, .int 5), (5, .int (-12)), (4, .int (-11)), (3, .int 1), (0, .ref h), (1, .ref ma), (2, .int 10)]) hx hb dL_isRefused_438 hl (by decide) rfl (fun ls hl => ?_)
  refine lv_iinc (v := 4) (lv' := [(11, .int 4), (10, .int 1), (8, .long 547619638806036508), (7, .int 0), (6, .int 5), (5, .int (-12)), (4, .int (-11)), (3, .int 1), (0, .ref h), (1, .ref ma), (2, .int 10)]) hx hb dL_isRefused_440 hl (k := 1) rfl (by decide) (by decide) rfl (fun ls hl => ?_)
  refine lv_goto (tgt := 402) hx hb dL_isRefused_443 (by decide) ?_
  refine lv_iload hx hb dL_isRefused_402 (lv_at hl 0 rfl) ?_
  refine lv_iconst (v := 5) hx hb dL_isRefused_404 (by decide) ?_
  refine lv_icmp_ge (tgt := 446) hx hb dL_isRefused_405 (by decide) (fun c9 => False.elim (by revert c9; decide)) (fun _ => ?_)
  refine lv_iload hx hb dL_isRefused_408 (lv_at hl 1 rfl) ?_
  refine lv_if_eq (tgt := 446) hx hb dL_isRefused_410 (by decide) (fun c9 => False.elim (by revert c9; decide)) (fun _ => ?_)
  refine lv_iload hx hb dL_isRefused_413 (lv_at hl 0 rfl) ?_
  refine lv_iconst (v := 3) hx hb dL_isRefused_415 (by decide) ?_
  refine lv_icmp_eq (tgt := 433) hx hb dL_isRefused_416 (by decide) (fun c9 => False.elim (by revert c9; decide)) (fun _ => ?_)
  refine lv_aload_n hx hb dL_isRefused_419 rfl (lv_at hl 8 rfl) ?_
  refine lv_iload hx hb dL_isRefused_420 (lv_at hl 0 rfl) ?_
  refine lv_iload hx hb dL_isRefused_422 (lv_at hl 6 rfl) ?_
  refine vx_calli (vx_runSX (As := [.ref h, .int 4, .int (-11)]) (rest := []) ⟨hx, hb, hml, hown, hts⟩ (k_of_share_t1 l hl0 D cI cZ cJ H74.size h a0 a1 a2 a3 a4 a5 a6 a7 a8 a9 a10 z0 z0 z0 z0 zf4 zf5 z0 z0 z0 z0 z0 0 0 0 0 (-11) (by decide +kernel)) (vx_cwSW 3 hts gL_isRefused_L_of rfl rfl rfl (by decide +kernel) ⟨Nat.le_of_ble_eq_true rfl, Nat.le_of_ble_eq_true rfl⟩) ⟨zKX_blind, fun U hU hW => ⟨rfl, by rw [hU], zX_on hZ hS (fun _ z => z.elim) hU hW, zP_mk (hP.sub (ws' := w0 cI cZ h a0 a1 a2 a3 a4 a5 a6 a7 a8 a9 a10) [0, 1, 2, 3, 4, 5, 6, 7, 8, 9, 10, 11] rfl) hK hU hW⟩⟩ rfl rfl hl.1 rfl (lv_room (Nat.le_of_ble_eq_true rfl)) dL_isRefused_424 ⟨Nat.le_of_ble_eq_true rfl, Nat.le_of_ble_eq_true rfl⟩) hS (fun _ _ z => z.elim) (fun _ z => z.elim) (fun _ _ z => z.elim) (fun E ce q9 u t H1 locs1 _ _ _ hE _ _ _ _ _ _ => hE.elim) (fun r82 u82 t82 H82 locs ht hvm w82 hB hz1 hk1 hS => ?_)
  have w82 : r82 = (-1041) := w82
  subst w82
  have hB9 : H74.size + 0 ≤ H82.size := by rw [← ht]; exact hB
  have hP := hP.kept (fun k q hk => hk1 q.1 (vx_lt hP hk) (fun z => z))
  have hgr : s.heap.size + 1 ≤ H82.size := by omega
  clear hk1 hz1 hvm ht hB hB9 t82 u82
  refine lv_sipush (v := (-1041)) hx hb dL_isRefused_427 (by decide) ?_
  refine lv_icmp_ne (tgt := 437) hx hb dL_isRefused_430 (by decide) (fun c9 => False.elim (by revert c9; decide)) (fun _ => ?_)
  refine lv_iconst (v := 1) hx hb dL_isRefused_433 (by decide) ?_
  refine lv_goto (tgt := 438) hx hb dL_isRefused_434 (by decide) ?_
  refine lv_istore (lv' := [(10, .int 1), (11, .int 4), (8, .long 547619638806036508), (7, .int 0), (6, .int 5), (5, .int (-12)), (4, .int (-11)), (3, .int 1), (0, .ref h), (1, .ref ma), (2, .int 10)]) hx hb dL_isRefused_438 hl (by decide) rfl (fun ls hl => ?_)
  refine lv_iinc (v := 5) (lv' := [(11, .int 5), (10, .int 1), (8, .long 547619638806036508), (7, .int 0), (6, .int 5), (5, .int (-12)), (4, .int (-11)), (3, .int 1), (0, .ref h), (1, .ref ma), (2, .int 10)]) hx hb dL_isRefused_440 hl (k := 1) rfl (by decide) (by decide) rfl (fun ls hl => ?_)
  refine lv_goto (tgt := 402) hx hb dL_isRefused_443 (by decide) ?_
  refine lv_iload hx hb dL_isRefused_402 (lv_at hl 0 rfl) ?_
  refine lv_iconst (v := 5) hx hb dL_isRefused_404 (by decide) ?_
  refine lv_icmp_ge (tgt := 446) hx hb dL_isRefused_405 (by decide) (fun _ => ?_) (fun c9 => False.elim (by revert c9; decide))
  refine lv_iconst (v := 0) hx hb dL_isRefused_446 (by decide) ?_
  refine lv_istore (lv' := [(11, .int 0), (10, .int 1), (8, .long 547619638806036508), (7, .int 0), (6, .int 5), (5, .int (-12)), (4, .int (-11)), (3, .int 1), (0, .ref h), (1, .ref ma), (2, .int 10)]) hx hb dL_isRefused_447 hl (by decide) rfl (fun ls hl => ?_)
  refine lv_iload hx hb dL_isRefused_449 (lv_at hl 0 rfl) ?_
  refine lv_iload hx hb dL_isRefused_451 (lv_at hl 3 rfl) ?_
  refine lv_icmp_ge (tgt := 489) hx hb dL_isRefused_453 (by decide) (fun _ => ?_) (fun c9 => False.elim (by revert c9; decide))
  refine lv_iload hx hb dL_isRefused_489 (lv_at hl 1 rfl) ?_
  refine lv_if_eq (tgt := 595) hx hb dL_isRefused_491 (by decide) (fun c9 => False.elim (by revert c9; decide)) (fun _ => ?_)
  refine lv_aload_n hx hb dL_isRefused_494 rfl (lv_at hl 8 rfl) ?_
  refine vp_callSi (W.runV (As := []) (rest := []) ⟨hx, hb, hml, hown, hts⟩ (c_X0_current l D cI cZ cJ h a0 a1 a2 a3 a4 a5 a6 a7 a8 a9 a10 z0 z0 z0 z0 zf4 zf5 z0 z0 z0 z0 z0 0 0 0 0) (cwV 0 hts gL_isRefused_X0_current rfl rfl rfl (by decide +kernel) ⟨Nat.le_of_ble_eq_true rfl, Nat.le_of_ble_eq_true rfl⟩) ⟨zP_blind, va_recv hK hP (ci := 0) (q0 := 0) rfl rfl, fun U hU hW => ⟨rfl, zP_mk (hP.sub (ws' := w0 cI cZ h a0 a1 a2 a3 a4 a5 a6 a7 a8 a9 a10) [0, 1, 2, 3, 4, 5, 6, 7, 8, 9, 10, 11] rfl) hK hU hW⟩⟩ rfl rfl hl.1 rfl (lv_room (Nat.le_of_ble_eq_true rfl)) dL_isRefused_495 ⟨Nat.le_of_ble_eq_true rfl, Nat.le_of_ble_eq_true rfl⟩) (fun r87 w87 => ?_)
  have w87 : r87 = (-1) := w87.trans (by decide +kernel)
  subst w87
  refine lv_if_ge (tgt := 530) hx hb dL_isRefused_498 (by decide) (fun c9 => False.elim (by revert c9; decide)) (fun _ => ?_)
  refine lv_aload_n hx hb dL_isRefused_501 rfl (lv_at hl 8 rfl) ?_
  refine lv_bipush (v := 7) hx hb dL_isRefused_502 (by decide) ?_
  refine lv_iload hx hb dL_isRefused_504 (lv_at hl 4 rfl) ?_
  refine lv_iconst (v := 1) hx hb dL_isRefused_506 (by decide) ?_
  refine vx_calli (vx_runSX (As := [.ref h, .int 7, .int 5, .int 1]) (rest := []) ⟨hx, hb, hml, hown, hts⟩ (k_act_vote_t3 l hl0 D cI cZ cJ H82.size h a0 a1 a2 a3 a4 a5 a6 a7 a8 a9 a10 z0 z0 z0 z0 zf4 zf5 z0 z0 z0 z0 z0 0 0 0 0 5 1 (by decide +kernel) (by decide +kernel) (by decide +kernel)) (vx_cwSW 4 hts gL_isRefused_L_act rfl rfl rfl (by decide +kernel) ⟨Nat.le_of_ble_eq_true rfl, Nat.le_of_ble_eq_true rfl⟩) ⟨zKX_blind, fun U hU hW => ⟨rfl, by rw [hU], zX_on hZ hS (fun _ z => z.elim) hU hW, zP_mk (hP.sub (ws' := w0 cI cZ h a0 a1 a2 a3 a4 a5 a6 a7 a8 a9 a10) [0, 1, 2, 3, 4, 5, 6, 7, 8, 9, 10, 11] rfl) hK hU hW⟩⟩ rfl rfl hl.1 rfl (lv_room (Nat.le_of_ble_eq_true rfl)) dL_isRefused_507 ⟨Nat.le_of_ble_eq_true rfl, Nat.le_of_ble_eq_true rfl⟩) hS (fun _ _ z => z.elim) (fun _ z => z.elim) (fun _ _ z => z.elim) (fun E ce q9 u t H1 locs1 _ _ _ hE _ _ _ _ _ _ => hE.elim) (fun r89 u89 t89 H89 locs ht hvm w89 hB hz1 hk1 hS => ?_)
  have w89 : r89 = (-1043) := w89
  subst w89
  have hB9 : H82.size + 0 ≤ H89.size := by rw [← ht]; exact hB
  have hP := hP.kept (fun k q hk => hk1 q.1 (vx_lt hP hk) (fun z => z))
  have hgr : s.heap.size + 1 ≤ H89.size := by omega
  clear hk1 hz1 hvm ht hB hB9 t89 u89
  refine lv_sipush (v := (-1043)) hx hb dL_isRefused_510 (by decide) ?_
  refine lv_icmp_ne (tgt := 595) hx hb dL_isRefused_513 (by decide) (fun c9 => False.elim (by revert c9; decide)) (fun _ => ?_)
  refine lv_aload_n hx hb dL_isRefused_516 rfl (lv_at hl 8 rfl) ?_
  refine lv_bipush (v := 8) hx hb dL_isRefused_517 (by decide) ?_
  refine lv_iconst (v := 0) hx hb dL_isRefused_519 (by decide) ?_
  refine lv_iconst (v := 0) hx hb dL_isRefused_520 (by decide) ?_
  refine vx_calli (vx_runSX (As := [.ref h, .int 8, .int 0, .int 0]) (rest := []) ⟨hx, hb, hml, hown, hts⟩ (k_act_release_t l hl0 D cI cZ cJ H89.size h a0 a1 a2 a3 a4 a5 a6 a7 a8 a9 a10 z0 z0 z0 z0 zf4 zf5 z0 z0 z0 z0 z0 0 0 0 0 0 0 (by decide +kernel) (by decide +kernel)) (vx_cwSW 4 hts gL_isRefused_L_act rfl rfl rfl (by decide +kernel) ⟨Nat.le_of_ble_eq_true rfl, Nat.le_of_ble_eq_true rfl⟩) ⟨zKX_blind, fun U hU hW => ⟨rfl, by rw [hU], zX_on hZ hS (fun _ z => z.elim) hU hW, zP_mk (hP.sub (ws' := w0 cI cZ h a0 a1 a2 a3 a4 a5 a6 a7 a8 a9 a10) [0, 1, 2, 3, 4, 5, 6, 7, 8, 9, 10, 11] rfl) hK hU hW⟩⟩ rfl rfl hl.1 rfl (lv_room (Nat.le_of_ble_eq_true rfl)) dL_isRefused_521 ⟨Nat.le_of_ble_eq_true rfl, Nat.le_of_ble_eq_true rfl⟩) hS (fun _ _ z => z.elim) (fun _ z => z.elim) (fun _ _ z => z.elim) (fun E ce q9 u t H1 locs1 _ _ _ hE _ _ _ _ _ _ => hE.elim) (fun r91 u91 t91 H91 locs ht hvm w91 hB hz1 hk1 hS => ?_)
  have w91 : r91 = (-1043) := w91
  subst w91
  have hB9 : H89.size + 0 ≤ H91.size := by rw [← ht]; exact hB
  have hP := hP.kept (fun k q hk => hk1 q.1 (vx_lt hP hk) (fun z => z))
  have hgr : s.heap.size + 1 ≤ H91.size := by omega
  clear hk1 hz1 hvm ht hB hB9 t91 u91
  refine lv_sipush (v := (-1043)) hx hb dL_isRefused_524 (by decide) ?_
  refine lv_icmp_ne (tgt := 595) hx hb dL_isRefused_527 (by decide) (fun c9 => False.elim (by revert c9; decide)) (fun _ => ?_)
  refine lv_aload_n hx hb dL_isRefused_530 rfl (lv_at hl 9 rfl) ?_
  refine lv_iconst (v := 0) hx hb dL_isRefused_531 (by decide) ?_
  refine va_iald (D := D) hx hb hK hP 12 0 rfl rfl (vp_in_iff.mpr (by decide +kernel)) dL_isRefused_532 ?_
  refine lv_topi (fun y93 hy93 => ?_)
  have hy93 : y93 = 0 := hy93.trans (by decide +kernel)
  subst hy93
  refine lv_bipush (v := 6) hx hb dL_isRefused_533 (by decide) ?_
  refine lv_icmp_lt (tgt := 556) hx hb dL_isRefused_535 (by decide) (fun _ => ?_) (fun c9 => False.elim (by revert c9; decide))
  refine lv_aload_n hx hb dL_isRefused_556 rfl (lv_at hl 8 rfl) ?_
  refine lv_iload hx hb dL_isRefused_557 (lv_at hl 4 rfl) ?_
  refine vp_callSi (W.runV (As := [.int 5]) (rest := []) ⟨hx, hb, hml, hown, hts⟩ (c_X0_in l D cI cZ cJ h a0 a1 a2 a3 a4 a5 a6 a7 a8 a9 a10 z0 z0 z0 z0 zf4 zf5 z0 z0 z0 z0 z0 0 0 0 0 5 (by decide +kernel)) (cwV 1 hts gL_isRefused_X0_in rfl rfl rfl (by decide +kernel) ⟨Nat.le_of_ble_eq_true rfl, Nat.le_of_ble_eq_true rfl⟩) ⟨zP_blind, va_recv hK hP (ci := 0) (q0 := 0) rfl rfl, fun U hU hW => ⟨rfl, zP_mk (hP.sub (ws' := w0 cI cZ h a0 a1 a2 a3 a4 a5 a6 a7 a8 a9 a10) [0, 1, 2, 3, 4, 5, 6, 7, 8, 9, 10, 11] rfl) hK hU hW⟩⟩ rfl rfl hl.1 rfl (lv_room (Nat.le_of_ble_eq_true rfl)) dL_isRefused_559 ⟨Nat.le_of_ble_eq_true rfl, Nat.le_of_ble_eq_true rfl⟩) (fun r95 w95 => ?_)
  have w95 : r95 = 0 := w95.trans (by decide +kernel)
  subst w95
  refine lv_ldc hx hb hown (hts (.constant RL 101 (100000)) (by decide +kernel)) dL_isRefused_562 ?_
  refine lv_icmp_lt (tgt := 581) hx hb dL_isRefused_564 (by decide) (fun _ => ?_) (fun c9 => False.elim (by revert c9; decide))
  refine lv_aload_n hx hb dL_isRefused_581 rfl (lv_at hl 8 rfl) ?_
  refine vx_calll (vx_runS (As := [.ref h]) (rest := []) ⟨hx, hb, hml, hown, hts⟩ (k_all l hl0 D cI cZ cJ H91.size h a0 a1 a2 a3 a4 a5 a6 a7 a8 a9 a10) (va_cwS 1 hts gL_isRefused_L_all rfl rfl rfl (by decide +kernel) ⟨Nat.le_of_ble_eq_true rfl, Nat.le_of_ble_eq_true rfl⟩) ⟨zKX_blind, fun U hU hW => ⟨rfl, by rw [hU], zX_on hZ hS (fun _ z => z.elim) hU hW, zP_mk (hP.sub (ws' := w0 cI cZ h a0 a1 a2 a3 a4 a5 a6 a7 a8 a9 a10) [0, 1, 2, 3, 4, 5, 6, 7, 8, 9, 10, 11] rfl) hK hU hW⟩⟩ rfl rfl hl.1 rfl (lv_room (Nat.le_of_ble_eq_true rfl)) dL_isRefused_582 ⟨Nat.le_of_ble_eq_true rfl, Nat.le_of_ble_eq_true rfl⟩) hS (fun _ _ z => z.elim) (fun _ z => z.elim) (fun _ _ z => z.elim) (fun E ce q9 u t H1 locs1 _ _ _ hE _ _ _ _ _ _ => hE.elim) (fun r97 u97 t97 H97 locs ht hvm w97 hB hz1 hk1 hS => ?_)
  have w97 : r97 = 547619638806036508 := w97
  subst w97
  have hB9 : H91.size + 1 ≤ H97.size := by rw [← ht]; exact hB
  have hP := hP.kept (fun k q hk => hk1 q.1 (vx_lt hP hk) (fun z => z))
  have hgr : s.heap.size + 2 ≤ H97.size := by omega
  clear hk1 hz1 hvm ht hB hB9 t97 u97
  refine lv_lload hx hb dL_isRefused_585 (lv_at hl 2 rfl) ?_
  refine W.lcmp hx hb dL_isRefused_587 ?_
  refine lv_topi (fun y98 hy98 => ?_)
  have hy98 : y98 = 0 := hy98.trans (by decide +kernel)
  subst hy98
  refine lv_if_ne (tgt := 595) hx hb dL_isRefused_588 (by decide) (fun c9 => False.elim (by revert c9; decide)) (fun _ => ?_)
  refine lv_iconst (v := 1) hx hb dL_isRefused_591 (by decide) ?_
  refine lv_goto (tgt := 596) hx hb dL_isRefused_592 (by decide) ?_
  refine W.widen (k := 38) (n := 228) (Nat.le_of_ble_eq_true rfl) (Nat.le_of_ble_eq_true rfl) ?_
  refine vx_ret ?_
  exact W.zret (v := 1) hx hb hr rfl (fun t ht hW => ⟨⟨1, (), rfl, rfl, by show s.heap.size + 2 ≤ t.heap.size; rw [ht]; exact hgr⟩, hS.F ht⟩) hS.2.2 dL_isRefused_596
