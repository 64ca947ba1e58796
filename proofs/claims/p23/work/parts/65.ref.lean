set_option maxHeartbeats 4000000 in
set_option maxRecDepth 100000 in
theorem k_isRefused_1 (l : Launch) (hl0 : l.stackTraces = false) (D : va_G) (cI cZ cJ : ClassId) (sz : Nat) (h a0 a1 a2 a3 a4 a5 a6 a7 a8 a9 a10 : Nat) (ma : Nat) : vx_Met l yL_isRefused wsL_isRefused ({ frames := 10, cells := 38, slots := 228, locals := 177 }) (va_Pc [.ref h, .ref ma, .int 1] (zKX D cI cZ cJ sz (w0 cI cZ h a0 a1 a2 a3 a4 a5 a6 a7 a8 a9 a10 ++ [(ma, .inl (cI, 4, .inl z0))]))) (va_Qi (fun (r : Int32) (_ : Unit) => r = 1) (fun _ t => sz + 2 ≤ t.heap.size) (fun _ => False)) (zXC (fun _ => False)) 38 228 (fun _ => False) := by
  refine vx_ofW (cc := cL_isRefused) (maxL := 12) (ret := (some .boolean)) (by decide) rfl ?_
  intro p e s m args below meth c s₁ B hml hout hv
  obtain ⟨rfl, hsz, hZ, hP, hK⟩ := hv
  have hx := B.exec
  have hb := B.bytes
  have hr := B.returns
  have hts := atoms_spec (ws := wsL_isRefused) B.pre
  have hown : s.vm.findClass RL = some m.cls := findClass_of_methodNamed B.named
  have hlocks := B.notSynchronized
  subst hsz
  have hS : va_S (fun _ : Nat => False) s.heap s.heap [] := va_S.rf
  have hgr : s.heap.size + 0 ≤ s.heap.size := Nat.le_refl _
  have hl := lv_entry ([.ref h, .ref ma, .int 1]) (n := 12) (Nat.le_of_ble_eq_true rfl)
  rw [lg_entry_eq]
  generalize (lg_sl ([.ref h, .ref ma, .int 1]) ++ List.replicate (12 - (lg_sl ([.ref h, .ref ma, .int 1])).length) Slot.unset).toArray = ls at hl ⊢
  have hl : lv_has ls 12 [(0, .ref h), (1, .ref ma), (2, .int 1)] := hl
  refine lv_iload_n hx hb dL_isRefused_0 rfl (lv_at hl 2 rfl) ?_
  refine lv_iconst (v := 2) hx hb dL_isRefused_1 (by decide) ?_
  refine lv_irem hx hb dL_isRefused_2 (by decide) ?_
  refine lv_topi (fun y1 hy1 => ?_)
  have hy1 : y1 = 1 := hy1.trans (by decide +kernel)
  subst hy1
  refine lv_if_ne (tgt := 10) hx hb dL_isRefused_3 (by decide) (fun _ => ?_) (fun c9 => False.elim (by revert c9; decide))
  refine lv_iconst (v := 0) hx hb dL_isRefused_10 (by decide) ?_
  refine lv_istore_n (lv' := [(3, .int 0), (0, .ref h), (1, .ref ma), (2, .int 1)]) hx hb dL_isRefused_11 rfl hl (by decide) rfl (fun ls hl => ?_)
  refine lv_iload_n hx hb dL_isRefused_12 rfl (lv_at hl 0 rfl) ?_
  refine lv_if_eq (tgt := 25) hx hb dL_isRefused_13 (by decide) (fun _ => ?_) (fun c9 => False.elim (by revert c9; decide))
  refine lv_bipush (v := 8) hx hb dL_isRefused_25 (by decide) ?_
  refine lv_iload_n hx hb dL_isRefused_27 rfl (lv_at hl 3 rfl) ?_
  refine lv_bipush (v := 30) hx hb dL_isRefused_28 (by decide) ?_
  refine lv_irem hx hb dL_isRefused_30 (by decide) ?_
  refine lv_topi (fun y4 hy4 => ?_)
  have hy4 : y4 = 1 := hy4.trans (by decide +kernel)
  subst hy4
  refine lv_iadd hx hb dL_isRefused_31 ?_
  refine lv_topi (fun y5 hy5 => ?_)
  have hy5 : y5 = 9 := hy5.trans (by decide +kernel)
  subst hy5
  refine lv_istore (lv' := [(4, .int 9), (3, .int 0), (0, .ref h), (1, .ref ma), (2, .int 1)]) hx hb dL_isRefused_32 hl (by decide) rfl (fun ls hl => ?_)
  refine lv_iload_n hx hb dL_isRefused_34 rfl (lv_at hl 1 rfl) ?_
  refine lv_if_eq (tgt := 48) hx hb dL_isRefused_35 (by decide) (fun _ => ?_) (fun c9 => False.elim (by revert c9; decide))
  refine lv_bipush (v := 8) hx hb dL_isRefused_48 (by decide) ?_
  refine lv_iload_n hx hb dL_isRefused_50 rfl (lv_at hl 4 rfl) ?_
  refine lv_bipush (v := 30) hx hb dL_isRefused_51 (by decide) ?_
  refine lv_irem hx hb dL_isRefused_53 (by decide) ?_
  refine lv_topi (fun y7 hy7 => ?_)
  have hy7 : y7 = 1 := hy7.trans (by decide +kernel)
  subst hy7
  refine lv_iadd hx hb dL_isRefused_54 ?_
  refine lv_topi (fun y8 hy8 => ?_)
  have hy8 : y8 = 9 := hy8.trans (by decide +kernel)
  subst hy8
  refine lv_istore (lv' := [(5, .int 9), (4, .int 9), (3, .int 0), (0, .ref h), (1, .ref ma), (2, .int 1)]) hx hb dL_isRefused_55 hl (by decide) rfl (fun ls hl => ?_)
  refine lv_iload_n hx hb dL_isRefused_57 rfl (lv_at hl 5 rfl) ?_
  refine lv_iconst (v := 2) hx hb dL_isRefused_58 (by decide) ?_
  refine lv_idiv hx hb dL_isRefused_59 (by decide) ?_
  refine lv_topi (fun y9 hy9 => ?_)
  have hy9 : y9 = 0 := hy9.trans (by decide +kernel)
  subst hy9
  refine lv_bipush (v := 8) hx hb dL_isRefused_60 (by decide) ?_
  refine lv_irem hx hb dL_isRefused_62 (by decide) ?_
  refine lv_topi (fun y10 hy10 => ?_)
  have hy10 : y10 = 0 := hy10.trans (by decide +kernel)
  subst hy10
  refine lv_istore (lv' := [(6, .int 0), (5, .int 9), (4, .int 9), (3, .int 0), (0, .ref h), (1, .ref ma), (2, .int 1)]) hx hb dL_isRefused_63 hl (by decide) rfl (fun ls hl => ?_)
  refine lv_aload_n hx hb dL_isRefused_65 rfl (lv_at hl 4 rfl) ?_
  refine vp_callSi (W.runV (As := []) (rest := []) ⟨hx, hb, hml, hown, hts⟩ (c_X0_current l D cI cZ cJ h a0 a1 a2 a3 a4 a5 a6 a7 a8 a9 a10 z0 z0 z0 z0 zf4 zf5 z0 z0 z0 z0 z0 0 0 0 0) (cwV 0 hts gL_isRefused_X0_current rfl rfl rfl (by decide +kernel) ⟨Nat.le_of_ble_eq_true rfl, Nat.le_of_ble_eq_true rfl⟩) ⟨zP_blind, va_recv hK hP (ci := 0) (q0 := 0) rfl rfl, fun U hU hW => ⟨rfl, zP_mk (hP.sub (ws' := w0 cI cZ h a0 a1 a2 a3 a4 a5 a6 a7 a8 a9 a10) [0, 1, 2, 3, 4, 5, 6, 7, 8, 9, 10, 11] rfl) hK hU hW⟩⟩ rfl rfl hl.1 rfl (lv_room (Nat.le_of_ble_eq_true rfl)) dL_isRefused_66 ⟨Nat.le_of_ble_eq_true rfl, Nat.le_of_ble_eq_true rfl⟩) (fun r11 w11 => ?_)
  have w11 : r11 = (-1) := w11.trans (by decide +kernel)
  subst w11
  refine lv_if_ge (tgt := 78) hx hb dL_isRefused_69 (by decide) (fun c9 => False.elim (by revert c9; decide)) (fun _ => ?_)
  refine lv_aload_n hx hb dL_isRefused_72 rfl (lv_at hl 5 rfl) ?_
  refine lv_iconst (v := 0) hx hb dL_isRefused_73 (by decide) ?_
  refine va_iald (D := D) hx hb hK hP 12 0 rfl rfl (vp_in_iff.mpr (by decide +kernel)) dL_isRefused_74 ?_
  refine lv_topi (fun y13 hy13 => ?_)
  have hy13 : y13 = 0 := hy13.trans (by decide +kernel)
  subst hy13
  refine lv_goto (tgt := 82) hx hb dL_isRefused_75 (by decide) ?_
  refine lv_istore (lv' := [(7, .int 0), (6, .int 0), (5, .int 9), (4, .int 9), (3, .int 0), (0, .ref h), (1, .ref ma), (2, .int 1)]) hx hb dL_isRefused_82 hl (by decide) rfl (fun ls hl => ?_)
  refine lv_aload_n hx hb dL_isRefused_84 rfl (lv_at hl 5 rfl) ?_
  refine vx_calll (vx_runS (As := [.ref h]) (rest := []) ⟨hx, hb, hml, hown, hts⟩ (k_all l hl0 D cI cZ cJ s.heap.size h a0 a1 a2 a3 a4 a5 a6 a7 a8 a9 a10) (va_cwS 1 hts gL_isRefused_L_all rfl rfl rfl (by decide +kernel) ⟨Nat.le_of_ble_eq_true rfl, Nat.le_of_ble_eq_true rfl⟩) ⟨zKX_blind, fun U hU hW => ⟨rfl, by rw [hU], zX_on hZ hS (fun _ z => z.elim) hU hW, zP_mk (hP.sub (ws' := w0 cI cZ h a0 a1 a2 a3 a4 a5 a6 a7 a8 a9 a10) [0, 1, 2, 3, 4, 5, 6, 7, 8, 9, 10, 11] rfl) hK hU hW⟩⟩ rfl rfl hl.1 rfl (lv_room (Nat.le_of_ble_eq_true rfl)) dL_isRefused_85 ⟨Nat.le_of_ble_eq_true rfl, Nat.le_of_ble_eq_true rfl⟩) hS (fun _ _ z => z.elim) (fun _ z => z.elim) (fun _ _ z => z.elim) (fun E ce q9 u t H1 locs1 _ _ _ hE _ _ _ _ _ _ => hE.elim) (fun r14 u14 t14 H14 locs ht hvm w14 hB hz1 hk1 hS => ?_)
  have w14 : r14 = 547619638806036508 := w14
  subst w14
  have hB9 : s.heap.size + 1 ≤ H14.size := by rw [← ht]; exact hB
  have hP := hP.kept (fun k q hk => hk1 q.1 (vx_lt hP hk) (fun z => z))
  have hgr : s.heap.size + 1 ≤ H14.size := by omega
  clear hk1 hz1 hvm ht hB hB9 t14 u14
  refine lv_lstore (lv' := [(8, .long 547619638806036508), (7, .int 0), (6, .int 0), (5, .int 9), (4, .int 9), (3, .int 0), (0, .ref h), (1, .ref ma), (2, .int 1)]) hx hb dL_isRefused_88 hl (by decide) rfl (fun ls hl => ?_)
  refine lv_aload_n hx hb dL_isRefused_90 rfl (lv_at hl 6 rfl) ?_
  refine lv_iconst (v := 0) hx hb dL_isRefused_91 (by decide) ?_
  refine lv_iload hx hb dL_isRefused_92 (lv_at hl 4 rfl) ?_
  refine lv_iconst (v := 0) hx hb dL_isRefused_94 (by decide) ?_
  refine vx_calli (vx_runSX (As := [.ref h, .int 0, .int 9, .int 0]) (rest := []) ⟨hx, hb, hml, hown, hts⟩ (k_act_give_t1 l hl0 D cI cZ cJ H14.size h a0 a1 a2 a3 a4 a5 a6 a7 a8 a9 a10 z0 z0 z0 z0 zf4 zf5 z0 z0 z0 z0 z0 0 0 0 0 9 0 (by decide +kernel)) (vx_cwSW 4 hts gL_isRefused_L_act rfl rfl rfl (by decide +kernel) ⟨Nat.le_of_ble_eq_true rfl, Nat.le_of_ble_eq_true rfl⟩) ⟨zKX_blind, fun U hU hW => ⟨rfl, by rw [hU], zX_on hZ hS (fun _ z => z.elim) hU hW, zP_mk (hP.sub (ws' := w0 cI cZ h a0 a1 a2 a3 a4 a5 a6 a7 a8 a9 a10) [0, 1, 2, 3, 4, 5, 6, 7, 8, 9, 10, 11] rfl) hK hU hW⟩⟩ rfl rfl hl.1 rfl (lv_room (Nat.le_of_ble_eq_true rfl)) dL_isRefused_95 ⟨Nat.le_of_ble_eq_true rfl, Nat.le_of_ble_eq_true rfl⟩) hS (fun _ _ z => z.elim) (fun _ z => z.elim) (fun _ _ z => z.elim) (fun E ce q9 u t H1 locs1 _ _ _ hE _ _ _ _ _ _ => hE.elim) (fun r15 u15 t15 H15 locs ht hvm w15 hB hz1 hk1 hS => ?_)
  have w15 : r15 = (-1041) := w15
  subst w15
  have hB9 : H14.size + 0 ≤ H15.size := by rw [← ht]; exact hB
  have hP := hP.kept (fun k q hk => hk1 q.1 (vx_lt hP hk) (fun z => z))
  have hgr : s.heap.size + 1 ≤ H15.size := by omega
  clear hk1 hz1 hvm ht hB hB9 t15 u15
  refine lv_sipush (v := (-1041)) hx hb dL_isRefused_98 (by decide) ?_
  refine lv_icmp_ne (tgt := 396) hx hb dL_isRefused_101 (by decide) (fun c9 => False.elim (by revert c9; decide)) (fun _ => ?_)
  refine lv_aload_n hx hb dL_isRefused_104 rfl (lv_at hl 6 rfl) ?_
  refine lv_iconst (v := 0) hx hb dL_isRefused_105 (by decide) ?_
  refine lv_iload hx hb dL_isRefused_106 (lv_at hl 2 rfl) ?_
  refine lv_iload_n hx hb dL_isRefused_108 rfl (lv_at hl 5 rfl) ?_
  refine lv_if_eq (tgt := 121) hx hb dL_isRefused_109 (by decide) (fun _ => ?_) (fun c9 => False.elim (by revert c9; decide))
  refine lv_sipush (v := 10001) hx hb dL_isRefused_121 (by decide) ?_
  refine lv_iload_n hx hb dL_isRefused_124 rfl (lv_at hl 8 rfl) ?_
  refine lv_bipush (v := 30) hx hb dL_isRefused_125 (by decide) ?_
  refine lv_irem hx hb dL_isRefused_127 (by decide) ?_
  refine lv_topi (fun y18 hy18 => ?_)
  have hy18 : y18 = 1 := hy18.trans (by decide +kernel)
  subst hy18
  refine lv_iadd hx hb dL_isRefused_128 ?_
  refine lv_topi (fun y19 hy19 => ?_)
  have hy19 : y19 = 10002 := hy19.trans (by decide +kernel)
  subst hy19
  refine vx_calli (vx_runSX (As := [.ref h, .int 0, .int 0, .int 10002]) (rest := []) ⟨hx, hb, hml, hown, hts⟩ (k_act_give_t2 l hl0 D cI cZ cJ H15.size h a0 a1 a2 a3 a4 a5 a6 a7 a8 a9 a10 z0 z0 z0 z0 zf4 zf5 z0 z0 z0 z0 z0 0 0 0 0 0 10002 (by decide +kernel) (by decide +kernel)) (vx_cwSW 4 hts gL_isRefused_L_act rfl rfl rfl (by decide +kernel) ⟨Nat.le_of_ble_eq_true rfl, Nat.le_of_ble_eq_true rfl⟩) ⟨zKX_blind, fun U hU hW => ⟨rfl, by rw [hU], zX_on hZ hS (fun _ z => z.elim) hU hW, zP_mk (hP.sub (ws' := w0 cI cZ h a0 a1 a2 a3 a4 a5 a6 a7 a8 a9 a10) [0, 1, 2, 3, 4, 5, 6, 7, 8, 9, 10, 11] rfl) hK hU hW⟩⟩ rfl rfl hl.1 rfl (lv_room (Nat.le_of_ble_eq_true rfl)) dL_isRefused_129 ⟨Nat.le_of_ble_eq_true rfl, Nat.le_of_ble_eq_true rfl⟩) hS (fun _ _ z => z.elim) (fun _ z => z.elim) (fun _ _ z => z.elim) (fun E ce q9 u t H1 locs1 _ _ _ hE _ _ _ _ _ _ => hE.elim) (fun r20 u20 t20 H20 locs ht hvm w20 hB hz1 hk1 hS => ?_)
  have w20 : r20 = (-1042) := w20
  subst w20
  have hB9 : H15.size + 0 ≤ H20.size := by rw [← ht]; exact hB
  have hP := hP.kept (fun k q hk => hk1 q.1 (vx_lt hP hk) (fun z => z))
  have hgr : s.heap.size + 1 ≤ H20.size := by omega
  clear hk1 hz1 hvm ht hB hB9 t20 u20
  refine lv_sipush (v := (-1042)) hx hb dL_isRefused_132 (by decide) ?_
  refine lv_icmp_ne (tgt := 396) hx hb dL_isRefused_135 (by decide) (fun c9 => False.elim (by revert c9; decide)) (fun _ => ?_)
  refine lv_aload_n hx hb dL_isRefused_138 rfl (lv_at hl 6 rfl) ?_
  refine lv_iconst (v := 1) hx hb dL_isRefused_139 (by decide) ?_
  refine lv_iload hx hb dL_isRefused_140 (lv_at hl 4 rfl) ?_
  refine lv_iconst (v := 0) hx hb dL_isRefused_142 (by decide) ?_
  refine vx_calli (vx_runSX (As := [.ref h, .int 1, .int 9, .int 0]) (rest := []) ⟨hx, hb, hml, hown, hts⟩ (k_act_leave_t l hl0 D cI cZ cJ H20.size h a0 a1 a2 a3 a4 a5 a6 a7 a8 a9 a10 z0 z0 z0 z0 zf4 zf5 z0 z0 z0 z0 z0 0 0 0 0 9 0 (by decide +kernel)) (vx_cwSW 4 hts gL_isRefused_L_act rfl rfl rfl (by decide +kernel) ⟨Nat.le_of_ble_eq_true rfl, Nat.le_of_ble_eq_true rfl⟩) ⟨zKX_blind, fun U hU hW => ⟨rfl, by rw [hU], zX_on hZ hS (fun _ z => z.elim) hU hW, zP_mk (hP.sub (ws' := w0 cI cZ h a0 a1 a2 a3 a4 a5 a6 a7 a8 a9 a10) [0, 1, 2, 3, 4, 5, 6, 7, 8, 9, 10, 11] rfl) hK hU hW⟩⟩ rfl rfl hl.1 rfl (lv_room (Nat.le_of_ble_eq_true rfl)) dL_isRefused_143 ⟨Nat.le_of_ble_eq_true rfl, Nat.le_of_ble_eq_true rfl⟩) hS (fun _ _ z => z.elim) (fun _ z => z.elim) (fun _ _ z => z.elim) (fun E ce q9 u t H1 locs1 _ _ _ hE _ _ _ _ _ _ => hE.elim) (fun r22 u22 t22 H22 locs ht hvm w22 hB hz1 hk1 hS => ?_)
  have w22 : r22 = (-1041) := w22
  subst w22
  have hB9 : H20.size + 0 ≤ H22.size := by rw [← ht]; exact hB
  have hP := hP.kept (fun k q hk => hk1 q.1 (vx_lt hP hk) (fun z => z))
  have hgr : s.heap.size + 1 ≤ H22.size := by omega
  clear hk1 hz1 hvm ht hB hB9 t22 u22
  refine lv_sipush (v := (-1041)) hx hb dL_isRefused_146 (by decide) ?_
  refine lv_icmp_ne (tgt := 396) hx hb dL_isRefused_149 (by decide) (fun c9 => False.elim (by revert c9; decide)) (fun _ => ?_)
  refine lv_aload_n hx hb dL_isRefused_152 rfl (lv_at hl 6 rfl) ?_
  refine lv_iconst (v := 2) hx hb dL_isRefused_153 (by decide) ?_
  refine lv_iload hx hb dL_isRefused_154 (lv_at hl 4 rfl) ?_
  refine lv_iconst (v := (-1)) hx hb dL_isRefused_156 (by decide) ?_
  refine vx_calli (vx_runSX (As := [.ref h, .int 2, .int 9, .int (-1)]) (rest := []) ⟨hx, hb, hml, hown, hts⟩ (k_act_trust_t1 l hl0 D cI cZ cJ H22.size h a0 a1 a2 a3 a4 a5 a6 a7 a8 a9 a10 z0 z0 z0 z0 zf4 zf5 z0 z0 z0 z0 z0 0 0 0 0 9 (-1) (by decide +kernel)) (vx_cwSW 4 hts gL_isRefused_L_act rfl rfl rfl (by decide +kernel) ⟨Nat.le_of_ble_eq_true rfl, Nat.le_of_ble_eq_true rfl⟩) ⟨zKX_blind, fun U hU hW => ⟨rfl, by rw [hU], zX_on hZ hS (fun _ z => z.elim) hU hW, zP_mk (hP.sub (ws' := w0 cI cZ h a0 a1 a2 a3 a4 a5 a6 a7 a8 a9 a10) [0, 1, 2, 3, 4, 5, 6, 7, 8, 9, 10, 11] rfl) hK hU hW⟩⟩ rfl rfl hl.1 rfl (lv_room (Nat.le_of_ble_eq_true rfl)) dL_isRefused_157 ⟨Nat.le_of_ble_eq_true rfl, Nat.le_of_ble_eq_true rfl⟩) hS (fun _ _ z => z.elim) (fun _ z => z.elim) (fun _ _ z => z.elim) (fun E ce q9 u t H1 locs1 _ _ _ hE _ _ _ _ _ _ => hE.elim) (fun r24 u24 t24 H24 locs ht hvm w24 hB hz1 hk1 hS => ?_)
  have w24 : r24 = (-1041) := w24
  subst w24
  have hB9 : H22.size + 0 ≤ H24.size := by rw [← ht]; exact hB
  have hP := hP.kept (fun k q hk => hk1 q.1 (vx_lt hP hk) (fun z => z))
  have hgr : s.heap.size + 1 ≤ H24.size := by omega
  clear hk1 hz1 hvm ht hB hB9 t24 u24
  refine lv_sipush (v := (-1041)) hx hb dL_isRefused_160 (by decide) ?_
  refine lv_icmp_ne (tgt := 396) hx hb dL_isRefused_163 (by decide) (fun c9 => False.elim (by revert c9; decide)) (fun _ => ?_)
  refine lv_aload_n hx hb dL_isRefused_166 rfl (lv_at hl 6 rfl) ?_
  refine lv_iconst (v := 2) hx hb dL_isRefused_167 (by decide) ?_
  refine lv_iload hx hb dL_isRefused_168 (lv_at hl 2 rfl) ?_
  refine lv_iload hx hb dL_isRefused_170 (lv_at hl 3 rfl) ?_
  refine vx_calli (vx_runSX (As := [.ref h, .int 2, .int 0, .int 9]) (rest := []) ⟨hx, hb, hml, hown, hts⟩ (k_act_trust_t2 l hl0 D cI cZ cJ H24.size h a0 a1 a2 a3 a4 a5 a6 a7 a8 a9 a10 z0 z0 z0 z0 zf4 zf5 z0 z0 z0 z0 z0 0 0 0 0 0 9 (by decide +kernel) (by decide +kernel)) (vx_cwSW 4 hts gL_isRefused_L_act rfl rfl rfl (by decide +kernel) ⟨Nat.le_of_ble_eq_true rfl, Nat.le_of_ble_eq_true rfl⟩) ⟨zKX_blind, fun U hU hW => ⟨rfl, by rw [hU], zX_on hZ hS (fun _ z => z.elim) hU hW, zP_mk (hP.sub (ws' := w0 cI cZ h a0 a1 a2 a3 a4 a5 a6 a7 a8 a9 a10) [0, 1, 2, 3, 4, 5, 6, 7, 8, 9, 10, 11] rfl) hK hU hW⟩⟩ rfl rfl hl.1 rfl (lv_room (Nat.le_of_ble_eq_true rfl)) dL_isRefused_172 ⟨Nat.le_of_ble_eq_true rfl, Nat.le_of_ble_eq_true rfl⟩) hS (fun _ _ z => z.elim) (fun _ z => z.elim) (fun _ _ z => z.elim) (fun E ce q9 u t H1 locs1 _ _ _ hE _ _ _ _ _ _ => hE.elim) (fun r26 u26 t26 H26 locs ht hvm w26 hB hz1 hk1 hS => ?_)
  have w26 : r26 = (-1041) := w26
  subst w26
  have hB9 : H24.size + 0 ≤ H26.size := by rw [← ht]; exact hB
  have hP := hP.kept (fun k q hk => hk1 q.1 (vx_lt hP hk) (fun z => z))
  have hgr : s.heap.size + 1 ≤ H26.size := by omega
  clear hk1 hz1 hvm ht hB hB9 t26 u26
  refine lv_sipush (v := (-1041)) hx hb dL_isRefused_175 (by decide) ?_
  refine lv_icmp_ne (tgt := 396) hx hb dL_isRefused_178 (by decide) (fun c9 => False.elim (by revert c9; decide)) (fun _ => ?_)
  refine lv_aload_n hx hb dL_isRefused_181 rfl (lv_at hl 6 rfl) ?_
  refine lv_iconst (v := 2) hx hb dL_isRefused_182 (by decide) ?_
  refine lv_iload hx hb dL_isRefused_183 (lv_at hl 2 rfl) ?_
  refine lv_iload hx hb dL_isRefused_185 (lv_at hl 2 rfl) ?_
  refine vx_calli (vx_runSX (As := [.ref h, .int 2, .int 0, .int 0]) (rest := []) ⟨hx, hb, hml, hown, hts⟩ (k_act_trust_t3 l hl0 D cI cZ cJ H26.size h a0 a1 a2 a3 a4 a5 a6 a7 a8 a9 a10 z0 z0 z0 z0 zf4 zf5 z0 z0 z0 z0 z0 0 0 0 0 0 0 (by decide +kernel) (by decide +kernel) (by decide +kernel)) (vx_cwSW 4 hts gL_isRefused_L_act rfl rfl rfl (by decide +kernel) ⟨Nat.le_of_ble_eq_true rfl, Nat.le_of_ble_eq_true rfl⟩) ⟨zKX_blind, fun U hU hW => ⟨rfl, by rw [hU], zX_on hZ hS (fun _ z => z.elim) hU hW, zP_mk (hP.sub (ws' := w0 cI cZ h a0 a1 a2 a3 a4 a5 a6 a7 a8 a9 a10) [0, 1, 2, 3, 4, 5, 6, 7, 8, 9, 10, 11] rfl) hK hU hW⟩⟩ rfl rfl hl.1 rfl (lv_room (Nat.le_of_ble_eq_true rfl)) dL_isRefused_187 ⟨Nat.le_of_ble_eq_true rfl, Nat.le_of_ble_eq_true rfl⟩) hS (fun _ _ z => z.elim) (fun _ z => z.elim) (fun _ _ z => z.elim) (fun E ce q9 u t H1 locs1 _ _ _ hE _ _ _ _ _ _ => hE.elim) (fun r28 u28 t28 H28 locs ht hvm w28 hB hz1 hk1 hS => ?_)
  have w28 : r28 = (-1043) := w28
  subst w28
  have hB9 : H26.size + 0 ≤ H28.size := by rw [← ht]; exact hB
  have hP := hP.kept (fun k q hk => hk1 q.1 (vx_lt hP hk) (fun z => z))
  have hgr : s.heap.size + 1 ≤ H28.size := by omega
  clear hk1 hz1 hvm ht hB hB9 t28 u28
  refine lv_sipush (v := (-1043)) hx hb dL_isRefused_190 (by decide) ?_
  refine lv_icmp_ne (tgt := 396) hx hb dL_isRefused_193 (by decide) (fun c9 => False.elim (by revert c9; decide)) (fun _ => ?_)
  refine lv_aload_n hx hb dL_isRefused_196 rfl (lv_at hl 6 rfl) ?_
  refine lv_iconst (v := 3) hx hb dL_isRefused_197 (by decide) ?_
  refine lv_iload hx hb dL_isRefused_198 (lv_at hl 4 rfl) ?_
  refine lv_iconst (v := 0) hx hb dL_isRefused_200 (by decide) ?_
  refine vx_calli (vx_runSX (As := [.ref h, .int 3, .int 9, .int 0]) (rest := []) ⟨hx, hb, hml, hown, hts⟩ (k_act_setPerson_t1 l hl0 D cI cZ cJ H28.size h a0 a1 a2 a3 a4 a5 a6 a7 a8 a9 a10 z0 z0 z0 z0 zf4 zf5 z0 z0 z0 z0 z0 0 0 0 0 9 0 (by decide +kernel)) (vx_cwSW 4 hts gL_isRefused_L_act rfl rfl rfl (by decide +kernel) ⟨Nat.le_of_ble_eq_true rfl, Nat.le_of_ble_eq_true rfl⟩) ⟨zKX_blind, fun U hU hW => ⟨rfl, by rw [hU], zX_on hZ hS (fun _ z => z.elim) hU hW, zP_mk (hP.sub (ws' := w0 cI cZ h a0 a1 a2 a3 a4 a5 a6 a7 a8 a9 a10) [0, 1, 2, 3, 4, 5, 6, 7, 8, 9, 10, 11] rfl) hK hU hW⟩⟩ rfl rfl hl.1 rfl (lv_room (Nat.le_of_ble_eq_true rfl)) dL_isRefused_201 ⟨Nat.le_of_ble_eq_true rfl, Nat.le_of_ble_eq_true rfl⟩) hS (fun _ _ z => z.elim) (fun _ z => z.elim) (fun _ _ z => z.elim) (fun E ce q9 u t H1 locs1 _ _ _ hE _ _ _ _ _ _ => hE.elim) (fun r30 u30 t30 H30 locs ht hvm w30 hB hz1 hk1 hS => ?_)
  have w30 : r30 = (-1041) := w30
  subst w30
  have hB9 : H28.size + 0 ≤ H30.size := by rw [← ht]; exact hB
  have hP := hP.kept (fun k q hk => hk1 q.1 (vx_lt hP hk) (fun z => z))
  have hgr : s.heap.size + 1 ≤ H30.size := by omega
  clear hk1 hz1 hvm ht hB hB9 t30 u30
  refine lv_sipush (v := (-1041)) hx hb dL_isRefused_204 (by decide) ?_
  refine lv_icmp_ne (tgt := 396) hx hb dL_isRefused_207 (by decide) (fun c9 => False.elim (by revert c9; decide)) (fun _ => ?_)
  refine lv_aload_n hx hb dL_isRefused_210 rfl (lv_at hl 6 rfl) ?_
  refine lv_iconst (v := 3) hx hb dL_isRefused_211 (by decide) ?_
  refine lv_iload hx hb dL_isRefused_212 (lv_at hl 2 rfl) ?_
  refine lv_iload hx hb dL_isRefused_214 (lv_at hl 4 rfl) ?_
  refine vx_calli (vx_runSX (As := [.ref h, .int 3, .int 0, .int 9]) (rest := []) ⟨hx, hb, hml, hown, hts⟩ (k_act_setPerson_t2 l hl0 D cI cZ cJ H30.size h a0 a1 a2 a3 a4 a5 a6 a7 a8 a9 a10 z0 z0 z0 z0 zf4 zf5 z0 z0 z0 z0 z0 0 0 0 0 0 9 (by decide +kernel) (by decide +kernel)) (vx_cwSW 4 hts gL_isRefused_L_act rfl rfl rfl (by decide +kernel) ⟨Nat.le_of_ble_eq_true rfl, Nat.le_of_ble_eq_true rfl⟩) ⟨zKX_blind, fun U hU hW => ⟨rfl, by rw [hU], zX_on hZ hS (fun _ z => z.elim) hU hW, zP_mk (hP.sub (ws' := w0 cI cZ h a0 a1 a2 a3 a4 a5 a6 a7 a8 a9 a10) [0, 1, 2, 3, 4, 5, 6, 7, 8, 9, 10, 11] rfl) hK hU hW⟩⟩ rfl rfl hl.1 rfl (lv_room (Nat.le_of_ble_eq_true rfl)) dL_isRefused_216 ⟨Nat.le_of_ble_eq_true rfl, Nat.le_of_ble_eq_true rfl⟩) hS (fun _ _ z => z.elim) (fun _ z => z.elim) (fun _ _ z => z.elim) (fun E ce q9 u t H1 locs1 _ _ _ hE _ _ _ _ _ _ => hE.elim) (fun r32 u32 t32 H32 locs ht hvm w32 hB hz1 hk1 hS => ?_)
  have w32 : r32 = (-1041) := w32
  subst w32
  have hB9 : H30.size + 0 ≤ H32.size := by rw [← ht]; exact hB
  have hP := hP.kept (fun k q hk => hk1 q.1 (vx_lt hP hk) (fun z => z))
  have hgr : s.heap.size + 1 ≤ H32.size := by omega
  clear hk1 hz1 hvm ht hB hB9 t32 u32
  refine lv_sipush (v := (-1041)) hx hb dL_isRefused_219 (by decide) ?_
  refine lv_icmp_ne (tgt := 396) hx hb dL_isRefused_222 (by decide) (fun c9 => False.elim (by revert c9; decide)) (fun _ => ?_)
  refine lv_aload_n hx hb dL_isRefused_225 rfl (lv_at hl 6 rfl) ?_
  refine lv_iconst (v := 4) hx hb dL_isRefused_226 (by decide) ?_
  refine lv_iload_n hx hb dL_isRefused_227 rfl (lv_at hl 5 rfl) ?_
  refine lv_if_eq (tgt := 240) hx hb dL_isRefused_228 (by decide) (fun _ => ?_) (fun c9 => False.elim (by revert c9; decide))
  refine lv_ldc hx hb hown (hts (.constant RL 115 (100001)) (by decide +kernel)) dL_isRefused_240 ?_
  refine lv_iconst (v := 0) hx hb dL_isRefused_242 (by decide) ?_
  refine vx_calli (vx_runSX (As := [.ref h, .int 4, .int 100001, .int 0]) (rest := []) ⟨hx, hb, hml, hown, hts⟩ (k_act_fillPot_t1 l hl0 D cI cZ cJ H32.size h a0 a1 a2 a3 a4 a5 a6 a7 a8 a9 a10 z0 z0 z0 z0 zf4 zf5 z0 z0 z0 z0 z0 0 0 0 0 100001 0 (by decide +kernel)) (vx_cwSW 4 hts gL_isRefused_L_act rfl rfl rfl (by decide +kernel) ⟨Nat.le_of_ble_eq_true rfl, Nat.le_of_ble_eq_true rfl⟩) ⟨zKX_blind, fun U hU hW => ⟨rfl, by rw [hU], zX_on hZ hS (fun _ z => z.elim) hU hW, zP_mk (hP.sub (ws' := w0 cI cZ h a0 a1 a2 a3 a4 a5 a6 a7 a8 a9 a10) [0, 1, 2, 3, 4, 5, 6, 7, 8, 9, 10, 11] rfl) hK hU hW⟩⟩ rfl rfl hl.1 rfl (lv_room (Nat.le_of_ble_eq_true rfl)) dL_isRefused_243 ⟨Nat.le_of_ble_eq_true rfl, Nat.le_of_ble_eq_true rfl⟩) hS (fun _ _ z => z.elim) (fun _ z => z.elim) (fun _ _ z => z.elim) (fun E ce q9 u t H1 locs1 _ _ _ hE _ _ _ _ _ _ => hE.elim) (fun r35 u35 t35 H35 locs ht hvm w35 hB hz1 hk1 hS => ?_)
  have w35 : r35 = (-1042) := w35
  subst w35
  have hB9 : H32.size + 0 ≤ H35.size := by rw [← ht]; exact hB
  have hP := hP.kept (fun k q hk => hk1 q.1 (vx_lt hP hk) (fun z => z))
  have hgr : s.heap.size + 1 ≤ H35.size := by omega
  clear hk1 hz1 hvm ht hB hB9 t35 u35
  refine lv_sipush (v := (-1042)) hx hb dL_isRefused_246 (by decide) ?_
  refine lv_icmp_ne (tgt := 396) hx hb dL_isRefused_249 (by decide) (fun c9 => False.elim (by revert c9; decide)) (fun _ => ?_)
  refine lv_aload_n hx hb dL_isRefused_252 rfl (lv_at hl 6 rfl) ?_
  refine lv_iconst (v := 5) hx hb dL_isRefused_253 (by decide) ?_
  refine lv_iload_n hx hb dL_isRefused_254 rfl (lv_at hl 5 rfl) ?_
  refine lv_if_eq (tgt := 267) hx hb dL_isRefused_255 (by decide) (fun _ => ?_) (fun c9 => False.elim (by revert c9; decide))
  refine lv_ldc hx hb hown (hts (.constant RL 115 (100001)) (by decide +kernel)) dL_isRefused_267 ?_
  refine lv_iconst (v := 0) hx hb dL_isRefused_269 (by decide) ?_
  refine vx_calli (vx_runSX (As := [.ref h, .int 5, .int 100001, .int 0]) (rest := []) ⟨hx, hb, hml, hown, hts⟩ (k_act_addMilestone_t1 l hl0 D cI cZ cJ H35.size h a0 a1 a2 a3 a4 a5 a6 a7 a8 a9 a10 z0 z0 z0 z0 zf4 zf5 z0 z0 z0 z0 z0 0 0 0 0 100001 0 (by decide +kernel)) (vx_cwSW 4 hts gL_isRefused_L_act rfl rfl rfl (by decide +kernel) ⟨Nat.le_of_ble_eq_true rfl, Nat.le_of_ble_eq_true rfl⟩) ⟨zKX_blind, fun U hU hW => ⟨rfl, by rw [hU], zX_on hZ hS (fun _ z => z.elim) hU hW, zP_mk (hP.sub (ws' := w0 cI cZ h a0 a1 a2 a3 a4 a5 a6 a7 a8 a9 a10) [0, 1, 2, 3, 4, 5, 6, 7, 8, 9, 10, 11] rfl) hK hU hW⟩⟩ rfl rfl hl.1 rfl (lv_room (Nat.le_of_ble_eq_true rfl)) dL_isRefused_270 ⟨Nat.le_of_ble_eq_true rfl, Nat.le_of_ble_eq_true rfl⟩) hS (fun _ _ z => z.elim) (fun _ z => z.elim) (fun _ _ z => z.elim) (fun E ce q9 u t H1 locs1 _ _ _ hE _ _ _ _ _ _ => hE.elim) (fun r38 u38 t38 H38 locs ht hvm w38 hB hz1 hk1 hS => ?_)
  have w38 : r38 = (-1042) := w38
  subst w38
  have hB9 : H35.size + 0 ≤ H38.size := by rw [← ht]; exact hB
  have hP := hP.kept (fun k q hk => hk1 q.1 (vx_lt hP hk) (fun z => z))
  have hgr : s.heap.size + 1 ≤ H38.size := by omega
  clear hk1 hz1 hvm ht hB hB9 t38 u38
  refine lv_sipush (v := (-1042)) hx hb dL_isRefused_273 (by decide) ?_
  refine lv_icmp_ne (tgt := 396) hx hb dL_isRefused_276 (by decide) (fun c9 => False.elim (by revert c9; decide)) (fun _ => ?_)
  refine lv_aload_n hx hb dL_isRefused_279 rfl (lv_at hl 6 rfl) ?_
  refine lv_bipush (v := 6) hx hb dL_isRefused_280 (by decide) ?_
  refine lv_iload_n hx hb dL_isRefused_282 rfl (lv_at hl 5 rfl) ?_
  refine lv_if_eq (tgt := 295) hx hb dL_isRefused_283 (by decide) (fun _ => ?_) (fun c9 => False.elim (by revert c9; decide))
  refine lv_aload_n hx hb dL_isRefused_295 rfl (lv_at hl 7 rfl) ?_
  refine lv_iconst (v := 0) hx hb dL_isRefused_296 (by decide) ?_
  refine va_iald (D := D) hx hb hK hP 12 0 rfl rfl (vp_in_iff.mpr (by decide +kernel)) dL_isRefused_297 ?_
  refine lv_topi (fun y41 hy41 => ?_)
  have hy41 : y41 = 0 := hy41.trans (by decide +kernel)
  subst hy41
  refine lv_iload_n hx hb dL_isRefused_298 rfl (lv_at hl 8 rfl) ?_
  refine lv_bipush (v := 30) hx hb dL_isRefused_299 (by decide) ?_
  refine lv_irem hx hb dL_isRefused_301 (by decide) ?_
  refine lv_topi (fun y42 hy42 => ?_)
  have hy42 : y42 = 1 := hy42.trans (by decide +kernel)
  subst hy42
  refine lv_iadd hx hb dL_isRefused_302 ?_
  refine lv_topi (fun y43 hy43 => ?_)
  have hy43 : y43 = 1 := hy43.trans (by decide +kernel)
  subst hy43
  refine lv_iconst (v := 0) hx hb dL_isRefused_303 (by decide) ?_
  refine vx_calli (vx_runSX (As := [.ref h, .int 6, .int 1, .int 0]) (rest := []) ⟨hx, hb, hml, hown, hts⟩ (k_act_prove_t1 l hl0 D cI cZ cJ H38.size h a0 a1 a2 a3 a4 a5 a6 a7 a8 a9 a10 z0 z0 z0 z0 zf4 zf5 z0 z0 z0 z0 z0 0 0 0 0 1 0 (by decide +kernel)) (vx_cwSW 4 hts gL_isRefused_L_act rfl rfl rfl (by decide +kernel) ⟨Nat.le_of_ble_eq_true rfl, Nat.le_of_ble_eq_true rfl⟩) ⟨zKX_blind, fun U hU hW => ⟨rfl, by rw [hU], zX_on hZ hS (fun _ z => z.elim) hU hW, zP_mk (hP.sub (ws' := w0 cI cZ h a0 a1 a2 a3 a4 a5 a6 a7 a8 a9 a10) [0, 1, 2, 3, 4, 5, 6, 7, 8, 9, 10, 11] rfl) hK hU hW⟩⟩ rfl rfl hl.1 rfl (lv_room (Nat.le_of_ble_eq_true rfl)) dL_isRefused_304 ⟨Nat.le_of_ble_eq_true rfl, Nat.le_of_ble_eq_true rfl⟩) hS (fun _ _ z => z.elim) (fun _ z => z.elim) (fun _ _ z => z.elim) (fun E ce q9 u t H1 locs1 _ _ _ hE _ _ _ _ _ _ => hE.elim) (fun r44 u44 t44 H44 locs ht hvm w44 hB hz1 hk1 hS => ?_)
  have w44 : r44 = (-1041) := w44
  subst w44
  have hB9 : H38.size + 0 ≤ H44.size := by rw [← ht]; exact hB
  have hP := hP.kept (fun k q hk => hk1 q.1 (vx_lt hP hk) (fun z => z))
  have hgr : s.heap.size + 1 ≤ H44.size := by omega
  clear hk1 hz1 hvm ht hB hB9 t44 u44
  refine lv_sipush (v := (-1041)) hx hb dL_isRefused_307 (by decide) ?_
  refine lv_icmp_ne (tgt := 396) hx hb dL_isRefused_310 (by decide) (fun c9 => False.elim (by revert c9; decide)) (fun _ => ?_)
  refine lv_aload_n hx hb dL_isRefused_313 rfl (lv_at hl 6 rfl) ?_
  refine lv_bipush (v := 7) hx hb dL_isRefused_314 (by decide) ?_
  refine lv_iload hx hb dL_isRefused_316 (lv_at hl 4 rfl) ?_
  refine lv_bipush (v := (-5)) hx hb dL_isRefused_318 (by decide) ?_
  refine vx_calli (vx_runSX (As := [.ref h, .int 7, .int 9, .int (-5)]) (rest := []) ⟨hx, hb, hml, hown, hts⟩ (k_act_vote_t1 l hl0 D cI cZ cJ H44.size h a0 a1 a2 a3 a4 a5 a6 a7 a8 a9 a10 z0 z0 z0 z0 zf4 zf5 z0 z0 z0 z0 z0 0 0 0 0 9 (-5) (by decide +kernel)) (vx_cwSW 4 hts gL_isRefused_L_act rfl rfl rfl (by decide +kernel) ⟨Nat.le_of_ble_eq_true rfl, Nat.le_of_ble_eq_true rfl⟩) ⟨zKX_blind, fun U hU hW => ⟨rfl, by rw [hU], zX_on hZ hS (fun _ z => z.elim) hU hW, zP_mk (hP.sub (ws' := w0 cI cZ h a0 a1 a2 a3 a4 a5 a6 a7 a8 a9 a10) [0, 1, 2, 3, 4, 5, 6, 7, 8, 9, 10, 11] rfl) hK hU hW⟩⟩ rfl rfl hl.1 rfl (lv_room (Nat.le_of_ble_eq_true rfl)) dL_isRefused_320 ⟨Nat.le_of_ble_eq_true rfl, Nat.le_of_ble_eq_true rfl⟩) hS (fun _ _ z => z.elim) (fun _ z => z.elim) (fun _ _ z => z.elim) (fun E ce q9 u t H1 locs1 _ _ _ hE _ _ _ _ _ _ => hE.elim) (fun r46 u46 t46 H46 locs ht hvm w46 hB hz1 hk1 hS => ?_)
  have w46 : r46 = (-1041) := w46
  subst w46
  have hB9 : H44.size + 0 ≤ H46.size := by rw [← ht]; exact hB
  have hP := hP.kept (fun k q hk => hk1 q.1 (vx_lt hP hk) (fun z => z))
  have hgr : s.heap.size + 1 ≤ H46.size := by omega
  clear hk1 hz1 hvm ht hB hB9 t46 u46
  refine lv_sipush (v := (-1041)) hx hb dL_isRefused_323 (by decide) ?_
  refine lv_icmp_ne (tgt := 396) hx hb dL_isRefused_326 (by decide) (fun c9 => False.elim (by revert c9; decide)) (fun _ => ?_)
  refine lv_aload_n hx hb dL_isRefused_329 rfl (lv_at hl 6 rfl) ?_
  refine lv_bipush (v := 7) hx hb dL_isRefused_330 (by decide) ?_
  refine lv_iload hx hb dL_isRefused_332 (lv_at hl 2 rfl) ?_
  refine lv_iload_n hx hb dL_isRefused_334 rfl (lv_at hl 5 rfl) ?_
  refine lv_if_eq (tgt := 347) hx hb dL_isRefused_335 (by decide) (fun _ => ?_) (fun c9 => False.elim (by revert c9; decide))
  refine lv_iconst (v := 3) hx hb dL_isRefused_347 (by decide) ?_
  refine lv_iload_n hx hb dL_isRefused_348 rfl (lv_at hl 8 rfl) ?_
  refine lv_bipush (v := 30) hx hb dL_isRefused_349 (by decide) ?_
  refine lv_irem hx hb dL_isRefused_351 (by decide) ?_
  refine lv_topi (fun y49 hy49 => ?_)
  have hy49 : y49 = 1 := hy49.trans (by decide +kernel)
  subst hy49
  refine lv_iadd hx hb dL_isRefused_352 ?_
  refine lv_topi (fun y50 hy50 => ?_)
  have hy50 : y50 = 4 := hy50.trans (by decide +kernel)
  subst hy50
  refine vx_calli (vx_runSX (As := [.ref h, .int 7, .int 0, .int 4]) (rest := []) ⟨hx, hb, hml, hown, hts⟩ (k_act_vote_t2 l hl0 D cI cZ cJ H46.size h a0 a1 a2 a3 a4 a5 a6 a7 a8 a9 a10 z0 z0 z0 z0 zf4 zf5 z0 z0 z0 z0 z0 0 0 0 0 0 4 (by decide +kernel) (by decide +kernel)) (vx_cwSW 4 hts gL_isRefused_L_act rfl rfl rfl (by decide +kernel) ⟨Nat.le_of_ble_eq_true rfl, Nat.le_of_ble_eq_true rfl⟩) ⟨zKX_blind, fun U hU hW => ⟨rfl, by rw [hU], zX_on hZ hS (fun _ z => z.elim) hU hW, zP_mk (hP.sub (ws' := w0 cI cZ h a0 a1 a2 a3 a4 a5 a6 a7 a8 a9 a10) [0, 1, 2, 3, 4, 5, 6, 7, 8, 9, 10, 11] rfl) hK hU hW⟩⟩ rfl rfl hl.1 rfl (lv_room (Nat.le_of_ble_eq_true rfl)) dL_isRefused_353 ⟨Nat.le_of_ble_eq_true rfl, Nat.le_of_ble_eq_true rfl⟩) hS (fun _ _ z => z.elim) (fun _ z => z.elim) (fun _ _ z => z.elim) (fun E ce q9 u t H1 locs1 _ _ _ hE _ _ _ _ _ _ => hE.elim) (fun r51 u51 t51 H51 locs ht hvm w51 hB hz1 hk1 hS => ?_)
  have w51 : r51 = (-1042) := w51
  subst w51
  have hB9 : H46.size + 0 ≤ H51.size := by rw [← ht]; exact hB
  have hP := hP.kept (fun k q hk => hk1 q.1 (vx_lt hP hk) (fun z => z))
  have hgr : s.heap.size + 1 ≤ H51.size := by omega
  clear hk1 hz1 hvm ht hB hB9 t51 u51
  refine lv_sipush (v := (-1042)) hx hb dL_isRefused_356 (by decide) ?_
  refine lv_icmp_ne (tgt := 396) hx hb dL_isRefused_359 (by decide) (fun c9 => False.elim (by revert c9; decide)) (fun _ => ?_)
  refine lv_aload_n hx hb dL_isRefused_362 rfl (lv_at hl 6 rfl) ?_
  refine lv_iconst (v := 3) hx hb dL_isRefused_363 (by decide) ?_
  refine lv_iload_n hx hb dL_isRefused_364 rfl (lv_at hl 5 rfl) ?_
  refine lv_if_eq (tgt := 377) hx hb dL_isRefused_365 (by decide) (fun _ => ?_) (fun c9 => False.elim (by revert c9; decide))
  refine lv_iconst (v := 3) hx hb dL_isRefused_377 (by decide) ?_
  refine lv_iload_n hx hb dL_isRefused_378 rfl (lv_at hl 8 rfl) ?_
  refine lv_bipush (v := 30) hx hb dL_isRefused_379 (by decide) ?_
  refine lv_irem hx hb dL_isRefused_381 (by decide) ?_
  refine lv_topi (fun y54 hy54 => ?_)
  have hy54 : y54 = 1 := hy54.trans (by decide +kernel)
  subst hy54
  refine lv_iadd hx hb dL_isRefused_382 ?_
  refine lv_topi (fun y55 hy55 => ?_)
  have hy55 : y55 = 4 := hy55.trans (by decide +kernel)
  subst hy55
  refine vx_calli (vx_runSX (As := [.ref h, .int 3, .int 4]) (rest := []) ⟨hx, hb, hml, hown, hts⟩ (k_of_weight_t l hl0 D cI cZ cJ H51.size h a0 a1 a2 a3 a4 a5 a6 a7 a8 a9 a10 z0 z0 z0 z0 zf4 zf5 z0 z0 z0 z0 z0 0 0 0 0 4 (by decide +kernel)) (vx_cwSW 3 hts gL_isRefused_L_of rfl rfl rfl (by decide +kernel) ⟨Nat.le_of_ble_eq_true rfl, Nat.le_of_ble_eq_true rfl⟩) ⟨zKX_blind, fun U hU hW => ⟨rfl, by rw [hU], zX_on hZ hS (fun _ z => z.elim) hU hW, zP_mk (hP.sub (ws' := w0 cI cZ h a0 a1 a2 a3 a4 a5 a6 a7 a8 a9 a10) [0, 1, 2, 3, 4, 5, 6, 7, 8, 9, 10, 11] rfl) hK hU hW⟩⟩ rfl rfl hl.1 rfl (lv_room (Nat.le_of_ble_eq_true rfl)) dL_isRefused_383 ⟨Nat.le_of_ble_eq_true rfl, Nat.le_of_ble_eq_true rfl⟩) hS (fun _ _ z => z.elim) (fun _ z => z.elim) (fun _ _ z => z.elim) (fun E ce q9 u t H1 locs1 _ _ _ hE _ _ _ _ _ _ => hE.elim) (fun r56 u56 t56 H56 locs ht hvm w56 hB hz1 hk1 hS => ?_)
  have w56 : r56 = (-1042) := w56
  subst w56
  have hB9 : H51.size + 0 ≤ H56.size := by rw [← ht]; exact hB
  have hP := hP.kept (fun k q hk => hk1 q.1 (vx_lt hP hk) (fun z => z))
  have hgr : s.heap.size + 1 ≤ H56.size := by omega
  clear hk1 hz1 hvm ht hB hB9 t56 u56
  refine lv_sipush (v := (-1042)) hx hb dL_isRefused_386 (by decide) ?_
  refine lv_icmp_ne (tgt := 396) hx hb dL_isRefused_389 (by decide) (fun c9 => False.elim (by revert c9; decide)) (fun _ => ?_)
  refine lv_iconst (v := 1) hx hb dL_isRefused_392 (by decide) ?_
  refine lv_goto (tgt := 397) hx hb dL_isRefused_393 (by decide) ?_
  refine lv_istore (lv' := [(10, .int 1), (8, .long 547619638806036508), (7, .int 0), (6, .int 0), (5, .int 9), (4, .int 9), (3, .int 0), (0, .ref h), (1, .ref ma), (2, .int 1)]) hx hb dL_isRefused_397 hl (by decide) rfl (fun ls hl => ?_)
  refine lv_iconst (v := 0) hx hb dL_isRefused_399 (by decide) ?_
  refine lv_istore (lv' := [(11, .int 0), (10, .int 1), (8, .long 547619638806036508), (7, .int 0), (6, .int 0), (5, .int 9), (4, .int 9), (3, .int 0), (0, .ref h), (1, .ref ma), (2, .int 1)]) hx hb dL_isRefused_400 hl (by decide) rfl (fun ls hl => ?_)
  refine lv_iload hx hb dL_isRefused_402 (lv_at hl 0 rfl) ?_
  refine lv_iconst (v := 5) hx hb dL_isRefused_404 (by decide) ?_
  refine lv_icmp_ge (tgt := 446) hx hb dL_isRefused_405 (by decide) (fun c9 => False.elim (by revert c9; decide)) (fun _ => ?_)
  refine lv_iload hx hb dL_isRefused_408 (lv_at hl 1 rfl) ?_
  refine lv_if_eq (tgt := 446) hx hb dL_isRefused_410 (by decide) (fun c9 => False.elim (by revert c9; decide)) (fun _ => ?_)
  refine lv_iload hx hb dL_isRefused_413 (lv_at hl 0 rfl) ?_
  refine lv_iconst (v := 3) hx hb dL_isRefused_415 (by decide) ?_
  refine lv_icmp_eq (tgt := 433) hx hb dL_isRefused_416 (by decide) (fun c9 => False.elim (by revert c9; decide)) (fun _ => ?_)
  refine lv_aload_n hx hb dL_isRefused_419 rfl (lv_at hl 8 rfl) ?_
  refine lv_iload hx hb dL_isRefused_420 (lv_at hl 0 rfl) ?_
  refine lv_iload hx hb dL_isRefused_422 (lv_at hl 6 rfl) ?_
  refine vx_calli (vx_runSX (As := [.ref h, .int 0, .int 9]) (rest := []) ⟨hx, hb, hml, hown, hts⟩ (k_of_in_t l hl0 D cI cZ cJ H56.size h a0 a1 a2 a3 a4 a5 a6 a7 a8 a9 a10 z0 z0 z0 z0 zf4 zf5 z0 z0 z0 z0 z0 0 0 0 0 9 (by decide +kernel)) (vx_cwSW 3 hts gL_isRefused_L_of rfl rfl rfl (by decide +kernel) ⟨Nat.le_of_ble_eq_true rfl, Nat.le_of_ble_eq_true rfl⟩) ⟨zKX_blind, fun U hU hW => ⟨rfl, by rw [hU], zX_on hZ hS (fun _ z => z.elim) hU hW, zP_mk (hP.sub (ws' := w0 cI cZ h a0 a1 a2 a3 a4 a5 a6 a7 a8 a9 a10) [0, 1, 2, 3, 4, 5, 6, 7, 8, 9, 10, 11] rfl) hK hU hW⟩⟩ rfl rfl hl.1 rfl (lv_room (Nat.le_of_ble_eq_true rfl)) dL_isRefused_424 ⟨Nat.le_of_ble_eq_true rfl, Nat.le_of_ble_eq_true rfl⟩) hS (fun _ _ z => z.elim) (fun _ z => z.elim) (fun _ _ z => z.elim) (fun E ce q9 u t H1 locs1 _ _ _ hE _ _ _ _ _ _ => hE.elim) (fun r61 u61 t61 H61 locs ht hvm w61 hB hz1 hk1 hS => ?_)
  have w61 : r61 = (-1041) := w61
  subst w61
  have hB9 : H56.size + 0 ≤ H61.size := by rw [← ht]; exact hB
  have hP := hP.kept (fun k q hk => hk1 q.1 (vx_lt hP hk) (fun z => z))
  have hgr : s.heap.size + 1 ≤ H61.size := by omega
  clear hk1 hz1 hvm ht hB hB9 t61 u61
  refine lv_sipush (v := (-1041)) hx hb dL_isRefused_427 (by decide) ?_
  refine lv_icmp_ne (tgt := 437) hx hb dL_isRefused_430 (by decide) (fun c9 => False.elim (by revert c9; decide)) (fun _ => ?_)
  refine lv_iconst (v := 1) hx hb dL_isRefused_433 (by decide) ?_
  refine lv_goto (tgt := 438) hx hb dL_isRefused_434 (by decide) ?_
  refine lv_istore (lv' := [(10, .int 1), (11, .int 0), (8, .long 547619638806036508), (7, .int 0), (6, .int 0), (5, .int 9), (4, .int 9), (3, .int 0), (0, .ref h), (1, .ref ma), (2, .int 1)]) hx hb dL_isRefused_438 hl (by decide) rfl (fun ls hl => ?_)
  refine lv_iinc (v := 1) (lv' := [(11, .int 1), (10, .int 1), (8, .long 547619638806036508), (7, .int 0), (6, .int 0), (5, .int 9), (4, .int 9), (3, .int 0), (0, .ref h), (1, .ref ma), (2, .int 1)]) hx hb dL_isRefused_440 hl (k := 1) rfl (by decide) (by decide) rfl (fun ls hl => ?_)
  refine lv_goto (tgt := 402) hx hb dL_isRefused_443 (by decide) ?_
  refine lv_iload hx hb dL_isRefused_402 (lv_at hl 0 rfl) ?_
  refine lv_iconst (v := 5) hx hb dL_isRefused_404 (by decide) ?_
  refine lv_icmp_ge (tgt := 446) hx hb dL_isRefused_405 (by decide) (fun c9 => False.elim (by revert c9; decide)) (fun _ => ?_)
  refine lv_iload hx hb dL_isRefused_408 (lv_at hl 1 rfl) ?_
  refine lv_if_eq (tgt := 446) hx hb dL_isRefused_410 (by decide) (fun c9 => False.elim (by revert c9; decide)) (fun _ => ?_)
  refine lv_iload hx hb dL_isRefused_413 (lv_at hl 0 rfl) ?_
  refine lv_iconst (v := 3) hx hb dL_isRefused_415 (by decide) ?_
  refine lv_icmp_eq (tgt := 433) hx hb dL_isRefused_416 (by decide) (fun c9 => False.elim (by revert c9; decide)) (fun _ => ?_)
  refine lv_aload_n hx hb dL_isRefused_419 rfl (lv_at hl 8 rfl) ?_
  refine lv_iload hx hb dL_isRefused_420 (lv_at hl 0 rfl) ?_
  refine lv_iload hx hb dL_isRefused_422 (lv_at hl 6 rfl) ?_
  refine vx_calli (vx_runSX (As := [.ref h, .int 1, .int 9]) (rest := []) ⟨hx, hb, hml, hown, hts⟩ (k_of_inByBook_t l hl0 D cI cZ cJ H61.size h a0 a1 a2 a3 a4 a5 a6 a7 a8 a9 a10 z0 z0 z0 z0 zf4 zf5 z0 z0 z0 z0 z0 0 0 0 0 9 (by decide +kernel)) (vx_cwSW 3 hts gL_isRefused_L_of rfl rfl rfl (by decide +kernel) ⟨Nat.le_of_ble_eq_true rfl, Nat.le_of_ble_eq_true rfl⟩) ⟨zKX_blind, fun U hU hW => ⟨rfl, by rw [hU], zX_on hZ hS (fun _ z => z.elim) hU hW, zP_mk (hP.sub (ws' := w0 cI cZ h a0 a1 a2 a3 a4 a5 a6 a7 a8 a9 a10) [0, 1, 2, 3, 4, 5, 6, 7, 8, 9, 10, 11] rfl) hK hU hW⟩⟩ rfl rfl hl.1 rfl (lv_room (Nat.le_of_ble_eq_true rfl)) dL_isRefused_424 ⟨Nat.le_of_ble_eq_true rfl, Nat.le_of_ble_eq_true rfl⟩) hS (fun _ _ z => z.elim) (fun _ z => z.elim) (fun _ _ z => z.elim) (fun E ce q9 u t H1 locs1 _ _ _ hE _ _ _ _ _ _ => hE.elim) (fun r66 u66 t66 H66 locs ht hvm w66 hB hz1 hk1 hS => ?_)
  have w66 : r66 = (-1041) := w66
  subst w66
  have hB9 : H61.size + 0 ≤ H66.size := by rw [← ht]; exact hB
  have hP := hP.kept (fun k q hk => hk1 q.1 (vx_lt hP hk) (fun z => z))
  have hgr : s.heap.size + 1 ≤ H66.size := by omega
  clear hk1 hz1 hvm ht hB hB9 t66 u66
  refine lv_sipush (v := (-1041)) hx hb dL_isRefused_427 (by decide) ?_
  refine lv_icmp_ne (tgt := 437) hx hb dL_isRefused_430 (by decide) (fun c9 => False.elim (by revert c9; decide)) (fun _ => ?_)
  refine lv_iconst (v := 1) hx hb dL_isRefused_433 (by decide) ?_
  refine lv_goto (tgt := 438) hx hb dL_isRefused_434 (by decide) ?_
  refine lv_istore (lv' := [(10, .int 1), (11, .int 1), (8, .long 547619638806036508), (7, .int 0), (6, .int 0), (5, .int 9), (4, .int 9), (3, .int 0), (0, .ref h), (1, .ref ma), (2, .int 1)]) hx hb dL_isRefused_438 hl (by decide) rfl (fun ls hl => ?_)
  refine lv_iinc (v := 2) (lv' := [(11, .int 2), (10, .int 1), (8, .long 547619638806036508), (7, .int 0), (6, .int 0), (5, .int 9), (4, .int 9), (3, .int 0), (0, .ref h), (1, .ref ma), (2, .int 1)]) hx hb dL_isRefused_440 hl (k := 1) rfl (by decide) (by decide) rfl (fun ls hl => ?_)
  refine lv_goto (tgt := 402) hx hb dL_isRefused_443 (by decide) ?_
  refine lv_iload hx hb dL_isRefused_402 (lv_at hl 0 rfl) ?_
  refine lv_iconst (v := 5) hx hb dL_isRefused_404 (by decide) ?_
  refine lv_icmp_ge (tgt := 446) hx hb dL_isRefused_405 (by decide) (fun c9 => False.elim (by revert c9; decide)) (fun _ => ?_)
  refine lv_iload hx hb dL_isRefused_408 (lv_at hl 1 rfl) ?_
  refine lv_if_eq (tgt := 446) hx hb dL_isRefused_410 (by decide) (fun c9 => False.elim (by revert c9; decide)) (fun _ => ?_)
  refine lv_iload hx hb dL_isRefused_413 (lv_at hl 0 rfl) ?_
  refine lv_iconst (v := 3) hx hb dL_isRefused_415 (by decide) ?_
  refine lv_icmp_eq (tgt := 433) hx hb dL_isRefused_416 (by decide) (fun c9 => False.elim (by revert c9; decide)) (fun _ => ?_)
  refine lv_aload_n hx hb dL_isRefused_419 rfl (lv_at hl 8 rfl) ?_
  refine lv_iload hx hb dL_isRefused_420 (lv_at hl 0 rfl) ?_
  refine lv_iload hx hb dL_isRefused_422 (lv_at hl 6 rfl) ?_
  refine vx_calli (vx_runSX (As := [.ref h, .int 2, .int 9]) (rest := []) ⟨hx, hb, hml, hown, hts⟩ (k_of_speaker_t l hl0 D cI cZ cJ H66.size h a0 a1 a2 a3 a4 a5 a6 a7 a8 a9 a10 z0 z0 z0 z0 zf4 zf5 z0 z0 z0 z0 z0 0 0 0 0 9 (by decide +kernel)) (vx_cwSW 3 hts gL_isRefused_L_of rfl rfl rfl (by decide +kernel) ⟨Nat.le_of_ble_eq_true rfl, Nat.le_of_ble_eq_true rfl⟩) ⟨zKX_blind, fun U hU hW => ⟨rfl, by rw [hU], zX_on hZ hS (fun _ z => z.elim) hU hW, zP_mk (hP.sub (ws' := w0 cI cZ h a0 a1 a2 a3 a4 a5 a6 a7 a8 a9 a10) [0, 1, 2, 3, 4, 5, 6, 7, 8, 9, 10, 11] rfl) hK hU hW⟩⟩ rfl rfl hl.1 rfl (lv_room (Nat.le_of_ble_eq_true rfl)) dL_isRefused_424 ⟨Nat.le_of_ble_eq_true rfl, Nat.le_of_ble_eq_true rfl⟩) hS (fun _ _ z => z.elim) (fun _ z => z.elim) (fun _ _ z => z.elim) (fun E ce q9 u t H1 locs1 _ _ _ hE _ _ _ _ _ _ => hE.elim) (fun r71 u71 t71 H71 locs ht hvm w71 hB hz1 hk1 hS => ?_)
  have w71 : r71 = (-1041) := w71
  subst w71
  have hB9 : H66.size + 0 ≤ H71.size := by rw [← ht]; exact hB
  have hP := hP.kept (fun k q hk => hk1 q.1 (vx_lt hP hk) (fun z => z))
  have hgr : s.heap.size + 1 ≤ H71.size := by omega
  clear hk1 hz1 hvm ht hB hB9 t71 u71
  refine lv_sipush (v := (-1041)) hx hb dL_isRefused_427 (by decide) ?_
  refine lv_icmp_ne (tgt := 437) hx hb dL_isRefused_430 (by decide) (fun c9 => False.elim (by revert c9; decide)) (fun _ => ?_)
  refine lv_iconst (v := 1) hx hb dL_isRefused_433 (by decide) ?_
  refine lv_goto (tgt := 438) hx hb dL_isRefused_434 (by decide) ?_
  refine lv_istore (lv' := [(10, .int 1), (11, .int 2), (8, .long 547619638806036508), (7, .int 0), (6, .int 0), (5, .int 9), (4, .int 9), (3, .int 0), (0, .ref h), (1, .ref ma), (2, .int 1)]) hx hb dL_isRefused_438 hl (by decide) rfl (fun ls hl => ?_)
  refine lv_iinc (v := 3) (lv' := [(11, .int 3), (10, .int 1), (8, .long 547619638806036508), (7, .int 0), (6, .int 0), (5, .int 9), (4, .int 9), (3, .int 0), (0, .ref h), (1, .ref ma), (2, .int 1)]) hx hb dL_isRefused_440 hl (k := 1) rfl (by decide) (by decide) rfl (fun ls hl => ?_)
  refine lv_goto (tgt := 402) hx hb dL_isRefused_443 (by decide) ?_
  refine lv_iload hx hb dL_isRefused_402 (lv_at hl 0 rfl) ?_
  refine lv_iconst (v := 5) hx hb dL_isRefused_404 (by decide) ?_
  refine lv_icmp_ge (tgt := 446) hx hb dL_isRefused_405 (by decide) (fun c9 => False.elim (by revert c9; decide)) (fun _ => ?_)
  refine lv_iload hx hb dL_isRefused_408 (lv_at hl 1 rfl) ?_
  refine lv_if_eq (tgt := 446) hx hb dL_isRefused_410 (by decide) (fun c9 => False.elim (by revert c9; decide)) (fun _ => ?_)
  refine lv_iload hx hb dL_isRefused_413 (lv_at hl 0 rfl) ?_
  refine lv_iconst (v := 3) hx hb dL_isRefused_415 (by decide) ?_
  refine lv_icmp_eq (tgt := 433) hx hb dL_isRefused_416 (by decide) (fun _ => ?_) (fun c9 => False.elim (by revert c9; decide))
  refine lv_iconst (v := 1) hx hb dL_isRefused_433 (by decide) ?_
  refine lv_goto (tgt := 438) hx hb dL_isRefused_434 (by decide) ?_
  refine lv_istore (lv' := [(10, .int 1), (11, .int 3), (8, .long 547619638806036508), (7, .int 0), (6, .int 0), (5, .int 9), (4, .int 9), (3, .int 0), (0, .ref h), (1, .ref ma), (2, .int 1)]) hx hb dL_isRefused_438 hl (by decide) rfl (fun ls hl => ?_)
  refine lv_iinc (v := 4) (lv' := [(11, .int 4), (10, .int 1), (8, .long 547619638806036508), (7, .int 0), (6, .int 0), (5, .int 9), (4, .int 9), (3, .int 0), (0, .ref h), (1, .ref ma), (2, .int 1)]) hx hb dL_isRefused_440 hl (k := 1) rfl (by decide) (by decide) rfl (fun ls hl => ?_)
  refine lv_goto (tgt := 402) hx hb dL_isRefused_443 (by decide) ?_
  refine lv_iload hx hb dL_isRefused_402 (lv_at hl 0 rfl) ?_
  refine lv_iconst (v := 5) hx hb dL_isRefused_404 (by decide) ?_
  refine lv_icmp_ge (tgt := 446) hx hb dL_isRefused_405 (by decide) (fun c9 => False.elim (by revert c9; decide)) (fun _ => ?_)
  refine lv_iload hx hb dL_isRefused_408 (lv_at hl 1 rfl) ?_
  refine lv_if_eq (tgt := 446) hx hb dL_isRefused_410 (by decide) (fun c9 => False.elim (by revert c9; decide)) (fun _ => ?_)
  refine lv_iload hx hb dL_isRefused_413 (lv_at hl 0 rfl) ?_
  refine lv_iconst (v := 3) hx hb dL_isRefused_415 (by decide) ?_
  refine lv_icmp_eq (tgt := 433) hx hb dL_isRefused_416 (by decide) (fun c9 => False.elim (by revert c9; decide)) (fun _ => ?_)
  refine lv_aload_n hx hb dL_isRefused_419 rfl (lv_at hl 8 rfl) ?_
  refine lv_iload hx hb dL_isRefused_420 (lv_at hl 0 rfl) ?_
  refine lv_iload hx hb dL_isRefused_422 (lv_at hl 6 rfl) ?_
  refine vx_calli (vx_runSX (As := [.ref h, .int 4, .int 9]) (rest := []) ⟨hx, hb, hml, hown, hts⟩ (k_of_share_t1 l hl0 D cI cZ cJ H71.size h a0 a1 a2 a3 a4 a5 a6 a7 a8 a9 a10 z0 z0 z0 z0 zf4 zf5 z0 z0 z0 z0 z0 0 0 0 0 9 (by decide +kernel)) (vx_cwSW 3 hts gL_isRefused_L_of rfl rfl rfl (by decide +kernel) ⟨Nat.le_of_ble_eq_true rfl, Nat.le_of_ble_eq_true rfl⟩) ⟨zKX_blind, fun U hU hW => ⟨rfl, by rw [hU], zX_on hZ hS (fun _ z => z.elim) hU hW, zP_mk (hP.sub (ws' := w0 cI cZ h a0 a1 a2 a3 a4 a5 a6 a7 a8 a9 a10) [0, 1, 2, 3, 4, 5, 6, 7, 8, 9, 10, 11] rfl) hK hU hW⟩⟩ rfl rfl hl.1 rfl (lv_room (Nat.le_of_ble_eq_true rfl)) dL_isRefused_424 ⟨Nat.le_of_ble_eq_true rfl, Nat.le_of_ble_eq_true rfl⟩) hS (fun _ _ z => z.elim) (fun _ z => z.elim) (fun _ _ z => z.elim) (fun E ce q9 u t H1 locs1 _ _ _ hE _ _ _ _ _ _ => hE.elim) (fun r79 u79 t79 H79 locs ht hvm w79 hB hz1 hk1 hS => ?_)
  have w79 : r79 = (-1041) := w79
  subst w79
  have hB9 : H71.size + 0 ≤ H79.size := by rw [← ht]; exact hB
  have hP := hP.kept (fun k q hk => hk1 q.1 (vx_lt hP hk) (fun z => z))
  have hgr : s.heap.size + 1 ≤ H79.size := by omega
  clear hk1 hz1 hvm ht hB hB9 t79 u79
  refine lv_sipush (v := (-1041)) hx hb dL_isRefused_427 (by decide) ?_
  refine lv_icmp_ne (tgt := 437) hx hb dL_isRefused_430 (by decide) (fun c9 => False.elim (by revert c9; decide)) (fun _ => ?_)
  refine lv_iconst (v := 1) hx hb dL_isRefused_433 (by decide) ?_
  refine lv_goto (tgt := 438) hx hb dL_isRefused_434 (by decide) ?_
  refine lv_istore (lv' := [(10, .int 1), (11, .int 4), (8, .long 547619638806036508), (7, .int 0), (6, .int 0), (5, .int 9), (4, .int 9), (3, .int 0), (0, .ref h), (1, .ref ma), (2, .int 1)]) hx hb dL_isRefused_438 hl (by decide) rfl (fun ls hl => ?_)
  refine lv_iinc (v := 5) (lv' := [(11, .int 5), (10, .int 1), (8, .long 547619638806036508), (7, .int 0), (6, .int 0), (5, .int 9), (4, .int 9), (3, .int 0), (0, .ref h), (1, .ref ma), (2, .int 1)]) hx hb dL_isRefused_440 hl (k := 1) rfl (by decide) (by decide) rfl (fun ls hl => ?_)
  refine lv_goto (tgt := 402) hx hb dL_isRefused_443 (by decide) ?_
  refine lv_iload hx hb dL_isRefused_402 (lv_at hl 0 rfl) ?_
  refine lv_iconst (v := 5) hx hb dL_isRefused_404 (by decide) ?_
  refine lv_icmp_ge (tgt := 446) hx hb dL_isRefused_405 (by decide) (fun _ => ?_) (fun c9 => False.elim (by revert c9; decide))
  refine lv_iconst (v := 0) hx hb dL_isRefused_446 (by decide) ?_
  refine lv_istore (lv' := [(11, .int 0), (10, .int 1), (8, .long 547619638806036508), (7, .int 0), (6, .int 0), (5, .int 9), (4, .int 9), (3, .int 0), (0, .ref h), (1, .ref ma), (2, .int 1)]) hx hb dL_isRefused_447 hl (by decide) rfl (fun ls hl => ?_)
  refine lv_iload hx hb dL_isRefused_449 (lv_at hl 0 rfl) ?_
  refine lv_iload hx hb dL_isRefused_451 (lv_at hl 3 rfl) ?_
  refine lv_icmp_ge (tgt := 489) hx hb dL_isRefused_453 (by decide) (fun _ => ?_) (fun c9 => False.elim (by revert c9; decide))
  refine lv_iload hx hb dL_isRefused_489 (lv_at hl 1 rfl) ?_
  refine lv_if_eq (tgt := 595) hx hb dL_isRefused_491 (by decide) (fun c9 => False.elim (by revert c9; decide)) (fun _ => ?_)
  refine lv_aload_n hx hb dL_isRefused_494 rfl (lv_at hl 8 rfl) ?_
  refine vp_callSi (W.runV (As := []) (rest := []) ⟨hx, hb, hml, hown, hts⟩ (c_X0_current l D cI cZ cJ h a0 a1 a2 a3 a4 a5 a6 a7 a8 a9 a10 z0 z0 z0 z0 zf4 zf5 z0 z0 z0 z0 z0 0 0 0 0) (cwV 0 hts gL_isRefused_X0_current rfl rfl rfl (by decide +kernel) ⟨Nat.le_of_ble_eq_true rfl, Nat.le_of_ble_eq_true rfl⟩) ⟨zP_blind, va_recv hK hP (ci := 0) (q0 := 0) rfl rfl, fun U hU hW => ⟨rfl, zP_mk (hP.sub (ws' := w0 cI cZ h a0 a1 a2 a3 a4 a5 a6 a7 a8 a9 a10) [0, 1, 2, 3, 4, 5, 6, 7, 8, 9, 10, 11] rfl) hK hU hW⟩⟩ rfl rfl hl.1 rfl (lv_room (Nat.le_of_ble_eq_true rfl)) dL_isRefused_495 ⟨Nat.le_of_ble_eq_true rfl, Nat.le_of_ble_eq_true rfl⟩) (fun r84 w84 => ?_)
  have w84 : r84 = (-1) := w84.trans (by decide +kernel)
  subst w84
  refine lv_if_ge (tgt := 530) hx hb dL_isRefused_498 (by decide) (fun c9 => False.elim (by revert c9; decide)) (fun _ => ?_)
  refine lv_aload_n hx hb dL_isRefused_501 rfl (lv_at hl 8 rfl) ?_
  refine lv_bipush (v := 7) hx hb dL_isRefused_502 (by decide) ?_
  refine lv_iload hx hb dL_isRefused_504 (lv_at hl 4 rfl) ?_
  refine lv_iconst (v := 1) hx hb dL_isRefused_506 (by decide) ?_
  refine vx_calli (vx_runSX (As := [.ref h, .int 7, .int 0, .int 1]) (rest := []) ⟨hx, hb, hml, hown, hts⟩ (k_act_vote_t3 l hl0 D cI cZ cJ H79.size h a0 a1 a2 a3 a4 a5 a6 a7 a8 a9 a10 z0 z0 z0 z0 zf4 zf5 z0 z0 z0 z0 z0 0 0 0 0 0 1 (by decide +kernel) (by decide +kernel) (by decide +kernel)) (vx_cwSW 4 hts gL_isRefused_L_act rfl rfl rfl (by decide +kernel) ⟨Nat.le_of_ble_eq_true rfl, Nat.le_of_ble_eq_true rfl⟩) ⟨zKX_blind, fun U hU hW => ⟨rfl, by rw [hU], zX_on hZ hS (fun _ z => z.elim) hU hW, zP_mk (hP.sub (ws' := w0 cI cZ h a0 a1 a2 a3 a4 a5 a6 a7 a8 a9 a10) [0, 1, 2, 3, 4, 5, 6, 7, 8, 9, 10, 11] rfl) hK hU hW⟩⟩ rfl rfl hl.1 rfl (lv_room (Nat.le_of_ble_eq_true rfl)) dL_isRefused_507 ⟨Nat.le_of_ble_eq_true rfl, Nat.le_of_ble_eq_true rfl⟩) hS (fun _ _ z => z.elim) (fun _ z => z.elim) (fun _ _ z => z.elim) (fun E ce q9 u t H1 locs1 _ _ _ hE _ _ _ _ _ _ => hE.elim) (fun r86 u86 t86 H86 locs ht hvm w86 hB hz1 hk1 hS => ?_)
  have w86 : r86 = (-1043) := w86
  subst w86
  have hB9 : H79.size + 0 ≤ H86.size := by rw [← ht]; exact hB
  have hP := hP.kept (fun k q hk => hk1 q.1 (vx_lt hP hk) (fun z => z))
  have hgr : s.heap.size + 1 ≤ H86.size := by omega
  clear hk1 hz1 hvm ht hB hB9 t86 u86
  refine lv_sipush (v := (-1043)) hx hb dL_isRefused_510 (by decide) ?_
  refine lv_icmp_ne (tgt := 595) hx hb dL_isRefused_513 (by decide) (fun c9 => False.elim (by revert c9; decide)) (fun _ => ?_)
  refine lv_aload_n hx hb dL_isRefused_516 rfl (lv_at hl 8 rfl) ?_
  refine lv_bipush (v := 8) hx hb dL_isRefused_517 (by decide) ?_
  refine lv_iconst (v := 0) hx hb dL_isRefused_519 (by decide) ?_
  refine lv_iconst (v := 0) hx hb dL_isRefused_520 (by decide) ?_
  refine vx_calli (vx_runSX (As := [.ref h, .int 8, .int 0, .int 0]) (rest := []) ⟨hx, hb, hml, hown, hts⟩ (k_act_release_t l hl0 D cI cZ cJ H86.size h a0 a1 a2 a3 a4 a5 a6 a7 a8 a9 a10 z0 z0 z0 z0 zf4 zf5 z0 z0 z0 z0 z0 0 0 0 0 0 0 (by decide +kernel) (by decide +kernel)) (vx_cwSW 4 hts gL_isRefused_L_act rfl rfl rfl (by decide +kernel) ⟨Nat.le_of_ble_eq_true rfl, Nat.le_of_ble_eq_true rfl⟩) ⟨zKX_blind, fun U hU hW => ⟨rfl, by rw [hU], zX_on hZ hS (fun _ z => z.elim) hU hW, zP_mk (hP.sub (ws' := w0 cI cZ h a0 a1 a2 a3 a4 a5 a6 a7 a8 a9 a10) [0, 1, 2, 3, 4, 5, 6, 7, 8, 9, 10, 11] rfl) hK hU hW⟩⟩ rfl rfl hl.1 rfl (lv_room (Nat.le_of_ble_eq_true rfl)) dL_isRefused_521 ⟨Nat.le_of_ble_eq_true rfl, Nat.le_of_ble_eq_true rfl⟩) hS (fun _ _ z => z.elim) (fun _ z => z.elim) (fun _ _ z => z.elim) (fun E ce q9 u t H1 locs1 _ _ _ hE _ _ _ _ _ _ => hE.elim) (fun r88 u88 t88 H88 locs ht hvm w88 hB hz1 hk1 hS => ?_)
  have w88 : r88 = (-1043) := w88
  subst w88
  have hB9 : H86.size + 0 ≤ H88.size := by rw [← ht]; exact hB
  have hP := hP.kept (fun k q hk => hk1 q.1 (vx_lt hP hk) (fun z => z))
  have hgr : s.heap.size + 1 ≤ H88.size := by omega
  clear hk1 hz1 hvm ht hB hB9 t88 u88
  refine lv_sipush (v := (-1043)) hx hb dL_isRefused_524 (by decide) ?_
  refine lv_icmp_ne (tgt := 595) hx hb dL_isRefused_527 (by decide) (fun c9 => False.elim (by revert c9; decide)) (fun _ => ?_)
  refine lv_aload_n hx hb dL_isRefused_530 rfl (lv_at hl 9 rfl) ?_
  refine lv_iconst (v := 0) hx hb dL_isRefused_531 (by decide) ?_
  refine va_iald (D := D) hx hb hK hP 12 0 rfl rfl (vp_in_iff.mpr (by decide +kernel)) dL_isRefused_532 ?_
  refine lv_topi (fun y90 hy90 => ?_)
  have hy90 : y90 = 0 := hy90.trans (by decide +kernel)
  subst hy90
  refine lv_bipush (v := 6) hx hb dL_isRefused_533 (by decide) ?_
  refine lv_icmp_lt (tgt := 556) hx hb dL_isRefused_535 (by decide) (fun _ => ?_) (fun c9 => False.elim (by revert c9; decide))
  refine lv_aload_n hx hb dL_isRefused_556 rfl (lv_at hl 8 rfl) ?_
  refine lv_iload hx hb dL_isRefused_557 (lv_at hl 4 rfl) ?_
  refine vp_callSi (W.runV (As := [.int 0]) (rest := []) ⟨hx, hb, hml, hown, hts⟩ (c_X0_in l D cI cZ cJ h a0 a1 a2 a3 a4 a5 a6 a7 a8 a9 a10 z0 z0 z0 z0 zf4 zf5 z0 z0 z0 z0 z0 0 0 0 0 0 (by decide +kernel)) (cwV 1 hts gL_isRefused_X0_in rfl rfl rfl (by decide +kernel) ⟨Nat.le_of_ble_eq_true rfl, Nat.le_of_ble_eq_true rfl⟩) ⟨zP_blind, va_recv hK hP (ci := 0) (q0 := 0) rfl rfl, fun U hU hW => ⟨rfl, zP_mk (hP.sub (ws' := w0 cI cZ h a0 a1 a2 a3 a4 a5 a6 a7 a8 a9 a10) [0, 1, 2, 3, 4, 5, 6, 7, 8, 9, 10, 11] rfl) hK hU hW⟩⟩ rfl rfl hl.1 rfl (lv_room (Nat.le_of_ble_eq_true rfl)) dL_isRefused_559 ⟨Nat.le_of_ble_eq_true rfl, Nat.le_of_ble_eq_true rfl⟩) (fun r92 w92 => ?_)
  have w92 : r92 = 0 := w92.trans (by decide +kernel)
  subst w92
  refine lv_ldc hx hb hown (hts (.constant RL 101 (100000)) (by decide +kernel)) dL_isRefused_562 ?_
  refine lv_icmp_lt (tgt := 581) hx hb dL_isRefused_564 (by decide) (fun _ => ?_) (fun c9 => False.elim (by revert c9; decide))
  refine lv_aload_n hx hb dL_isRefused_581 rfl (lv_at hl 8 rfl) ?_
  refine vx_calll (vx_runS (As := [.ref h]) (rest := []) ⟨hx, hb, hml, hown, hts⟩ (k_all l hl0 D cI cZ cJ H88.size h a0 a1 a2 a3 a4 a5 a6 a7 a8 a9 a10) (va_cwS 1 hts gL_isRefused_L_all rfl rfl rfl (by decide +kernel) ⟨Nat.le_of_ble_eq_true rfl, Nat.le_of_ble_eq_true rfl⟩) ⟨zKX_blind, fun U hU hW => ⟨rfl, by rw [hU], zX_on hZ hS (fun _ z => z.elim) hU hW, zP_mk (hP.sub (ws' := w0 cI cZ h a0 a1 a2 a3 a4 a5 a6 a7 a8 a9 a10) [0, 1, 2, 3, 4, 5, 6, 7, 8, 9, 10, 11] rfl) hK hU hW⟩⟩ rfl rfl hl.1 rfl (lv_room (Nat.le_of_ble_eq_true rfl)) dL_isRefused_582 ⟨Nat.le_of_ble_eq_true rfl, Nat.le_of_ble_eq_true rfl⟩) hS (fun _ _ z => z.elim) (fun _ z => z.elim) (fun _ _ z => z.elim) (fun E ce q9 u t H1 locs1 _ _ _ hE _ _ _ _ _ _ => hE.elim) (fun r94 u94 t94 H94 locs ht hvm w94 hB hz1 hk1 hS => ?_)
  have w94 : r94 = 547619638806036508 := w94
  subst w94
  have hB9 : H88.size + 1 ≤ H94.size := by rw [← ht]; exact hB
  have hP := hP.kept (fun k q hk => hk1 q.1 (vx_lt hP hk) (fun z => z))
  have hgr : s.heap.size + 2 ≤ H94.size := by omega
  clear hk1 hz1 hvm ht hB hB9 t94 u94
  refine lv_lload hx hb dL_isRefused_585 (lv_at hl 2 rfl) ?_
  refine W.lcmp hx hb dL_isRefused_587 ?_
  refine lv_topi (fun y95 hy95 => ?_)
  have hy95 : y95 = 0 := hy95.trans (by decide +kernel)
  subst hy95
  refine lv_if_ne (tgt := 595) hx hb dL_isRefused_588 (by decide) (fun c9 => False.elim (by revert c9; decide)) (fun _ => ?_)
  refine lv_iconst (v := 1) hx hb dL_isRefused_591 (by decide) ?_
  refine lv_goto (tgt := 596) hx hb dL_isRefused_592 (by decide) ?_
  refine W.widen (k := 38) (n := 228) (Nat.le_of_ble_eq_true rfl) (Nat.le_of_ble_eq_true rfl) ?_
  refine vx_ret ?_
  exact W.zret (v := 1) hx hb hr rfl (fun t ht hW => ⟨⟨1, (), rfl, rfl, by show s.heap.size + 2 ≤ t.heap.size; rw [ht]; exact hgr⟩, hS.F ht⟩) hS.2.2 dL_isRefused_596
