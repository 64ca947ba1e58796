/-! THE LAW ON A SCRIPT OF 30s -/
theorem zN_blind9 {av : List Value} {b L : Nat} {xs : Nat → Int32} : FrameBlind (va_Pc av (fun U => va_X b L xs U U.heap ∧ b < U.heap.size)) := fun a U g mk q => ⟨q.1, va_X.moved (u := U) (U := U.calling g mk a) (Vm.Alike.refl U.vm) q.2.1, q.2.2⟩
set_option maxHeartbeats 4000000 in
set_option maxRecDepth 100000 in
theorem k_dice (l : Launch) (b L i : Nat) (xs : Nat → Int32) (hi : i < L) (hL : L < 2147483648) (hv : xs i = 30) : Met l yL_dice wsL_dice ({ frames := 0, cells := 0, slots := 0, locals := 0 }) (va_Pc [.ref b, .int (nI i)] (fun U => va_X b L xs U U.heap ∧ b < U.heap.size)) (vp_Si (fun r : Int32 => r = 30)) 0 0 (fun _ => False) := by
  refine Met.ofW (cc := cL_dice) (maxL := 2) (ret := (some .int)) (by decide) rfl ?_
  intro p e s m args below meth c s₁ B hml hv9
  obtain ⟨rfl, hX, hbl⟩ := hv9
  have hx := B.exec
  have hb := B.bytes
  have hr := B.returns
  have hts := atoms_spec (ws := wsL_dice) B.pre
  have hown : s.vm.findClass RL = some m.cls := findClass_of_methodNamed B.named
  have hlocks := B.notSynchronized
  have hS : va_S (fun _ : Nat => False) s.heap s.heap [] := va_S.rf
  have hl := lv_entry ([.ref b, .int (nI i)]) (n := 2) (Nat.le_of_ble_eq_true rfl)
  rw [lg_entry_eq]
  generalize (lg_sl ([.ref b, .int (nI i)]) ++ List.replicate (2 - (lg_sl ([.ref b, .int (nI i)])).length) Slot.unset).toArray = ls at hl ⊢
  have hl : lv_has ls 2 [(0, .ref b), (1, .int (nI i))] := hl
  refine lv_iload_n hx hb dL_dice_0 rfl (lv_at hl 1 rfl) ?_
  refine lv_aload_n hx hb dL_dice_1 rfl (lv_at hl 0 rfl) ?_
  refine va_slen hx hb hX hbl (fun z => z) hS dL_dice_2 ?_
  refine lv_icmp_ge (tgt := 12) hx hb dL_dice_3 (by decide) (fun c1 => False.elim ?_) (fun _ => ?_)
  · have c2 : nI L ≤ nI i := c1
    rw [z_le, nI_toInt (by omega), nI_toInt (by omega)] at c2
    omega
  refine lv_aload_n hx hb dL_dice_6 rfl (lv_at hl 0 rfl) ?_
  refine lv_iload_n hx hb dL_dice_7 rfl (lv_at hl 1 rfl) ?_
  refine va_sld hx hb hX hbl (fun z => z) hS (vp_in_nI hi (by omega)) dL_dice_8 ?_
  rw [nI_clamp (by omega), hv]
  refine lv_goto (tgt := 31) hx hb dL_dice_9 (by decide) ?_
  refine lv_ldc hx hb hown (hts (.constant RL 8 (2147483647)) (by decide +kernel)) dL_dice_31 ?_
  refine lv_iand hx hb dL_dice_33 ?_
  refine lv_topi (fun y1 hy1 => ?_)
  have hy1 : y1 = 30 := hy1.trans (by decide +kernel)
  subst hy1
  exact W.iret (v := 30) hx hb hr (fun t ht hW => ⟨30, rfl, rfl, ht⟩) (fun _ h => nomatch h) dL_dice_34
def r_room : Room := { frames := 16, cells := 6500, slots := 40000, locals := 700 }
def zC (p : Program) (s : State) (m : MethodId) (c : Code) (b L : Nat) (xs : Nat → Int32) : Prop :=
  p.tables.exec = Jvm.exec ∧ c.code = code ∧ c.maxLocals = 16 ∧ s.vm.findClass RL = some m.cls ∧ (∀ w ∈ lw_tbl, w.before #[Value.ref b] s = true) ∧ va_X b L xs s s.heap ∧ b < s.heap.size
set_option maxHeartbeats 4000000 in
set_option maxRecDepth 100000 in
theorem r_loop {p : Program} {l : Launch} {e : Env} {s : State} {m : MethodId} {below : List Frame} {meth : Method} {c : Code} {Q : State → Prop} {D : va_G} {cI cZ cJ : ClassId} {b L : Nat} {xs : Nat → Int32} {h a0 a1 a2 a3 a4 a5 a6 a7 a8 a9 a10 ga aa ha ma : Nat} (hl0 : l.stackTraces = false) (C0 : zC p s m c b L xs) (hZ : zX s) (hK : va_K D vwCl (zT cI cZ cJ) s) (hL : 130 ≤ L ∧ L ≤ 260) (hxs : ∀ j, j < L → xs j = 30) (hex : ∀ (H : Heap) (locs : List Loc) (cl sl : Nat) (ls : Array Slot), va_S (fun q : Nat => s.heap.size ≤ q) s.heap H locs → s.heap.size + 204 ≤ H.size → cl ≤ 6500 → sl ≤ 40000 → lv_has ls 16 [(6, .int 1)] → W p l e r_room s m #[Value.ref b] below meth c H locs cl sl Q (F0 m 958 ls [])) :
    ∀ (n i cl sl : Nat) (H : Heap) (locs : List Loc) (ls : Array Slot), i + n = 130 → cl + 49 * n ≤ 6500 → sl + 294 * n ≤ 40000 → s.heap.size + 2 * i ≤ H.size → va_P D vwCl (w0 cI cZ h a0 a1 a2 a3 a4 a5 a6 a7 a8 a9 a10 ++ [(ga, .inl (cI, 24, .inl zg)), (aa, .inl (cI, 12, .inl z0)), (ha, .inl (cI, 16, .inl z0)), (ma, .inl (cI, 4, .inl z0))]) H → va_S (fun q : Nat => s.heap.size ≤ q) s.heap H locs → lv_has ls 16 [(0, .ref b), (1, .ref h), (2, .ref ga), (3, .ref aa), (4, .ref ha), (5, .ref ma), (6, .int 1), (7, .int (nI i))] → W p l e r_room s m #[Value.ref b] below meth c H locs cl sl Q (F0 m 89 ls []) := by
  obtain ⟨hx, hb, hml, hown, hts0, hX, hbl⟩ := C0
  have hts := fun w h => hts0 w (wsL_law_in w h)
  intro n
  induction n with
  | zero =>
    intro i cl sl H locs ls h1 h2 h3 h4 hP hS hl
    obtain rfl : i = 130 := by omega
    refine lv_iload hx hb dL_law_89 (lv_at hl 7 rfl) ?_
    refine lv_sipush (v := 130) hx hb dL_law_91 (by decide) ?_
    refine lv_icmp_ge (tgt := 958) hx hb dL_law_94 (by decide) (fun _ => ?_) (fun c1 => False.elim (c1 (by decide)))
    exact hex H locs cl sl ls hS (by omega) (by omega) (by omega) (lv_sub hl [6] rfl)
  | succ n ih =>
    intro i cl sl H locs ls h1 h2 h3 h4 hP hS hl
    have hi9 : i < L := by omega
    have hgr : s.heap.size + (2 * i + 0) ≤ H.size := by omega
    refine lv_iload hx hb dL_law_89 (lv_at hl 7 rfl) ?_
    refine lv_sipush (v := 130) hx hb dL_law_91 (by decide) ?_
    refine lv_icmp_ge (tgt := 958) hx hb dL_law_94 (by decide) (fun c1 => False.elim (by have := (nI_leI (a := 130) (b := i) (by decide) (by omega)).mp c1; omega)) (fun _ => ?_)
    refine W.widen (k := cl + 0) (n := sl + 0) (by omega) (by omega) ?_
    refine lv_iload hx hb dL_law_97 (lv_at hl 6 rfl) ?_
    refine lv_if_eq (tgt := 958) hx hb dL_law_99 (by decide) (fun c9 => False.elim (by revert c9; decide)) (fun _ => ?_)
    refine lv_aload_n hx hb dL_law_102 rfl (lv_at hl 0 rfl) ?_
    refine lv_iload hx hb dL_law_103 (lv_at hl 7 rfl) ?_
    refine vp_callSi (W.runS (As := [.ref b, .int (nI i)]) (rest := []) ⟨hx, hb, hml, hown, hts⟩ (k_dice l b L i xs hi9 (by omega) (hxs i hi9)) (va_cwS 2 hts gL_law_L_dice rfl rfl rfl (by decide +kernel) ⟨Nat.le_of_ble_eq_true rfl, Nat.le_of_ble_eq_true rfl⟩) ⟨zN_blind9, fun U hU hW => ⟨rfl, by rw [hU]; exact va_X.moved hW.alike (hX.kept (hS.2.1 b hbl (Nat.not_le.mpr hbl))), by rw [hU]; exact Nat.lt_of_lt_of_le hbl hS.1⟩⟩ rfl rfl hl.1 rfl (lv_room (Nat.le_of_ble_eq_true rfl)) dL_law_105 ⟨by show cl + 0 + 0 ≤ 6500; omega, by show sl + 0 + 0 ≤ 40000; omega⟩) (fun r2 w2 => ?_)
    subst w2
    refine lv_istore (lv' := [(8, .int 30), (0, .ref b), (1, .ref h), (2, .ref ga), (3, .ref aa), (4, .ref ha), (5, .ref ma), (6, .int 1), (7, .int (nI i))]) hx hb dL_law_108 hl (by decide) rfl (fun ls hl => ?_)
    refine lv_iload hx hb dL_law_110 (lv_at hl 0 rfl) ?_
    refine lv_bipush (v := 32) hx hb dL_law_112 (by decide) ?_
    refine lv_idiv hx hb dL_law_114 (by decide) ?_
    refine lv_topi (fun y3 hy3 => ?_)
    have hy3 : y3 = 0 := hy3.trans (by decide +kernel)
    subst hy3
    refine lv_istore (lv' := [(9, .int 0), (8, .int 30), (0, .ref b), (1, .ref h), (2, .ref ga), (3, .ref aa), (4, .ref ha), (5, .ref ma), (6, .int 1), (7, .int (nI i))]) hx hb dL_law_115 hl (by decide) rfl (fun ls hl => ?_)
    refine lv_iload hx hb dL_law_117 (lv_at hl 1 rfl) ?_
    refine lv_bipush (v := 32) hx hb dL_law_119 (by decide) ?_
    refine lv_irem hx hb dL_law_121 (by decide) ?_
    refine lv_topi (fun y4 hy4 => ?_)
    have hy4 : y4 = 30 := hy4.trans (by decide +kernel)
    subst hy4
    refine lv_istore (lv' := [(10, .int 30), (9, .int 0), (8, .int 30), (0, .ref b), (1, .ref h), (2, .ref ga), (3, .ref aa), (4, .ref ha), (5, .ref ma), (6, .int 1), (7, .int (nI i))]) hx hb dL_law_122 hl (by decide) rfl (fun ls hl => ?_)
    refine lv_iload hx hb dL_law_124 (lv_at hl 1 rfl) ?_
    refine lv_bipush (v := 8) hx hb dL_law_126 (by decide) ?_
    refine lv_irem hx hb dL_law_128 (by decide) ?_
    refine lv_topi (fun y5 hy5 => ?_)
    have hy5 : y5 = 0 := hy5.trans (by decide +kernel)
    subst hy5
    refine lv_istore (lv' := [(11, .int 0), (10, .int 30), (9, .int 0), (8, .int 30), (0, .ref b), (1, .ref h), (2, .ref ga), (3, .ref aa), (4, .ref ha), (5, .ref ma), (6, .int 1), (7, .int (nI i))]) hx hb dL_law_129 hl (by decide) rfl (fun ls hl => ?_)
    refine lv_aload_n hx hb dL_law_131 rfl (lv_at hl 5 rfl) ?_
    refine vp_callSi (W.runV (As := []) (rest := []) ⟨hx, hb, hml, hown, hts⟩ (c_X0_current l D cI cZ cJ h a0 a1 a2 a3 a4 a5 a6 a7 a8 a9 a10 z0 z0 z0 z0 zf4 zf5 z0 z0 z0 z0 z0 0 0 0 0) (cwV 0 hts gL_law_X0_current rfl rfl rfl (by decide +kernel) ⟨Nat.le_of_ble_eq_true rfl, Nat.le_of_ble_eq_true rfl⟩) ⟨zP_blind, va_recv hK hP (ci := 0) (q0 := 0) rfl rfl, fun U hU hW => ⟨rfl, zP_mk (hP.sub (ws' := w0 cI cZ h a0 a1 a2 a3 a4 a5 a6 a7 a8 a9 a10) [0, 1, 2, 3, 4, 5, 6, 7, 8, 9, 10, 11] rfl) hK hU hW⟩⟩ rfl rfl hl.1 rfl (lv_room (Nat.le_of_ble_eq_true rfl)) dL_law_132 ⟨by show cl + 0 + 0 ≤ 6500; omega, by show sl + 0 + 0 ≤ 40000; omega⟩) (fun r6 w6 => ?_)
    have w6 : r6 = (-1) := w6.trans (by decide +kernel)
    subst w6
    refine lv_istore (lv' := [(12, .int (-1)), (11, .int 0), (10, .int 30), (9, .int 0), (8, .int 30), (0, .ref b), (1, .ref h), (2, .ref ga), (3, .ref aa), (4, .ref ha), (5, .ref ma), (6, .int 1), (7, .int (nI i))]) hx hb dL_law_135 hl (by decide) rfl (fun ls hl => ?_)
    refine lv_iload hx hb dL_law_137 (lv_at hl 2 rfl) ?_
    refine lv_bipush (v := 8) hx hb dL_law_139 (by decide) ?_
    refine lv_icmp_ge (tgt := 274) hx hb dL_law_141 (by decide) (fun _ => ?_) (fun c9 => False.elim (by revert c9; decide))
    refine lv_iload hx hb dL_law_274 (lv_at hl 2 rfl) ?_
    refine lv_bipush (v := 8) hx hb dL_law_276 (by decide) ?_
    refine lv_icmp_ne (tgt := 338) hx hb dL_law_278 (by decide) (fun _ => ?_) (fun c9 => False.elim (by revert c9; decide))
    refine lv_iload hx hb dL_law_338 (lv_at hl 2 rfl) ?_
    refine lv_bipush (v := 13) hx hb dL_law_340 (by decide) ?_
    refine lv_icmp_ge (tgt := 379) hx hb dL_law_342 (by decide) (fun _ => ?_) (fun c9 => False.elim (by revert c9; decide))
    refine lv_iload hx hb dL_law_379 (lv_at hl 2 rfl) ?_
    refine lv_bipush (v := 15) hx hb dL_law_381 (by decide) ?_
    refine lv_icmp_ge (tgt := 439) hx hb dL_law_383 (by decide) (fun _ => ?_) (fun c9 => False.elim (by revert c9; decide))
    refine lv_iload hx hb dL_law_439 (lv_at hl 2 rfl) ?_
    refine lv_bipush (v := 15) hx hb dL_law_441 (by decide) ?_
    refine lv_icmp_ne (tgt := 568) hx hb dL_law_443 (by decide) (fun _ => ?_) (fun c9 => False.elim (by revert c9; decide))
    refine lv_iload hx hb dL_law_568 (lv_at hl 2 rfl) ?_
    refine lv_bipush (v := 18) hx hb dL_law_570 (by decide) ?_
    refine lv_icmp_ge (tgt := 699) hx hb dL_law_572 (by decide) (fun _ => ?_) (fun c9 => False.elim (by revert c9; decide))
    refine lv_iload hx hb dL_law_699 (lv_at hl 2 rfl) ?_
    refine lv_bipush (v := 21) hx hb dL_law_701 (by decide) ?_
    refine lv_icmp_ge (tgt := 785) hx hb dL_law_703 (by decide) (fun _ => ?_) (fun c9 => False.elim (by revert c9; decide))
    refine lv_iload hx hb dL_law_785 (lv_at hl 2 rfl) ?_
    refine lv_bipush (v := 28) hx hb dL_law_787 (by decide) ?_
    refine lv_icmp_ge (tgt := 879) hx hb dL_law_789 (by decide) (fun _ => ?_) (fun c9 => False.elim (by revert c9; decide))
    refine lv_aload_n hx hb dL_law_879 rfl (lv_at hl 6 rfl) ?_
    refine lv_aload_n hx hb dL_law_880 rfl (lv_at hl 7 rfl) ?_
    refine lv_aload_n hx hb dL_law_881 rfl (lv_at hl 8 rfl) ?_
    refine lv_aload hx hb dL_law_882 (lv_at hl 9 rfl) ?_
    refine vx_calli (vx_runS (As := [.ref h, .ref ga, .ref aa, .ref ha]) (rest := []) ⟨hx, hb, hml, hown, hts⟩ (k_isReleased l hl0 D cI cZ cJ H.size h a0 a1 a2 a3 a4 a5 a6 a7 a8 a9 a10 ga aa ha) (va_cwS 4 hts gL_law_L_isReleased rfl rfl rfl (by decide +kernel) ⟨Nat.le_of_ble_eq_true rfl, Nat.le_of_ble_eq_true rfl⟩) ⟨zKX_blind, fun U hU hW => ⟨rfl, by rw [hU], zX_on hZ hS (fun _ h => h) hU hW, zP_mk (hP.sub (ws' := w0 cI cZ h a0 a1 a2 a3 a4 a5 a6 a7 a8 a9 a10) [0, 1, 2, 3, 4, 5, 6, 7, 8, 9, 10, 11] rfl) hK hU hW⟩⟩ rfl rfl hl.1 rfl (lv_room (Nat.le_of_ble_eq_true rfl)) dL_law_884 ⟨by show cl + 0 + 1 ≤ 6500; omega, by show sl + 0 + 6 ≤ 40000; omega⟩) hS (fun _ _ z => z.elim) (fun _ z => z.elim) (fun _ _ z => z.elim) (fun E ce q9 u t H1 locs1 _ _ _ hE _ _ _ _ _ _ => hE.elim) (fun r15 u15 t15 H15 locs ht hvm w15 hB hz1 hk1 hS => ?_)
    have w15 : r15 = 1 := w15
    subst w15
    have hB9 : H.size + 0 ≤ H15.size := by rw [← ht]; exact hB
    have hP := hP.kept (fun k q hk => hk1 q.1 (vx_lt hP hk) (fun z => z))
    have hgr : s.heap.size + (2 * i + 0) ≤ H15.size := by omega
    clear hk1 hz1 hvm ht hB hB9 t15 u15
    refine W.widen (k := cl + 1) (n := sl + 6) (by omega) (by omega) ?_
    refine lv_istore (lv' := [(6, .int 1), (12, .int (-1)), (11, .int 0), (10, .int 30), (9, .int 0), (8, .int 30), (0, .ref b), (1, .ref h), (2, .ref ga), (3, .ref aa), (4, .ref ha), (5, .ref ma), (7, .int (nI i))]) hx hb dL_law_887 hl (by decide) rfl (fun ls hl => ?_)
    refine lv_iload hx hb dL_law_889 (lv_at hl 0 rfl) ?_
    refine lv_if_eq (tgt := 949) hx hb dL_law_891 (by decide) (fun c9 => False.elim (by revert c9; decide)) (fun _ => ?_)
    refine lv_aload_n hx hb dL_law_894 rfl (lv_at hl 7 rfl) ?_
    refine lv_aload hx hb dL_law_895 (lv_at hl 11 rfl) ?_
    refine vx_calli (vx_runS (As := [.ref h, .ref ma]) (rest := []) ⟨hx, hb, hml, hown, hts⟩ (k_areSums l hl0 D cI cZ cJ H15.size h a0 a1 a2 a3 a4 a5 a6 a7 a8 a9 a10 ma) (va_cwS 2 hts gL_law_L_areSums rfl rfl rfl (by decide +kernel) ⟨Nat.le_of_ble_eq_true rfl, Nat.le_of_ble_eq_true rfl⟩) ⟨zKX_blind, fun U hU hW => ⟨rfl, by rw [hU], zX_on hZ hS (fun _ h => h) hU hW, zP_mk (hP.sub (ws' := w0 cI cZ h a0 a1 a2 a3 a4 a5 a6 a7 a8 a9 a10 ++ [(ma, .inl (cI, 4, .inl z0))]) [0, 1, 2, 3, 4, 5, 6, 7, 8, 9, 10, 11, 15] rfl) hK hU hW⟩⟩ rfl rfl hl.1 rfl (lv_room (Nat.le_of_ble_eq_true rfl)) dL_law_897 ⟨by show cl + 1 + 0 ≤ 6500; omega, by show sl + 6 + 0 ≤ 40000; omega⟩) hS (fun _ _ z => z.elim) (fun _ z => z.elim) (fun _ _ z => z.elim) (fun E ce q9 u t H1 locs1 _ _ _ hE _ _ _ _ _ _ => hE.elim) (fun r17 u17 t17 H17 locs ht hvm w17 hB hz1 hk1 hS => ?_)
    have w17 : r17 = 1 := w17
    subst w17
    have hB9 : H15.size + 0 ≤ H17.size := by rw [← ht]; exact hB
    have hP := hP.kept (fun k q hk => hk1 q.1 (vx_lt hP hk) (fun z => z))
    have hgr : s.heap.size + (2 * i + 0) ≤ H17.size := by omega
    clear hk1 hz1 hvm ht hB hB9 t17 u17
    refine W.widen (k := cl + 1) (n := sl + 6) (by omega) (by omega) ?_
    refine lv_if_eq (tgt := 949) hx hb dL_law_900 (by decide) (fun c9 => False.elim (by revert c9; decide)) (fun _ => ?_)
    refine lv_aload_n hx hb dL_law_903 rfl (lv_at hl 7 rfl) ?_
    refine lv_aload_n hx hb dL_law_904 rfl (lv_at hl 8 rfl) ?_
    refine vx_calli (vx_runS (As := [.ref h, .ref ga]) (rest := []) ⟨hx, hb, hml, hown, hts⟩ (k_areSpeakers l hl0 D cI cZ cJ H17.size h a0 a1 a2 a3 a4 a5 a6 a7 a8 a9 a10 ga) (va_cwS 2 hts gL_law_L_areSpeakers rfl rfl rfl (by decide +kernel) ⟨Nat.le_of_ble_eq_true rfl, Nat.le_of_ble_eq_true rfl⟩) ⟨zKX_blind, fun U hU hW => ⟨rfl, by rw [hU], zX_on hZ hS (fun _ h => h) hU hW, zP_mk (hP.sub (ws' := w0 cI cZ h a0 a1 a2 a3 a4 a5 a6 a7 a8 a9 a10 ++ [(ga, .inl (cI, 24, .inl zg))]) [0, 1, 2, 3, 4, 5, 6, 7, 8, 9, 10, 11, 12] rfl) hK hU hW⟩⟩ rfl rfl hl.1 rfl (lv_room (Nat.le_of_ble_eq_true rfl)) dL_law_905 ⟨by show cl + 1 + 0 ≤ 6500; omega, by show sl + 6 + 0 ≤ 40000; omega⟩) hS (fun _ _ z => z.elim) (fun _ z => z.elim) (fun _ _ z => z.elim) (fun E ce q9 u t H1 locs1 _ _ _ hE _ _ _ _ _ _ => hE.elim) (fun r19 u19 t19 H19 locs ht hvm w19 hB hz1 hk1 hS => ?_)
    have w19 : r19 = 1 := w19
    subst w19
    have hB9 : H17.size + 0 ≤ H19.size := by rw [← ht]; exact hB
    have hP := hP.kept (fun k q hk => hk1 q.1 (vx_lt hP hk) (fun z => z))
    have hgr : s.heap.size + (2 * i + 0) ≤ H19.size := by omega
    clear hk1 hz1 hvm ht hB hB9 t19 u19
    refine W.widen (k := cl + 1) (n := sl + 6) (by omega) (by omega) ?_
    refine lv_if_eq (tgt := 949) hx hb dL_law_908 (by decide) (fun c9 => False.elim (by revert c9; decide)) (fun _ => ?_)
    refine lv_aload_n hx hb dL_law_911 rfl (lv_at hl 7 rfl) ?_
    refine lv_aload_n hx hb dL_law_912 rfl (lv_at hl 8 rfl) ?_
    refine lv_aload_n hx hb dL_law_913 rfl (lv_at hl 9 rfl) ?_
    refine lv_aload hx hb dL_law_914 (lv_at hl 11 rfl) ?_
    refine lv_aload hx hb dL_law_916 (lv_at hl 10 rfl) ?_
    refine vx_calli (vx_runS (As := [.ref h, .ref ga, .ref aa, .ref ma, .ref ha]) (rest := []) ⟨hx, hb, hml, hown, hts⟩ (k_areShares l hl0 D cI cZ cJ H19.size h a0 a1 a2 a3 a4 a5 a6 a7 a8 a9 a10 ga aa ma ha) (va_cwS 5 hts gL_law_L_areShares rfl rfl rfl (by decide +kernel) ⟨Nat.le_of_ble_eq_true rfl, Nat.le_of_ble_eq_true rfl⟩) ⟨zKX_blind, fun U hU hW => ⟨rfl, by rw [hU], zX_on hZ hS (fun _ h => h) hU hW, zP_mk (hP.sub (ws' := w0 cI cZ h a0 a1 a2 a3 a4 a5 a6 a7 a8 a9 a10) [0, 1, 2, 3, 4, 5, 6, 7, 8, 9, 10, 11] rfl) hK hU hW⟩⟩ rfl rfl hl.1 rfl (lv_room (Nat.le_of_ble_eq_true rfl)) dL_law_918 ⟨by show cl + 1 + 10 ≤ 6500; omega, by show sl + 6 + 60 ≤ 40000; omega⟩) hS (fun _ _ z => z.elim) (fun _ z => z.elim) (fun _ _ z => z.elim) (fun E ce q9 u t H1 locs1 _ _ _ hE _ _ _ _ _ _ => hE.elim) (fun r21 u21 t21 H21 locs ht hvm w21 hB hz1 hk1 hS => ?_)
    have w21 : r21 = 1 := w21
    subst w21
    have hB9 : H19.size + 2 ≤ H21.size := by rw [← ht]; exact hB
    have hP := hP.kept (fun k q hk => hk1 q.1 (vx_lt hP hk) (fun z => z))
    have hgr : s.heap.size + (2 * i + 2) ≤ H21.size := by omega
    clear hk1 hz1 hvm ht hB hB9 t21 u21
    refine W.widen (k := cl + 11) (n := sl + 66) (by omega) (by omega) ?_
    refine lv_if_eq (tgt := 949) hx hb dL_law_921 (by decide) (fun c9 => False.elim (by revert c9; decide)) (fun _ => ?_)
    refine lv_iload hx hb dL_law_924 (lv_at hl 12 rfl) ?_
    refine lv_bipush (v := 20) hx hb dL_law_926 (by decide) ?_
    refine lv_irem hx hb dL_law_928 (by decide) ?_
    refine lv_if_gt (tgt := 945) hx hb dL_law_929 (by decide) (fun _ => ?_) (fun _ => ?_)
    · skip
      refine lv_iconst (v := 1) hx hb dL_law_945 (by decide) ?_
      refine lv_goto (tgt := 950) hx hb dL_law_946 (by decide) ?_
      refine lv_istore (lv' := [(6, .int 1), (12, .int (-1)), (11, .int 0), (10, .int 30), (9, .int 0), (8, .int 30), (0, .ref b), (1, .ref h), (2, .ref ga), (3, .ref aa), (4, .ref ha), (5, .ref ma), (7, .int (nI i))]) hx hb dL_law_950 hl (by decide) rfl (fun ls hl => ?_)
      refine lv_iinc (v := nI (i + 1)) (lv' := [(7, .int (nI (i + 1))), (6, .int 1), (12, .int (-1)), (11, .int 0), (10, .int 30), (9, .int 0), (8, .int 30), (0, .ref b), (1, .ref h), (2, .ref ga), (3, .ref aa), (4, .ref ha), (5, .ref ma)]) hx hb dL_law_952 hl (k := 12) rfl (nI_1 _) (by decide) rfl (fun ls hl => ?_)
      refine lv_goto (tgt := 89) hx hb dL_law_955 (by decide) ?_
      refine W.widen (k := cl + 49) (n := sl + 294) (by omega) (by omega) ?_
      exact ih (i + 1) (cl + 49) (sl + 294) H21 locs ls (by omega) (by omega) (by omega) (by omega) hP hS (lv_sub hl [7, 8, 9, 10, 11, 12, 1, 0] rfl)
    · skip
      refine lv_aload_n hx hb dL_law_932 rfl (lv_at hl 7 rfl) ?_
      refine lv_aload hx hb dL_law_933 (lv_at hl 11 rfl) ?_
      refine lv_iload hx hb dL_law_935 (lv_at hl 5 rfl) ?_
      refine lv_iconst (v := 3) hx hb dL_law_937 (by decide) ?_
      refine lv_idiv hx hb dL_law_938 (by decide) ?_
      refine lv_topi (fun y23 hy23 => ?_)
      have hy23 : y23 = 10 := hy23.trans (by decide +kernel)
      subst hy23
      refine vx_calli (vx_runS (As := [.ref h, .ref ma, .int 10]) (rest := []) ⟨hx, hb, hml, hown, hts⟩ (k_isRefused_10 l hl0 D cI cZ cJ H21.size h a0 a1 a2 a3 a4 a5 a6 a7 a8 a9 a10 ma) (va_cwS 3 hts gL_law_L_isRefused rfl rfl rfl (by decide +kernel) ⟨Nat.le_of_ble_eq_true rfl, Nat.le_of_ble_eq_true rfl⟩) ⟨zKX_blind, fun U hU hW => ⟨rfl, by rw [hU], zX_on hZ hS (fun _ h => h) hU hW, zP_mk (hP.sub (ws' := w0 cI cZ h a0 a1 a2 a3 a4 a5 a6 a7 a8 a9 a10 ++ [(ma, .inl (cI, 4, .inl z0))]) [0, 1, 2, 3, 4, 5, 6, 7, 8, 9, 10, 11, 15] rfl) hK hU hW⟩⟩ rfl rfl hl.1 rfl (lv_room (Nat.le_of_ble_eq_true rfl)) dL_law_939 ⟨by show cl + 11 + 38 ≤ 6500; omega, by show sl + 66 + 228 ≤ 40000; omega⟩) hS (fun _ _ z => z.elim) (fun _ z => z.elim) (fun _ _ z => z.elim) (fun E ce q9 u t H1 locs1 _ _ _ hE _ _ _ _ _ _ => hE.elim) (fun r24 u24 t24 H24 locs ht hvm w24 hB hz1 hk1 hS => ?_)
      have w24 : r24 = 1 := w24
      subst w24
      have hB9 : H21.size + 2 ≤ H24.size := by rw [← ht]; exact hB
      have hP := hP.kept (fun k q hk => hk1 q.1 (vx_lt hP hk) (fun z => z))
      have hgr : s.heap.size + (2 * i + 4) ≤ H24.size := by omega
      clear hk1 hz1 hvm ht hB hB9 t24 u24
      refine W.widen (k := cl + 49) (n := sl + 294) (by omega) (by omega) ?_
      refine lv_if_eq (tgt := 949) hx hb dL_law_942 (by decide) (fun c9 => False.elim (by revert c9; decide)) (fun _ => ?_)
      refine lv_iconst (v := 1) hx hb dL_law_945 (by decide) ?_
      refine lv_goto (tgt := 950) hx hb dL_law_946 (by decide) ?_
      refine lv_istore (lv' := [(6, .int 1), (12, .int (-1)), (11, .int 0), (10, .int 30), (9, .int 0), (8, .int 30), (0, .ref b), (1, .ref h), (2, .ref ga), (3, .ref aa), (4, .ref ha), (5, .ref ma), (7, .int (nI i))]) hx hb dL_law_950 hl (by decide) rfl (fun ls hl => ?_)
      refine lv_iinc (v := nI (i + 1)) (lv' := [(7, .int (nI (i + 1))), (6, .int 1), (12, .int (-1)), (11, .int 0), (10, .int 30), (9, .int 0), (8, .int 30), (0, .ref b), (1, .ref h), (2, .ref ga), (3, .ref aa), (4, .ref ha), (5, .ref ma)]) hx hb dL_law_952 hl (k := 12) rfl (nI_1 _) (by decide) rfl (fun ls hl => ?_)
      refine lv_goto (tgt := 89) hx hb dL_law_955 (by decide) ?_
      refine W.widen (k := cl + 49) (n := sl + 294) (by omega) (by omega) ?_
      exact ih (i + 1) (cl + 49) (sl + 294) H24 locs ls (by omega) (by omega) (by omega) (by omega) hP hS (lv_sub hl [7, 8, 9, 10, 11, 12, 1, 0] rfl)
