set_option maxHeartbeats 4000000 in
set_option maxRecDepth 100000 in
theorem law_give {p : Program} {l : Launch} {e : Env} {s : State} {m : MethodId} {below : List Frame} {meth : Method} {c : Code} {Q : State → Prop} {D : va_G} {cI cZ cJ : ClassId} {b L i cl sl : Nat} {xs : Nat → Int32} {ao h a0 a1 a2 a3 a4 a5 a6 a7 a8 a9 a10 hm b0 b4 b5 b6 b7 b8 b9 : Nat} {H : Heap} {locs : List Loc} {ls : Array Slot} (hl0 : l.stackTraces = false) (C0 : zC p s m meth c b L xs) (hZ : zX s) (hK : va_K D vwCl (zT cI cZ cJ) s) (hL : L ≤ 1536) (hi : i + 3 ≤ L) (hc1 : cl + 1 ≤ 1060) (hs1 : sl + 6 ≤ 8446) (hG : zG D cI cZ cJ ao h a0 a1 a2 a3 a4 a5 a6 a7 a8 a9 a10 hm b0 b4 b5 b6 b7 b8 b9 s H locs) (hl : lv_has ls 7 [(0, .ref b), (1, .ref h), (2, .ref hm), (3, .ref ao), (4, .int (nI i))]) (hend : ∀ (H1 : Heap) (locs1 : List Loc) (ls1 : Array Slot), zG D cI cZ cJ ao h a0 a1 a2 a3 a4 a5 a6 a7 a8 a9 a10 hm b0 b4 b5 b6 b7 b8 b9 s H1 locs1 → lv_has ls1 7 [(0, .ref b), (1, .ref h), (2, .ref hm), (3, .ref ao), (4, .int (nI i))] → W p l e room_1 s m #[Value.ref b] below meth c H1 locs1 (cl + 1) (sl + 6) Q (F0 m 1099 ls1 [])) : W p l e room_1 s m #[Value.ref b] below meth c H locs cl sl Q (F0 m 132 ls []) := by
  obtain ⟨hx, hb, hml, hown, hts0, hX, hbl⟩ := C0
  have hts := fun w h => hts0 w (wsL_law_in w h)
  obtain ⟨f0, f1, f2, f3, f4, f5, f6, f7, f8, f9, f10, v0, v1, v2, v3, m9, v4, g, hI, hP, hD, hS⟩ := hG
  have hA : ∀ q : Nat, s.heap.size ≤ q → (fun q : Nat => s.heap.size ≤ q) q := fun _ h => h
  have hbA : ¬ (fun q : Nat => s.heap.size ≤ q) b := Nat.not_le.mpr hbl
  obtain ⟨p0, hp0⟩ : ∃ z, z = xs (nI i + 1).toNatClampNeg := ⟨_, rfl⟩
  obtain ⟨p1, hp1⟩ : ∃ z, z = xs (nI i + 2).toNatClampNeg := ⟨_, rfl⟩
  refine lv_aload_n hx hb dL_law_132 rfl (lv_at hl 1 rfl) ?_
  refine lv_aload_n hx hb dL_law_133 rfl (lv_at hl 0 rfl) ?_
  refine lv_iload hx hb dL_law_134 (lv_at hl 4 rfl) ?_
  refine lv_iconst (v := 1) hx hb dL_law_136 (by decide) ?_
  refine lv_iadd hx hb dL_law_137 ?_
  refine va_sld hx hb hX hbl hbA hS (by rw [show nI i + 1 = nI (i + 1) from nI_add i 1]; exact vp_in_nI (by omega) (by omega)) dL_law_138 ?_
  rw [← hp0]
  refine lv_aload_n hx hb dL_law_139 rfl (lv_at hl 0 rfl) ?_
  refine lv_iload hx hb dL_law_140 (lv_at hl 4 rfl) ?_
  refine lv_iconst (v := 2) hx hb dL_law_142 (by decide) ?_
  refine lv_iadd hx hb dL_law_143 ?_
  refine va_sld hx hb hX hbl hbA hS (by rw [show nI i + 2 = nI (i + 2) from nI_add i 2]; exact vp_in_nI (by omega) (by omega)) dL_law_144 ?_
  rw [← hp1]
  refine lv_aload_n hx hb dL_law_145 rfl (lv_at hl 3 rfl) ?_
  have hPc := hP.sub (ws' := wO cJ ao g ++ wQ cI cZ h a0 a1 a2 a3 a4 a5 a6 a7 a8 a9 a10 f0 f1 f2 f3 f4 f5 f6 f7 f8 f9 f10 v0 v1 v2 v3) [0, 1, 2, 3, 4, 5, 6, 7, 8, 9, 10, 11, 12] rfl
  have hDc := hD.sub (ws' := wO cJ ao g ++ wQ cI cZ h a0 a1 a2 a3 a4 a5 a6 a7 a8 a9 a10 f0 f1 f2 f3 f4 f5 f6 f7 f8 f9 f10 v0 v1 v2 v3) [0, 1, 2, 3, 4, 5, 6, 7, 8, 9, 10, 11, 12] (by decide) rfl
  have hFc := va_free (wc := wO cJ ao g ++ wQ cI cZ h a0 a1 a2 a3 a4 a5 a6 a7 a8 a9 a10 f0 f1 f2 f3 f4 f5 f6 f7 f8 f9 f10 v0 v1 v2 v3) hD hS hA [0, 1, 2, 3, 4, 5, 6, 7, 8, 9, 10, 11, 12] rfl
  refine vx_calli (vx_runSX (As := [.ref h, .int p0, .int p1, .ref ao]) (rest := []) ⟨hx, hb, hml, hown, hts⟩ (c_L_give l hl0 D cI cZ cJ H.size h a0 a1 a2 a3 a4 a5 a6 a7 a8 a9 a10 f0 f1 f2 f3 f4 f5 f6 f7 f8 f9 f10 v0 v1 v2 v3 ao g p0 p1 hI) (vx_cwSW 4 hts gL_law_L_give rfl rfl rfl (by decide +kernel) ⟨Nat.le_of_ble_eq_true rfl, Nat.le_of_ble_eq_true rfl⟩) ⟨zDX_blind, fun U hU hW => ⟨rfl, zX_on hZ hS (fun _ h => h) hU hW, zD_mk hPc hK hDc hU hW⟩⟩ rfl rfl hl.1 rfl (lv_room (Nat.le_of_ble_eq_true rfl)) dL_law_146 ⟨hc1, hs1⟩) hS (fun q _ h => hFc q h) hFc (fun q _ z => z.elim) (fun E ce q9 u t H1 locs1 _ _ _ hE _ _ _ _ _ _ => hE.elim) (fun r5 u5 t5 H1 locs ht hvm w5 hB hz1 hk1 hS => ?_)
  obtain ⟨u5_0, u5_1, go⟩ := u5
  obtain ⟨hP1, hK1, hD1⟩ := hB
  rw [ht] at hP1
  try dsimp only at w5
  obtain ⟨wK, e5_0, e5_1, wR⟩ := w5
  obtain ⟨hP, hD⟩ := va_join (wr := wM cI cZ hm b0 b4 b5 b6 b7 b8 b9 f0 f4 f5 f6 f7 f8 m9 v0 v1 v2 v3 v4) hP hD [0, 1, 2, 3, 4, 5, 6, 7, 8, 9, 10, 11, 12] [13, 14, 15, 16, 17, 18, 19, 20] rfl rfl (by decide) (by decide) hk1 hFc hP1 hD1
  generalize H1 = H at hP hS ⊢
  subst wK
  have hP := hP.sub (ws' := wO cJ ao go ++ (wQ cI cZ h a0 a1 a2 a3 a4 a5 a6 a7 a8 a9 a10 u5_0 u5_1 f2 f3 f4 f5 f6 f7 f8 f9 f10 v0 v1 v2 v3 ++ wM cI cZ hm b0 b4 b5 b6 b7 b8 b9 f0 f4 f5 f6 f7 f8 m9 v0 v1 v2 v3 v4)) [8, 9, 10, 11, 12, 13, 14, 15, 16, 17, 18, 19, 20, 0, 1, 2, 3, 4, 5, 6, 7] rfl
  have hD := hD.sub (ws' := wO cJ ao go ++ (wQ cI cZ h a0 a1 a2 a3 a4 a5 a6 a7 a8 a9 a10 u5_0 u5_1 f2 f3 f4 f5 f6 f7 f8 f9 f10 v0 v1 v2 v3 ++ wM cI cZ hm b0 b4 b5 b6 b7 b8 b9 f0 f4 f5 f6 f7 f8 m9 v0 v1 v2 v3 v4)) [8, 9, 10, 11, 12, 13, 14, 15, 16, 17, 18, 19, 20, 0, 1, 2, 3, 4, 5, 6, 7] (by decide) rfl
  subst e5_0
  subst e5_1
  have hP : va_P D vwCl (wO cJ ao go ++ (wQ cI cZ h a0 a1 a2 a3 a4 a5 a6 a7 a8 a9 a10 (q_up (q_giveK f0 p0 p1) f0 p0.toNatClampNeg (f0 p0.toNatClampNeg + p1)) (q_up (q_giveK f0 p0 p1) f1 p0.toNatClampNeg (f1 p0.toNatClampNeg + p1)) f2 f3 f4 f5 f6 f7 f8 f9 f10 v0 v1 v2 v3 ++ wM cI cZ hm b0 b4 b5 b6 b7 b8 b9 f0 f4 f5 f6 f7 f8 m9 v0 v1 v2 v3 v4)) H := hP
  have hD : va_D (fun q : Nat => s.heap.size ≤ q) (wO cJ ao go ++ (wQ cI cZ h a0 a1 a2 a3 a4 a5 a6 a7 a8 a9 a10 (q_up (q_giveK f0 p0 p1) f0 p0.toNatClampNeg (f0 p0.toNatClampNeg + p1)) (q_up (q_giveK f0 p0 p1) f1 p0.toNatClampNeg (f1 p0.toNatClampNeg + p1)) f2 f3 f4 f5 f6 f7 f8 f9 f10 v0 v1 v2 v3 ++ wM cI cZ hm b0 b4 b5 b6 b7 b8 b9 f0 f4 f5 f6 f7 f8 m9 v0 v1 v2 v3 v4)) := hD
  refine lv_istore (lv' := [(5, .int (q_giveK f0 p0 p1)), (0, .ref b), (1, .ref h), (2, .ref hm), (3, .ref ao), (4, .int (nI i))]) hx hb dL_law_149 hl (by decide) rfl (fun ls hl => ?_)
  refine lv_aload_n hx hb dL_law_151 rfl (lv_at hl 3 rfl) ?_
  refine lv_aload_n hx hb dL_law_152 rfl (lv_at hl 1 rfl) ?_
  refine lv_iload hx hb dL_law_153 (lv_at hl 5 rfl) ?_
  refine lv_iconst (v := 1) hx hb dL_law_155 (by decide) ?_
  refine lv_iadd hx hb dL_law_156 ?_
  refine va_sld hx hb hX hbl hbA hS (by rw [show nI i + 1 = nI (i + 1) from nI_add i 1]; exact vp_in_nI (by omega) (by omega)) dL_law_157 ?_
  rw [← hp0]
  refine lv_aload_n hx hb dL_law_158 rfl (lv_at hl 1 rfl) ?_
  refine lv_iload hx hb dL_law_159 (lv_at hl 5 rfl) ?_
  refine lv_iconst (v := 2) hx hb dL_law_161 (by decide) ?_
  refine lv_iadd hx hb dL_law_162 ?_
  refine va_sld hx hb hX hbl hbA hS (by rw [show nI i + 2 = nI (i + 2) from nI_add i 2]; exact vp_in_nI (by omega) (by omega)) dL_law_163 ?_
  rw [← hp1]
  have hPm := hP.sub (ws' := wM cI cZ hm b0 b4 b5 b6 b7 b8 b9 f0 f4 f5 f6 f7 f8 m9 v0 v1 v2 v3 v4) [13, 14, 15, 16, 17, 18, 19, 20] rfl
  have hDm := hD.sub (ws' := wM cI cZ hm b0 b4 b5 b6 b7 b8 b9 f0 f4 f5 f6 f7 f8 m9 v0 v1 v2 v3 v4) [13, 14, 15, 16, 17, 18, 19, 20] (by decide) rfl
  have hFm := va_free (wc := wM cI cZ hm b0 b4 b5 b6 b7 b8 b9 f0 f4 f5 f6 f7 f8 m9 v0 v1 v2 v3 v4) hD hS hA [13, 14, 15, 16, 17, 18, 19, 20] rfl
  refine va_calli (va_runV (As := [.int p0, .int p1]) (rest := []) ⟨hx, hb, hml, hown, hts⟩ (c_X1_give l D cI cZ cJ H.size hm b0 b4 b5 b6 b7 b8 b9 f0 f4 f5 f6 f7 f8 m9 v0 v1 v2 v3 v4 p0 p1) (cwV 2 hts gL_law_X1_give rfl rfl rfl (by decide +kernel) ⟨Nat.le_of_ble_eq_true rfl, Nat.le_of_ble_eq_true rfl⟩) ⟨zD_blind, va_recv hK hPm (ci := 1) (q0 := 0) rfl rfl, fun U hU hW => ⟨rfl, zD_mk hPm hK hDm hU hW⟩⟩ rfl rfl hl.1 rfl (lv_room (Nat.le_of_ble_eq_true rfl)) dL_law_164 ⟨by show cl + 1 + 0 ≤ 1060; omega, by show sl + 6 + 0 ≤ 8446; omega⟩) hS (fun q _ h => hFm q h) hFm (fun r6 u6 t6 H1 locs ht hvm w6 hB hz1 hk1 hS => ?_)
  obtain ⟨u6_0, u6_1⟩ := u6
  obtain ⟨hP1, hK1, hD1⟩ := hB
  rw [ht] at hP1
  try dsimp only at w6
  obtain ⟨w6, e6_0, e6_1⟩ := w6
  obtain ⟨hP, hD⟩ := va_join (wr := wO cJ ao go ++ wQ cI cZ h a0 a1 a2 a3 a4 a5 a6 a7 a8 a9 a10 (q_up (q_giveK f0 p0 p1) f0 p0.toNatClampNeg (f0 p0.toNatClampNeg + p1)) (q_up (q_giveK f0 p0 p1) f1 p0.toNatClampNeg (f1 p0.toNatClampNeg + p1)) f2 f3 f4 f5 f6 f7 f8 f9 f10 v0 v1 v2 v3) hP hD [13, 14, 15, 16, 17, 18, 19, 20] [0, 1, 2, 3, 4, 5, 6, 7, 8, 9, 10, 11, 12] rfl rfl (by decide) (by decide) hk1 hFm hP1 hD1
  generalize H1 = H at hP hS ⊢
  subst e6_0
  subst e6_1
  have hP : va_P D vwCl (wO cJ ao go ++ (wQ cI cZ h a0 a1 a2 a3 a4 a5 a6 a7 a8 a9 a10 (q_up (q_giveK f0 p0 p1) f0 p0.toNatClampNeg (f0 p0.toNatClampNeg + p1)) (q_up (q_giveK f0 p0 p1) f1 p0.toNatClampNeg (f1 p0.toNatClampNeg + p1)) f2 f3 f4 f5 f6 f7 f8 f9 f10 v0 v1 v2 v3 ++ wM cI cZ hm b0 b4 b5 b6 b7 b8 b9 (q_up (q_giveK f0 p0 p1) f0 p0.toNatClampNeg (f0 p0.toNatClampNeg + p1)) f4 f5 f6 f7 f8 m9 v0 v1 v2 v3 (q_giveK f0 p0 p1))) H := hP
  have hD : va_D (fun q : Nat => s.heap.size ≤ q) (wO cJ ao go ++ (wQ cI cZ h a0 a1 a2 a3 a4 a5 a6 a7 a8 a9 a10 (q_up (q_giveK f0 p0 p1) f0 p0.toNatClampNeg (f0 p0.toNatClampNeg + p1)) (q_up (q_giveK f0 p0 p1) f1 p0.toNatClampNeg (f1 p0.toNatClampNeg + p1)) f2 f3 f4 f5 f6 f7 f8 f9 f10 v0 v1 v2 v3 ++ wM cI cZ hm b0 b4 b5 b6 b7 b8 b9 (q_up (q_giveK f0 p0 p1) f0 p0.toNatClampNeg (f0 p0.toNatClampNeg + p1)) f4 f5 f6 f7 f8 m9 v0 v1 v2 v3 (q_giveK f0 p0 p1))) := hD
  refine lv_istore (lv' := [(6, .int r6), (5, .int (q_giveK f0 p0 p1)), (0, .ref b), (1, .ref h), (2, .ref hm), (3, .ref ao), (4, .int (nI i))]) hx hb dL_law_167 hl (by decide) rfl (fun ls hl => ?_)
  refine lv_aload_n hx hb dL_law_169 rfl (lv_at hl 4 rfl) ?_
  have hPm := hP.sub (ws' := wM cI cZ hm b0 b4 b5 b6 b7 b8 b9 (q_up (q_giveK f0 p0 p1) f0 p0.toNatClampNeg (f0 p0.toNatClampNeg + p1)) f4 f5 f6 f7 f8 m9 v0 v1 v2 v3 (q_giveK f0 p0 p1)) [13, 14, 15, 16, 17, 18, 19, 20] rfl
  refine vp_callSi (W.runV (As := []) (rest := []) ⟨hx, hb, hml, hown, hts⟩ (c_X1_thrown l D cI cZ cJ hm b0 b4 b5 b6 b7 b8 b9 (q_up (q_giveK f0 p0 p1) f0 p0.toNatClampNeg (f0 p0.toNatClampNeg + p1)) f4 f5 f6 f7 f8 m9 v0 v1 v2 v3 (q_giveK f0 p0 p1)) (cwV 0 hts gL_law_X1_thrown rfl rfl rfl (by decide +kernel) ⟨Nat.le_of_ble_eq_true rfl, Nat.le_of_ble_eq_true rfl⟩) ⟨zP_blind, va_recv hK hPm (ci := 1) (q0 := 0) rfl rfl, fun U hU hW => ⟨rfl, zP_mk hPm hK hU hW⟩⟩ rfl rfl hl.1 rfl (lv_room (Nat.le_of_ble_eq_true rfl)) dL_law_170 ⟨by show cl + 1 + 0 ≤ 1060; omega, by show sl + 6 + 0 ≤ 8446; omega⟩) (fun r7 w7 => ?_)
  subst w7
  refine lv_iload hx hb dL_law_173 (lv_at hl 1 rfl) ?_
  refine lv_icmp_eq (tgt := 180) hx hb dL_law_175 (by decide) (fun _ => ?_) (fun c9 => False.elim (c9 rfl))
  refine lv_iload hx hb dL_law_180 (lv_at hl 1 rfl) ?_
  refine lv_if_ne (tgt := 197) hx hb dL_law_182 (by decide) (fun c9 => ?_) (fun c9 => ?_)
  · skip
    refine lv_goto (tgt := 1099) hx hb dL_law_197 (by decide) ?_
    exact hend H locs ls ⟨_, _, _, _, _, _, _, _, _, _, _, _, _, _, _, _, _, _, (iv_give hI p0 p1), hP, hD, hS⟩ (lv_sub hl [2, 3, 4, 5, 6] rfl)
  · skip
    have hR5 := wR c9
    have hR6 := w6 c9
    refine lv_aload_n hx hb dL_law_185 rfl (lv_at hl 5 rfl) ?_
    refine lv_iconst (v := 0) hx hb dL_law_186 (by decide) ?_
    refine va_lald (D := D) hx hb hK hP 0 2 rfl rfl (show vp_in 0 1 from vp_in_nI (n := 0) (by decide) (by decide)) dL_law_187 ?_
    refine lv_iload hx hb dL_law_188 (lv_at hl 0 rfl) ?_
    refine lv_i2l (v := r6.toInt64) hx hb dL_law_190 rfl ?_
    refine W.lcmp hx hb dL_law_191 ?_
    refine lv_if_eq (tgt := 197) hx hb dL_law_192 (by decide) (fun _ => ?_) (fun c9 => False.elim (c9 (z_cmp (hR5.trans (by rw [hR6])))))
    refine lv_goto (tgt := 1099) hx hb dL_law_197 (by decide) ?_
    exact hend H locs ls ⟨_, _, _, _, _, _, _, _, _, _, _, _, _, _, _, _, _, _, (iv_give hI p0 p1), hP, hD, hS⟩ (lv_sub hl [2, 3, 4, 5, 6] rfl)
set_option maxHeartbeats 4000000 in
set_option maxRecDepth 100000 in
theorem law_leave {p : Program} {l : Launch} {e : Env} {s : State} {m : MethodId} {below : List Frame} {meth : Method} {c : Code} {Q : State → Prop} {D : va_G} {cI cZ cJ : ClassId} {b L i cl sl : Nat} {xs : Nat → Int32} {ao h a0 a1 a2 a3 a4 a5 a6 a7 a8 a9 a10 hm b0 b4 b5 b6 b7 b8 b9 : Nat} {H : Heap} {locs : List Loc} {ls : Array Slot} (hl0 : l.stackTraces = false) (C0 : zC p s m meth c b L xs) (hZ : zX s) (hK : va_K D vwCl (zT cI cZ cJ) s) (hL : L ≤ 1536) (hi : i + 3 ≤ L) (hc1 : cl + 1 ≤ 1060) (hs1 : sl + 6 ≤ 8446) (hG : zG D cI cZ cJ ao h a0 a1 a2 a3 a4 a5 a6 a7 a8 a9 a10 hm b0 b4 b5 b6 b7 b8 b9 s H locs) (hl : lv_has ls 7 [(0, .ref b), (1, .ref h), (2, .ref hm), (3, .ref ao), (4, .int (nI i))]) (hend : ∀ (H1 : Heap) (locs1 : List Loc) (ls1 : Array Slot), zG D cI cZ cJ ao h a0 a1 a2 a3 a4 a5 a6 a7 a8 a9 a10 hm b0 b4 b5 b6 b7 b8 b9 s H1 locs1 → lv_has ls1 7 [(0, .ref b), (1, .ref h), (2, .ref hm), (3, .ref ao), (4, .int (nI i))] → W p l e room_1 s m #[Value.ref b] below meth c H1 locs1 (cl + 1) (sl + 6) Q (F0 m 1099 ls1 [])) : W p l e room_1 s m #[Value.ref b] below meth c H locs cl sl Q (F0 m 200 ls []) := by
  obtain ⟨hx, hb, hml, hown, hts0, hX, hbl⟩ := C0
  have hts := fun w h => hts0 w (wsL_law_in w h)
  obtain ⟨f0, f1, f2, f3, f4, f5, f6, f7, f8, f9, f10, v0, v1, v2, v3, m9, v4, g, hI, hP, hD, hS⟩ := hG
  have hA : ∀ q : Nat, s.heap.size ≤ q → (fun q : Nat => s.heap.size ≤ q) q := fun _ h => h
  have hbA : ¬ (fun q : Nat => s.heap.size ≤ q) b := Nat.not_le.mpr hbl
  obtain ⟨p0, hp0⟩ : ∃ z, z = xs (nI i + 1).toNatClampNeg := ⟨_, rfl⟩
  refine lv_aload_n hx hb dL_law_200 rfl (lv_at hl 1 rfl) ?_
  refine lv_aload_n hx hb dL_law_201 rfl (lv_at hl 0 rfl) ?_
  refine lv_iload hx hb dL_law_202 (lv_at hl 4 rfl) ?_
  refine lv_iconst (v := 1) hx hb dL_law_204 (by decide) ?_
  refine lv_iadd hx hb dL_law_205 ?_
  refine va_sld hx hb hX hbl hbA hS (by rw [show nI i + 1 = nI (i + 1) from nI_add i 1]; exact vp_in_nI (by omega) (by omega)) dL_law_206 ?_
  rw [← hp0]
  refine lv_aload_n hx hb dL_law_207 rfl (lv_at hl 3 rfl) ?_
  have hPc := hP.sub (ws' := wO cJ ao g ++ wQ cI cZ h a0 a1 a2 a3 a4 a5 a6 a7 a8 a9 a10 f0 f1 f2 f3 f4 f5 f6 f7 f8 f9 f10 v0 v1 v2 v3) [0, 1, 2, 3, 4, 5, 6, 7, 8, 9, 10, 11, 12] rfl
  have hDc := hD.sub (ws' := wO cJ ao g ++ wQ cI cZ h a0 a1 a2 a3 a4 a5 a6 a7 a8 a9 a10 f0 f1 f2 f3 f4 f5 f6 f7 f8 f9 f10 v0 v1 v2 v3) [0, 1, 2, 3, 4, 5, 6, 7, 8, 9, 10, 11, 12] (by decide) rfl
  have hFc := va_free (wc := wO cJ ao g ++ wQ cI cZ h a0 a1 a2 a3 a4 a5 a6 a7 a8 a9 a10 f0 f1 f2 f3 f4 f5 f6 f7 f8 f9 f10 v0 v1 v2 v3) hD hS hA [0, 1, 2, 3, 4, 5, 6, 7, 8, 9, 10, 11, 12] rfl
  refine vx_calli (vx_runSX (As := [.ref h, .int p0, .ref ao]) (rest := []) ⟨hx, hb, hml, hown, hts⟩ (c_L_leave l hl0 D cI cZ cJ H.size h a0 a1 a2 a3 a4 a5 a6 a7 a8 a9 a10 f0 f1 f2 f3 f4 f5 f6 f7 f8 f9 f10 v0 v1 v2 v3 ao g p0 hI) (vx_cwSW 3 hts gL_law_L_leave rfl rfl rfl (by decide +kernel) ⟨Nat.le_of_ble_eq_true rfl, Nat.le_of_ble_eq_true rfl⟩) ⟨zDX_blind, fun U hU hW => ⟨rfl, zX_on hZ hS (fun _ h => h) hU hW, zD_mk hPc hK hDc hU hW⟩⟩ rfl rfl hl.1 rfl (lv_room (Nat.le_of_ble_eq_true rfl)) dL_law_208 ⟨hc1, hs1⟩) hS (fun q _ h => hFc q h) hFc (fun q _ z => z.elim) (fun E ce q9 u t H1 locs1 _ _ _ hE _ _ _ _ _ _ => hE.elim) (fun r5 u5 t5 H1 locs ht hvm w5 hB hz1 hk1 hS => ?_)
  obtain ⟨u5_0, u5_1, u5_2, go⟩ := u5
  obtain ⟨hP1, hK1, hD1⟩ := hB
  rw [ht] at hP1
  try dsimp only at w5
  obtain ⟨wK, e5_0, e5_1, e5_2, wR⟩ := w5
  obtain ⟨hP, hD⟩ := va_join (wr := wM cI cZ hm b0 b4 b5 b6 b7 b8 b9 f0 f4 f5 f6 f7 f8 m9 v0 v1 v2 v3 v4) hP hD [0, 1, 2, 3, 4, 5, 6, 7, 8, 9, 10, 11, 12] [13, 14, 15, 16, 17, 18, 19, 20] rfl rfl (by decide) (by decide) hk1 hFc hP1 hD1
  generalize H1 = H at hP hS ⊢
  subst wK
  have hP := hP.sub (ws' := wO cJ ao go ++ (wQ cI cZ h a0 a1 a2 a3 a4 a5 a6 a7 a8 a9 a10 u5_0 f1 u5_1 f3 f4 f5 u5_2 f7 f8 f9 f10 v0 v1 v2 v3 ++ wM cI cZ hm b0 b4 b5 b6 b7 b8 b9 f0 f4 f5 f6 f7 f8 m9 v0 v1 v2 v3 v4)) [8, 9, 10, 11, 12, 13, 14, 15, 16, 17, 18, 19, 20, 0, 1, 2, 3, 4, 5, 6, 7] rfl
  have hD := hD.sub (ws' := wO cJ ao go ++ (wQ cI cZ h a0 a1 a2 a3 a4 a5 a6 a7 a8 a9 a10 u5_0 f1 u5_1 f3 f4 f5 u5_2 f7 f8 f9 f10 v0 v1 v2 v3 ++ wM cI cZ hm b0 b4 b5 b6 b7 b8 b9 f0 f4 f5 f6 f7 f8 m9 v0 v1 v2 v3 v4)) [8, 9, 10, 11, 12, 13, 14, 15, 16, 17, 18, 19, 20, 0, 1, 2, 3, 4, 5, 6, 7] (by decide) rfl
  subst e5_0
  subst e5_1
  subst e5_2
  have hP : va_P D vwCl (wO cJ ao go ++ (wQ cI cZ h a0 a1 a2 a3 a4 a5 a6 a7 a8 a9 a10 (q_up (q_gK p0) f0 p0.toNatClampNeg 0) f1 (q_up (q_gK p0) f2 p0.toNatClampNeg (f2 p0.toNatClampNeg + f0 p0.toNatClampNeg)) f3 f4 f5 (q_up (q_gK p0) f6 p0.toNatClampNeg 0) f7 f8 f9 f10 v0 v1 v2 v3 ++ wM cI cZ hm b0 b4 b5 b6 b7 b8 b9 f0 f4 f5 f6 f7 f8 m9 v0 v1 v2 v3 v4)) H := hP
  have hD : va_D (fun q : Nat => s.heap.size ≤ q) (wO cJ ao go ++ (wQ cI cZ h a0 a1 a2 a3 a4 a5 a6 a7 a8 a9 a10 (q_up (q_gK p0) f0 p0.toNatClampNeg 0) f1 (q_up (q_gK p0) f2 p0.toNatClampNeg (f2 p0.toNatClampNeg + f0 p0.toNatClampNeg)) f3 f4 f5 (q_up (q_gK p0) f6 p0.toNatClampNeg 0) f7 f8 f9 f10 v0 v1 v2 v3 ++ wM cI cZ hm b0 b4 b5 b6 b7 b8 b9 f0 f4 f5 f6 f7 f8 m9 v0 v1 v2 v3 v4)) := hD
  refine lv_istore (lv' := [(5, .int (q_gK p0)), (0, .ref b), (1, .ref h), (2, .ref hm), (3, .ref ao), (4, .int (nI i))]) hx hb dL_law_211 hl (by decide) rfl (fun ls hl => ?_)
  refine lv_aload_n hx hb dL_law_213 rfl (lv_at hl 3 rfl) ?_
  refine lv_aload_n hx hb dL_law_214 rfl (lv_at hl 1 rfl) ?_
  refine lv_iload hx hb dL_law_215 (lv_at hl 5 rfl) ?_
  refine lv_iconst (v := 1) hx hb dL_law_217 (by decide) ?_
  refine lv_iadd hx hb dL_law_218 ?_
  refine va_sld hx hb hX hbl hbA hS (by rw [show nI i + 1 = nI (i + 1) from nI_add i 1]; exact vp_in_nI (by omega) (by omega)) dL_law_219 ?_
  rw [← hp0]
  have hPm := hP.sub (ws' := wM cI cZ hm b0 b4 b5 b6 b7 b8 b9 f0 f4 f5 f6 f7 f8 m9 v0 v1 v2 v3 v4) [13, 14, 15, 16, 17, 18, 19, 20] rfl
  have hDm := hD.sub (ws' := wM cI cZ hm b0 b4 b5 b6 b7 b8 b9 f0 f4 f5 f6 f7 f8 m9 v0 v1 v2 v3 v4) [13, 14, 15, 16, 17, 18, 19, 20] (by decide) rfl
  have hFm := va_free (wc := wM cI cZ hm b0 b4 b5 b6 b7 b8 b9 f0 f4 f5 f6 f7 f8 m9 v0 v1 v2 v3 v4) hD hS hA [13, 14, 15, 16, 17, 18, 19, 20] rfl
  refine va_calli (va_runV (As := [.int p0]) (rest := []) ⟨hx, hb, hml, hown, hts⟩ (c_X1_leave l D cI cZ cJ H.size hm b0 b4 b5 b6 b7 b8 b9 f0 f4 f5 f6 f7 f8 m9 v0 v1 v2 v3 v4 p0) (cwV 1 hts gL_law_X1_leave rfl rfl rfl (by decide +kernel) ⟨Nat.le_of_ble_eq_true rfl, Nat.le_of_ble_eq_true rfl⟩) ⟨zD_blind, va_recv hK hPm (ci := 1) (q0 := 0) rfl rfl, fun U hU hW => ⟨rfl, zD_mk hPm hK hDm hU hW⟩⟩ rfl rfl hl.1 rfl (lv_room (Nat.le_of_ble_eq_true rfl)) dL_law_220 ⟨by show cl + 1 + 0 ≤ 1060; omega, by show sl + 6 + 0 ≤ 8446; omega⟩) hS (fun q _ h => hFm q h) hFm (fun r6 u6 t6 H1 locs ht hvm w6 hB hz1 hk1 hS => ?_)
  obtain ⟨u6_0, u6_1, u6_2⟩ := u6
  obtain ⟨hP1, hK1, hD1⟩ := hB
  rw [ht] at hP1
  try dsimp only at w6
  obtain ⟨w6, e6_0, e6_1, e6_2⟩ := w6
  obtain ⟨hP, hD⟩ := va_join (wr := wO cJ ao go ++ wQ cI cZ h a0 a1 a2 a3 a4 a5 a6 a7 a8 a9 a10 (q_up (q_gK p0) f0 p0.toNatClampNeg 0) f1 (q_up (q_gK p0) f2 p0.toNatClampNeg (f2 p0.toNatClampNeg + f0 p0.toNatClampNeg)) f3 f4 f5 (q_up (q_gK p0) f6 p0.toNatClampNeg 0) f7 f8 f9 f10 v0 v1 v2 v3) hP hD [13, 14, 15, 16, 17, 18, 19, 20] [0, 1, 2, 3, 4, 5, 6, 7, 8, 9, 10, 11, 12] rfl rfl (by decide) (by decide) hk1 hFm hP1 hD1
  generalize H1 = H at hP hS ⊢
  subst e6_0
  subst e6_1
  subst e6_2
  have hP : va_P D vwCl (wO cJ ao go ++ (wQ cI cZ h a0 a1 a2 a3 a4 a5 a6 a7 a8 a9 a10 (q_up (q_gK p0) f0 p0.toNatClampNeg 0) f1 (q_up (q_gK p0) f2 p0.toNatClampNeg (f2 p0.toNatClampNeg + f0 p0.toNatClampNeg)) f3 f4 f5 (q_up (q_gK p0) f6 p0.toNatClampNeg 0) f7 f8 f9 f10 v0 v1 v2 v3 ++ wM cI cZ hm b0 b4 b5 b6 b7 b8 b9 (q_up (q_gK p0) f0 p0.toNatClampNeg 0) f4 f5 (q_up (q_gK p0) f6 p0.toNatClampNeg 0) f7 f8 m9 v0 v1 v2 v3 (q_gK p0))) H := hP
  have hD : va_D (fun q : Nat => s.heap.size ≤ q) (wO cJ ao go ++ (wQ cI cZ h a0 a1 a2 a3 a4 a5 a6 a7 a8 a9 a10 (q_up (q_gK p0) f0 p0.toNatClampNeg 0) f1 (q_up (q_gK p0) f2 p0.toNatClampNeg (f2 p0.toNatClampNeg + f0 p0.toNatClampNeg)) f3 f4 f5 (q_up (q_gK p0) f6 p0.toNatClampNeg 0) f7 f8 f9 f10 v0 v1 v2 v3 ++ wM cI cZ hm b0 b4 b5 b6 b7 b8 b9 (q_up (q_gK p0) f0 p0.toNatClampNeg 0) f4 f5 (q_up (q_gK p0) f6 p0.toNatClampNeg 0) f7 f8 m9 v0 v1 v2 v3 (q_gK p0))) := hD
  refine lv_istore (lv' := [(6, .int r6), (5, .int (q_gK p0)), (0, .ref b), (1, .ref h), (2, .ref hm), (3, .ref ao), (4, .int (nI i))]) hx hb dL_law_223 hl (by decide) rfl (fun ls hl => ?_)
  refine lv_aload_n hx hb dL_law_225 rfl (lv_at hl 4 rfl) ?_
  have hPm := hP.sub (ws' := wM cI cZ hm b0 b4 b5 b6 b7 b8 b9 (q_up (q_gK p0) f0 p0.toNatClampNeg 0) f4 f5 (q_up (q_gK p0) f6 p0.toNatClampNeg 0) f7 f8 m9 v0 v1 v2 v3 (q_gK p0)) [13, 14, 15, 16, 17, 18, 19, 20] rfl
  refine vp_callSi (W.runV (As := []) (rest := []) ⟨hx, hb, hml, hown, hts⟩ (c_X1_thrown l D cI cZ cJ hm b0 b4 b5 b6 b7 b8 b9 (q_up (q_gK p0) f0 p0.toNatClampNeg 0) f4 f5 (q_up (q_gK p0) f6 p0.toNatClampNeg 0) f7 f8 m9 v0 v1 v2 v3 (q_gK p0)) (cwV 0 hts gL_law_X1_thrown rfl rfl rfl (by decide +kernel) ⟨Nat.le_of_ble_eq_true rfl, Nat.le_of_ble_eq_true rfl⟩) ⟨zP_blind, va_recv hK hPm (ci := 1) (q0 := 0) rfl rfl, fun U hU hW => ⟨rfl, zP_mk hPm hK hU hW⟩⟩ rfl rfl hl.1 rfl (lv_room (Nat.le_of_ble_eq_true rfl)) dL_law_226 ⟨by show cl + 1 + 0 ≤ 1060; omega, by show sl + 6 + 0 ≤ 8446; omega⟩) (fun r7 w7 => ?_)
  subst w7
  refine lv_iload hx hb dL_law_229 (lv_at hl 1 rfl) ?_
  refine lv_icmp_eq (tgt := 236) hx hb dL_law_231 (by decide) (fun _ => ?_) (fun c9 => False.elim (c9 rfl))
  refine lv_iload hx hb dL_law_236 (lv_at hl 1 rfl) ?_
  refine lv_if_ne (tgt := 253) hx hb dL_law_238 (by decide) (fun c9 => ?_) (fun c9 => ?_)
  · skip
    refine lv_goto (tgt := 1099) hx hb dL_law_253 (by decide) ?_
    exact hend H locs ls ⟨_, _, _, _, _, _, _, _, _, _, _, _, _, _, _, _, _, _, (iv_leave hI p0), hP, hD, hS⟩ (lv_sub hl [2, 3, 4, 5, 6] rfl)
  · skip
    have hR5 := wR c9
    have hR6 := w6 c9
    refine lv_aload_n hx hb dL_law_241 rfl (lv_at hl 5 rfl) ?_
    refine lv_iconst (v := 0) hx hb dL_law_242 (by decide) ?_
    refine va_lald (D := D) hx hb hK hP 0 2 rfl rfl (show vp_in 0 1 from vp_in_nI (n := 0) (by decide) (by decide)) dL_law_243 ?_
    refine lv_iload hx hb dL_law_244 (lv_at hl 0 rfl) ?_
    refine lv_i2l (v := r6.toInt64) hx hb dL_law_246 rfl ?_
    refine W.lcmp hx hb dL_law_247 ?_
    refine lv_if_eq (tgt := 253) hx hb dL_law_248 (by decide) (fun _ => ?_) (fun c9 => False.elim (c9 (z_cmp (hR5.trans (by rw [hR6])))))
    refine lv_goto (tgt := 1099) hx hb dL_law_253 (by decide) ?_
    exact hend H locs ls ⟨_, _, _, _, _, _, _, _, _, _, _, _, _, _, _, _, _, _, (iv_leave hI p0), hP, hD, hS⟩ (lv_sub hl [2, 3, 4, 5, 6] rfl)
set_option maxHeartbeats 4000000 in
set_option maxRecDepth 100000 in
theorem law_trust {p : Program} {l : Launch} {e : Env} {s : State} {m : MethodId} {below : List Frame} {meth : Method} {c : Code} {Q : State → Prop} {D : va_G} {cI cZ cJ : ClassId} {b L i cl sl : Nat} {xs : Nat → Int32} {ao h a0 a1 a2 a3 a4 a5 a6 a7 a8 a9 a10 hm b0 b4 b5 b6 b7 b8 b9 : Nat} {H : Heap} {locs : List Loc} {ls : Array Slot} (hl0 : l.stackTraces = false) (C0 : zC p s m meth c b L xs) (hZ : zX s) (hK : va_K D vwCl (zT cI cZ cJ) s) (hL : L ≤ 1536) (hi : i + 3 ≤ L) (hc1 : cl + 1 ≤ 1060) (hs1 : sl + 6 ≤ 8446) (hG : zG D cI cZ cJ ao h a0 a1 a2 a3 a4 a5 a6 a7 a8 a9 a10 hm b0 b4 b5 b6 b7 b8 b9 s H locs) (hl : lv_has ls 7 [(0, .ref b), (1, .ref h), (2, .ref hm), (3, .ref ao), (4, .int (nI i))]) (hend : ∀ (H1 : Heap) (locs1 : List Loc) (ls1 : Array Slot), zG D cI cZ cJ ao h a0 a1 a2 a3 a4 a5 a6 a7 a8 a9 a10 hm b0 b4 b5 b6 b7 b8 b9 s H1 locs1 → lv_has ls1 7 [(0, .ref b), (1, .ref h), (2, .ref hm), (3, .ref ao), (4, .int (nI i))] → W p l e room_1 s m #[Value.ref b] below meth c H1 locs1 (cl + 1) (sl + 6) Q (F0 m 1099 ls1 [])) : W p l e room_1 s m #[Value.ref b] below meth c H locs cl sl Q (F0 m 256 ls []) := by
  obtain ⟨hx, hb, hml, hown, hts0, hX, hbl⟩ := C0
  have hts := fun w h => hts0 w (wsL_law_in w h)
  obtain ⟨f0, f1, f2, f3, f4, f5, f6, f7, f8, f9, f10, v0, v1, v2, v3, m9, v4, g, hI, hP, hD, hS⟩ := hG
  have hA : ∀ q : Nat, s.heap.size ≤ q → (fun q : Nat => s.heap.size ≤ q) q := fun _ h => h
  have hbA : ¬ (fun q : Nat => s.heap.size ≤ q) b := Nat.not_le.mpr hbl
  obtain ⟨p0, hp0⟩ : ∃ z, z = xs (nI i + 1).toNatClampNeg := ⟨_, rfl⟩
  obtain ⟨p1, hp1⟩ : ∃ z, z = xs (nI i + 2).toNatClampNeg := ⟨_, rfl⟩
  refine lv_aload_n hx hb dL_law_256 rfl (lv_at hl 1 rfl) ?_
  refine lv_aload_n hx hb dL_law_257 rfl (lv_at hl 0 rfl) ?_
  refine lv_iload hx hb dL_law_258 (lv_at hl 4 rfl) ?_
  refine lv_iconst (v := 1) hx hb dL_law_260 (by decide) ?_
  refine lv_iadd hx hb dL_law_261 ?_
  refine va_sld hx hb hX hbl hbA hS (by rw [show nI i + 1 = nI (i + 1) from nI_add i 1]; exact vp_in_nI (by omega) (by omega)) dL_law_262 ?_
  rw [← hp0]
  refine lv_aload_n hx hb dL_law_263 rfl (lv_at hl 0 rfl) ?_
  refine lv_iload hx hb dL_law_264 (lv_at hl 4 rfl) ?_
  refine lv_iconst (v := 2) hx hb dL_law_266 (by decide) ?_
  refine lv_iadd hx hb dL_law_267 ?_
  refine va_sld hx hb hX hbl hbA hS (by rw [show nI i + 2 = nI (i + 2) from nI_add i 2]; exact vp_in_nI (by omega) (by omega)) dL_law_268 ?_
  rw [← hp1]
  refine lv_aload_n hx hb dL_law_269 rfl (lv_at hl 3 rfl) ?_
  have hPc := hP.sub (ws' := wO cJ ao g ++ wQ cI cZ h a0 a1 a2 a3 a4 a5 a6 a7 a8 a9 a10 f0 f1 f2 f3 f4 f5 f6 f7 f8 f9 f10 v0 v1 v2 v3) [0, 1, 2, 3, 4, 5, 6, 7, 8, 9, 10, 11, 12] rfl
  have hDc := hD.sub (ws' := wO cJ ao g ++ wQ cI cZ h a0 a1 a2 a3 a4 a5 a6 a7 a8 a9 a10 f0 f1 f2 f3 f4 f5 f6 f7 f8 f9 f10 v0 v1 v2 v3) [0, 1, 2, 3, 4, 5, 6, 7, 8, 9, 10, 11, 12] (by decide) rfl
  have hFc := va_free (wc := wO cJ ao g ++ wQ cI cZ h a0 a1 a2 a3 a4 a5 a6 a7 a8 a9 a10 f0 f1 f2 f3 f4 f5 f6 f7 f8 f9 f10 v0 v1 v2 v3) hD hS hA [0, 1, 2, 3, 4, 5, 6, 7, 8, 9, 10, 11, 12] rfl
  refine vx_calli (vx_runSX (As := [.ref h, .int p0, .int p1, .ref ao]) (rest := []) ⟨hx, hb, hml, hown, hts⟩ (c_L_trust l hl0 D cI cZ cJ H.size h a0 a1 a2 a3 a4 a5 a6 a7 a8 a9 a10 f0 f1 f2 f3 f4 f5 f6 f7 f8 f9 f10 v0 v1 v2 v3 ao g p0 p1 hI) (vx_cwSW 4 hts gL_law_L_trust rfl rfl rfl (by decide +kernel) ⟨Nat.le_of_ble_eq_true rfl, Nat.le_of_ble_eq_true rfl⟩) ⟨zDX_blind, fun U hU hW => ⟨rfl, zX_on hZ hS (fun _ h => h) hU hW, zD_mk hPc hK hDc hU hW⟩⟩ rfl rfl hl.1 rfl (lv_room (Nat.le_of_ble_eq_true rfl)) dL_law_270 ⟨hc1, hs1⟩) hS (fun q _ h => hFc q h) hFc (fun q _ z => z.elim) (fun E ce q9 u t H1 locs1 _ _ _ hE _ _ _ _ _ _ => hE.elim) (fun r5 u5 t5 H1 locs ht hvm w5 hB hz1 hk1 hS => ?_)
  obtain ⟨u5_0, go⟩ := u5
  obtain ⟨hP1, hK1, hD1⟩ := hB
  rw [ht] at hP1
  try dsimp only at w5
  obtain ⟨wK, e5_0, wR⟩ := w5
  obtain ⟨hP, hD⟩ := va_join (wr := wM cI cZ hm b0 b4 b5 b6 b7 b8 b9 f0 f4 f5 f6 f7 f8 m9 v0 v1 v2 v3 v4) hP hD [0, 1, 2, 3, 4, 5, 6, 7, 8, 9, 10, 11, 12] [13, 14, 15, 16, 17, 18, 19, 20] rfl rfl (by decide) (by decide) hk1 hFc hP1 hD1
  generalize H1 = H at hP hS ⊢
  subst wK
  have hP := hP.sub (ws' := wO cJ ao go ++ (wQ cI cZ h a0 a1 a2 a3 a4 a5 a6 a7 a8 a9 a10 f0 f1 f2 f3 u5_0 f5 f6 f7 f8 f9 f10 v0 v1 v2 v3 ++ wM cI cZ hm b0 b4 b5 b6 b7 b8 b9 f0 f4 f5 f6 f7 f8 m9 v0 v1 v2 v3 v4)) [8, 9, 10, 11, 12, 13, 14, 15, 16, 17, 18, 19, 20, 0, 1, 2, 3, 4, 5, 6, 7] rfl
  have hD := hD.sub (ws' := wO cJ ao go ++ (wQ cI cZ h a0 a1 a2 a3 a4 a5 a6 a7 a8 a9 a10 f0 f1 f2 f3 u5_0 f5 f6 f7 f8 f9 f10 v0 v1 v2 v3 ++ wM cI cZ hm b0 b4 b5 b6 b7 b8 b9 f0 f4 f5 f6 f7 f8 m9 v0 v1 v2 v3 v4)) [8, 9, 10, 11, 12, 13, 14, 15, 16, 17, 18, 19, 20, 0, 1, 2, 3, 4, 5, 6, 7] (by decide) rfl
  subst e5_0
  have hP : va_P D vwCl (wO cJ ao go ++ (wQ cI cZ h a0 a1 a2 a3 a4 a5 a6 a7 a8 a9 a10 f0 f1 f2 f3 (q_up (q_trK f4 p0 p1) f4 p0.toNatClampNeg p1) f5 f6 f7 f8 f9 f10 v0 v1 v2 v3 ++ wM cI cZ hm b0 b4 b5 b6 b7 b8 b9 f0 f4 f5 f6 f7 f8 m9 v0 v1 v2 v3 v4)) H := hP
  have hD : va_D (fun q : Nat => s.heap.size ≤ q) (wO cJ ao go ++ (wQ cI cZ h a0 a1 a2 a3 a4 a5 a6 a7 a8 a9 a10 f0 f1 f2 f3 (q_up (q_trK f4 p0 p1) f4 p0.toNatClampNeg p1) f5 f6 f7 f8 f9 f10 v0 v1 v2 v3 ++ wM cI cZ hm b0 b4 b5 b6 b7 b8 b9 f0 f4 f5 f6 f7 f8 m9 v0 v1 v2 v3 v4)) := hD
  refine lv_istore (lv' := [(5, .int (q_trK f4 p0 p1)), (0, .ref b), (1, .ref h), (2, .ref hm), (3, .ref ao), (4, .int (nI i))]) hx hb dL_law_273 hl (by decide) rfl (fun ls hl => ?_)
  refine lv_aload_n hx hb dL_law_275 rfl (lv_at hl 3 rfl) ?_
  refine lv_aload_n hx hb dL_law_276 rfl (lv_at hl 1 rfl) ?_
  refine lv_iload hx hb dL_law_277 (lv_at hl 5 rfl) ?_
  refine lv_iconst (v := 1) hx hb dL_law_279 (by decide) ?_
  refine lv_iadd hx hb dL_law_280 ?_
  refine va_sld hx hb hX hbl hbA hS (by rw [show nI i + 1 = nI (i + 1) from nI_add i 1]; exact vp_in_nI (by omega) (by omega)) dL_law_281 ?_
  rw [← hp0]
  refine lv_aload_n hx hb dL_law_282 rfl (lv_at hl 1 rfl) ?_
  refine lv_iload hx hb dL_law_283 (lv_at hl 5 rfl) ?_
  refine lv_iconst (v := 2) hx hb dL_law_285 (by decide) ?_
  refine lv_iadd hx hb dL_law_286 ?_
  refine va_sld hx hb hX hbl hbA hS (by rw [show nI i + 2 = nI (i + 2) from nI_add i 2]; exact vp_in_nI (by omega) (by omega)) dL_law_287 ?_
  rw [← hp1]
  have hPm := hP.sub (ws' := wM cI cZ hm b0 b4 b5 b6 b7 b8 b9 f0 f4 f5 f6 f7 f8 m9 v0 v1 v2 v3 v4) [13, 14, 15, 16, 17, 18, 19, 20] rfl
  have hDm := hD.sub (ws' := wM cI cZ hm b0 b4 b5 b6 b7 b8 b9 f0 f4 f5 f6 f7 f8 m9 v0 v1 v2 v3 v4) [13, 14, 15, 16, 17, 18, 19, 20] (by decide) rfl
  have hFm := va_free (wc := wM cI cZ hm b0 b4 b5 b6 b7 b8 b9 f0 f4 f5 f6 f7 f8 m9 v0 v1 v2 v3 v4) hD hS hA [13, 14, 15, 16, 17, 18, 19, 20] rfl
  refine va_calli (va_runV (As := [.int p0, .int p1]) (rest := []) ⟨hx, hb, hml, hown, hts⟩ (c_X1_trust l D cI cZ cJ H.size hm b0 b4 b5 b6 b7 b8 b9 f0 f4 f5 f6 f7 f8 m9 v0 v1 v2 v3 v4 p0 p1 (fun z => iv_heg hI z)) (cwV 2 hts gL_law_X1_trust rfl rfl rfl (by decide +kernel) ⟨Nat.le_of_ble_eq_true rfl, Nat.le_of_ble_eq_true rfl⟩) ⟨zD_blind, va_recv hK hPm (ci := 1) (q0 := 0) rfl rfl, fun U hU hW => ⟨rfl, zD_mk hPm hK hDm hU hW⟩⟩ rfl rfl hl.1 rfl (lv_room (Nat.le_of_ble_eq_true rfl)) dL_law_288 ⟨by show cl + 1 + 0 ≤ 1060; omega, by show sl + 6 + 0 ≤ 8446; omega⟩) hS (fun q _ h => hFm q h) hFm (fun r6 u6 t6 H1 locs ht hvm w6 hB hz1 hk1 hS => ?_)
  obtain ⟨u6_0, u6_1⟩ := u6
  obtain ⟨hP1, hK1, hD1⟩ := hB
  rw [ht] at hP1
  try dsimp only at w6
  obtain ⟨w6, e6_0, e6_1⟩ := w6
  obtain ⟨hP, hD⟩ := va_join (wr := wO cJ ao go ++ wQ cI cZ h a0 a1 a2 a3 a4 a5 a6 a7 a8 a9 a10 f0 f1 f2 f3 (q_up (q_trK f4 p0 p1) f4 p0.toNatClampNeg p1) f5 f6 f7 f8 f9 f10 v0 v1 v2 v3) hP hD [13, 14, 15, 16, 17, 18, 19, 20] [0, 1, 2, 3, 4, 5, 6, 7, 8, 9, 10, 11, 12] rfl rfl (by decide) (by decide) hk1 hFm hP1 hD1
  generalize H1 = H at hP hS ⊢
  subst e6_0
  subst e6_1
  have hP : va_P D vwCl (wO cJ ao go ++ (wQ cI cZ h a0 a1 a2 a3 a4 a5 a6 a7 a8 a9 a10 f0 f1 f2 f3 (q_up (q_trK f4 p0 p1) f4 p0.toNatClampNeg p1) f5 f6 f7 f8 f9 f10 v0 v1 v2 v3 ++ wM cI cZ hm b0 b4 b5 b6 b7 b8 b9 f0 (q_up (q_trK f4 p0 p1) f4 p0.toNatClampNeg p1) f5 f6 f7 f8 m9 v0 v1 v2 v3 (q_trK f4 p0 p1))) H := hP
  have hD : va_D (fun q : Nat => s.heap.size ≤ q) (wO cJ ao go ++ (wQ cI cZ h a0 a1 a2 a3 a4 a5 a6 a7 a8 a9 a10 f0 f1 f2 f3 (q_up (q_trK f4 p0 p1) f4 p0.toNatClampNeg p1) f5 f6 f7 f8 f9 f10 v0 v1 v2 v3 ++ wM cI cZ hm b0 b4 b5 b6 b7 b8 b9 f0 (q_up (q_trK f4 p0 p1) f4 p0.toNatClampNeg p1) f5 f6 f7 f8 m9 v0 v1 v2 v3 (q_trK f4 p0 p1))) := hD
  refine lv_istore (lv' := [(6, .int r6), (5, .int (q_trK f4 p0 p1)), (0, .ref b), (1, .ref h), (2, .ref hm), (3, .ref ao), (4, .int (nI i))]) hx hb dL_law_291 hl (by decide) rfl (fun ls hl => ?_)
  refine lv_aload_n hx hb dL_law_293 rfl (lv_at hl 4 rfl) ?_
  have hPm := hP.sub (ws' := wM cI cZ hm b0 b4 b5 b6 b7 b8 b9 f0 (q_up (q_trK f4 p0 p1) f4 p0.toNatClampNeg p1) f5 f6 f7 f8 m9 v0 v1 v2 v3 (q_trK f4 p0 p1)) [13, 14, 15, 16, 17, 18, 19, 20] rfl
  refine vp_callSi (W.runV (As := []) (rest := []) ⟨hx, hb, hml, hown, hts⟩ (c_X1_thrown l D cI cZ cJ hm b0 b4 b5 b6 b7 b8 b9 f0 (q_up (q_trK f4 p0 p1) f4 p0.toNatClampNeg p1) f5 f6 f7 f8 m9 v0 v1 v2 v3 (q_trK f4 p0 p1)) (cwV 0 hts gL_law_X1_thrown rfl rfl rfl (by decide +kernel) ⟨Nat.le_of_ble_eq_true rfl, Nat.le_of_ble_eq_true rfl⟩) ⟨zP_blind, va_recv hK hPm (ci := 1) (q0 := 0) rfl rfl, fun U hU hW => ⟨rfl, zP_mk hPm hK hU hW⟩⟩ rfl rfl hl.1 rfl (lv_room (Nat.le_of_ble_eq_true rfl)) dL_law_294 ⟨by show cl + 1 + 0 ≤ 1060; omega, by show sl + 6 + 0 ≤ 8446; omega⟩) (fun r7 w7 => ?_)
  subst w7
  refine lv_iload hx hb dL_law_297 (lv_at hl 1 rfl) ?_
  refine lv_icmp_eq (tgt := 304) hx hb dL_law_299 (by decide) (fun _ => ?_) (fun c9 => False.elim (c9 rfl))
  refine lv_iload hx hb dL_law_304 (lv_at hl 1 rfl) ?_
  refine lv_if_ne (tgt := 321) hx hb dL_law_306 (by decide) (fun c9 => ?_) (fun c9 => ?_)
  · skip
    refine lv_goto (tgt := 1099) hx hb dL_law_321 (by decide) ?_
    exact hend H locs ls ⟨_, _, _, _, _, _, _, _, _, _, _, _, _, _, _, _, _, _, (iv_trust hI p0 p1), hP, hD, hS⟩ (lv_sub hl [2, 3, 4, 5, 6] rfl)
  · skip
    have hR5 := wR c9
    have hR6 := w6 c9
    refine lv_aload_n hx hb dL_law_309 rfl (lv_at hl 5 rfl) ?_
    refine lv_iconst (v := 0) hx hb dL_law_310 (by decide) ?_
    refine va_lald (D := D) hx hb hK hP 0 2 rfl rfl (show vp_in 0 1 from vp_in_nI (n := 0) (by decide) (by decide)) dL_law_311 ?_
    refine lv_iload hx hb dL_law_312 (lv_at hl 0 rfl) ?_
    refine lv_i2l (v := r6.toInt64) hx hb dL_law_314 rfl ?_
    refine W.lcmp hx hb dL_law_315 ?_
    refine lv_if_eq (tgt := 321) hx hb dL_law_316 (by decide) (fun _ => ?_) (fun c9 => False.elim (c9 (z_cmp (hR5.trans (by rw [hR6])))))
    refine lv_goto (tgt := 1099) hx hb dL_law_321 (by decide) ?_
    exact hend H locs ls ⟨_, _, _, _, _, _, _, _, _, _, _, _, _, _, _, _, _, _, (iv_trust hI p0 p1), hP, hD, hS⟩ (lv_sub hl [2, 3, 4, 5, 6] rfl)
set_option maxHeartbeats 4000000 in
set_option maxRecDepth 100000 in
theorem law_setPerson {p : Program} {l : Launch} {e : Env} {s : State} {m : MethodId} {below : List Frame} {meth : Method} {c : Code} {Q : State → Prop} {D : va_G} {cI cZ cJ : ClassId} {b L i cl sl : Nat} {xs : Nat → Int32} {ao h a0 a1 a2 a3 a4 a5 a6 a7 a8 a9 a10 hm b0 b4 b5 b6 b7 b8 b9 : Nat} {H : Heap} {locs : List Loc} {ls : Array Slot} (hl0 : l.stackTraces = false) (C0 : zC p s m meth c b L xs) (hZ : zX s) (hK : va_K D vwCl (zT cI cZ cJ) s) (hL : L ≤ 1536) (hi : i + 3 ≤ L) (hc1 : cl + 1 ≤ 1060) (hs1 : sl + 6 ≤ 8446) (hG : zG D cI cZ cJ ao h a0 a1 a2 a3 a4 a5 a6 a7 a8 a9 a10 hm b0 b4 b5 b6 b7 b8 b9 s H locs) (hl : lv_has ls 7 [(0, .ref b), (1, .ref h), (2, .ref hm), (3, .ref ao), (4, .int (nI i))]) (hend : ∀ (H1 : Heap) (locs1 : List Loc) (ls1 : Array Slot), zG D cI cZ cJ ao h a0 a1 a2 a3 a4 a5 a6 a7 a8 a9 a10 hm b0 b4 b5 b6 b7 b8 b9 s H1 locs1 → lv_has ls1 7 [(0, .ref b), (1, .ref h), (2, .ref hm), (3, .ref ao), (4, .int (nI i))] → W p l e room_1 s m #[Value.ref b] below meth c H1 locs1 (cl + 1) (sl + 6) Q (F0 m 1099 ls1 [])) : W p l e room_1 s m #[Value.ref b] below meth c H locs cl sl Q (F0 m 324 ls []) := by
  obtain ⟨hx, hb, hml, hown, hts0, hX, hbl⟩ := C0
  have hts := fun w h => hts0 w (wsL_law_in w h)
  obtain ⟨f0, f1, f2, f3, f4, f5, f6, f7, f8, f9, f10, v0, v1, v2, v3, m9, v4, g, hI, hP, hD, hS⟩ := hG
  have hA : ∀ q : Nat, s.heap.size ≤ q → (fun q : Nat => s.heap.size ≤ q) q := fun _ h => h
  have hbA : ¬ (fun q : Nat => s.heap.size ≤ q) b := Nat.not_le.mpr hbl
  obtain ⟨p0, hp0⟩ : ∃ z, z = xs (nI i + 1).toNatClampNeg := ⟨_, rfl⟩
  obtain ⟨p1, hp1⟩ : ∃ z, z = xs (nI i + 2).toNatClampNeg := ⟨_, rfl⟩
  refine lv_aload_n hx hb dL_law_324 rfl (lv_at hl 1 rfl) ?_
  refine lv_aload_n hx hb dL_law_325 rfl (lv_at hl 0 rfl) ?_
  refine lv_iload hx hb dL_law_326 (lv_at hl 4 rfl) ?_
  refine lv_iconst (v := 1) hx hb dL_law_328 (by decide) ?_
  refine lv_iadd hx hb dL_law_329 ?_
  refine va_sld hx hb hX hbl hbA hS (by rw [show nI i + 1 = nI (i + 1) from nI_add i 1]; exact vp_in_nI (by omega) (by omega)) dL_law_330 ?_
  rw [← hp0]
  refine lv_aload_n hx hb dL_law_331 rfl (lv_at hl 0 rfl) ?_
  refine lv_iload hx hb dL_law_332 (lv_at hl 4 rfl) ?_
  refine lv_iconst (v := 2) hx hb dL_law_334 (by decide) ?_
  refine lv_iadd hx hb dL_law_335 ?_
  refine va_sld hx hb hX hbl hbA hS (by rw [show nI i + 2 = nI (i + 2) from nI_add i 2]; exact vp_in_nI (by omega) (by omega)) dL_law_336 ?_
  rw [← hp1]
  refine lv_aload_n hx hb dL_law_337 rfl (lv_at hl 3 rfl) ?_
  have hPc := hP.sub (ws' := wO cJ ao g ++ wQ cI cZ h a0 a1 a2 a3 a4 a5 a6 a7 a8 a9 a10 f0 f1 f2 f3 f4 f5 f6 f7 f8 f9 f10 v0 v1 v2 v3) [0, 1, 2, 3, 4, 5, 6, 7, 8, 9, 10, 11, 12] rfl
  have hDc := hD.sub (ws' := wO cJ ao g ++ wQ cI cZ h a0 a1 a2 a3 a4 a5 a6 a7 a8 a9 a10 f0 f1 f2 f3 f4 f5 f6 f7 f8 f9 f10 v0 v1 v2 v3) [0, 1, 2, 3, 4, 5, 6, 7, 8, 9, 10, 11, 12] (by decide) rfl
  have hFc := va_free (wc := wO cJ ao g ++ wQ cI cZ h a0 a1 a2 a3 a4 a5 a6 a7 a8 a9 a10 f0 f1 f2 f3 f4 f5 f6 f7 f8 f9 f10 v0 v1 v2 v3) hD hS hA [0, 1, 2, 3, 4, 5, 6, 7, 8, 9, 10, 11, 12] rfl
  refine vx_calli (vx_runSX (As := [.ref h, .int p0, .int p1, .ref ao]) (rest := []) ⟨hx, hb, hml, hown, hts⟩ (c_L_setPerson l hl0 D cI cZ cJ H.size h a0 a1 a2 a3 a4 a5 a6 a7 a8 a9 a10 f0 f1 f2 f3 f4 f5 f6 f7 f8 f9 f10 v0 v1 v2 v3 ao g p0 p1 hI) (vx_cwSW 4 hts gL_law_L_setPerson rfl rfl rfl (by decide +kernel) ⟨Nat.le_of_ble_eq_true rfl, Nat.le_of_ble_eq_true rfl⟩) ⟨zDX_blind, fun U hU hW => ⟨rfl, zX_on hZ hS (fun _ h => h) hU hW, zD_mk hPc hK hDc hU hW⟩⟩ rfl rfl hl.1 rfl (lv_room (Nat.le_of_ble_eq_true rfl)) dL_law_338 ⟨hc1, hs1⟩) hS (fun q _ h => hFc q h) hFc (fun q _ z => z.elim) (fun E ce q9 u t H1 locs1 _ _ _ hE _ _ _ _ _ _ => hE.elim) (fun r5 u5 t5 H1 locs ht hvm w5 hB hz1 hk1 hS => ?_)
  obtain ⟨u5_0, go⟩ := u5
  obtain ⟨hP1, hK1, hD1⟩ := hB
  rw [ht] at hP1
  try dsimp only at w5
  obtain ⟨wK, e5_0, wR⟩ := w5
  obtain ⟨hP, hD⟩ := va_join (wr := wM cI cZ hm b0 b4 b5 b6 b7 b8 b9 f0 f4 f5 f6 f7 f8 m9 v0 v1 v2 v3 v4) hP hD [0, 1, 2, 3, 4, 5, 6, 7, 8, 9, 10, 11, 12] [13, 14, 15, 16, 17, 18, 19, 20] rfl rfl (by decide) (by decide) hk1 hFc hP1 hD1
  generalize H1 = H at hP hS ⊢
  subst wK
  have hP := hP.sub (ws' := wO cJ ao go ++ (wQ cI cZ h a0 a1 a2 a3 a4 a5 a6 a7 a8 a9 a10 f0 f1 f2 f3 f4 u5_0 f6 f7 f8 f9 f10 v0 v1 v2 v3 ++ wM cI cZ hm b0 b4 b5 b6 b7 b8 b9 f0 f4 f5 f6 f7 f8 m9 v0 v1 v2 v3 v4)) [8, 9, 10, 11, 12, 13, 14, 15, 16, 17, 18, 19, 20, 0, 1, 2, 3, 4, 5, 6, 7] rfl
  have hD := hD.sub (ws' := wO cJ ao go ++ (wQ cI cZ h a0 a1 a2 a3 a4 a5 a6 a7 a8 a9 a10 f0 f1 f2 f3 f4 u5_0 f6 f7 f8 f9 f10 v0 v1 v2 v3 ++ wM cI cZ hm b0 b4 b5 b6 b7 b8 b9 f0 f4 f5 f6 f7 f8 m9 v0 v1 v2 v3 v4)) [8, 9, 10, 11, 12, 13, 14, 15, 16, 17, 18, 19, 20, 0, 1, 2, 3, 4, 5, 6, 7] (by decide) rfl
  subst e5_0
  have hP : va_P D vwCl (wO cJ ao go ++ (wQ cI cZ h a0 a1 a2 a3 a4 a5 a6 a7 a8 a9 a10 f0 f1 f2 f3 f4 (q_up (q_ggK p0 p1) f5 p0.toNatClampNeg p1) f6 f7 f8 f9 f10 v0 v1 v2 v3 ++ wM cI cZ hm b0 b4 b5 b6 b7 b8 b9 f0 f4 f5 f6 f7 f8 m9 v0 v1 v2 v3 v4)) H := hP
  have hD : va_D (fun q : Nat => s.heap.size ≤ q) (wO cJ ao go ++ (wQ cI cZ h a0 a1 a2 a3 a4 a5 a6 a7 a8 a9 a10 f0 f1 f2 f3 f4 (q_up (q_ggK p0 p1) f5 p0.toNatClampNeg p1) f6 f7 f8 f9 f10 v0 v1 v2 v3 ++ wM cI cZ hm b0 b4 b5 b6 b7 b8 b9 f0 f4 f5 f6 f7 f8 m9 v0 v1 v2 v3 v4)) := hD
  refine lv_istore (lv' := [(5, .int (q_ggK p0 p1)), (0, .ref b), (1, .ref h), (2, .ref hm), (3, .ref ao), (4, .int (nI i))]) hx hb dL_law_341 hl (by decide) rfl (fun ls hl => ?_)
  refine lv_aload_n hx hb dL_law_343 rfl (lv_at hl 3 rfl) ?_
  refine lv_aload_n hx hb dL_law_344 rfl (lv_at hl 1 rfl) ?_
  refine lv_iload hx hb dL_law_345 (lv_at hl 5 rfl) ?_
  refine lv_iconst (v := 1) hx hb dL_law_347 (by decide) ?_
  refine lv_iadd hx hb dL_law_348 ?_
  refine va_sld hx hb hX hbl hbA hS (by rw [show nI i + 1 = nI (i + 1) from nI_add i 1]; exact vp_in_nI (by omega) (by omega)) dL_law_349 ?_
  rw [← hp0]
  refine lv_aload_n hx hb dL_law_350 rfl (lv_at hl 1 rfl) ?_
  refine lv_iload hx hb dL_law_351 (lv_at hl 5 rfl) ?_
  refine lv_iconst (v := 2) hx hb dL_law_353 (by decide) ?_
  refine lv_iadd hx hb dL_law_354 ?_
  refine va_sld hx hb hX hbl hbA hS (by rw [show nI i + 2 = nI (i + 2) from nI_add i 2]; exact vp_in_nI (by omega) (by omega)) dL_law_355 ?_
  rw [← hp1]
  have hPm := hP.sub (ws' := wM cI cZ hm b0 b4 b5 b6 b7 b8 b9 f0 f4 f5 f6 f7 f8 m9 v0 v1 v2 v3 v4) [13, 14, 15, 16, 17, 18, 19, 20] rfl
  have hDm := hD.sub (ws' := wM cI cZ hm b0 b4 b5 b6 b7 b8 b9 f0 f4 f5 f6 f7 f8 m9 v0 v1 v2 v3 v4) [13, 14, 15, 16, 17, 18, 19, 20] (by decide) rfl
  have hFm := va_free (wc := wM cI cZ hm b0 b4 b5 b6 b7 b8 b9 f0 f4 f5 f6 f7 f8 m9 v0 v1 v2 v3 v4) hD hS hA [13, 14, 15, 16, 17, 18, 19, 20] rfl
  refine va_calli (va_runV (As := [.int p0, .int p1]) (rest := []) ⟨hx, hb, hml, hown, hts⟩ (c_X1_setPerson l D cI cZ cJ H.size hm b0 b4 b5 b6 b7 b8 b9 f0 f4 f5 f6 f7 f8 m9 v0 v1 v2 v3 v4 p0 p1) (cwV 2 hts gL_law_X1_setPerson rfl rfl rfl (by decide +kernel) ⟨Nat.le_of_ble_eq_true rfl, Nat.le_of_ble_eq_true rfl⟩) ⟨zD_blind, va_recv hK hPm (ci := 1) (q0 := 0) rfl rfl, fun U hU hW => ⟨rfl, zD_mk hPm hK hDm hU hW⟩⟩ rfl rfl hl.1 rfl (lv_room (Nat.le_of_ble_eq_true rfl)) dL_law_356 ⟨by show cl + 1 + 0 ≤ 1060; omega, by show sl + 6 + 0 ≤ 8446; omega⟩) hS (fun q _ h => hFm q h) hFm (fun r6 u6 t6 H1 locs ht hvm w6 hB hz1 hk1 hS => ?_)
  obtain ⟨u6_0, u6_1⟩ := u6
  obtain ⟨hP1, hK1, hD1⟩ := hB
  rw [ht] at hP1
  try dsimp only at w6
  obtain ⟨w6, e6_0, e6_1⟩ := w6
  obtain ⟨hP, hD⟩ := va_join (wr := wO cJ ao go ++ wQ cI cZ h a0 a1 a2 a3 a4 a5 a6 a7 a8 a9 a10 f0 f1 f2 f3 f4 (q_up (q_ggK p0 p1) f5 p0.toNatClampNeg p1) f6 f7 f8 f9 f10 v0 v1 v2 v3) hP hD [13, 14, 15, 16, 17, 18, 19, 20] [0, 1, 2, 3, 4, 5, 6, 7, 8, 9, 10, 11, 12] rfl rfl (by decide) (by decide) hk1 hFm hP1 hD1
  generalize H1 = H at hP hS ⊢
  subst e6_0
  subst e6_1
  have hP : va_P D vwCl (wO cJ ao go ++ (wQ cI cZ h a0 a1 a2 a3 a4 a5 a6 a7 a8 a9 a10 f0 f1 f2 f3 f4 (q_up (q_ggK p0 p1) f5 p0.toNatClampNeg p1) f6 f7 f8 f9 f10 v0 v1 v2 v3 ++ wM cI cZ hm b0 b4 b5 b6 b7 b8 b9 f0 f4 (q_up (q_ggK p0 p1) f5 p0.toNatClampNeg p1) f6 f7 f8 m9 v0 v1 v2 v3 (q_ggK p0 p1))) H := hP
  have hD : va_D (fun q : Nat => s.heap.size ≤ q) (wO cJ ao go ++ (wQ cI cZ h a0 a1 a2 a3 a4 a5 a6 a7 a8 a9 a10 f0 f1 f2 f3 f4 (q_up (q_ggK p0 p1) f5 p0.toNatClampNeg p1) f6 f7 f8 f9 f10 v0 v1 v2 v3 ++ wM cI cZ hm b0 b4 b5 b6 b7 b8 b9 f0 f4 (q_up (q_ggK p0 p1) f5 p0.toNatClampNeg p1) f6 f7 f8 m9 v0 v1 v2 v3 (q_ggK p0 p1))) := hD
  refine lv_istore (lv' := [(6, .int r6), (5, .int (q_ggK p0 p1)), (0, .ref b), (1, .ref h), (2, .ref hm), (3, .ref ao), (4, .int (nI i))]) hx hb dL_law_359 hl (by decide) rfl (fun ls hl => ?_)
  refine lv_aload_n hx hb dL_law_361 rfl (lv_at hl 4 rfl) ?_
  have hPm := hP.sub (ws' := wM cI cZ hm b0 b4 b5 b6 b7 b8 b9 f0 f4 (q_up (q_ggK p0 p1) f5 p0.toNatClampNeg p1) f6 f7 f8 m9 v0 v1 v2 v3 (q_ggK p0 p1)) [13, 14, 15, 16, 17, 18, 19, 20] rfl
  refine vp_callSi (W.runV (As := []) (rest := []) ⟨hx, hb, hml, hown, hts⟩ (c_X1_thrown l D cI cZ cJ hm b0 b4 b5 b6 b7 b8 b9 f0 f4 (q_up (q_ggK p0 p1) f5 p0.toNatClampNeg p1) f6 f7 f8 m9 v0 v1 v2 v3 (q_ggK p0 p1)) (cwV 0 hts gL_law_X1_thrown rfl rfl rfl (by decide +kernel) ⟨Nat.le_of_ble_eq_true rfl, Nat.le_of_ble_eq_true rfl⟩) ⟨zP_blind, va_recv hK hPm (ci := 1) (q0 := 0) rfl rfl, fun U hU hW => ⟨rfl, zP_mk hPm hK hU hW⟩⟩ rfl rfl hl.1 rfl (lv_room (Nat.le_of_ble_eq_true rfl)) dL_law_362 ⟨by show cl + 1 + 0 ≤ 1060; omega, by show sl + 6 + 0 ≤ 8446; omega⟩) (fun r7 w7 => ?_)
  subst w7
  refine lv_iload hx hb dL_law_365 (lv_at hl 1 rfl) ?_
  refine lv_icmp_eq (tgt := 372) hx hb dL_law_367 (by decide) (fun _ => ?_) (fun c9 => False.elim (c9 rfl))
  refine lv_iload hx hb dL_law_372 (lv_at hl 1 rfl) ?_
  refine lv_if_ne (tgt := 389) hx hb dL_law_374 (by decide) (fun c9 => ?_) (fun c9 => ?_)
  · skip
    refine lv_goto (tgt := 1099) hx hb dL_law_389 (by decide) ?_
    exact hend H locs ls ⟨_, _, _, _, _, _, _, _, _, _, _, _, _, _, _, _, _, _, hI, hP, hD, hS⟩ (lv_sub hl [2, 3, 4, 5, 6] rfl)
  · skip
    have hR5 := wR c9
    have hR6 := w6 c9
    refine lv_aload_n hx hb dL_law_377 rfl (lv_at hl 5 rfl) ?_
    refine lv_iconst (v := 0) hx hb dL_law_378 (by decide) ?_
    refine va_lald (D := D) hx hb hK hP 0 2 rfl rfl (show vp_in 0 1 from vp_in_nI (n := 0) (by decide) (by decide)) dL_law_379 ?_
    refine lv_iload hx hb dL_law_380 (lv_at hl 0 rfl) ?_
    refine lv_i2l (v := r6.toInt64) hx hb dL_law_382 rfl ?_
    refine W.lcmp hx hb dL_law_383 ?_
    refine lv_if_eq (tgt := 389) hx hb dL_law_384 (by decide) (fun _ => ?_) (fun c9 => False.elim (c9 (z_cmp (hR5.trans (by rw [hR6])))))
    refine lv_goto (tgt := 1099) hx hb dL_law_389 (by decide) ?_
    exact hend H locs ls ⟨_, _, _, _, _, _, _, _, _, _, _, _, _, _, _, _, _, _, hI, hP, hD, hS⟩ (lv_sub hl [2, 3, 4, 5, 6] rfl)
set_option maxHeartbeats 4000000 in
set_option maxRecDepth 100000 in
theorem law_in {p : Program} {l : Launch} {e : Env} {s : State} {m : MethodId} {below : List Frame} {meth : Method} {c : Code} {Q : State → Prop} {D : va_G} {cI cZ cJ : ClassId} {b L i cl sl : Nat} {xs : Nat → Int32} {ao h a0 a1 a2 a3 a4 a5 a6 a7 a8 a9 a10 hm b0 b4 b5 b6 b7 b8 b9 : Nat} {H : Heap} {locs : List Loc} {ls : Array Slot} (hl0 : l.stackTraces = false) (C0 : zC p s m meth c b L xs) (hZ : zX s) (hK : va_K D vwCl (zT cI cZ cJ) s) (hL : L ≤ 1536) (hi : i + 3 ≤ L) (hc1 : cl + 1 ≤ 1060) (hs1 : sl + 6 ≤ 8446) (hG : zG D cI cZ cJ ao h a0 a1 a2 a3 a4 a5 a6 a7 a8 a9 a10 hm b0 b4 b5 b6 b7 b8 b9 s H locs) (hl : lv_has ls 7 [(0, .ref b), (1, .ref h), (2, .ref hm), (3, .ref ao), (4, .int (nI i))]) (hend : ∀ (H1 : Heap) (locs1 : List Loc) (ls1 : Array Slot), zG D cI cZ cJ ao h a0 a1 a2 a3 a4 a5 a6 a7 a8 a9 a10 hm b0 b4 b5 b6 b7 b8 b9 s H1 locs1 → lv_has ls1 7 [(0, .ref b), (1, .ref h), (2, .ref hm), (3, .ref ao), (4, .int (nI i))] → W p l e room_1 s m #[Value.ref b] below meth c H1 locs1 (cl + 1) (sl + 6) Q (F0 m 1099 ls1 [])) : W p l e room_1 s m #[Value.ref b] below meth c H locs cl sl Q (F0 m 392 ls []) := by
  obtain ⟨hx, hb, hml, hown, hts0, hX, hbl⟩ := C0
  have hts := fun w h => hts0 w (wsL_law_in w h)
  obtain ⟨f0, f1, f2, f3, f4, f5, f6, f7, f8, f9, f10, v0, v1, v2, v3, m9, v4, g, hI, hP, hD, hS⟩ := hG
  have hA : ∀ q : Nat, s.heap.size ≤ q → (fun q : Nat => s.heap.size ≤ q) q := fun _ h => h
  have hbA : ¬ (fun q : Nat => s.heap.size ≤ q) b := Nat.not_le.mpr hbl
  obtain ⟨p0, hp0⟩ : ∃ z, z = xs (nI i + 1).toNatClampNeg := ⟨_, rfl⟩
  refine lv_aload_n hx hb dL_law_392 rfl (lv_at hl 1 rfl) ?_
  refine lv_aload_n hx hb dL_law_393 rfl (lv_at hl 0 rfl) ?_
  refine lv_iload hx hb dL_law_394 (lv_at hl 4 rfl) ?_
  refine lv_iconst (v := 1) hx hb dL_law_396 (by decide) ?_
  refine lv_iadd hx hb dL_law_397 ?_
  refine va_sld hx hb hX hbl hbA hS (by rw [show nI i + 1 = nI (i + 1) from nI_add i 1]; exact vp_in_nI (by omega) (by omega)) dL_law_398 ?_
  rw [← hp0]
  refine lv_aload_n hx hb dL_law_399 rfl (lv_at hl 3 rfl) ?_
  have hPc := hP.sub (ws' := wO cJ ao g ++ wQ cI cZ h a0 a1 a2 a3 a4 a5 a6 a7 a8 a9 a10 f0 f1 f2 f3 f4 f5 f6 f7 f8 f9 f10 v0 v1 v2 v3) [0, 1, 2, 3, 4, 5, 6, 7, 8, 9, 10, 11, 12] rfl
  have hDc := hD.sub (ws' := wO cJ ao g ++ wQ cI cZ h a0 a1 a2 a3 a4 a5 a6 a7 a8 a9 a10 f0 f1 f2 f3 f4 f5 f6 f7 f8 f9 f10 v0 v1 v2 v3) [0, 1, 2, 3, 4, 5, 6, 7, 8, 9, 10, 11, 12] (by decide) rfl
  have hFc := va_free (wc := wO cJ ao g ++ wQ cI cZ h a0 a1 a2 a3 a4 a5 a6 a7 a8 a9 a10 f0 f1 f2 f3 f4 f5 f6 f7 f8 f9 f10 v0 v1 v2 v3) hD hS hA [0, 1, 2, 3, 4, 5, 6, 7, 8, 9, 10, 11, 12] rfl
  refine vx_calli (vx_runSX (As := [.ref h, .int p0, .ref ao]) (rest := []) ⟨hx, hb, hml, hown, hts⟩ (c_L_in l hl0 D cI cZ cJ H.size h a0 a1 a2 a3 a4 a5 a6 a7 a8 a9 a10 f0 f1 f2 f3 f4 f5 f6 f7 f8 f9 f10 v0 v1 v2 v3 ao g p0 hI) (vx_cwSW 3 hts gL_law_L_in rfl rfl rfl (by decide +kernel) ⟨Nat.le_of_ble_eq_true rfl, Nat.le_of_ble_eq_true rfl⟩) ⟨zDX_blind, fun U hU hW => ⟨rfl, zX_on hZ hS (fun _ h => h) hU hW, zD_mk hPc hK hDc hU hW⟩⟩ rfl rfl hl.1 rfl (lv_room (Nat.le_of_ble_eq_true rfl)) dL_law_400 ⟨hc1, hs1⟩) hS (fun q _ h => hFc q h) hFc (fun q _ z => z.elim) (fun E ce q9 u t H1 locs1 _ _ _ hE _ _ _ _ _ _ => hE.elim) (fun r5 u5 t5 H1 locs ht hvm w5 hB hz1 hk1 hS => ?_)
  obtain ⟨go, e5g⟩ : ∃ z, z = u5 := ⟨_, rfl⟩
  subst e5g
  obtain ⟨hP1, hK1, hD1⟩ := hB
  rw [ht] at hP1
  try dsimp only at w5
  obtain ⟨wK, wR⟩ := w5
  obtain ⟨hP, hD⟩ := va_join (wr := wM cI cZ hm b0 b4 b5 b6 b7 b8 b9 f0 f4 f5 f6 f7 f8 m9 v0 v1 v2 v3 v4) hP hD [0, 1, 2, 3, 4, 5, 6, 7, 8, 9, 10, 11, 12] [13, 14, 15, 16, 17, 18, 19, 20] rfl rfl (by decide) (by decide) hk1 hFc hP1 hD1
  generalize H1 = H at hP hS ⊢
  subst wK
  have hP := hP.sub (ws' := wO cJ ao go ++ (wQ cI cZ h a0 a1 a2 a3 a4 a5 a6 a7 a8 a9 a10 f0 f1 f2 f3 f4 f5 f6 f7 f8 f9 f10 v0 v1 v2 v3 ++ wM cI cZ hm b0 b4 b5 b6 b7 b8 b9 f0 f4 f5 f6 f7 f8 m9 v0 v1 v2 v3 v4)) [8, 9, 10, 11, 12, 13, 14, 15, 16, 17, 18, 19, 20, 0, 1, 2, 3, 4, 5, 6, 7] rfl
  have hD := hD.sub (ws' := wO cJ ao go ++ (wQ cI cZ h a0 a1 a2 a3 a4 a5 a6 a7 a8 a9 a10 f0 f1 f2 f3 f4 f5 f6 f7 f8 f9 f10 v0 v1 v2 v3 ++ wM cI cZ hm b0 b4 b5 b6 b7 b8 b9 f0 f4 f5 f6 f7 f8 m9 v0 v1 v2 v3 v4)) [8, 9, 10, 11, 12, 13, 14, 15, 16, 17, 18, 19, 20, 0, 1, 2, 3, 4, 5, 6, 7] (by decide) rfl
  have hP : va_P D vwCl (wO cJ ao go ++ (wQ cI cZ h a0 a1 a2 a3 a4 a5 a6 a7 a8 a9 a10 f0 f1 f2 f3 f4 f5 f6 f7 f8 f9 f10 v0 v1 v2 v3 ++ wM cI cZ hm b0 b4 b5 b6 b7 b8 b9 f0 f4 f5 f6 f7 f8 m9 v0 v1 v2 v3 v4)) H := hP
  have hD : va_D (fun q : Nat => s.heap.size ≤ q) (wO cJ ao go ++ (wQ cI cZ h a0 a1 a2 a3 a4 a5 a6 a7 a8 a9 a10 f0 f1 f2 f3 f4 f5 f6 f7 f8 f9 f10 v0 v1 v2 v3 ++ wM cI cZ hm b0 b4 b5 b6 b7 b8 b9 f0 f4 f5 f6 f7 f8 m9 v0 v1 v2 v3 v4)) := hD
  refine lv_istore (lv' := [(5, .int (q_gK p0)), (0, .ref b), (1, .ref h), (2, .ref hm), (3, .ref ao), (4, .int (nI i))]) hx hb dL_law_403 hl (by decide) rfl (fun ls hl => ?_)
  refine lv_aload_n hx hb dL_law_405 rfl (lv_at hl 3 rfl) ?_
  refine lv_aload_n hx hb dL_law_406 rfl (lv_at hl 1 rfl) ?_
  refine lv_iload hx hb dL_law_407 (lv_at hl 5 rfl) ?_
  refine lv_iconst (v := 1) hx hb dL_law_409 (by decide) ?_
  refine lv_iadd hx hb dL_law_410 ?_
  refine va_sld hx hb hX hbl hbA hS (by rw [show nI i + 1 = nI (i + 1) from nI_add i 1]; exact vp_in_nI (by omega) (by omega)) dL_law_411 ?_
  rw [← hp0]
  have hPm := hP.sub (ws' := wM cI cZ hm b0 b4 b5 b6 b7 b8 b9 f0 f4 f5 f6 f7 f8 m9 v0 v1 v2 v3 v4) [13, 14, 15, 16, 17, 18, 19, 20] rfl
  have hDm := hD.sub (ws' := wM cI cZ hm b0 b4 b5 b6 b7 b8 b9 f0 f4 f5 f6 f7 f8 m9 v0 v1 v2 v3 v4) [13, 14, 15, 16, 17, 18, 19, 20] (by decide) rfl
  have hFm := va_free (wc := wM cI cZ hm b0 b4 b5 b6 b7 b8 b9 f0 f4 f5 f6 f7 f8 m9 v0 v1 v2 v3 v4) hD hS hA [13, 14, 15, 16, 17, 18, 19, 20] rfl
  refine va_calli (va_runV (As := [.int p0]) (rest := []) ⟨hx, hb, hml, hown, hts⟩ (c_X1_in l D cI cZ cJ H.size hm b0 b4 b5 b6 b7 b8 b9 f0 f4 f5 f6 f7 f8 m9 v0 v1 v2 v3 v4 p0) (cwV 1 hts gL_law_X1_in rfl rfl rfl (by decide +kernel) ⟨Nat.le_of_ble_eq_true rfl, Nat.le_of_ble_eq_true rfl⟩) ⟨zD_blind, va_recv hK hPm (ci := 1) (q0 := 0) rfl rfl, fun U hU hW => ⟨rfl, zD_mk hPm hK hDm hU hW⟩⟩ rfl rfl hl.1 rfl (lv_room (Nat.le_of_ble_eq_true rfl)) dL_law_412 ⟨by show cl + 1 + 0 ≤ 1060; omega, by show sl + 6 + 0 ≤ 8446; omega⟩) hS (fun q _ h => hFm q h) hFm (fun r6 u6 t6 H1 locs ht hvm w6 hB hz1 hk1 hS => ?_)
  obtain ⟨hP1, hK1, hD1⟩ := hB
  rw [ht] at hP1
  try dsimp only at w6
  obtain ⟨w6, e6_0⟩ := w6
  obtain ⟨hP, hD⟩ := va_join (wr := wO cJ ao go ++ wQ cI cZ h a0 a1 a2 a3 a4 a5 a6 a7 a8 a9 a10 f0 f1 f2 f3 f4 f5 f6 f7 f8 f9 f10 v0 v1 v2 v3) hP hD [13, 14, 15, 16, 17, 18, 19, 20] [0, 1, 2, 3, 4, 5, 6, 7, 8, 9, 10, 11, 12] rfl rfl (by decide) (by decide) hk1 hFm hP1 hD1
  generalize H1 = H at hP hS ⊢
  subst e6_0
  have hP : va_P D vwCl (wO cJ ao go ++ (wQ cI cZ h a0 a1 a2 a3 a4 a5 a6 a7 a8 a9 a10 f0 f1 f2 f3 f4 f5 f6 f7 f8 f9 f10 v0 v1 v2 v3 ++ wM cI cZ hm b0 b4 b5 b6 b7 b8 b9 f0 f4 f5 f6 f7 f8 m9 v0 v1 v2 v3 (q_gK p0))) H := hP
  have hD : va_D (fun q : Nat => s.heap.size ≤ q) (wO cJ ao go ++ (wQ cI cZ h a0 a1 a2 a3 a4 a5 a6 a7 a8 a9 a10 f0 f1 f2 f3 f4 f5 f6 f7 f8 f9 f10 v0 v1 v2 v3 ++ wM cI cZ hm b0 b4 b5 b6 b7 b8 b9 f0 f4 f5 f6 f7 f8 m9 v0 v1 v2 v3 (q_gK p0))) := hD
  refine lv_istore (lv' := [(6, .int r6), (5, .int (q_gK p0)), (0, .ref b), (1, .ref h), (2, .ref hm), (3, .ref ao), (4, .int (nI i))]) hx hb dL_law_415 hl (by decide) rfl (fun ls hl => ?_)
  refine lv_aload_n hx hb dL_law_417 rfl (lv_at hl 4 rfl) ?_
  have hPm := hP.sub (ws' := wM cI cZ hm b0 b4 b5 b6 b7 b8 b9 f0 f4 f5 f6 f7 f8 m9 v0 v1 v2 v3 (q_gK p0)) [13, 14, 15, 16, 17, 18, 19, 20] rfl
  refine vp_callSi (W.runV (As := []) (rest := []) ⟨hx, hb, hml, hown, hts⟩ (c_X1_thrown l D cI cZ cJ hm b0 b4 b5 b6 b7 b8 b9 f0 f4 f5 f6 f7 f8 m9 v0 v1 v2 v3 (q_gK p0)) (cwV 0 hts gL_law_X1_thrown rfl rfl rfl (by decide +kernel) ⟨Nat.le_of_ble_eq_true rfl, Nat.le_of_ble_eq_true rfl⟩) ⟨zP_blind, va_recv hK hPm (ci := 1) (q0 := 0) rfl rfl, fun U hU hW => ⟨rfl, zP_mk hPm hK hU hW⟩⟩ rfl rfl hl.1 rfl (lv_room (Nat.le_of_ble_eq_true rfl)) dL_law_418 ⟨by show cl + 1 + 0 ≤ 1060; omega, by show sl + 6 + 0 ≤ 8446; omega⟩) (fun r7 w7 => ?_)
  subst w7
  refine lv_iload hx hb dL_law_421 (lv_at hl 1 rfl) ?_
  refine lv_icmp_eq (tgt := 428) hx hb dL_law_423 (by decide) (fun _ => ?_) (fun c9 => False.elim (c9 rfl))
  refine lv_iload hx hb dL_law_428 (lv_at hl 1 rfl) ?_
  refine lv_if_ne (tgt := 445) hx hb dL_law_430 (by decide) (fun c9 => ?_) (fun c9 => ?_)
  · skip
    refine lv_goto (tgt := 1099) hx hb dL_law_445 (by decide) ?_
    exact hend H locs ls ⟨_, _, _, _, _, _, _, _, _, _, _, _, _, _, _, _, _, _, hI, hP, hD, hS⟩ (lv_sub hl [2, 3, 4, 5, 6] rfl)
  · skip
    have hR5 := wR c9
    have hR6 := w6 c9
    refine lv_aload_n hx hb dL_law_433 rfl (lv_at hl 5 rfl) ?_
    refine lv_iconst (v := 0) hx hb dL_law_434 (by decide) ?_
    refine va_lald (D := D) hx hb hK hP 0 2 rfl rfl (show vp_in 0 1 from vp_in_nI (n := 0) (by decide) (by decide)) dL_law_435 ?_
    refine lv_iload hx hb dL_law_436 (lv_at hl 0 rfl) ?_
    refine lv_i2l (v := r6.toInt64) hx hb dL_law_438 rfl ?_
    refine W.lcmp hx hb dL_law_439 ?_
    refine lv_if_eq (tgt := 445) hx hb dL_law_440 (by decide) (fun _ => ?_) (fun c9 => False.elim (c9 (z_cmp (hR5.trans (by rw [hR6])))))
    refine lv_goto (tgt := 1099) hx hb dL_law_445 (by decide) ?_
    exact hend H locs ls ⟨_, _, _, _, _, _, _, _, _, _, _, _, _, _, _, _, _, _, hI, hP, hD, hS⟩ (lv_sub hl [2, 3, 4, 5, 6] rfl)
set_option maxHeartbeats 4000000 in
set_option maxRecDepth 100000 in
theorem law_inByBook {p : Program} {l : Launch} {e : Env} {s : State} {m : MethodId} {below : List Frame} {meth : Method} {c : Code} {Q : State → Prop} {D : va_G} {cI cZ cJ : ClassId} {b L i cl sl : Nat} {xs : Nat → Int32} {ao h a0 a1 a2 a3 a4 a5 a6 a7 a8 a9 a10 hm b0 b4 b5 b6 b7 b8 b9 : Nat} {H : Heap} {locs : List Loc} {ls : Array Slot} (hl0 : l.stackTraces = false) (C0 : zC p s m meth c b L xs) (hZ : zX s) (hK : va_K D vwCl (zT cI cZ cJ) s) (hL : L ≤ 1536) (hi : i + 3 ≤ L) (hc1 : cl + 1 ≤ 1060) (hs1 : sl + 6 ≤ 8446) (hG : zG D cI cZ cJ ao h a0 a1 a2 a3 a4 a5 a6 a7 a8 a9 a10 hm b0 b4 b5 b6 b7 b8 b9 s H locs) (hl : lv_has ls 7 [(0, .ref b), (1, .ref h), (2, .ref hm), (3, .ref ao), (4, .int (nI i))]) (hend : ∀ (H1 : Heap) (locs1 : List Loc) (ls1 : Array Slot), zG D cI cZ cJ ao h a0 a1 a2 a3 a4 a5 a6 a7 a8 a9 a10 hm b0 b4 b5 b6 b7 b8 b9 s H1 locs1 → lv_has ls1 7 [(0, .ref b), (1, .ref h), (2, .ref hm), (3, .ref ao), (4, .int (nI i))] → W p l e room_1 s m #[Value.ref b] below meth c H1 locs1 (cl + 1) (sl + 6) Q (F0 m 1099 ls1 [])) : W p l e room_1 s m #[Value.ref b] below meth c H locs cl sl Q (F0 m 448 ls []) := by
  obtain ⟨hx, hb, hml, hown, hts0, hX, hbl⟩ := C0
  have hts := fun w h => hts0 w (wsL_law_in w h)
  obtain ⟨f0, f1, f2, f3, f4, f5, f6, f7, f8, f9, f10, v0, v1, v2, v3, m9, v4, g, hI, hP, hD, hS⟩ := hG
  have hA : ∀ q : Nat, s.heap.size ≤ q → (fun q : Nat => s.heap.size ≤ q) q := fun _ h => h
  have hbA : ¬ (fun q : Nat => s.heap.size ≤ q) b := Nat.not_le.mpr hbl
  obtain ⟨p0, hp0⟩ : ∃ z, z = xs (nI i + 1).toNatClampNeg := ⟨_, rfl⟩
  refine lv_aload_n hx hb dL_law_448 rfl (lv_at hl 1 rfl) ?_
  refine lv_aload_n hx hb dL_law_449 rfl (lv_at hl 0 rfl) ?_
  refine lv_iload hx hb dL_law_450 (lv_at hl 4 rfl) ?_
  refine lv_iconst (v := 1) hx hb dL_law_452 (by decide) ?_
  refine lv_iadd hx hb dL_law_453 ?_
  refine va_sld hx hb hX hbl hbA hS (by rw [show nI i + 1 = nI (i + 1) from nI_add i 1]; exact vp_in_nI (by omega) (by omega)) dL_law_454 ?_
  rw [← hp0]
  refine lv_aload_n hx hb dL_law_455 rfl (lv_at hl 3 rfl) ?_
  have hPc := hP.sub (ws' := wO cJ ao g ++ wQ cI cZ h a0 a1 a2 a3 a4 a5 a6 a7 a8 a9 a10 f0 f1 f2 f3 f4 f5 f6 f7 f8 f9 f10 v0 v1 v2 v3) [0, 1, 2, 3, 4, 5, 6, 7, 8, 9, 10, 11, 12] rfl
  have hDc := hD.sub (ws' := wO cJ ao g ++ wQ cI cZ h a0 a1 a2 a3 a4 a5 a6 a7 a8 a9 a10 f0 f1 f2 f3 f4 f5 f6 f7 f8 f9 f10 v0 v1 v2 v3) [0, 1, 2, 3, 4, 5, 6, 7, 8, 9, 10, 11, 12] (by decide) rfl
  have hFc := va_free (wc := wO cJ ao g ++ wQ cI cZ h a0 a1 a2 a3 a4 a5 a6 a7 a8 a9 a10 f0 f1 f2 f3 f4 f5 f6 f7 f8 f9 f10 v0 v1 v2 v3) hD hS hA [0, 1, 2, 3, 4, 5, 6, 7, 8, 9, 10, 11, 12] rfl
  refine vx_calli (vx_runSX (As := [.ref h, .int p0, .ref ao]) (rest := []) ⟨hx, hb, hml, hown, hts⟩ (c_L_inByBook l hl0 D cI cZ cJ H.size h a0 a1 a2 a3 a4 a5 a6 a7 a8 a9 a10 f0 f1 f2 f3 f4 f5 f6 f7 f8 f9 f10 v0 v1 v2 v3 ao g p0 hI) (vx_cwSW 3 hts gL_law_L_inByBook rfl rfl rfl (by decide +kernel) ⟨Nat.le_of_ble_eq_true rfl, Nat.le_of_ble_eq_true rfl⟩) ⟨zDX_blind, fun U hU hW => ⟨rfl, zX_on hZ hS (fun _ h => h) hU hW, zD_mk hPc hK hDc hU hW⟩⟩ rfl rfl hl.1 rfl (lv_room (Nat.le_of_ble_eq_true rfl)) dL_law_456 ⟨hc1, hs1⟩) hS (fun q _ h => hFc q h) hFc (fun q _ z => z.elim) (fun E ce q9 u t H1 locs1 _ _ _ hE _ _ _ _ _ _ => hE.elim) (fun r5 u5 t5 H1 locs ht hvm w5 hB hz1 hk1 hS => ?_)
  obtain ⟨go, e5g⟩ : ∃ z, z = u5 := ⟨_, rfl⟩
  subst e5g
  obtain ⟨hP1, hK1, hD1⟩ := hB
  rw [ht] at hP1
  try dsimp only at w5
  obtain ⟨wK, wR⟩ := w5
  obtain ⟨hP, hD⟩ := va_join (wr := wM cI cZ hm b0 b4 b5 b6 b7 b8 b9 f0 f4 f5 f6 f7 f8 m9 v0 v1 v2 v3 v4) hP hD [0, 1, 2, 3, 4, 5, 6, 7, 8, 9, 10, 11, 12] [13, 14, 15, 16, 17, 18, 19, 20] rfl rfl (by decide) (by decide) hk1 hFc hP1 hD1
  generalize H1 = H at hP hS ⊢
  subst wK
  have hP := hP.sub (ws' := wO cJ ao go ++ (wQ cI cZ h a0 a1 a2 a3 a4 a5 a6 a7 a8 a9 a10 f0 f1 f2 f3 f4 f5 f6 f7 f8 f9 f10 v0 v1 v2 v3 ++ wM cI cZ hm b0 b4 b5 b6 b7 b8 b9 f0 f4 f5 f6 f7 f8 m9 v0 v1 v2 v3 v4)) [8, 9, 10, 11, 12, 13, 14, 15, 16, 17, 18, 19, 20, 0, 1, 2, 3, 4, 5, 6, 7] rfl
  have hD := hD.sub (ws' := wO cJ ao go ++ (wQ cI cZ h a0 a1 a2 a3 a4 a5 a6 a7 a8 a9 a10 f0 f1 f2 f3 f4 f5 f6 f7 f8 f9 f10 v0 v1 v2 v3 ++ wM cI cZ hm b0 b4 b5 b6 b7 b8 b9 f0 f4 f5 f6 f7 f8 m9 v0 v1 v2 v3 v4)) [8, 9, 10, 11, 12, 13, 14, 15, 16, 17, 18, 19, 20, 0, 1, 2, 3, 4, 5, 6, 7] (by decide) rfl
  have hP : va_P D vwCl (wO cJ ao go ++ (wQ cI cZ h a0 a1 a2 a3 a4 a5 a6 a7 a8 a9 a10 f0 f1 f2 f3 f4 f5 f6 f7 f8 f9 f10 v0 v1 v2 v3 ++ wM cI cZ hm b0 b4 b5 b6 b7 b8 b9 f0 f4 f5 f6 f7 f8 m9 v0 v1 v2 v3 v4)) H := hP
  have hD : va_D (fun q : Nat => s.heap.size ≤ q) (wO cJ ao go ++ (wQ cI cZ h a0 a1 a2 a3 a4 a5 a6 a7 a8 a9 a10 f0 f1 f2 f3 f4 f5 f6 f7 f8 f9 f10 v0 v1 v2 v3 ++ wM cI cZ hm b0 b4 b5 b6 b7 b8 b9 f0 f4 f5 f6 f7 f8 m9 v0 v1 v2 v3 v4)) := hD
  refine lv_istore (lv' := [(5, .int (q_gK p0)), (0, .ref b), (1, .ref h), (2, .ref hm), (3, .ref ao), (4, .int (nI i))]) hx hb dL_law_459 hl (by decide) rfl (fun ls hl => ?_)
  refine lv_aload_n hx hb dL_law_461 rfl (lv_at hl 3 rfl) ?_
  refine lv_aload_n hx hb dL_law_462 rfl (lv_at hl 1 rfl) ?_
  refine lv_iload hx hb dL_law_463 (lv_at hl 5 rfl) ?_
  refine lv_iconst (v := 1) hx hb dL_law_465 (by decide) ?_
  refine lv_iadd hx hb dL_law_466 ?_
  refine va_sld hx hb hX hbl hbA hS (by rw [show nI i + 1 = nI (i + 1) from nI_add i 1]; exact vp_in_nI (by omega) (by omega)) dL_law_467 ?_
  rw [← hp0]
  have hPm := hP.sub (ws' := wM cI cZ hm b0 b4 b5 b6 b7 b8 b9 f0 f4 f5 f6 f7 f8 m9 v0 v1 v2 v3 v4) [13, 14, 15, 16, 17, 18, 19, 20] rfl
  have hDm := hD.sub (ws' := wM cI cZ hm b0 b4 b5 b6 b7 b8 b9 f0 f4 f5 f6 f7 f8 m9 v0 v1 v2 v3 v4) [13, 14, 15, 16, 17, 18, 19, 20] (by decide) rfl
  have hFm := va_free (wc := wM cI cZ hm b0 b4 b5 b6 b7 b8 b9 f0 f4 f5 f6 f7 f8 m9 v0 v1 v2 v3 v4) hD hS hA [13, 14, 15, 16, 17, 18, 19, 20] rfl
  refine va_calli (va_runV (As := [.int p0]) (rest := []) ⟨hx, hb, hml, hown, hts⟩ (c_X1_inByBook l D cI cZ cJ H.size hm b0 b4 b5 b6 b7 b8 b9 f0 f4 f5 f6 f7 f8 m9 v0 v1 v2 v3 v4 p0) (cwV 1 hts gL_law_X1_inByBook rfl rfl rfl (by decide +kernel) ⟨Nat.le_of_ble_eq_true rfl, Nat.le_of_ble_eq_true rfl⟩) ⟨zD_blind, va_recv hK hPm (ci := 1) (q0 := 0) rfl rfl, fun U hU hW => ⟨rfl, zD_mk hPm hK hDm hU hW⟩⟩ rfl rfl hl.1 rfl (lv_room (Nat.le_of_ble_eq_true rfl)) dL_law_468 ⟨by show cl + 1 + 0 ≤ 1060; omega, by show sl + 6 + 0 ≤ 8446; omega⟩) hS (fun q _ h => hFm q h) hFm (fun r6 u6 t6 H1 locs ht hvm w6 hB hz1 hk1 hS => ?_)
  obtain ⟨hP1, hK1, hD1⟩ := hB
  rw [ht] at hP1
  try dsimp only at w6
  obtain ⟨w6, e6_0⟩ := w6
  obtain ⟨hP, hD⟩ := va_join (wr := wO cJ ao go ++ wQ cI cZ h a0 a1 a2 a3 a4 a5 a6 a7 a8 a9 a10 f0 f1 f2 f3 f4 f5 f6 f7 f8 f9 f10 v0 v1 v2 v3) hP hD [13, 14, 15, 16, 17, 18, 19, 20] [0, 1, 2, 3, 4, 5, 6, 7, 8, 9, 10, 11, 12] rfl rfl (by decide) (by decide) hk1 hFm hP1 hD1
  generalize H1 = H at hP hS ⊢
  subst e6_0
  have hP : va_P D vwCl (wO cJ ao go ++ (wQ cI cZ h a0 a1 a2 a3 a4 a5 a6 a7 a8 a9 a10 f0 f1 f2 f3 f4 f5 f6 f7 f8 f9 f10 v0 v1 v2 v3 ++ wM cI cZ hm b0 b4 b5 b6 b7 b8 b9 f0 f4 f5 f6 f7 f8 m9 v0 v1 v2 v3 (q_gK p0))) H := hP
  have hD : va_D (fun q : Nat => s.heap.size ≤ q) (wO cJ ao go ++ (wQ cI cZ h a0 a1 a2 a3 a4 a5 a6 a7 a8 a9 a10 f0 f1 f2 f3 f4 f5 f6 f7 f8 f9 f10 v0 v1 v2 v3 ++ wM cI cZ hm b0 b4 b5 b6 b7 b8 b9 f0 f4 f5 f6 f7 f8 m9 v0 v1 v2 v3 (q_gK p0))) := hD
  refine lv_istore (lv' := [(6, .int r6), (5, .int (q_gK p0)), (0, .ref b), (1, .ref h), (2, .ref hm), (3, .ref ao), (4, .int (nI i))]) hx hb dL_law_471 hl (by decide) rfl (fun ls hl => ?_)
  refine lv_aload_n hx hb dL_law_473 rfl (lv_at hl 4 rfl) ?_
  have hPm := hP.sub (ws' := wM cI cZ hm b0 b4 b5 b6 b7 b8 b9 f0 f4 f5 f6 f7 f8 m9 v0 v1 v2 v3 (q_gK p0)) [13, 14, 15, 16, 17, 18, 19, 20] rfl
  refine vp_callSi (W.runV (As := []) (rest := []) ⟨hx, hb, hml, hown, hts⟩ (c_X1_thrown l D cI cZ cJ hm b0 b4 b5 b6 b7 b8 b9 f0 f4 f5 f6 f7 f8 m9 v0 v1 v2 v3 (q_gK p0)) (cwV 0 hts gL_law_X1_thrown rfl rfl rfl (by decide +kernel) ⟨Nat.le_of_ble_eq_true rfl, Nat.le_of_ble_eq_true rfl⟩) ⟨zP_blind, va_recv hK hPm (ci := 1) (q0 := 0) rfl rfl, fun U hU hW => ⟨rfl, zP_mk hPm hK hU hW⟩⟩ rfl rfl hl.1 rfl (lv_room (Nat.le_of_ble_eq_true rfl)) dL_law_474 ⟨by show cl + 1 + 0 ≤ 1060; omega, by show sl + 6 + 0 ≤ 8446; omega⟩) (fun r7 w7 => ?_)
  subst w7
  refine lv_iload hx hb dL_law_477 (lv_at hl 1 rfl) ?_
  refine lv_icmp_eq (tgt := 484) hx hb dL_law_479 (by decide) (fun _ => ?_) (fun c9 => False.elim (c9 rfl))
  refine lv_iload hx hb dL_law_484 (lv_at hl 1 rfl) ?_
  refine lv_if_ne (tgt := 501) hx hb dL_law_486 (by decide) (fun c9 => ?_) (fun c9 => ?_)
  · skip
    refine lv_goto (tgt := 1099) hx hb dL_law_501 (by decide) ?_
    exact hend H locs ls ⟨_, _, _, _, _, _, _, _, _, _, _, _, _, _, _, _, _, _, hI, hP, hD, hS⟩ (lv_sub hl [2, 3, 4, 5, 6] rfl)
  · skip
    have hR5 := wR c9
    have hR6 := w6 c9
    refine lv_aload_n hx hb dL_law_489 rfl (lv_at hl 5 rfl) ?_
    refine lv_iconst (v := 0) hx hb dL_law_490 (by decide) ?_
    refine va_lald (D := D) hx hb hK hP 0 2 rfl rfl (show vp_in 0 1 from vp_in_nI (n := 0) (by decide) (by decide)) dL_law_491 ?_
    refine lv_iload hx hb dL_law_492 (lv_at hl 0 rfl) ?_
    refine lv_i2l (v := r6.toInt64) hx hb dL_law_494 rfl ?_
    refine W.lcmp hx hb dL_law_495 ?_
    refine lv_if_eq (tgt := 501) hx hb dL_law_496 (by decide) (fun _ => ?_) (fun c9 => False.elim (c9 (z_cmp (hR5.trans (by rw [hR6])))))
    refine lv_goto (tgt := 1099) hx hb dL_law_501 (by decide) ?_
    exact hend H locs ls ⟨_, _, _, _, _, _, _, _, _, _, _, _, _, _, _, _, _, _, hI, hP, hD, hS⟩ (lv_sub hl [2, 3, 4, 5, 6] rfl)
set_option maxHeartbeats 4000000 in
set_option maxRecDepth 100000 in
theorem law_total {p : Program} {l : Launch} {e : Env} {s : State} {m : MethodId} {below : List Frame} {meth : Method} {c : Code} {Q : State → Prop} {D : va_G} {cI cZ cJ : ClassId} {b L i cl sl : Nat} {xs : Nat → Int32} {ao h a0 a1 a2 a3 a4 a5 a6 a7 a8 a9 a10 hm b0 b4 b5 b6 b7 b8 b9 : Nat} {H : Heap} {locs : List Loc} {ls : Array Slot} (hl0 : l.stackTraces = false) (C0 : zC p s m meth c b L xs) (hZ : zX s) (hK : va_K D vwCl (zT cI cZ cJ) s) (hL : L ≤ 1536) (hi : i + 3 ≤ L) (hc1 : cl + 1 ≤ 1060) (hs1 : sl + 6 ≤ 8446) (hG : zG D cI cZ cJ ao h a0 a1 a2 a3 a4 a5 a6 a7 a8 a9 a10 hm b0 b4 b5 b6 b7 b8 b9 s H locs) (hl : lv_has ls 7 [(0, .ref b), (1, .ref h), (2, .ref hm), (3, .ref ao), (4, .int (nI i))]) (hend : ∀ (H1 : Heap) (locs1 : List Loc) (ls1 : Array Slot), zG D cI cZ cJ ao h a0 a1 a2 a3 a4 a5 a6 a7 a8 a9 a10 hm b0 b4 b5 b6 b7 b8 b9 s H1 locs1 → lv_has ls1 7 [(0, .ref b), (1, .ref h), (2, .ref hm), (3, .ref ao), (4, .int (nI i))] → W p l e room_1 s m #[Value.ref b] below meth c H1 locs1 (cl + 1) (sl + 6) Q (F0 m 1099 ls1 [])) : W p l e room_1 s m #[Value.ref b] below meth c H locs cl sl Q (F0 m 504 ls []) := by
  obtain ⟨hx, hb, hml, hown, hts0, hX, hbl⟩ := C0
  have hts := fun w h => hts0 w (wsL_law_in w h)
  obtain ⟨f0, f1, f2, f3, f4, f5, f6, f7, f8, f9, f10, v0, v1, v2, v3, m9, v4, g, hI, hP, hD, hS⟩ := hG
  have hA : ∀ q : Nat, s.heap.size ≤ q → (fun q : Nat => s.heap.size ≤ q) q := fun _ h => h
  have hbA : ¬ (fun q : Nat => s.heap.size ≤ q) b := Nat.not_le.mpr hbl
  refine lv_aload_n hx hb dL_law_504 rfl (lv_at hl 1 rfl) ?_
  have hPc := hP.sub (ws' := wQ cI cZ h a0 a1 a2 a3 a4 a5 a6 a7 a8 a9 a10 f0 f1 f2 f3 f4 f5 f6 f7 f8 f9 f10 v0 v1 v2 v3) [1, 2, 3, 4, 5, 6, 7, 8, 9, 10, 11, 12] rfl
  refine vp_callSi (W.runV (As := []) (rest := []) ⟨hx, hb, hml, hown, hts⟩ (c_X0_total l D cI cZ cJ h a0 a1 a2 a3 a4 a5 a6 a7 a8 a9 a10 f0 f1 f2 f3 f4 f5 f6 f7 f8 f9 f10 v0 v1 v2 v3) (cwV 0 hts gL_law_X0_total rfl rfl rfl (by decide +kernel) ⟨Nat.le_of_ble_eq_true rfl, Nat.le_of_ble_eq_true rfl⟩) ⟨zP_blind, va_recv hK hPc (ci := 0) (q0 := 0) rfl rfl, fun U hU hW => ⟨rfl, zP_mk hPc hK hU hW⟩⟩ rfl rfl hl.1 rfl (lv_room (Nat.le_of_ble_eq_true rfl)) dL_law_505 ⟨by show cl + 0 ≤ 1060; omega, by show sl + 0 ≤ 8446; omega⟩) (fun r5 w5 => ?_)
  have w5 := w5.symm
  subst w5
  refine lv_aload_n hx hb dL_law_508 rfl (lv_at hl 2 rfl) ?_
  have hPm := hP.sub (ws' := wM cI cZ hm b0 b4 b5 b6 b7 b8 b9 f0 f4 f5 f6 f7 f8 m9 v0 v1 v2 v3 v4) [13, 14, 15, 16, 17, 18, 19, 20] rfl
  have hDm := hD.sub (ws' := wM cI cZ hm b0 b4 b5 b6 b7 b8 b9 f0 f4 f5 f6 f7 f8 m9 v0 v1 v2 v3 v4) [13, 14, 15, 16, 17, 18, 19, 20] (by decide) rfl
  have hFm := va_free (wc := wM cI cZ hm b0 b4 b5 b6 b7 b8 b9 f0 f4 f5 f6 f7 f8 m9 v0 v1 v2 v3 v4) hD hS hA [13, 14, 15, 16, 17, 18, 19, 20] rfl
  refine va_calli (va_runV (As := []) (rest := [.int (q_sum f0 8)]) ⟨hx, hb, hml, hown, hts⟩ (c_X1_total l D cI cZ cJ H.size hm b0 b4 b5 b6 b7 b8 b9 f0 f4 f5 f6 f7 f8 m9 v0 v1 v2 v3 v4) (cwV 0 hts gL_law_X1_total rfl rfl rfl (by decide +kernel) ⟨Nat.le_of_ble_eq_true rfl, Nat.le_of_ble_eq_true rfl⟩) ⟨zD_blind, va_recv hK hPm (ci := 1) (q0 := 0) rfl rfl, fun U hU hW => ⟨rfl, zD_mk hPm hK hDm hU hW⟩⟩ rfl rfl hl.1 rfl (lv_room (Nat.le_of_ble_eq_true rfl)) dL_law_509 ⟨by show cl + 0 ≤ 1060; omega, by show sl + 0 ≤ 8446; omega⟩) hS (fun q _ h => hFm q h) hFm (fun r6 u6 t6 H1 locs ht hvm w6 hB hz1 hk1 hS => ?_)
  obtain ⟨hP1, hK1, hD1⟩ := hB
  rw [ht] at hP1
  try dsimp only at w6
  obtain ⟨w6, e6_0⟩ := w6
  obtain ⟨hP, hD⟩ := va_join (wr := wO cJ ao g ++ wQ cI cZ h a0 a1 a2 a3 a4 a5 a6 a7 a8 a9 a10 f0 f1 f2 f3 f4 f5 f6 f7 f8 f9 f10 v0 v1 v2 v3) hP hD [13, 14, 15, 16, 17, 18, 19, 20] [0, 1, 2, 3, 4, 5, 6, 7, 8, 9, 10, 11, 12] rfl rfl (by decide) (by decide) hk1 hFm hP1 hD1
  generalize H1 = H at hP hS ⊢
  subst e6_0
  have hP : va_P D vwCl (wO cJ ao g ++ (wQ cI cZ h a0 a1 a2 a3 a4 a5 a6 a7 a8 a9 a10 f0 f1 f2 f3 f4 f5 f6 f7 f8 f9 f10 v0 v1 v2 v3 ++ wM cI cZ hm b0 b4 b5 b6 b7 b8 b9 f0 f4 f5 f6 f7 f8 m9 v0 v1 v2 v3 0)) H := hP
  have hD : va_D (fun q : Nat => s.heap.size ≤ q) (wO cJ ao g ++ (wQ cI cZ h a0 a1 a2 a3 a4 a5 a6 a7 a8 a9 a10 f0 f1 f2 f3 f4 f5 f6 f7 f8 f9 f10 v0 v1 v2 v3 ++ wM cI cZ hm b0 b4 b5 b6 b7 b8 b9 f0 f4 f5 f6 f7 f8 m9 v0 v1 v2 v3 0)) := hD
  have w6 := w6.symm
  subst w6
  refine lv_icmp_eq (tgt := 1099) hx hb dL_law_512 (by decide) (fun _ => ?_) (fun c9 => False.elim (c9 rfl))
  refine W.widen (k := cl + 1) (n := sl + 6) (by omega) (by omega) ?_
  exact hend H locs ls ⟨_, _, _, _, _, _, _, _, _, _, _, _, _, _, _, _, _, _, hI, hP, hD, hS⟩ (lv_sub hl [0, 1, 2, 3, 4] rfl)
set_option maxHeartbeats 4000000 in
set_option maxRecDepth 100000 in
theorem law_fillPot {p : Program} {l : Launch} {e : Env} {s : State} {m : MethodId} {below : List Frame} {meth : Method} {c : Code} {Q : State → Prop} {D : va_G} {cI cZ cJ : ClassId} {b L i cl sl : Nat} {xs : Nat → Int32} {ao h a0 a1 a2 a3 a4 a5 a6 a7 a8 a9 a10 hm b0 b4 b5 b6 b7 b8 b9 : Nat} {H : Heap} {locs : List Loc} {ls : Array Slot} (hl0 : l.stackTraces = false) (C0 : zC p s m meth c b L xs) (hZ : zX s) (hK : va_K D vwCl (zT cI cZ cJ) s) (hL : L ≤ 1536) (hi : i + 3 ≤ L) (hc1 : cl + 1 ≤ 1060) (hs1 : sl + 6 ≤ 8446) (hG : zG D cI cZ cJ ao h a0 a1 a2 a3 a4 a5 a6 a7 a8 a9 a10 hm b0 b4 b5 b6 b7 b8 b9 s H locs) (hl : lv_has ls 7 [(0, .ref b), (1, .ref h), (2, .ref hm), (3, .ref ao), (4, .int (nI i))]) (hend : ∀ (H1 : Heap) (locs1 : List Loc) (ls1 : Array Slot), zG D cI cZ cJ ao h a0 a1 a2 a3 a4 a5 a6 a7 a8 a9 a10 hm b0 b4 b5 b6 b7 b8 b9 s H1 locs1 → lv_has ls1 7 [(0, .ref b), (1, .ref h), (2, .ref hm), (3, .ref ao), (4, .int (nI i))] → W p l e room_1 s m #[Value.ref b] below meth c H1 locs1 (cl + 1) (sl + 6) Q (F0 m 1099 ls1 [])) : W p l e room_1 s m #[Value.ref b] below meth c H locs cl sl Q (F0 m 517 ls []) := by
  obtain ⟨hx, hb, hml, hown, hts0, hX, hbl⟩ := C0
  have hts := fun w h => hts0 w (wsL_law_in w h)
  obtain ⟨f0, f1, f2, f3, f4, f5, f6, f7, f8, f9, f10, v0, v1, v2, v3, m9, v4, g, hI, hP, hD, hS⟩ := hG
  have hA : ∀ q : Nat, s.heap.size ≤ q → (fun q : Nat => s.heap.size ≤ q) q := fun _ h => h
  have hbA : ¬ (fun q : Nat => s.heap.size ≤ q) b := Nat.not_le.mpr hbl
  obtain ⟨p0, hp0⟩ : ∃ z, z = xs (nI i + 1).toNatClampNeg := ⟨_, rfl⟩
  refine lv_aload_n hx hb dL_law_517 rfl (lv_at hl 1 rfl) ?_
  refine lv_aload_n hx hb dL_law_518 rfl (lv_at hl 0 rfl) ?_
  refine lv_iload hx hb dL_law_519 (lv_at hl 4 rfl) ?_
  refine lv_iconst (v := 1) hx hb dL_law_521 (by decide) ?_
  refine lv_iadd hx hb dL_law_522 ?_
  refine va_sld hx hb hX hbl hbA hS (by rw [show nI i + 1 = nI (i + 1) from nI_add i 1]; exact vp_in_nI (by omega) (by omega)) dL_law_523 ?_
  rw [← hp0]
  refine lv_aload_n hx hb dL_law_524 rfl (lv_at hl 3 rfl) ?_
  have hPc := hP.sub (ws' := wO cJ ao g ++ wQ cI cZ h a0 a1 a2 a3 a4 a5 a6 a7 a8 a9 a10 f0 f1 f2 f3 f4 f5 f6 f7 f8 f9 f10 v0 v1 v2 v3) [0, 1, 2, 3, 4, 5, 6, 7, 8, 9, 10, 11, 12] rfl
  have hDc := hD.sub (ws' := wO cJ ao g ++ wQ cI cZ h a0 a1 a2 a3 a4 a5 a6 a7 a8 a9 a10 f0 f1 f2 f3 f4 f5 f6 f7 f8 f9 f10 v0 v1 v2 v3) [0, 1, 2, 3, 4, 5, 6, 7, 8, 9, 10, 11, 12] (by decide) rfl
  have hFc := va_free (wc := wO cJ ao g ++ wQ cI cZ h a0 a1 a2 a3 a4 a5 a6 a7 a8 a9 a10 f0 f1 f2 f3 f4 f5 f6 f7 f8 f9 f10 v0 v1 v2 v3) hD hS hA [0, 1, 2, 3, 4, 5, 6, 7, 8, 9, 10, 11, 12] rfl
  refine vx_calli (vx_runSX (As := [.ref h, .int p0, .ref ao]) (rest := []) ⟨hx, hb, hml, hown, hts⟩ (c_L_fillPot l hl0 D cI cZ cJ H.size h a0 a1 a2 a3 a4 a5 a6 a7 a8 a9 a10 f0 f1 f2 f3 f4 f5 f6 f7 f8 f9 f10 v0 v1 v2 v3 ao g p0 hI) (vx_cwSW 3 hts gL_law_L_fillPot rfl rfl rfl (by decide +kernel) ⟨Nat.le_of_ble_eq_true rfl, Nat.le_of_ble_eq_true rfl⟩) ⟨zDX_blind, fun U hU hW => ⟨rfl, zX_on hZ hS (fun _ h => h) hU hW, zD_mk hPc hK hDc hU hW⟩⟩ rfl rfl hl.1 rfl (lv_room (Nat.le_of_ble_eq_true rfl)) dL_law_525 ⟨hc1, hs1⟩) hS (fun q _ h => hFc q h) hFc (fun q _ z => z.elim) (fun E ce q9 u t H1 locs1 _ _ _ hE _ _ _ _ _ _ => hE.elim) (fun r5 u5 t5 H1 locs ht hvm w5 hB hz1 hk1 hS => ?_)
  obtain ⟨u5_0, go⟩ := u5
  obtain ⟨hP1, hK1, hD1⟩ := hB
  rw [ht] at hP1
  try dsimp only at w5
  obtain ⟨wK, e5_0, wR⟩ := w5
  obtain ⟨hP, hD⟩ := va_join (wr := wM cI cZ hm b0 b4 b5 b6 b7 b8 b9 f0 f4 f5 f6 f7 f8 m9 v0 v1 v2 v3 v4) hP hD [0, 1, 2, 3, 4, 5, 6, 7, 8, 9, 10, 11, 12] [13, 14, 15, 16, 17, 18, 19, 20] rfl rfl (by decide) (by decide) hk1 hFc hP1 hD1
  generalize H1 = H at hP hS ⊢
  subst wK
  have hP := hP.sub (ws' := wO cJ ao go ++ (wQ cI cZ h a0 a1 a2 a3 a4 a5 a6 a7 a8 a9 a10 f0 f1 f2 f3 f4 f5 f6 f7 f8 f9 f10 v0 v1 u5_0 v3 ++ wM cI cZ hm b0 b4 b5 b6 b7 b8 b9 f0 f4 f5 f6 f7 f8 m9 v0 v1 v2 v3 v4)) [8, 9, 10, 11, 12, 13, 14, 15, 16, 17, 18, 19, 20, 0, 1, 2, 3, 4, 5, 6, 7] rfl
  have hD := hD.sub (ws' := wO cJ ao go ++ (wQ cI cZ h a0 a1 a2 a3 a4 a5 a6 a7 a8 a9 a10 f0 f1 f2 f3 f4 f5 f6 f7 f8 f9 f10 v0 v1 u5_0 v3 ++ wM cI cZ hm b0 b4 b5 b6 b7 b8 b9 f0 f4 f5 f6 f7 f8 m9 v0 v1 v2 v3 v4)) [8, 9, 10, 11, 12, 13, 14, 15, 16, 17, 18, 19, 20, 0, 1, 2, 3, 4, 5, 6, 7] (by decide) rfl
  subst e5_0
  have hP : va_P D vwCl (wO cJ ao go ++ (wQ cI cZ h a0 a1 a2 a3 a4 a5 a6 a7 a8 a9 a10 f0 f1 f2 f3 f4 f5 f6 f7 f8 f9 f10 v0 v1 (q_us (q_fpK v2 p0) v2 (v2 + p0)) v3 ++ wM cI cZ hm b0 b4 b5 b6 b7 b8 b9 f0 f4 f5 f6 f7 f8 m9 v0 v1 v2 v3 v4)) H := hP
  have hD : va_D (fun q : Nat => s.heap.size ≤ q) (wO cJ ao go ++ (wQ cI cZ h a0 a1 a2 a3 a4 a5 a6 a7 a8 a9 a10 f0 f1 f2 f3 f4 f5 f6 f7 f8 f9 f10 v0 v1 (q_us (q_fpK v2 p0) v2 (v2 + p0)) v3 ++ wM cI cZ hm b0 b4 b5 b6 b7 b8 b9 f0 f4 f5 f6 f7 f8 m9 v0 v1 v2 v3 v4)) := hD
  refine lv_istore (lv' := [(5, .int (q_fpK v2 p0)), (0, .ref b), (1, .ref h), (2, .ref hm), (3, .ref ao), (4, .int (nI i))]) hx hb dL_law_528 hl (by decide) rfl (fun ls hl => ?_)
  refine lv_aload_n hx hb dL_law_530 rfl (lv_at hl 3 rfl) ?_
  refine lv_aload_n hx hb dL_law_531 rfl (lv_at hl 1 rfl) ?_
  refine lv_iload hx hb dL_law_532 (lv_at hl 5 rfl) ?_
  refine lv_iconst (v := 1) hx hb dL_law_534 (by decide) ?_
  refine lv_iadd hx hb dL_law_535 ?_
  refine va_sld hx hb hX hbl hbA hS (by rw [show nI i + 1 = nI (i + 1) from nI_add i 1]; exact vp_in_nI (by omega) (by omega)) dL_law_536 ?_
  rw [← hp0]
  have hPm := hP.sub (ws' := wM cI cZ hm b0 b4 b5 b6 b7 b8 b9 f0 f4 f5 f6 f7 f8 m9 v0 v1 v2 v3 v4) [13, 14, 15, 16, 17, 18, 19, 20] rfl
  have hDm := hD.sub (ws' := wM cI cZ hm b0 b4 b5 b6 b7 b8 b9 f0 f4 f5 f6 f7 f8 m9 v0 v1 v2 v3 v4) [13, 14, 15, 16, 17, 18, 19, 20] (by decide) rfl
  have hFm := va_free (wc := wM cI cZ hm b0 b4 b5 b6 b7 b8 b9 f0 f4 f5 f6 f7 f8 m9 v0 v1 v2 v3 v4) hD hS hA [13, 14, 15, 16, 17, 18, 19, 20] rfl
  refine va_calli (va_runV (As := [.int p0]) (rest := []) ⟨hx, hb, hml, hown, hts⟩ (c_X1_fillPot l D cI cZ cJ H.size hm b0 b4 b5 b6 b7 b8 b9 f0 f4 f5 f6 f7 f8 m9 v0 v1 v2 v3 v4 p0) (cwV 1 hts gL_law_X1_fillPot rfl rfl rfl (by decide +kernel) ⟨Nat.le_of_ble_eq_true rfl, Nat.le_of_ble_eq_true rfl⟩) ⟨zD_blind, va_recv hK hPm (ci := 1) (q0 := 0) rfl rfl, fun U hU hW => ⟨rfl, zD_mk hPm hK hDm hU hW⟩⟩ rfl rfl hl.1 rfl (lv_room (Nat.le_of_ble_eq_true rfl)) dL_law_537 ⟨by show cl + 1 + 0 ≤ 1060; omega, by show sl + 6 + 0 ≤ 8446; omega⟩) hS (fun q _ h => hFm q h) hFm (fun r6 u6 t6 H1 locs ht hvm w6 hB hz1 hk1 hS => ?_)
  obtain ⟨u6_0, u6_1⟩ := u6
  obtain ⟨hP1, hK1, hD1⟩ := hB
  rw [ht] at hP1
  try dsimp only at w6
  obtain ⟨w6, e6_0, e6_1⟩ := w6
  obtain ⟨hP, hD⟩ := va_join (wr := wO cJ ao go ++ wQ cI cZ h a0 a1 a2 a3 a4 a5 a6 a7 a8 a9 a10 f0 f1 f2 f3 f4 f5 f6 f7 f8 f9 f10 v0 v1 (q_us (q_fpK v2 p0) v2 (v2 + p0)) v3) hP hD [13, 14, 15, 16, 17, 18, 19, 20] [0, 1, 2, 3, 4, 5, 6, 7, 8, 9, 10, 11, 12] rfl rfl (by decide) (by decide) hk1 hFm hP1 hD1
  generalize H1 = H at hP hS ⊢
  subst e6_0
  subst e6_1
  have hP : va_P D vwCl (wO cJ ao go ++ (wQ cI cZ h a0 a1 a2 a3 a4 a5 a6 a7 a8 a9 a10 f0 f1 f2 f3 f4 f5 f6 f7 f8 f9 f10 v0 v1 (q_us (q_fpK v2 p0) v2 (v2 + p0)) v3 ++ wM cI cZ hm b0 b4 b5 b6 b7 b8 b9 f0 f4 f5 f6 f7 f8 m9 v0 v1 (q_us (q_fpK v2 p0) v2 (v2 + p0)) v3 (q_fpK v2 p0))) H := hP
  have hD : va_D (fun q : Nat => s.heap.size ≤ q) (wO cJ ao go ++ (wQ cI cZ h a0 a1 a2 a3 a4 a5 a6 a7 a8 a9 a10 f0 f1 f2 f3 f4 f5 f6 f7 f8 f9 f10 v0 v1 (q_us (q_fpK v2 p0) v2 (v2 + p0)) v3 ++ wM cI cZ hm b0 b4 b5 b6 b7 b8 b9 f0 f4 f5 f6 f7 f8 m9 v0 v1 (q_us (q_fpK v2 p0) v2 (v2 + p0)) v3 (q_fpK v2 p0))) := hD
  refine lv_istore (lv' := [(6, .int r6), (5, .int (q_fpK v2 p0)), (0, .ref b), (1, .ref h), (2, .ref hm), (3, .ref ao), (4, .int (nI i))]) hx hb dL_law_540 hl (by decide) rfl (fun ls hl => ?_)
  refine lv_aload_n hx hb dL_law_542 rfl (lv_at hl 4 rfl) ?_
  have hPm := hP.sub (ws' := wM cI cZ hm b0 b4 b5 b6 b7 b8 b9 f0 f4 f5 f6 f7 f8 m9 v0 v1 (q_us (q_fpK v2 p0) v2 (v2 + p0)) v3 (q_fpK v2 p0)) [13, 14, 15, 16, 17, 18, 19, 20] rfl
  refine vp_callSi (W.runV (As := []) (rest := []) ⟨hx, hb, hml, hown, hts⟩ (c_X1_thrown l D cI cZ cJ hm b0 b4 b5 b6 b7 b8 b9 f0 f4 f5 f6 f7 f8 m9 v0 v1 (q_us (q_fpK v2 p0) v2 (v2 + p0)) v3 (q_fpK v2 p0)) (cwV 0 hts gL_law_X1_thrown rfl rfl rfl (by decide +kernel) ⟨Nat.le_of_ble_eq_true rfl, Nat.le_of_ble_eq_true rfl⟩) ⟨zP_blind, va_recv hK hPm (ci := 1) (q0 := 0) rfl rfl, fun U hU hW => ⟨rfl, zP_mk hPm hK hU hW⟩⟩ rfl rfl hl.1 rfl (lv_room (Nat.le_of_ble_eq_true rfl)) dL_law_543 ⟨by show cl + 1 + 0 ≤ 1060; omega, by show sl + 6 + 0 ≤ 8446; omega⟩) (fun r7 w7 => ?_)
  subst w7
  refine lv_iload hx hb dL_law_546 (lv_at hl 1 rfl) ?_
  refine lv_icmp_eq (tgt := 553) hx hb dL_law_548 (by decide) (fun _ => ?_) (fun c9 => False.elim (c9 rfl))
  refine lv_iload hx hb dL_law_553 (lv_at hl 1 rfl) ?_
  refine lv_if_ne (tgt := 570) hx hb dL_law_555 (by decide) (fun c9 => ?_) (fun c9 => ?_)
  · skip
    refine lv_goto (tgt := 1099) hx hb dL_law_570 (by decide) ?_
    exact hend H locs ls ⟨_, _, _, _, _, _, _, _, _, _, _, _, _, _, _, _, _, _, (iv_fill hI p0), hP, hD, hS⟩ (lv_sub hl [2, 3, 4, 5, 6] rfl)
  · skip
    have hR5 := wR c9
    have hR6 := w6 c9
    refine lv_aload_n hx hb dL_law_558 rfl (lv_at hl 5 rfl) ?_
    refine lv_iconst (v := 0) hx hb dL_law_559 (by decide) ?_
    refine va_lald (D := D) hx hb hK hP 0 2 rfl rfl (show vp_in 0 1 from vp_in_nI (n := 0) (by decide) (by decide)) dL_law_560 ?_
    refine lv_iload hx hb dL_law_561 (lv_at hl 0 rfl) ?_
    refine lv_i2l (v := r6.toInt64) hx hb dL_law_563 rfl ?_
    refine W.lcmp hx hb dL_law_564 ?_
    refine lv_if_eq (tgt := 570) hx hb dL_law_565 (by decide) (fun _ => ?_) (fun c9 => False.elim (c9 (z_cmp (hR5.trans (by rw [hR6])))))
    refine lv_goto (tgt := 1099) hx hb dL_law_570 (by decide) ?_
    exact hend H locs ls ⟨_, _, _, _, _, _, _, _, _, _, _, _, _, _, _, _, _, _, (iv_fill hI p0), hP, hD, hS⟩ (lv_sub hl [2, 3, 4, 5, 6] rfl)
set_option maxHeartbeats 4000000 in
set_option maxRecDepth 100000 in
theorem law_pot {p : Program} {l : Launch} {e : Env} {s : State} {m : MethodId} {below : List Frame} {meth : Method} {c : Code} {Q : State → Prop} {D : va_G} {cI cZ cJ : ClassId} {b L i cl sl : Nat} {xs : Nat → Int32} {ao h a0 a1 a2 a3 a4 a5 a6 a7 a8 a9 a10 hm b0 b4 b5 b6 b7 b8 b9 : Nat} {H : Heap} {locs : List Loc} {ls : Array Slot} (hl0 : l.stackTraces = false) (C0 : zC p s m meth c b L xs) (hZ : zX s) (hK : va_K D vwCl (zT cI cZ cJ) s) (hL : L ≤ 1536) (hi : i + 3 ≤ L) (hc1 : cl + 1 ≤ 1060) (hs1 : sl + 6 ≤ 8446) (hG : zG D cI cZ cJ ao h a0 a1 a2 a3 a4 a5 a6 a7 a8 a9 a10 hm b0 b4 b5 b6 b7 b8 b9 s H locs) (hl : lv_has ls 7 [(0, .ref b), (1, .ref h), (2, .ref hm), (3, .ref ao), (4, .int (nI i))]) (hend : ∀ (H1 : Heap) (locs1 : List Loc) (ls1 : Array Slot), zG D cI cZ cJ ao h a0 a1 a2 a3 a4 a5 a6 a7 a8 a9 a10 hm b0 b4 b5 b6 b7 b8 b9 s H1 locs1 → lv_has ls1 7 [(0, .ref b), (1, .ref h), (2, .ref hm), (3, .ref ao), (4, .int (nI i))] → W p l e room_1 s m #[Value.ref b] below meth c H1 locs1 (cl + 1) (sl + 6) Q (F0 m 1099 ls1 [])) : W p l e room_1 s m #[Value.ref b] below meth c H locs cl sl Q (F0 m 573 ls []) := by
  obtain ⟨hx, hb, hml, hown, hts0, hX, hbl⟩ := C0
  have hts := fun w h => hts0 w (wsL_law_in w h)
  obtain ⟨f0, f1, f2, f3, f4, f5, f6, f7, f8, f9, f10, v0, v1, v2, v3, m9, v4, g, hI, hP, hD, hS⟩ := hG
  have hA : ∀ q : Nat, s.heap.size ≤ q → (fun q : Nat => s.heap.size ≤ q) q := fun _ h => h
  have hbA : ¬ (fun q : Nat => s.heap.size ≤ q) b := Nat.not_le.mpr hbl
  refine lv_aload_n hx hb dL_law_573 rfl (lv_at hl 1 rfl) ?_
  have hPc := hP.sub (ws' := wQ cI cZ h a0 a1 a2 a3 a4 a5 a6 a7 a8 a9 a10 f0 f1 f2 f3 f4 f5 f6 f7 f8 f9 f10 v0 v1 v2 v3) [1, 2, 3, 4, 5, 6, 7, 8, 9, 10, 11, 12] rfl
  refine vp_callSi (W.runV (As := []) (rest := []) ⟨hx, hb, hml, hown, hts⟩ (c_X0_pot l D cI cZ cJ h a0 a1 a2 a3 a4 a5 a6 a7 a8 a9 a10 f0 f1 f2 f3 f4 f5 f6 f7 f8 f9 f10 v0 v1 v2 v3) (cwV 0 hts gL_law_X0_pot rfl rfl rfl (by decide +kernel) ⟨Nat.le_of_ble_eq_true rfl, Nat.le_of_ble_eq_true rfl⟩) ⟨zP_blind, va_recv hK hPc (ci := 0) (q0 := 0) rfl rfl, fun U hU hW => ⟨rfl, zP_mk hPc hK hU hW⟩⟩ rfl rfl hl.1 rfl (lv_room (Nat.le_of_ble_eq_true rfl)) dL_law_574 ⟨by show cl + 0 ≤ 1060; omega, by show sl + 0 ≤ 8446; omega⟩) (fun r5 w5 => ?_)
  have w5 := w5.symm
  subst w5
  refine lv_aload_n hx hb dL_law_577 rfl (lv_at hl 2 rfl) ?_
  have hPm := hP.sub (ws' := wM cI cZ hm b0 b4 b5 b6 b7 b8 b9 f0 f4 f5 f6 f7 f8 m9 v0 v1 v2 v3 v4) [13, 14, 15, 16, 17, 18, 19, 20] rfl
  have hDm := hD.sub (ws' := wM cI cZ hm b0 b4 b5 b6 b7 b8 b9 f0 f4 f5 f6 f7 f8 m9 v0 v1 v2 v3 v4) [13, 14, 15, 16, 17, 18, 19, 20] (by decide) rfl
  have hFm := va_free (wc := wM cI cZ hm b0 b4 b5 b6 b7 b8 b9 f0 f4 f5 f6 f7 f8 m9 v0 v1 v2 v3 v4) hD hS hA [13, 14, 15, 16, 17, 18, 19, 20] rfl
  refine va_calli (va_runV (As := []) (rest := [.int v2]) ⟨hx, hb, hml, hown, hts⟩ (c_X1_pot l D cI cZ cJ H.size hm b0 b4 b5 b6 b7 b8 b9 f0 f4 f5 f6 f7 f8 m9 v0 v1 v2 v3 v4) (cwV 0 hts gL_law_X1_pot rfl rfl rfl (by decide +kernel) ⟨Nat.le_of_ble_eq_true rfl, Nat.le_of_ble_eq_true rfl⟩) ⟨zD_blind, va_recv hK hPm (ci := 1) (q0 := 0) rfl rfl, fun U hU hW => ⟨rfl, zD_mk hPm hK hDm hU hW⟩⟩ rfl rfl hl.1 rfl (lv_room (Nat.le_of_ble_eq_true rfl)) dL_law_578 ⟨by show cl + 0 ≤ 1060; omega, by show sl + 0 ≤ 8446; omega⟩) hS (fun q _ h => hFm q h) hFm (fun r6 u6 t6 H1 locs ht hvm w6 hB hz1 hk1 hS => ?_)
  obtain ⟨hP1, hK1, hD1⟩ := hB
  rw [ht] at hP1
  try dsimp only at w6
  obtain ⟨w6, e6_0⟩ := w6
  obtain ⟨hP, hD⟩ := va_join (wr := wO cJ ao g ++ wQ cI cZ h a0 a1 a2 a3 a4 a5 a6 a7 a8 a9 a10 f0 f1 f2 f3 f4 f5 f6 f7 f8 f9 f10 v0 v1 v2 v3) hP hD [13, 14, 15, 16, 17, 18, 19, 20] [0, 1, 2, 3, 4, 5, 6, 7, 8, 9, 10, 11, 12] rfl rfl (by decide) (by decide) hk1 hFm hP1 hD1
  generalize H1 = H at hP hS ⊢
  subst e6_0
  have hP : va_P D vwCl (wO cJ ao g ++ (wQ cI cZ h a0 a1 a2 a3 a4 a5 a6 a7 a8 a9 a10 f0 f1 f2 f3 f4 f5 f6 f7 f8 f9 f10 v0 v1 v2 v3 ++ wM cI cZ hm b0 b4 b5 b6 b7 b8 b9 f0 f4 f5 f6 f7 f8 m9 v0 v1 v2 v3 0)) H := hP
  have hD : va_D (fun q : Nat => s.heap.size ≤ q) (wO cJ ao g ++ (wQ cI cZ h a0 a1 a2 a3 a4 a5 a6 a7 a8 a9 a10 f0 f1 f2 f3 f4 f5 f6 f7 f8 f9 f10 v0 v1 v2 v3 ++ wM cI cZ hm b0 b4 b5 b6 b7 b8 b9 f0 f4 f5 f6 f7 f8 m9 v0 v1 v2 v3 0)) := hD
  have w6 := w6.symm
  subst w6
  refine lv_icmp_eq (tgt := 1099) hx hb dL_law_581 (by decide) (fun _ => ?_) (fun c9 => False.elim (c9 rfl))
  refine W.widen (k := cl + 1) (n := sl + 6) (by omega) (by omega) ?_
  exact hend H locs ls ⟨_, _, _, _, _, _, _, _, _, _, _, _, _, _, _, _, _, _, hI, hP, hD, hS⟩ (lv_sub hl [0, 1, 2, 3, 4] rfl)
set_option maxHeartbeats 4000000 in
set_option maxRecDepth 100000 in
theorem law_addMilestone {p : Program} {l : Launch} {e : Env} {s : State} {m : MethodId} {below : List Frame} {meth : Method} {c : Code} {Q : State → Prop} {D : va_G} {cI cZ cJ : ClassId} {b L i cl sl : Nat} {xs : Nat → Int32} {ao h a0 a1 a2 a3 a4 a5 a6 a7 a8 a9 a10 hm b0 b4 b5 b6 b7 b8 b9 : Nat} {H : Heap} {locs : List Loc} {ls : Array Slot} (hl0 : l.stackTraces = false) (C0 : zC p s m meth c b L xs) (hZ : zX s) (hK : va_K D vwCl (zT cI cZ cJ) s) (hL : L ≤ 1536) (hi : i + 3 ≤ L) (hc1 : cl + 1 ≤ 1060) (hs1 : sl + 6 ≤ 8446) (hG : zG D cI cZ cJ ao h a0 a1 a2 a3 a4 a5 a6 a7 a8 a9 a10 hm b0 b4 b5 b6 b7 b8 b9 s H locs) (hl : lv_has ls 7 [(0, .ref b), (1, .ref h), (2, .ref hm), (3, .ref ao), (4, .int (nI i))]) (hend : ∀ (H1 : Heap) (locs1 : List Loc) (ls1 : Array Slot), zG D cI cZ cJ ao h a0 a1 a2 a3 a4 a5 a6 a7 a8 a9 a10 hm b0 b4 b5 b6 b7 b8 b9 s H1 locs1 → lv_has ls1 7 [(0, .ref b), (1, .ref h), (2, .ref hm), (3, .ref ao), (4, .int (nI i))] → W p l e room_1 s m #[Value.ref b] below meth c H1 locs1 (cl + 1) (sl + 6) Q (F0 m 1099 ls1 [])) : W p l e room_1 s m #[Value.ref b] below meth c H locs cl sl Q (F0 m 586 ls []) := by
  obtain ⟨hx, hb, hml, hown, hts0, hX, hbl⟩ := C0
  have hts := fun w h => hts0 w (wsL_law_in w h)
  obtain ⟨f0, f1, f2, f3, f4, f5, f6, f7, f8, f9, f10, v0, v1, v2, v3, m9, v4, g, hI, hP, hD, hS⟩ := hG
  have hA : ∀ q : Nat, s.heap.size ≤ q → (fun q : Nat => s.heap.size ≤ q) q := fun _ h => h
  have hbA : ¬ (fun q : Nat => s.heap.size ≤ q) b := Nat.not_le.mpr hbl
  obtain ⟨p0, hp0⟩ : ∃ z, z = xs (nI i + 1).toNatClampNeg := ⟨_, rfl⟩
  refine lv_aload_n hx hb dL_law_586 rfl (lv_at hl 1 rfl) ?_
  refine lv_aload_n hx hb dL_law_587 rfl (lv_at hl 0 rfl) ?_
  refine lv_iload hx hb dL_law_588 (lv_at hl 4 rfl) ?_
  refine lv_iconst (v := 1) hx hb dL_law_590 (by decide) ?_
  refine lv_iadd hx hb dL_law_591 ?_
  refine va_sld hx hb hX hbl hbA hS (by rw [show nI i + 1 = nI (i + 1) from nI_add i 1]; exact vp_in_nI (by omega) (by omega)) dL_law_592 ?_
  rw [← hp0]
  refine lv_aload_n hx hb dL_law_593 rfl (lv_at hl 3 rfl) ?_
  have hPc := hP.sub (ws' := wO cJ ao g ++ wQ cI cZ h a0 a1 a2 a3 a4 a5 a6 a7 a8 a9 a10 f0 f1 f2 f3 f4 f5 f6 f7 f8 f9 f10 v0 v1 v2 v3) [0, 1, 2, 3, 4, 5, 6, 7, 8, 9, 10, 11, 12] rfl
  have hDc := hD.sub (ws' := wO cJ ao g ++ wQ cI cZ h a0 a1 a2 a3 a4 a5 a6 a7 a8 a9 a10 f0 f1 f2 f3 f4 f5 f6 f7 f8 f9 f10 v0 v1 v2 v3) [0, 1, 2, 3, 4, 5, 6, 7, 8, 9, 10, 11, 12] (by decide) rfl
  have hFc := va_free (wc := wO cJ ao g ++ wQ cI cZ h a0 a1 a2 a3 a4 a5 a6 a7 a8 a9 a10 f0 f1 f2 f3 f4 f5 f6 f7 f8 f9 f10 v0 v1 v2 v3) hD hS hA [0, 1, 2, 3, 4, 5, 6, 7, 8, 9, 10, 11, 12] rfl
  refine vx_calli (vx_runSX (As := [.ref h, .int p0, .ref ao]) (rest := []) ⟨hx, hb, hml, hown, hts⟩ (c_L_addMilestone l hl0 D cI cZ cJ H.size h a0 a1 a2 a3 a4 a5 a6 a7 a8 a9 a10 f0 f1 f2 f3 f4 f5 f6 f7 f8 f9 f10 v0 v1 v2 v3 ao g p0 hI) (vx_cwSW 3 hts gL_law_L_addMilestone rfl rfl rfl (by decide +kernel) ⟨Nat.le_of_ble_eq_true rfl, Nat.le_of_ble_eq_true rfl⟩) ⟨zDX_blind, fun U hU hW => ⟨rfl, zX_on hZ hS (fun _ h => h) hU hW, zD_mk hPc hK hDc hU hW⟩⟩ rfl rfl hl.1 rfl (lv_room (Nat.le_of_ble_eq_true rfl)) dL_law_594 ⟨hc1, hs1⟩) hS (fun q _ h => hFc q h) hFc (fun q _ z => z.elim) (fun E ce q9 u t H1 locs1 _ _ _ hE _ _ _ _ _ _ => hE.elim) (fun r5 u5 t5 H1 locs ht hvm w5 hB hz1 hk1 hS => ?_)
  obtain ⟨u5_0, u5_1, go⟩ := u5
  obtain ⟨hP1, hK1, hD1⟩ := hB
  rw [ht] at hP1
  try dsimp only at w5
  obtain ⟨wK, e5_0, e5_1, wR⟩ := w5
  obtain ⟨hP, hD⟩ := va_join (wr := wM cI cZ hm b0 b4 b5 b6 b7 b8 b9 f0 f4 f5 f6 f7 f8 m9 v0 v1 v2 v3 v4) hP hD [0, 1, 2, 3, 4, 5, 6, 7, 8, 9, 10, 11, 12] [13, 14, 15, 16, 17, 18, 19, 20] rfl rfl (by decide) (by decide) hk1 hFc hP1 hD1
  generalize H1 = H at hP hS ⊢
  subst wK
  have hP := hP.sub (ws' := wO cJ ao go ++ (wQ cI cZ h a0 a1 a2 a3 a4 a5 a6 a7 a8 a9 a10 f0 f1 f2 f3 f4 f5 f6 u5_0 f8 f9 f10 u5_1 v1 v2 v3 ++ wM cI cZ hm b0 b4 b5 b6 b7 b8 b9 f0 f4 f5 f6 f7 f8 m9 v0 v1 v2 v3 v4)) [8, 9, 10, 11, 12, 13, 14, 15, 16, 17, 18, 19, 20, 0, 1, 2, 3, 4, 5, 6, 7] rfl
  have hD := hD.sub (ws' := wO cJ ao go ++ (wQ cI cZ h a0 a1 a2 a3 a4 a5 a6 a7 a8 a9 a10 f0 f1 f2 f3 f4 f5 f6 u5_0 f8 f9 f10 u5_1 v1 v2 v3 ++ wM cI cZ hm b0 b4 b5 b6 b7 b8 b9 f0 f4 f5 f6 f7 f8 m9 v0 v1 v2 v3 v4)) [8, 9, 10, 11, 12, 13, 14, 15, 16, 17, 18, 19, 20, 0, 1, 2, 3, 4, 5, 6, 7] (by decide) rfl
  subst e5_0
  subst e5_1
  have hP : va_P D vwCl (wO cJ ao go ++ (wQ cI cZ h a0 a1 a2 a3 a4 a5 a6 a7 a8 a9 a10 f0 f1 f2 f3 f4 f5 f6 (q_up (q_amK v0 p0) f7 v0.toNatClampNeg p0) f8 f9 f10 (q_us (q_amK v0 p0) v0 (v0 + 1)) v1 v2 v3 ++ wM cI cZ hm b0 b4 b5 b6 b7 b8 b9 f0 f4 f5 f6 f7 f8 m9 v0 v1 v2 v3 v4)) H := hP
  have hD : va_D (fun q : Nat => s.heap.size ≤ q) (wO cJ ao go ++ (wQ cI cZ h a0 a1 a2 a3 a4 a5 a6 a7 a8 a9 a10 f0 f1 f2 f3 f4 f5 f6 (q_up (q_amK v0 p0) f7 v0.toNatClampNeg p0) f8 f9 f10 (q_us (q_amK v0 p0) v0 (v0 + 1)) v1 v2 v3 ++ wM cI cZ hm b0 b4 b5 b6 b7 b8 b9 f0 f4 f5 f6 f7 f8 m9 v0 v1 v2 v3 v4)) := hD
  refine lv_istore (lv' := [(5, .int (q_amK v0 p0)), (0, .ref b), (1, .ref h), (2, .ref hm), (3, .ref ao), (4, .int (nI i))]) hx hb dL_law_597 hl (by decide) rfl (fun ls hl => ?_)
  refine lv_aload_n hx hb dL_law_599 rfl (lv_at hl 3 rfl) ?_
  refine lv_aload_n hx hb dL_law_600 rfl (lv_at hl 1 rfl) ?_
  refine lv_iload hx hb dL_law_601 (lv_at hl 5 rfl) ?_
  refine lv_iconst (v := 1) hx hb dL_law_603 (by decide) ?_
  refine lv_iadd hx hb dL_law_604 ?_
  refine va_sld hx hb hX hbl hbA hS (by rw [show nI i + 1 = nI (i + 1) from nI_add i 1]; exact vp_in_nI (by omega) (by omega)) dL_law_605 ?_
  rw [← hp0]
  have hPm := hP.sub (ws' := wM cI cZ hm b0 b4 b5 b6 b7 b8 b9 f0 f4 f5 f6 f7 f8 m9 v0 v1 v2 v3 v4) [13, 14, 15, 16, 17, 18, 19, 20] rfl
  have hDm := hD.sub (ws' := wM cI cZ hm b0 b4 b5 b6 b7 b8 b9 f0 f4 f5 f6 f7 f8 m9 v0 v1 v2 v3 v4) [13, 14, 15, 16, 17, 18, 19, 20] (by decide) rfl
  have hFm := va_free (wc := wM cI cZ hm b0 b4 b5 b6 b7 b8 b9 f0 f4 f5 f6 f7 f8 m9 v0 v1 v2 v3 v4) hD hS hA [13, 14, 15, 16, 17, 18, 19, 20] rfl
  refine va_calli (va_runV (As := [.int p0]) (rest := []) ⟨hx, hb, hml, hown, hts⟩ (c_X1_addMilestone l D cI cZ cJ H.size hm b0 b4 b5 b6 b7 b8 b9 f0 f4 f5 f6 f7 f8 m9 v0 v1 v2 v3 v4 p0 (iv_hv hI)) (cwV 1 hts gL_law_X1_addMilestone rfl rfl rfl (by decide +kernel) ⟨Nat.le_of_ble_eq_true rfl, Nat.le_of_ble_eq_true rfl⟩) ⟨zD_blind, va_recv hK hPm (ci := 1) (q0 := 0) rfl rfl, fun U hU hW => ⟨rfl, zD_mk hPm hK hDm hU hW⟩⟩ rfl rfl hl.1 rfl (lv_room (Nat.le_of_ble_eq_true rfl)) dL_law_606 ⟨by show cl + 1 + 0 ≤ 1060; omega, by show sl + 6 + 0 ≤ 8446; omega⟩) hS (fun q _ h => hFm q h) hFm (fun r6 u6 t6 H1 locs ht hvm w6 hB hz1 hk1 hS => ?_)
  obtain ⟨u6_0, u6_1, u6_2, u6_3⟩ := u6
  obtain ⟨hP1, hK1, hD1⟩ := hB
  rw [ht] at hP1
  try dsimp only at w6
  obtain ⟨w6, e6_0, e6_1, e6_2, e6_3⟩ := w6
  obtain ⟨hP, hD⟩ := va_join (wr := wO cJ ao go ++ wQ cI cZ h a0 a1 a2 a3 a4 a5 a6 a7 a8 a9 a10 f0 f1 f2 f3 f4 f5 f6 (q_up (q_amK v0 p0) f7 v0.toNatClampNeg p0) f8 f9 f10 (q_us (q_amK v0 p0) v0 (v0 + 1)) v1 v2 v3) hP hD [13, 14, 15, 16, 17, 18, 19, 20] [0, 1, 2, 3, 4, 5, 6, 7, 8, 9, 10, 11, 12] rfl rfl (by decide) (by decide) hk1 hFm hP1 hD1
  generalize H1 = H at hP hS ⊢
  subst e6_0
  subst e6_1
  subst e6_2
  subst e6_3
  have hP : va_P D vwCl (wO cJ ao go ++ (wQ cI cZ h a0 a1 a2 a3 a4 a5 a6 a7 a8 a9 a10 f0 f1 f2 f3 f4 f5 f6 (q_up (q_amK v0 p0) f7 v0.toNatClampNeg p0) f8 f9 f10 (q_us (q_amK v0 p0) v0 (v0 + 1)) v1 v2 v3 ++ wM cI cZ hm b0 b4 b5 b6 b7 b8 b9 f0 f4 f5 f6 (q_up (q_amK v0 p0) f7 v0.toNatClampNeg p0) (q_up (q_amK v0 p0) f8 v0.toNatClampNeg 0) m9 (q_us (q_amK v0 p0) v0 (v0 + 1)) v1 v2 v3 (q_amK v0 p0))) H := hP
  have hD : va_D (fun q : Nat => s.heap.size ≤ q) (wO cJ ao go ++ (wQ cI cZ h a0 a1 a2 a3 a4 a5 a6 a7 a8 a9 a10 f0 f1 f2 f3 f4 f5 f6 (q_up (q_amK v0 p0) f7 v0.toNatClampNeg p0) f8 f9 f10 (q_us (q_amK v0 p0) v0 (v0 + 1)) v1 v2 v3 ++ wM cI cZ hm b0 b4 b5 b6 b7 b8 b9 f0 f4 f5 f6 (q_up (q_amK v0 p0) f7 v0.toNatClampNeg p0) (q_up (q_amK v0 p0) f8 v0.toNatClampNeg 0) m9 (q_us (q_amK v0 p0) v0 (v0 + 1)) v1 v2 v3 (q_amK v0 p0))) := hD
  refine lv_istore (lv' := [(6, .int r6), (5, .int (q_amK v0 p0)), (0, .ref b), (1, .ref h), (2, .ref hm), (3, .ref ao), (4, .int (nI i))]) hx hb dL_law_609 hl (by decide) rfl (fun ls hl => ?_)
  refine lv_aload_n hx hb dL_law_611 rfl (lv_at hl 4 rfl) ?_
  have hPm := hP.sub (ws' := wM cI cZ hm b0 b4 b5 b6 b7 b8 b9 f0 f4 f5 f6 (q_up (q_amK v0 p0) f7 v0.toNatClampNeg p0) (q_up (q_amK v0 p0) f8 v0.toNatClampNeg 0) m9 (q_us (q_amK v0 p0) v0 (v0 + 1)) v1 v2 v3 (q_amK v0 p0)) [13, 14, 15, 16, 17, 18, 19, 20] rfl
  refine vp_callSi (W.runV (As := []) (rest := []) ⟨hx, hb, hml, hown, hts⟩ (c_X1_thrown l D cI cZ cJ hm b0 b4 b5 b6 b7 b8 b9 f0 f4 f5 f6 (q_up (q_amK v0 p0) f7 v0.toNatClampNeg p0) (q_up (q_amK v0 p0) f8 v0.toNatClampNeg 0) m9 (q_us (q_amK v0 p0) v0 (v0 + 1)) v1 v2 v3 (q_amK v0 p0)) (cwV 0 hts gL_law_X1_thrown rfl rfl rfl (by decide +kernel) ⟨Nat.le_of_ble_eq_true rfl, Nat.le_of_ble_eq_true rfl⟩) ⟨zP_blind, va_recv hK hPm (ci := 1) (q0 := 0) rfl rfl, fun U hU hW => ⟨rfl, zP_mk hPm hK hU hW⟩⟩ rfl rfl hl.1 rfl (lv_room (Nat.le_of_ble_eq_true rfl)) dL_law_612 ⟨by show cl + 1 + 0 ≤ 1060; omega, by show sl + 6 + 0 ≤ 8446; omega⟩) (fun r7 w7 => ?_)
  subst w7
  refine lv_iload hx hb dL_law_615 (lv_at hl 1 rfl) ?_
  refine lv_icmp_eq (tgt := 622) hx hb dL_law_617 (by decide) (fun _ => ?_) (fun c9 => False.elim (c9 rfl))
  refine lv_iload hx hb dL_law_622 (lv_at hl 1 rfl) ?_
  refine lv_if_ne (tgt := 639) hx hb dL_law_624 (by decide) (fun c9 => ?_) (fun c9 => ?_)
  · skip
    refine lv_goto (tgt := 1099) hx hb dL_law_639 (by decide) ?_
    rw [(iv_add hI p0).1] at hP hD
    exact hend H locs ls ⟨_, _, _, _, _, _, _, _, _, _, _, _, _, _, _, _, _, _, (iv_add hI p0).2, hP, hD, hS⟩ (lv_sub hl [2, 3, 4, 5, 6] rfl)
  · skip
    have hR5 := wR c9
    have hR6 := w6 c9
    refine lv_aload_n hx hb dL_law_627 rfl (lv_at hl 5 rfl) ?_
    refine lv_iconst (v := 0) hx hb dL_law_628 (by decide) ?_
    refine va_lald (D := D) hx hb hK hP 0 2 rfl rfl (show vp_in 0 1 from vp_in_nI (n := 0) (by decide) (by decide)) dL_law_629 ?_
    refine lv_iload hx hb dL_law_630 (lv_at hl 0 rfl) ?_
    refine lv_i2l (v := r6.toInt64) hx hb dL_law_632 rfl ?_
    refine W.lcmp hx hb dL_law_633 ?_
    refine lv_if_eq (tgt := 639) hx hb dL_law_634 (by decide) (fun _ => ?_) (fun c9 => False.elim (c9 (z_cmp (hR5.trans (by rw [hR6])))))
    refine lv_goto (tgt := 1099) hx hb dL_law_639 (by decide) ?_
    rw [(iv_add hI p0).1] at hP hD
    exact hend H locs ls ⟨_, _, _, _, _, _, _, _, _, _, _, _, _, _, _, _, _, _, (iv_add hI p0).2, hP, hD, hS⟩ (lv_sub hl [2, 3, 4, 5, 6] rfl)
set_option maxHeartbeats 4000000 in
set_option maxRecDepth 100000 in
theorem law_prove {p : Program} {l : Launch} {e : Env} {s : State} {m : MethodId} {below : List Frame} {meth : Method} {c : Code} {Q : State → Prop} {D : va_G} {cI cZ cJ : ClassId} {b L i cl sl : Nat} {xs : Nat → Int32} {ao h a0 a1 a2 a3 a4 a5 a6 a7 a8 a9 a10 hm b0 b4 b5 b6 b7 b8 b9 : Nat} {H : Heap} {locs : List Loc} {ls : Array Slot} (hl0 : l.stackTraces = false) (C0 : zC p s m meth c b L xs) (hZ : zX s) (hK : va_K D vwCl (zT cI cZ cJ) s) (hL : L ≤ 1536) (hi : i + 3 ≤ L) (hc1 : cl + 1 ≤ 1060) (hs1 : sl + 6 ≤ 8446) (hG : zG D cI cZ cJ ao h a0 a1 a2 a3 a4 a5 a6 a7 a8 a9 a10 hm b0 b4 b5 b6 b7 b8 b9 s H locs) (hl : lv_has ls 7 [(0, .ref b), (1, .ref h), (2, .ref hm), (3, .ref ao), (4, .int (nI i))]) (hend : ∀ (H1 : Heap) (locs1 : List Loc) (ls1 : Array Slot), zG D cI cZ cJ ao h a0 a1 a2 a3 a4 a5 a6 a7 a8 a9 a10 hm b0 b4 b5 b6 b7 b8 b9 s H1 locs1 → lv_has ls1 7 [(0, .ref b), (1, .ref h), (2, .ref hm), (3, .ref ao), (4, .int (nI i))] → W p l e room_1 s m #[Value.ref b] below meth c H1 locs1 (cl + 1) (sl + 6) Q (F0 m 1099 ls1 [])) : W p l e room_1 s m #[Value.ref b] below meth c H locs cl sl Q (F0 m 642 ls []) := by
  obtain ⟨hx, hb, hml, hown, hts0, hX, hbl⟩ := C0
  have hts := fun w h => hts0 w (wsL_law_in w h)
  obtain ⟨f0, f1, f2, f3, f4, f5, f6, f7, f8, f9, f10, v0, v1, v2, v3, m9, v4, g, hI, hP, hD, hS⟩ := hG
  have hA : ∀ q : Nat, s.heap.size ≤ q → (fun q : Nat => s.heap.size ≤ q) q := fun _ h => h
  have hbA : ¬ (fun q : Nat => s.heap.size ≤ q) b := Nat.not_le.mpr hbl
  obtain ⟨p0, hp0⟩ : ∃ z, z = xs (nI i + 1).toNatClampNeg := ⟨_, rfl⟩
  refine lv_aload_n hx hb dL_law_642 rfl (lv_at hl 1 rfl) ?_
  refine lv_aload_n hx hb dL_law_643 rfl (lv_at hl 0 rfl) ?_
  refine lv_iload hx hb dL_law_644 (lv_at hl 4 rfl) ?_
  refine lv_iconst (v := 1) hx hb dL_law_646 (by decide) ?_
  refine lv_iadd hx hb dL_law_647 ?_
  refine va_sld hx hb hX hbl hbA hS (by rw [show nI i + 1 = nI (i + 1) from nI_add i 1]; exact vp_in_nI (by omega) (by omega)) dL_law_648 ?_
  rw [← hp0]
  refine lv_aload_n hx hb dL_law_649 rfl (lv_at hl 3 rfl) ?_
  have hPc := hP.sub (ws' := wO cJ ao g ++ wQ cI cZ h a0 a1 a2 a3 a4 a5 a6 a7 a8 a9 a10 f0 f1 f2 f3 f4 f5 f6 f7 f8 f9 f10 v0 v1 v2 v3) [0, 1, 2, 3, 4, 5, 6, 7, 8, 9, 10, 11, 12] rfl
  have hDc := hD.sub (ws' := wO cJ ao g ++ wQ cI cZ h a0 a1 a2 a3 a4 a5 a6 a7 a8 a9 a10 f0 f1 f2 f3 f4 f5 f6 f7 f8 f9 f10 v0 v1 v2 v3) [0, 1, 2, 3, 4, 5, 6, 7, 8, 9, 10, 11, 12] (by decide) rfl
  have hFc := va_free (wc := wO cJ ao g ++ wQ cI cZ h a0 a1 a2 a3 a4 a5 a6 a7 a8 a9 a10 f0 f1 f2 f3 f4 f5 f6 f7 f8 f9 f10 v0 v1 v2 v3) hD hS hA [0, 1, 2, 3, 4, 5, 6, 7, 8, 9, 10, 11, 12] rfl
  refine vx_calli (vx_runSX (As := [.ref h, .int p0, .ref ao]) (rest := []) ⟨hx, hb, hml, hown, hts⟩ (c_L_prove l hl0 D cI cZ cJ H.size h a0 a1 a2 a3 a4 a5 a6 a7 a8 a9 a10 f0 f1 f2 f3 f4 f5 f6 f7 f8 f9 f10 v0 v1 v2 v3 ao g p0 hI) (vx_cwSW 3 hts gL_law_L_prove rfl rfl rfl (by decide +kernel) ⟨Nat.le_of_ble_eq_true rfl, Nat.le_of_ble_eq_true rfl⟩) ⟨zDX_blind, fun U hU hW => ⟨rfl, zX_on hZ hS (fun _ h => h) hU hW, zD_mk hPc hK hDc hU hW⟩⟩ rfl rfl hl.1 rfl (lv_room (Nat.le_of_ble_eq_true rfl)) dL_law_650 ⟨hc1, hs1⟩) hS (fun q _ h => hFc q h) hFc (fun q _ z => z.elim) (fun E ce q9 u t H1 locs1 _ _ _ hE _ _ _ _ _ _ => hE.elim) (fun r5 u5 t5 H1 locs ht hvm w5 hB hz1 hk1 hS => ?_)
  obtain ⟨u5_0, go⟩ := u5
  obtain ⟨hP1, hK1, hD1⟩ := hB
  rw [ht] at hP1
  try dsimp only at w5
  obtain ⟨wK, e5_0, wR⟩ := w5
  obtain ⟨hP, hD⟩ := va_join (wr := wM cI cZ hm b0 b4 b5 b6 b7 b8 b9 f0 f4 f5 f6 f7 f8 m9 v0 v1 v2 v3 v4) hP hD [0, 1, 2, 3, 4, 5, 6, 7, 8, 9, 10, 11, 12] [13, 14, 15, 16, 17, 18, 19, 20] rfl rfl (by decide) (by decide) hk1 hFc hP1 hD1
  generalize H1 = H at hP hS ⊢
  subst wK
  have hP := hP.sub (ws' := wO cJ ao go ++ (wQ cI cZ h a0 a1 a2 a3 a4 a5 a6 a7 a8 a9 a10 f0 f1 f2 f3 f4 f5 f6 f7 u5_0 f9 f10 v0 v1 v2 v3 ++ wM cI cZ hm b0 b4 b5 b6 b7 b8 b9 f0 f4 f5 f6 f7 f8 m9 v0 v1 v2 v3 v4)) [8, 9, 10, 11, 12, 13, 14, 15, 16, 17, 18, 19, 20, 0, 1, 2, 3, 4, 5, 6, 7] rfl
  have hD := hD.sub (ws' := wO cJ ao go ++ (wQ cI cZ h a0 a1 a2 a3 a4 a5 a6 a7 a8 a9 a10 f0 f1 f2 f3 f4 f5 f6 f7 u5_0 f9 f10 v0 v1 v2 v3 ++ wM cI cZ hm b0 b4 b5 b6 b7 b8 b9 f0 f4 f5 f6 f7 f8 m9 v0 v1 v2 v3 v4)) [8, 9, 10, 11, 12, 13, 14, 15, 16, 17, 18, 19, 20, 0, 1, 2, 3, 4, 5, 6, 7] (by decide) rfl
  subst e5_0
  have hP : va_P D vwCl (wO cJ ao go ++ (wQ cI cZ h a0 a1 a2 a3 a4 a5 a6 a7 a8 a9 a10 f0 f1 f2 f3 f4 f5 f6 f7 (q_up (q_prK v0 v1 p0) f8 p0.toNatClampNeg (q_tog (f8 p0.toNatClampNeg))) f9 f10 v0 v1 v2 v3 ++ wM cI cZ hm b0 b4 b5 b6 b7 b8 b9 f0 f4 f5 f6 f7 f8 m9 v0 v1 v2 v3 v4)) H := hP
  have hD : va_D (fun q : Nat => s.heap.size ≤ q) (wO cJ ao go ++ (wQ cI cZ h a0 a1 a2 a3 a4 a5 a6 a7 a8 a9 a10 f0 f1 f2 f3 f4 f5 f6 f7 (q_up (q_prK v0 v1 p0) f8 p0.toNatClampNeg (q_tog (f8 p0.toNatClampNeg))) f9 f10 v0 v1 v2 v3 ++ wM cI cZ hm b0 b4 b5 b6 b7 b8 b9 f0 f4 f5 f6 f7 f8 m9 v0 v1 v2 v3 v4)) := hD
  refine lv_istore (lv' := [(5, .int (q_prK v0 v1 p0)), (0, .ref b), (1, .ref h), (2, .ref hm), (3, .ref ao), (4, .int (nI i))]) hx hb dL_law_653 hl (by decide) rfl (fun ls hl => ?_)
  refine lv_aload_n hx hb dL_law_655 rfl (lv_at hl 3 rfl) ?_
  refine lv_aload_n hx hb dL_law_656 rfl (lv_at hl 1 rfl) ?_
  refine lv_iload hx hb dL_law_657 (lv_at hl 5 rfl) ?_
  refine lv_iconst (v := 1) hx hb dL_law_659 (by decide) ?_
  refine lv_iadd hx hb dL_law_660 ?_
  refine va_sld hx hb hX hbl hbA hS (by rw [show nI i + 1 = nI (i + 1) from nI_add i 1]; exact vp_in_nI (by omega) (by omega)) dL_law_661 ?_
  rw [← hp0]
  have hPm := hP.sub (ws' := wM cI cZ hm b0 b4 b5 b6 b7 b8 b9 f0 f4 f5 f6 f7 f8 m9 v0 v1 v2 v3 v4) [13, 14, 15, 16, 17, 18, 19, 20] rfl
  have hDm := hD.sub (ws' := wM cI cZ hm b0 b4 b5 b6 b7 b8 b9 f0 f4 f5 f6 f7 f8 m9 v0 v1 v2 v3 v4) [13, 14, 15, 16, 17, 18, 19, 20] (by decide) rfl
  have hFm := va_free (wc := wM cI cZ hm b0 b4 b5 b6 b7 b8 b9 f0 f4 f5 f6 f7 f8 m9 v0 v1 v2 v3 v4) hD hS hA [13, 14, 15, 16, 17, 18, 19, 20] rfl
  refine va_calli (va_runV (As := [.int p0]) (rest := []) ⟨hx, hb, hml, hown, hts⟩ (c_X1_prove l D cI cZ cJ H.size hm b0 b4 b5 b6 b7 b8 b9 f0 f4 f5 f6 f7 f8 m9 v0 v1 v2 v3 v4 p0 (iv_v0 hI)) (cwV 1 hts gL_law_X1_prove rfl rfl rfl (by decide +kernel) ⟨Nat.le_of_ble_eq_true rfl, Nat.le_of_ble_eq_true rfl⟩) ⟨zD_blind, va_recv hK hPm (ci := 1) (q0 := 0) rfl rfl, fun U hU hW => ⟨rfl, zD_mk hPm hK hDm hU hW⟩⟩ rfl rfl hl.1 rfl (lv_room (Nat.le_of_ble_eq_true rfl)) dL_law_662 ⟨by show cl + 1 + 0 ≤ 1060; omega, by show sl + 6 + 0 ≤ 8446; omega⟩) hS (fun q _ h => hFm q h) hFm (fun r6 u6 t6 H1 locs ht hvm w6 hB hz1 hk1 hS => ?_)
  obtain ⟨u6_0, u6_1⟩ := u6
  obtain ⟨hP1, hK1, hD1⟩ := hB
  rw [ht] at hP1
  try dsimp only at w6
  obtain ⟨w6, e6_0, e6_1⟩ := w6
  obtain ⟨hP, hD⟩ := va_join (wr := wO cJ ao go ++ wQ cI cZ h a0 a1 a2 a3 a4 a5 a6 a7 a8 a9 a10 f0 f1 f2 f3 f4 f5 f6 f7 (q_up (q_prK v0 v1 p0) f8 p0.toNatClampNeg (q_tog (f8 p0.toNatClampNeg))) f9 f10 v0 v1 v2 v3) hP hD [13, 14, 15, 16, 17, 18, 19, 20] [0, 1, 2, 3, 4, 5, 6, 7, 8, 9, 10, 11, 12] rfl rfl (by decide) (by decide) hk1 hFm hP1 hD1
  generalize H1 = H at hP hS ⊢
  subst e6_0
  subst e6_1
  have hP : va_P D vwCl (wO cJ ao go ++ (wQ cI cZ h a0 a1 a2 a3 a4 a5 a6 a7 a8 a9 a10 f0 f1 f2 f3 f4 f5 f6 f7 (q_up (q_prK v0 v1 p0) f8 p0.toNatClampNeg (q_tog (f8 p0.toNatClampNeg))) f9 f10 v0 v1 v2 v3 ++ wM cI cZ hm b0 b4 b5 b6 b7 b8 b9 f0 f4 f5 f6 f7 (q_up (q_prK v0 v1 p0) f8 p0.toNatClampNeg (q_tog (f8 p0.toNatClampNeg))) m9 v0 v1 v2 v3 (q_prK v0 v1 p0))) H := hP
  have hD : va_D (fun q : Nat => s.heap.size ≤ q) (wO cJ ao go ++ (wQ cI cZ h a0 a1 a2 a3 a4 a5 a6 a7 a8 a9 a10 f0 f1 f2 f3 f4 f5 f6 f7 (q_up (q_prK v0 v1 p0) f8 p0.toNatClampNeg (q_tog (f8 p0.toNatClampNeg))) f9 f10 v0 v1 v2 v3 ++ wM cI cZ hm b0 b4 b5 b6 b7 b8 b9 f0 f4 f5 f6 f7 (q_up (q_prK v0 v1 p0) f8 p0.toNatClampNeg (q_tog (f8 p0.toNatClampNeg))) m9 v0 v1 v2 v3 (q_prK v0 v1 p0))) := hD
  refine lv_istore (lv' := [(6, .int r6), (5, .int (q_prK v0 v1 p0)), (0, .ref b), (1, .ref h), (2, .ref hm), (3, .ref ao), (4, .int (nI i))]) hx hb dL_law_665 hl (by decide) rfl (fun ls hl => ?_)
  refine lv_aload_n hx hb dL_law_667 rfl (lv_at hl 4 rfl) ?_
  have hPm := hP.sub (ws' := wM cI cZ hm b0 b4 b5 b6 b7 b8 b9 f0 f4 f5 f6 f7 (q_up (q_prK v0 v1 p0) f8 p0.toNatClampNeg (q_tog (f8 p0.toNatClampNeg))) m9 v0 v1 v2 v3 (q_prK v0 v1 p0)) [13, 14, 15, 16, 17, 18, 19, 20] rfl
  refine vp_callSi (W.runV (As := []) (rest := []) ⟨hx, hb, hml, hown, hts⟩ (c_X1_thrown l D cI cZ cJ hm b0 b4 b5 b6 b7 b8 b9 f0 f4 f5 f6 f7 (q_up (q_prK v0 v1 p0) f8 p0.toNatClampNeg (q_tog (f8 p0.toNatClampNeg))) m9 v0 v1 v2 v3 (q_prK v0 v1 p0)) (cwV 0 hts gL_law_X1_thrown rfl rfl rfl (by decide +kernel) ⟨Nat.le_of_ble_eq_true rfl, Nat.le_of_ble_eq_true rfl⟩) ⟨zP_blind, va_recv hK hPm (ci := 1) (q0 := 0) rfl rfl, fun U hU hW => ⟨rfl, zP_mk hPm hK hU hW⟩⟩ rfl rfl hl.1 rfl (lv_room (Nat.le_of_ble_eq_true rfl)) dL_law_668 ⟨by show cl + 1 + 0 ≤ 1060; omega, by show sl + 6 + 0 ≤ 8446; omega⟩) (fun r7 w7 => ?_)
  subst w7
  refine lv_iload hx hb dL_law_671 (lv_at hl 1 rfl) ?_
  refine lv_icmp_eq (tgt := 678) hx hb dL_law_673 (by decide) (fun _ => ?_) (fun c9 => False.elim (c9 rfl))
  refine lv_iload hx hb dL_law_678 (lv_at hl 1 rfl) ?_
  refine lv_if_ne (tgt := 702) hx hb dL_law_680 (by decide) (fun c9 => ?_) (fun c9 => ?_)
  · skip
    refine lv_goto (tgt := 1099) hx hb dL_law_702 (by decide) ?_
    exact hend H locs ls ⟨_, _, _, _, _, _, _, _, _, _, _, _, _, _, _, _, _, _, (iv_prove hI p0), hP, hD, hS⟩ (lv_sub hl [2, 3, 4, 5, 6] rfl)
  · skip
    have hR5 := wR c9
    have hR6 := w6 c9
    refine lv_aload_n hx hb dL_law_683 rfl (lv_at hl 5 rfl) ?_
    refine lv_iconst (v := 0) hx hb dL_law_684 (by decide) ?_
    refine va_lald (D := D) hx hb hK hP 0 2 rfl rfl (show vp_in 0 1 from vp_in_nI (n := 0) (by decide) (by decide)) dL_law_685 ?_
    refine lv_iload hx hb dL_law_686 (lv_at hl 0 rfl) ?_
    refine lv_if_eq (tgt := 695) hx hb dL_law_688 (by decide) (fun c8 => ?_) (fun c8 => ?_)
    · skip
      have hR7 : r6.toInt64 = 0 := by rw [c8]; rfl
      refine lv_lconst (v := 0) hx hb dL_law_695 (by decide) ?_
      refine W.lcmp hx hb dL_law_696 ?_
      refine lv_if_eq (tgt := 702) hx hb dL_law_697 (by decide) (fun _ => ?_) (fun c9 => False.elim (c9 (z_cmp (hR5.trans (by rw [← hR6]; exact hR7)))))
      refine lv_goto (tgt := 1099) hx hb dL_law_702 (by decide) ?_
      exact hend H locs ls ⟨_, _, _, _, _, _, _, _, _, _, _, _, _, _, _, _, _, _, (iv_prove hI p0), hP, hD, hS⟩ (lv_sub hl [2, 3, 4, 5, 6] rfl)
    · skip
      have hR7 : r6.toInt64 = 1 := by rw [hR6] at c8 ⊢; rw [z_tog1 c8]; rfl
      refine lv_lconst (v := 1) hx hb dL_law_691 (by decide) ?_
      refine lv_goto (tgt := 696) hx hb dL_law_692 (by decide) ?_
      refine W.lcmp hx hb dL_law_696 ?_
      refine lv_if_eq (tgt := 702) hx hb dL_law_697 (by decide) (fun _ => ?_) (fun c9 => False.elim (c9 (z_cmp (hR5.trans (by rw [← hR6]; exact hR7)))))
      refine lv_goto (tgt := 1099) hx hb dL_law_702 (by decide) ?_
      exact hend H locs ls ⟨_, _, _, _, _, _, _, _, _, _, _, _, _, _, _, _, _, _, (iv_prove hI p0), hP, hD, hS⟩ (lv_sub hl [2, 3, 4, 5, 6] rfl)
set_option maxHeartbeats 4000000 in
set_option maxRecDepth 100000 in
theorem law_current {p : Program} {l : Launch} {e : Env} {s : State} {m : MethodId} {below : List Frame} {meth : Method} {c : Code} {Q : State → Prop} {D : va_G} {cI cZ cJ : ClassId} {b L i cl sl : Nat} {xs : Nat → Int32} {ao h a0 a1 a2 a3 a4 a5 a6 a7 a8 a9 a10 hm b0 b4 b5 b6 b7 b8 b9 : Nat} {H : Heap} {locs : List Loc} {ls : Array Slot} (hl0 : l.stackTraces = false) (C0 : zC p s m meth c b L xs) (hZ : zX s) (hK : va_K D vwCl (zT cI cZ cJ) s) (hL : L ≤ 1536) (hi : i + 3 ≤ L) (hc1 : cl + 1 ≤ 1060) (hs1 : sl + 6 ≤ 8446) (hG : zG D cI cZ cJ ao h a0 a1 a2 a3 a4 a5 a6 a7 a8 a9 a10 hm b0 b4 b5 b6 b7 b8 b9 s H locs) (hl : lv_has ls 7 [(0, .ref b), (1, .ref h), (2, .ref hm), (3, .ref ao), (4, .int (nI i))]) (hend : ∀ (H1 : Heap) (locs1 : List Loc) (ls1 : Array Slot), zG D cI cZ cJ ao h a0 a1 a2 a3 a4 a5 a6 a7 a8 a9 a10 hm b0 b4 b5 b6 b7 b8 b9 s H1 locs1 → lv_has ls1 7 [(0, .ref b), (1, .ref h), (2, .ref hm), (3, .ref ao), (4, .int (nI i))] → W p l e room_1 s m #[Value.ref b] below meth c H1 locs1 (cl + 1) (sl + 6) Q (F0 m 1099 ls1 [])) : W p l e room_1 s m #[Value.ref b] below meth c H locs cl sl Q (F0 m 705 ls []) := by
  obtain ⟨hx, hb, hml, hown, hts0, hX, hbl⟩ := C0
  have hts := fun w h => hts0 w (wsL_law_in w h)
  obtain ⟨f0, f1, f2, f3, f4, f5, f6, f7, f8, f9, f10, v0, v1, v2, v3, m9, v4, g, hI, hP, hD, hS⟩ := hG
  have hA : ∀ q : Nat, s.heap.size ≤ q → (fun q : Nat => s.heap.size ≤ q) q := fun _ h => h
  have hbA : ¬ (fun q : Nat => s.heap.size ≤ q) b := Nat.not_le.mpr hbl
  refine lv_aload_n hx hb dL_law_705 rfl (lv_at hl 1 rfl) ?_
  have hPc := hP.sub (ws' := wQ cI cZ h a0 a1 a2 a3 a4 a5 a6 a7 a8 a9 a10 f0 f1 f2 f3 f4 f5 f6 f7 f8 f9 f10 v0 v1 v2 v3) [1, 2, 3, 4, 5, 6, 7, 8, 9, 10, 11, 12] rfl
  refine vp_callSi (W.runV (As := []) (rest := []) ⟨hx, hb, hml, hown, hts⟩ (c_X0_current l D cI cZ cJ h a0 a1 a2 a3 a4 a5 a6 a7 a8 a9 a10 f0 f1 f2 f3 f4 f5 f6 f7 f8 f9 f10 v0 v1 v2 v3) (cwV 0 hts gL_law_X0_current rfl rfl rfl (by decide +kernel) ⟨Nat.le_of_ble_eq_true rfl, Nat.le_of_ble_eq_true rfl⟩) ⟨zP_blind, va_recv hK hPc (ci := 0) (q0 := 0) rfl rfl, fun U hU hW => ⟨rfl, zP_mk hPc hK hU hW⟩⟩ rfl rfl hl.1 rfl (lv_room (Nat.le_of_ble_eq_true rfl)) dL_law_706 ⟨by show cl + 0 ≤ 1060; omega, by show sl + 0 ≤ 8446; omega⟩) (fun r5 w5 => ?_)
  have w5 := w5.symm
  subst w5
  refine lv_aload_n hx hb dL_law_709 rfl (lv_at hl 2 rfl) ?_
  have hPm := hP.sub (ws' := wM cI cZ hm b0 b4 b5 b6 b7 b8 b9 f0 f4 f5 f6 f7 f8 m9 v0 v1 v2 v3 v4) [13, 14, 15, 16, 17, 18, 19, 20] rfl
  have hDm := hD.sub (ws' := wM cI cZ hm b0 b4 b5 b6 b7 b8 b9 f0 f4 f5 f6 f7 f8 m9 v0 v1 v2 v3 v4) [13, 14, 15, 16, 17, 18, 19, 20] (by decide) rfl
  have hFm := va_free (wc := wM cI cZ hm b0 b4 b5 b6 b7 b8 b9 f0 f4 f5 f6 f7 f8 m9 v0 v1 v2 v3 v4) hD hS hA [13, 14, 15, 16, 17, 18, 19, 20] rfl
  refine va_calli (va_runV (As := []) (rest := [.int (q_cur v0 v1)]) ⟨hx, hb, hml, hown, hts⟩ (c_X1_current l D cI cZ cJ H.size hm b0 b4 b5 b6 b7 b8 b9 f0 f4 f5 f6 f7 f8 m9 v0 v1 v2 v3 v4) (cwV 0 hts gL_law_X1_current rfl rfl rfl (by decide +kernel) ⟨Nat.le_of_ble_eq_true rfl, Nat.le_of_ble_eq_true rfl⟩) ⟨zD_blind, va_recv hK hPm (ci := 1) (q0 := 0) rfl rfl, fun U hU hW => ⟨rfl, zD_mk hPm hK hDm hU hW⟩⟩ rfl rfl hl.1 rfl (lv_room (Nat.le_of_ble_eq_true rfl)) dL_law_710 ⟨by show cl + 0 ≤ 1060; omega, by show sl + 0 ≤ 8446; omega⟩) hS (fun q _ h => hFm q h) hFm (fun r6 u6 t6 H1 locs ht hvm w6 hB hz1 hk1 hS => ?_)
  obtain ⟨hP1, hK1, hD1⟩ := hB
  rw [ht] at hP1
  try dsimp only at w6
  obtain ⟨w6, e6_0⟩ := w6
  obtain ⟨hP, hD⟩ := va_join (wr := wO cJ ao g ++ wQ cI cZ h a0 a1 a2 a3 a4 a5 a6 a7 a8 a9 a10 f0 f1 f2 f3 f4 f5 f6 f7 f8 f9 f10 v0 v1 v2 v3) hP hD [13, 14, 15, 16, 17, 18, 19, 20] [0, 1, 2, 3, 4, 5, 6, 7, 8, 9, 10, 11, 12] rfl rfl (by decide) (by decide) hk1 hFm hP1 hD1
  generalize H1 = H at hP hS ⊢
  subst e6_0
  have hP : va_P D vwCl (wO cJ ao g ++ (wQ cI cZ h a0 a1 a2 a3 a4 a5 a6 a7 a8 a9 a10 f0 f1 f2 f3 f4 f5 f6 f7 f8 f9 f10 v0 v1 v2 v3 ++ wM cI cZ hm b0 b4 b5 b6 b7 b8 b9 f0 f4 f5 f6 f7 f8 m9 v0 v1 v2 v3 0)) H := hP
  have hD : va_D (fun q : Nat => s.heap.size ≤ q) (wO cJ ao g ++ (wQ cI cZ h a0 a1 a2 a3 a4 a5 a6 a7 a8 a9 a10 f0 f1 f2 f3 f4 f5 f6 f7 f8 f9 f10 v0 v1 v2 v3 ++ wM cI cZ hm b0 b4 b5 b6 b7 b8 b9 f0 f4 f5 f6 f7 f8 m9 v0 v1 v2 v3 0)) := hD
  have w6 := w6.symm
  subst w6
  refine lv_icmp_eq (tgt := 1099) hx hb dL_law_713 (by decide) (fun _ => ?_) (fun c9 => False.elim (c9 rfl))
  refine W.widen (k := cl + 1) (n := sl + 6) (by omega) (by omega) ?_
  exact hend H locs ls ⟨_, _, _, _, _, _, _, _, _, _, _, _, _, _, _, _, _, _, hI, hP, hD, hS⟩ (lv_sub hl [0, 1, 2, 3, 4] rfl)
set_option maxHeartbeats 4000000 in
set_option maxRecDepth 100000 in
theorem law_vote {p : Program} {l : Launch} {e : Env} {s : State} {m : MethodId} {below : List Frame} {meth : Method} {c : Code} {Q : State → Prop} {D : va_G} {cI cZ cJ : ClassId} {b L i cl sl : Nat} {xs : Nat → Int32} {ao h a0 a1 a2 a3 a4 a5 a6 a7 a8 a9 a10 hm b0 b4 b5 b6 b7 b8 b9 : Nat} {H : Heap} {locs : List Loc} {ls : Array Slot} (hl0 : l.stackTraces = false) (C0 : zC p s m meth c b L xs) (hZ : zX s) (hK : va_K D vwCl (zT cI cZ cJ) s) (hL : L ≤ 1536) (hi : i + 3 ≤ L) (hc1 : cl + 1 ≤ 1060) (hs1 : sl + 6 ≤ 8446) (hG : zG D cI cZ cJ ao h a0 a1 a2 a3 a4 a5 a6 a7 a8 a9 a10 hm b0 b4 b5 b6 b7 b8 b9 s H locs) (hl : lv_has ls 7 [(0, .ref b), (1, .ref h), (2, .ref hm), (3, .ref ao), (4, .int (nI i))]) (hend : ∀ (H1 : Heap) (locs1 : List Loc) (ls1 : Array Slot), zG D cI cZ cJ ao h a0 a1 a2 a3 a4 a5 a6 a7 a8 a9 a10 hm b0 b4 b5 b6 b7 b8 b9 s H1 locs1 → lv_has ls1 7 [(0, .ref b), (1, .ref h), (2, .ref hm), (3, .ref ao), (4, .int (nI i))] → W p l e room_1 s m #[Value.ref b] below meth c H1 locs1 (cl + 1) (sl + 6) Q (F0 m 1099 ls1 [])) : W p l e room_1 s m #[Value.ref b] below meth c H locs cl sl Q (F0 m 718 ls []) := by
  obtain ⟨hx, hb, hml, hown, hts0, hX, hbl⟩ := C0
  have hts := fun w h => hts0 w (wsL_law_in w h)
  obtain ⟨f0, f1, f2, f3, f4, f5, f6, f7, f8, f9, f10, v0, v1, v2, v3, m9, v4, g, hI, hP, hD, hS⟩ := hG
  have hA : ∀ q : Nat, s.heap.size ≤ q → (fun q : Nat => s.heap.size ≤ q) q := fun _ h => h
  have hbA : ¬ (fun q : Nat => s.heap.size ≤ q) b := Nat.not_le.mpr hbl
  obtain ⟨p0, hp0⟩ : ∃ z, z = xs (nI i + 1).toNatClampNeg := ⟨_, rfl⟩
  obtain ⟨p1, hp1⟩ : ∃ z, z = xs (nI i + 2).toNatClampNeg := ⟨_, rfl⟩
  refine lv_aload_n hx hb dL_law_718 rfl (lv_at hl 1 rfl) ?_
  refine lv_aload_n hx hb dL_law_719 rfl (lv_at hl 0 rfl) ?_
  refine lv_iload hx hb dL_law_720 (lv_at hl 4 rfl) ?_
  refine lv_iconst (v := 1) hx hb dL_law_722 (by decide) ?_
  refine lv_iadd hx hb dL_law_723 ?_
  refine va_sld hx hb hX hbl hbA hS (by rw [show nI i + 1 = nI (i + 1) from nI_add i 1]; exact vp_in_nI (by omega) (by omega)) dL_law_724 ?_
  rw [← hp0]
  refine lv_aload_n hx hb dL_law_725 rfl (lv_at hl 0 rfl) ?_
  refine lv_iload hx hb dL_law_726 (lv_at hl 4 rfl) ?_
  refine lv_iconst (v := 2) hx hb dL_law_728 (by decide) ?_
  refine lv_iadd hx hb dL_law_729 ?_
  refine va_sld hx hb hX hbl hbA hS (by rw [show nI i + 2 = nI (i + 2) from nI_add i 2]; exact vp_in_nI (by omega) (by omega)) dL_law_730 ?_
  rw [← hp1]
  refine lv_aload_n hx hb dL_law_731 rfl (lv_at hl 3 rfl) ?_
  have hPc := hP.sub (ws' := wO cJ ao g ++ wQ cI cZ h a0 a1 a2 a3 a4 a5 a6 a7 a8 a9 a10 f0 f1 f2 f3 f4 f5 f6 f7 f8 f9 f10 v0 v1 v2 v3) [0, 1, 2, 3, 4, 5, 6, 7, 8, 9, 10, 11, 12] rfl
  have hDc := hD.sub (ws' := wO cJ ao g ++ wQ cI cZ h a0 a1 a2 a3 a4 a5 a6 a7 a8 a9 a10 f0 f1 f2 f3 f4 f5 f6 f7 f8 f9 f10 v0 v1 v2 v3) [0, 1, 2, 3, 4, 5, 6, 7, 8, 9, 10, 11, 12] (by decide) rfl
  have hFc := va_free (wc := wO cJ ao g ++ wQ cI cZ h a0 a1 a2 a3 a4 a5 a6 a7 a8 a9 a10 f0 f1 f2 f3 f4 f5 f6 f7 f8 f9 f10 v0 v1 v2 v3) hD hS hA [0, 1, 2, 3, 4, 5, 6, 7, 8, 9, 10, 11, 12] rfl
  refine vx_calli (vx_runSX (As := [.ref h, .int p0, .int p1, .ref ao]) (rest := []) ⟨hx, hb, hml, hown, hts⟩ (c_L_vote l hl0 D cI cZ cJ H.size h a0 a1 a2 a3 a4 a5 a6 a7 a8 a9 a10 f0 f1 f2 f3 f4 f5 f6 f7 f8 f9 f10 v0 v1 v2 v3 ao g p0 p1 hI) (vx_cwSW 4 hts gL_law_L_vote rfl rfl rfl (by decide +kernel) ⟨Nat.le_of_ble_eq_true rfl, Nat.le_of_ble_eq_true rfl⟩) ⟨zDX_blind, fun U hU hW => ⟨rfl, zX_on hZ hS (fun _ h => h) hU hW, zD_mk hPc hK hDc hU hW⟩⟩ rfl rfl hl.1 rfl (lv_room (Nat.le_of_ble_eq_true rfl)) dL_law_732 ⟨hc1, hs1⟩) hS (fun q _ h => hFc q h) hFc (fun q _ z => z.elim) (fun E ce q9 u t H1 locs1 _ _ _ hE _ _ _ _ _ _ => hE.elim) (fun r5 u5 t5 H1 locs ht hvm w5 hB hz1 hk1 hS => ?_)
  obtain ⟨u5_0, go⟩ := u5
  obtain ⟨hP1, hK1, hD1⟩ := hB
  rw [ht] at hP1
  try dsimp only at w5
  obtain ⟨wK, e5_0, wR⟩ := w5
  obtain ⟨hP, hD⟩ := va_join (wr := wM cI cZ hm b0 b4 b5 b6 b7 b8 b9 f0 f4 f5 f6 f7 f8 m9 v0 v1 v2 v3 v4) hP hD [0, 1, 2, 3, 4, 5, 6, 7, 8, 9, 10, 11, 12] [13, 14, 15, 16, 17, 18, 19, 20] rfl rfl (by decide) (by decide) hk1 hFc hP1 hD1
  generalize H1 = H at hP hS ⊢
  subst wK
  have hP := hP.sub (ws' := wO cJ ao go ++ (wQ cI cZ h a0 a1 a2 a3 a4 a5 a6 a7 a8 a9 a10 f0 f1 f2 f3 f4 f5 u5_0 f7 f8 f9 f10 v0 v1 v2 v3 ++ wM cI cZ hm b0 b4 b5 b6 b7 b8 b9 f0 f4 f5 f6 f7 f8 m9 v0 v1 v2 v3 v4)) [8, 9, 10, 11, 12, 13, 14, 15, 16, 17, 18, 19, 20, 0, 1, 2, 3, 4, 5, 6, 7] rfl
  have hD := hD.sub (ws' := wO cJ ao go ++ (wQ cI cZ h a0 a1 a2 a3 a4 a5 a6 a7 a8 a9 a10 f0 f1 f2 f3 f4 f5 u5_0 f7 f8 f9 f10 v0 v1 v2 v3 ++ wM cI cZ hm b0 b4 b5 b6 b7 b8 b9 f0 f4 f5 f6 f7 f8 m9 v0 v1 v2 v3 v4)) [8, 9, 10, 11, 12, 13, 14, 15, 16, 17, 18, 19, 20, 0, 1, 2, 3, 4, 5, 6, 7] (by decide) rfl
  subst e5_0
  have hP : va_P D vwCl (wO cJ ao go ++ (wQ cI cZ h a0 a1 a2 a3 a4 a5 a6 a7 a8 a9 a10 f0 f1 f2 f3 f4 f5 (q_up (q_voK v0 v1 p0 p1) f6 p0.toNatClampNeg p1) f7 f8 f9 f10 v0 v1 v2 v3 ++ wM cI cZ hm b0 b4 b5 b6 b7 b8 b9 f0 f4 f5 f6 f7 f8 m9 v0 v1 v2 v3 v4)) H := hP
  have hD : va_D (fun q : Nat => s.heap.size ≤ q) (wO cJ ao go ++ (wQ cI cZ h a0 a1 a2 a3 a4 a5 a6 a7 a8 a9 a10 f0 f1 f2 f3 f4 f5 (q_up (q_voK v0 v1 p0 p1) f6 p0.toNatClampNeg p1) f7 f8 f9 f10 v0 v1 v2 v3 ++ wM cI cZ hm b0 b4 b5 b6 b7 b8 b9 f0 f4 f5 f6 f7 f8 m9 v0 v1 v2 v3 v4)) := hD
  refine lv_istore (lv' := [(5, .int (q_voK v0 v1 p0 p1)), (0, .ref b), (1, .ref h), (2, .ref hm), (3, .ref ao), (4, .int (nI i))]) hx hb dL_law_735 hl (by decide) rfl (fun ls hl => ?_)
  refine lv_aload_n hx hb dL_law_737 rfl (lv_at hl 3 rfl) ?_
  refine lv_aload_n hx hb dL_law_738 rfl (lv_at hl 1 rfl) ?_
  refine lv_iload hx hb dL_law_739 (lv_at hl 5 rfl) ?_
  refine lv_iconst (v := 1) hx hb dL_law_741 (by decide) ?_
  refine lv_iadd hx hb dL_law_742 ?_
  refine va_sld hx hb hX hbl hbA hS (by rw [show nI i + 1 = nI (i + 1) from nI_add i 1]; exact vp_in_nI (by omega) (by omega)) dL_law_743 ?_
  rw [← hp0]
  refine lv_aload_n hx hb dL_law_744 rfl (lv_at hl 1 rfl) ?_
  refine lv_iload hx hb dL_law_745 (lv_at hl 5 rfl) ?_
  refine lv_iconst (v := 2) hx hb dL_law_747 (by decide) ?_
  refine lv_iadd hx hb dL_law_748 ?_
  refine va_sld hx hb hX hbl hbA hS (by rw [show nI i + 2 = nI (i + 2) from nI_add i 2]; exact vp_in_nI (by omega) (by omega)) dL_law_749 ?_
  rw [← hp1]
  have hPm := hP.sub (ws' := wM cI cZ hm b0 b4 b5 b6 b7 b8 b9 f0 f4 f5 f6 f7 f8 m9 v0 v1 v2 v3 v4) [13, 14, 15, 16, 17, 18, 19, 20] rfl
  have hDm := hD.sub (ws' := wM cI cZ hm b0 b4 b5 b6 b7 b8 b9 f0 f4 f5 f6 f7 f8 m9 v0 v1 v2 v3 v4) [13, 14, 15, 16, 17, 18, 19, 20] (by decide) rfl
  have hFm := va_free (wc := wM cI cZ hm b0 b4 b5 b6 b7 b8 b9 f0 f4 f5 f6 f7 f8 m9 v0 v1 v2 v3 v4) hD hS hA [13, 14, 15, 16, 17, 18, 19, 20] rfl
  refine va_calli (va_runV (As := [.int p0, .int p1]) (rest := []) ⟨hx, hb, hml, hown, hts⟩ (c_X1_vote l D cI cZ cJ H.size hm b0 b4 b5 b6 b7 b8 b9 f0 f4 f5 f6 f7 f8 m9 v0 v1 v2 v3 v4 p0 p1) (cwV 2 hts gL_law_X1_vote rfl rfl rfl (by decide +kernel) ⟨Nat.le_of_ble_eq_true rfl, Nat.le_of_ble_eq_true rfl⟩) ⟨zD_blind, va_recv hK hPm (ci := 1) (q0 := 0) rfl rfl, fun U hU hW => ⟨rfl, zD_mk hPm hK hDm hU hW⟩⟩ rfl rfl hl.1 rfl (lv_room (Nat.le_of_ble_eq_true rfl)) dL_law_750 ⟨by show cl + 1 + 0 ≤ 1060; omega, by show sl + 6 + 0 ≤ 8446; omega⟩) hS (fun q _ h => hFm q h) hFm (fun r6 u6 t6 H1 locs ht hvm w6 hB hz1 hk1 hS => ?_)
  obtain ⟨u6_0, u6_1⟩ := u6
  obtain ⟨hP1, hK1, hD1⟩ := hB
  rw [ht] at hP1
  try dsimp only at w6
  obtain ⟨w6, e6_0, e6_1⟩ := w6
  obtain ⟨hP, hD⟩ := va_join (wr := wO cJ ao go ++ wQ cI cZ h a0 a1 a2 a3 a4 a5 a6 a7 a8 a9 a10 f0 f1 f2 f3 f4 f5 (q_up (q_voK v0 v1 p0 p1) f6 p0.toNatClampNeg p1) f7 f8 f9 f10 v0 v1 v2 v3) hP hD [13, 14, 15, 16, 17, 18, 19, 20] [0, 1, 2, 3, 4, 5, 6, 7, 8, 9, 10, 11, 12] rfl rfl (by decide) (by decide) hk1 hFm hP1 hD1
  generalize H1 = H at hP hS ⊢
  subst e6_0
  subst e6_1
  have hP : va_P D vwCl (wO cJ ao go ++ (wQ cI cZ h a0 a1 a2 a3 a4 a5 a6 a7 a8 a9 a10 f0 f1 f2 f3 f4 f5 (q_up (q_voK v0 v1 p0 p1) f6 p0.toNatClampNeg p1) f7 f8 f9 f10 v0 v1 v2 v3 ++ wM cI cZ hm b0 b4 b5 b6 b7 b8 b9 f0 f4 f5 (q_up (q_voK v0 v1 p0 p1) f6 p0.toNatClampNeg p1) f7 f8 m9 v0 v1 v2 v3 (q_voK v0 v1 p0 p1))) H := hP
  have hD : va_D (fun q : Nat => s.heap.size ≤ q) (wO cJ ao go ++ (wQ cI cZ h a0 a1 a2 a3 a4 a5 a6 a7 a8 a9 a10 f0 f1 f2 f3 f4 f5 (q_up (q_voK v0 v1 p0 p1) f6 p0.toNatClampNeg p1) f7 f8 f9 f10 v0 v1 v2 v3 ++ wM cI cZ hm b0 b4 b5 b6 b7 b8 b9 f0 f4 f5 (q_up (q_voK v0 v1 p0 p1) f6 p0.toNatClampNeg p1) f7 f8 m9 v0 v1 v2 v3 (q_voK v0 v1 p0 p1))) := hD
  refine lv_istore (lv' := [(6, .int r6), (5, .int (q_voK v0 v1 p0 p1)), (0, .ref b), (1, .ref h), (2, .ref hm), (3, .ref ao), (4, .int (nI i))]) hx hb dL_law_753 hl (by decide) rfl (fun ls hl => ?_)
  refine lv_aload_n hx hb dL_law_755 rfl (lv_at hl 4 rfl) ?_
  have hPm := hP.sub (ws' := wM cI cZ hm b0 b4 b5 b6 b7 b8 b9 f0 f4 f5 (q_up (q_voK v0 v1 p0 p1) f6 p0.toNatClampNeg p1) f7 f8 m9 v0 v1 v2 v3 (q_voK v0 v1 p0 p1)) [13, 14, 15, 16, 17, 18, 19, 20] rfl
  refine vp_callSi (W.runV (As := []) (rest := []) ⟨hx, hb, hml, hown, hts⟩ (c_X1_thrown l D cI cZ cJ hm b0 b4 b5 b6 b7 b8 b9 f0 f4 f5 (q_up (q_voK v0 v1 p0 p1) f6 p0.toNatClampNeg p1) f7 f8 m9 v0 v1 v2 v3 (q_voK v0 v1 p0 p1)) (cwV 0 hts gL_law_X1_thrown rfl rfl rfl (by decide +kernel) ⟨Nat.le_of_ble_eq_true rfl, Nat.le_of_ble_eq_true rfl⟩) ⟨zP_blind, va_recv hK hPm (ci := 1) (q0 := 0) rfl rfl, fun U hU hW => ⟨rfl, zP_mk hPm hK hU hW⟩⟩ rfl rfl hl.1 rfl (lv_room (Nat.le_of_ble_eq_true rfl)) dL_law_756 ⟨by show cl + 1 + 0 ≤ 1060; omega, by show sl + 6 + 0 ≤ 8446; omega⟩) (fun r7 w7 => ?_)
  subst w7
  refine lv_iload hx hb dL_law_759 (lv_at hl 1 rfl) ?_
  refine lv_icmp_eq (tgt := 766) hx hb dL_law_761 (by decide) (fun _ => ?_) (fun c9 => False.elim (c9 rfl))
  refine lv_iload hx hb dL_law_766 (lv_at hl 1 rfl) ?_
  refine lv_if_ne (tgt := 783) hx hb dL_law_768 (by decide) (fun c9 => ?_) (fun c9 => ?_)
  · skip
    refine lv_goto (tgt := 1099) hx hb dL_law_783 (by decide) ?_
    exact hend H locs ls ⟨_, _, _, _, _, _, _, _, _, _, _, _, _, _, _, _, _, _, hI, hP, hD, hS⟩ (lv_sub hl [2, 3, 4, 5, 6] rfl)
  · skip
    have hR5 := wR c9
    have hR6 := w6 c9
    refine lv_aload_n hx hb dL_law_771 rfl (lv_at hl 5 rfl) ?_
    refine lv_iconst (v := 0) hx hb dL_law_772 (by decide) ?_
    refine va_lald (D := D) hx hb hK hP 0 2 rfl rfl (show vp_in 0 1 from vp_in_nI (n := 0) (by decide) (by decide)) dL_law_773 ?_
    refine lv_iload hx hb dL_law_774 (lv_at hl 0 rfl) ?_
    refine lv_i2l (v := r6.toInt64) hx hb dL_law_776 rfl ?_
    refine W.lcmp hx hb dL_law_777 ?_
    refine lv_if_eq (tgt := 783) hx hb dL_law_778 (by decide) (fun _ => ?_) (fun c9 => False.elim (c9 (z_cmp (hR5.trans (by rw [hR6])))))
    refine lv_goto (tgt := 1099) hx hb dL_law_783 (by decide) ?_
    exact hend H locs ls ⟨_, _, _, _, _, _, _, _, _, _, _, _, _, _, _, _, _, _, hI, hP, hD, hS⟩ (lv_sub hl [2, 3, 4, 5, 6] rfl)
set_option maxHeartbeats 4000000 in
set_option maxRecDepth 100000 in
theorem law_speaker {p : Program} {l : Launch} {e : Env} {s : State} {m : MethodId} {below : List Frame} {meth : Method} {c : Code} {Q : State → Prop} {D : va_G} {cI cZ cJ : ClassId} {b L i cl sl : Nat} {xs : Nat → Int32} {ao h a0 a1 a2 a3 a4 a5 a6 a7 a8 a9 a10 hm b0 b4 b5 b6 b7 b8 b9 : Nat} {H : Heap} {locs : List Loc} {ls : Array Slot} (hl0 : l.stackTraces = false) (C0 : zC p s m meth c b L xs) (hZ : zX s) (hK : va_K D vwCl (zT cI cZ cJ) s) (hL : L ≤ 1536) (hi : i + 3 ≤ L) (hc1 : cl + 1 ≤ 1060) (hs1 : sl + 6 ≤ 8446) (hG : zG D cI cZ cJ ao h a0 a1 a2 a3 a4 a5 a6 a7 a8 a9 a10 hm b0 b4 b5 b6 b7 b8 b9 s H locs) (hl : lv_has ls 7 [(0, .ref b), (1, .ref h), (2, .ref hm), (3, .ref ao), (4, .int (nI i))]) (hend : ∀ (H1 : Heap) (locs1 : List Loc) (ls1 : Array Slot), zG D cI cZ cJ ao h a0 a1 a2 a3 a4 a5 a6 a7 a8 a9 a10 hm b0 b4 b5 b6 b7 b8 b9 s H1 locs1 → lv_has ls1 7 [(0, .ref b), (1, .ref h), (2, .ref hm), (3, .ref ao), (4, .int (nI i))] → W p l e room_1 s m #[Value.ref b] below meth c H1 locs1 (cl + 1) (sl + 6) Q (F0 m 1099 ls1 [])) : W p l e room_1 s m #[Value.ref b] below meth c H locs cl sl Q (F0 m 786 ls []) := by
  obtain ⟨hx, hb, hml, hown, hts0, hX, hbl⟩ := C0
  have hts := fun w h => hts0 w (wsL_law_in w h)
  obtain ⟨f0, f1, f2, f3, f4, f5, f6, f7, f8, f9, f10, v0, v1, v2, v3, m9, v4, g, hI, hP, hD, hS⟩ := hG
  have hA : ∀ q : Nat, s.heap.size ≤ q → (fun q : Nat => s.heap.size ≤ q) q := fun _ h => h
  have hbA : ¬ (fun q : Nat => s.heap.size ≤ q) b := Nat.not_le.mpr hbl
  obtain ⟨p0, hp0⟩ : ∃ z, z = xs (nI i + 1).toNatClampNeg := ⟨_, rfl⟩
  refine lv_aload_n hx hb dL_law_786 rfl (lv_at hl 1 rfl) ?_
  refine lv_aload_n hx hb dL_law_787 rfl (lv_at hl 0 rfl) ?_
  refine lv_iload hx hb dL_law_788 (lv_at hl 4 rfl) ?_
  refine lv_iconst (v := 1) hx hb dL_law_790 (by decide) ?_
  refine lv_iadd hx hb dL_law_791 ?_
  refine va_sld hx hb hX hbl hbA hS (by rw [show nI i + 1 = nI (i + 1) from nI_add i 1]; exact vp_in_nI (by omega) (by omega)) dL_law_792 ?_
  rw [← hp0]
  refine lv_aload_n hx hb dL_law_793 rfl (lv_at hl 3 rfl) ?_
  have hPc := hP.sub (ws' := wO cJ ao g ++ wQ cI cZ h a0 a1 a2 a3 a4 a5 a6 a7 a8 a9 a10 f0 f1 f2 f3 f4 f5 f6 f7 f8 f9 f10 v0 v1 v2 v3) [0, 1, 2, 3, 4, 5, 6, 7, 8, 9, 10, 11, 12] rfl
  have hDc := hD.sub (ws' := wO cJ ao g ++ wQ cI cZ h a0 a1 a2 a3 a4 a5 a6 a7 a8 a9 a10 f0 f1 f2 f3 f4 f5 f6 f7 f8 f9 f10 v0 v1 v2 v3) [0, 1, 2, 3, 4, 5, 6, 7, 8, 9, 10, 11, 12] (by decide) rfl
  have hFc := va_free (wc := wO cJ ao g ++ wQ cI cZ h a0 a1 a2 a3 a4 a5 a6 a7 a8 a9 a10 f0 f1 f2 f3 f4 f5 f6 f7 f8 f9 f10 v0 v1 v2 v3) hD hS hA [0, 1, 2, 3, 4, 5, 6, 7, 8, 9, 10, 11, 12] rfl
  refine vx_calli (vx_runSX (As := [.ref h, .int p0, .ref ao]) (rest := []) ⟨hx, hb, hml, hown, hts⟩ (c_L_speaker l hl0 D cI cZ cJ H.size h a0 a1 a2 a3 a4 a5 a6 a7 a8 a9 a10 f0 f1 f2 f3 f4 f5 f6 f7 f8 f9 f10 v0 v1 v2 v3 ao g p0 hI) (vx_cwSW 3 hts gL_law_L_speaker rfl rfl rfl (by decide +kernel) ⟨Nat.le_of_ble_eq_true rfl, Nat.le_of_ble_eq_true rfl⟩) ⟨zDX_blind, fun U hU hW => ⟨rfl, zX_on hZ hS (fun _ h => h) hU hW, zD_mk hPc hK hDc hU hW⟩⟩ rfl rfl hl.1 rfl (lv_room (Nat.le_of_ble_eq_true rfl)) dL_law_794 ⟨hc1, hs1⟩) hS (fun q _ h => hFc q h) hFc (fun q _ z => z.elim) (fun E ce q9 u t H1 locs1 _ _ _ hE _ _ _ _ _ _ => hE.elim) (fun r5 u5 t5 H1 locs ht hvm w5 hB hz1 hk1 hS => ?_)
  obtain ⟨go, e5g⟩ : ∃ z, z = u5 := ⟨_, rfl⟩
  subst e5g
  obtain ⟨hP1, hK1, hD1⟩ := hB
  rw [ht] at hP1
  try dsimp only at w5
  obtain ⟨wK, wR⟩ := w5
  obtain ⟨hP, hD⟩ := va_join (wr := wM cI cZ hm b0 b4 b5 b6 b7 b8 b9 f0 f4 f5 f6 f7 f8 m9 v0 v1 v2 v3 v4) hP hD [0, 1, 2, 3, 4, 5, 6, 7, 8, 9, 10, 11, 12] [13, 14, 15, 16, 17, 18, 19, 20] rfl rfl (by decide) (by decide) hk1 hFc hP1 hD1
  generalize H1 = H at hP hS ⊢
  subst wK
  have hP := hP.sub (ws' := wO cJ ao go ++ (wQ cI cZ h a0 a1 a2 a3 a4 a5 a6 a7 a8 a9 a10 f0 f1 f2 f3 f4 f5 f6 f7 f8 f9 f10 v0 v1 v2 v3 ++ wM cI cZ hm b0 b4 b5 b6 b7 b8 b9 f0 f4 f5 f6 f7 f8 m9 v0 v1 v2 v3 v4)) [8, 9, 10, 11, 12, 13, 14, 15, 16, 17, 18, 19, 20, 0, 1, 2, 3, 4, 5, 6, 7] rfl
  have hD := hD.sub (ws' := wO cJ ao go ++ (wQ cI cZ h a0 a1 a2 a3 a4 a5 a6 a7 a8 a9 a10 f0 f1 f2 f3 f4 f5 f6 f7 f8 f9 f10 v0 v1 v2 v3 ++ wM cI cZ hm b0 b4 b5 b6 b7 b8 b9 f0 f4 f5 f6 f7 f8 m9 v0 v1 v2 v3 v4)) [8, 9, 10, 11, 12, 13, 14, 15, 16, 17, 18, 19, 20, 0, 1, 2, 3, 4, 5, 6, 7] (by decide) rfl
  have hP : va_P D vwCl (wO cJ ao go ++ (wQ cI cZ h a0 a1 a2 a3 a4 a5 a6 a7 a8 a9 a10 f0 f1 f2 f3 f4 f5 f6 f7 f8 f9 f10 v0 v1 v2 v3 ++ wM cI cZ hm b0 b4 b5 b6 b7 b8 b9 f0 f4 f5 f6 f7 f8 m9 v0 v1 v2 v3 v4)) H := hP
  have hD : va_D (fun q : Nat => s.heap.size ≤ q) (wO cJ ao go ++ (wQ cI cZ h a0 a1 a2 a3 a4 a5 a6 a7 a8 a9 a10 f0 f1 f2 f3 f4 f5 f6 f7 f8 f9 f10 v0 v1 v2 v3 ++ wM cI cZ hm b0 b4 b5 b6 b7 b8 b9 f0 f4 f5 f6 f7 f8 m9 v0 v1 v2 v3 v4)) := hD
  refine lv_istore (lv' := [(5, .int (q_gK p0)), (0, .ref b), (1, .ref h), (2, .ref hm), (3, .ref ao), (4, .int (nI i))]) hx hb dL_law_797 hl (by decide) rfl (fun ls hl => ?_)
  refine lv_aload_n hx hb dL_law_799 rfl (lv_at hl 3 rfl) ?_
  refine lv_aload_n hx hb dL_law_800 rfl (lv_at hl 1 rfl) ?_
  refine lv_iload hx hb dL_law_801 (lv_at hl 5 rfl) ?_
  refine lv_iconst (v := 1) hx hb dL_law_803 (by decide) ?_
  refine lv_iadd hx hb dL_law_804 ?_
  refine va_sld hx hb hX hbl hbA hS (by rw [show nI i + 1 = nI (i + 1) from nI_add i 1]; exact vp_in_nI (by omega) (by omega)) dL_law_805 ?_
  rw [← hp0]
  have hPm := hP.sub (ws' := wM cI cZ hm b0 b4 b5 b6 b7 b8 b9 f0 f4 f5 f6 f7 f8 m9 v0 v1 v2 v3 v4) [13, 14, 15, 16, 17, 18, 19, 20] rfl
  have hDm := hD.sub (ws' := wM cI cZ hm b0 b4 b5 b6 b7 b8 b9 f0 f4 f5 f6 f7 f8 m9 v0 v1 v2 v3 v4) [13, 14, 15, 16, 17, 18, 19, 20] (by decide) rfl
  have hFm := va_free (wc := wM cI cZ hm b0 b4 b5 b6 b7 b8 b9 f0 f4 f5 f6 f7 f8 m9 v0 v1 v2 v3 v4) hD hS hA [13, 14, 15, 16, 17, 18, 19, 20] rfl
  refine va_calli (va_runV (As := [.int p0]) (rest := []) ⟨hx, hb, hml, hown, hts⟩ (c_X1_speaker l D cI cZ cJ H.size hm b0 b4 b5 b6 b7 b8 b9 f0 f4 f5 f6 f7 f8 m9 v0 v1 v2 v3 v4 p0 (fun z => iv_heg hI z)) (cwV 1 hts gL_law_X1_speaker rfl rfl rfl (by decide +kernel) ⟨Nat.le_of_ble_eq_true rfl, Nat.le_of_ble_eq_true rfl⟩) ⟨zD_blind, va_recv hK hPm (ci := 1) (q0 := 0) rfl rfl, fun U hU hW => ⟨rfl, zD_mk hPm hK hDm hU hW⟩⟩ rfl rfl hl.1 rfl (lv_room (Nat.le_of_ble_eq_true rfl)) dL_law_806 ⟨by show cl + 1 + 0 ≤ 1060; omega, by show sl + 6 + 0 ≤ 8446; omega⟩) hS (fun q _ h => hFm q h) hFm (fun r6 u6 t6 H1 locs ht hvm w6 hB hz1 hk1 hS => ?_)
  obtain ⟨hP1, hK1, hD1⟩ := hB
  rw [ht] at hP1
  try dsimp only at w6
  obtain ⟨w6, e6_0⟩ := w6
  obtain ⟨hP, hD⟩ := va_join (wr := wO cJ ao go ++ wQ cI cZ h a0 a1 a2 a3 a4 a5 a6 a7 a8 a9 a10 f0 f1 f2 f3 f4 f5 f6 f7 f8 f9 f10 v0 v1 v2 v3) hP hD [13, 14, 15, 16, 17, 18, 19, 20] [0, 1, 2, 3, 4, 5, 6, 7, 8, 9, 10, 11, 12] rfl rfl (by decide) (by decide) hk1 hFm hP1 hD1
  generalize H1 = H at hP hS ⊢
  subst e6_0
  have hP : va_P D vwCl (wO cJ ao go ++ (wQ cI cZ h a0 a1 a2 a3 a4 a5 a6 a7 a8 a9 a10 f0 f1 f2 f3 f4 f5 f6 f7 f8 f9 f10 v0 v1 v2 v3 ++ wM cI cZ hm b0 b4 b5 b6 b7 b8 b9 f0 f4 f5 f6 f7 f8 m9 v0 v1 v2 v3 (q_gK p0))) H := hP
  have hD : va_D (fun q : Nat => s.heap.size ≤ q) (wO cJ ao go ++ (wQ cI cZ h a0 a1 a2 a3 a4 a5 a6 a7 a8 a9 a10 f0 f1 f2 f3 f4 f5 f6 f7 f8 f9 f10 v0 v1 v2 v3 ++ wM cI cZ hm b0 b4 b5 b6 b7 b8 b9 f0 f4 f5 f6 f7 f8 m9 v0 v1 v2 v3 (q_gK p0))) := hD
  refine lv_istore (lv' := [(6, .int r6), (5, .int (q_gK p0)), (0, .ref b), (1, .ref h), (2, .ref hm), (3, .ref ao), (4, .int (nI i))]) hx hb dL_law_809 hl (by decide) rfl (fun ls hl => ?_)
  refine lv_aload_n hx hb dL_law_811 rfl (lv_at hl 4 rfl) ?_
  have hPm := hP.sub (ws' := wM cI cZ hm b0 b4 b5 b6 b7 b8 b9 f0 f4 f5 f6 f7 f8 m9 v0 v1 v2 v3 (q_gK p0)) [13, 14, 15, 16, 17, 18, 19, 20] rfl
  refine vp_callSi (W.runV (As := []) (rest := []) ⟨hx, hb, hml, hown, hts⟩ (c_X1_thrown l D cI cZ cJ hm b0 b4 b5 b6 b7 b8 b9 f0 f4 f5 f6 f7 f8 m9 v0 v1 v2 v3 (q_gK p0)) (cwV 0 hts gL_law_X1_thrown rfl rfl rfl (by decide +kernel) ⟨Nat.le_of_ble_eq_true rfl, Nat.le_of_ble_eq_true rfl⟩) ⟨zP_blind, va_recv hK hPm (ci := 1) (q0 := 0) rfl rfl, fun U hU hW => ⟨rfl, zP_mk hPm hK hU hW⟩⟩ rfl rfl hl.1 rfl (lv_room (Nat.le_of_ble_eq_true rfl)) dL_law_812 ⟨by show cl + 1 + 0 ≤ 1060; omega, by show sl + 6 + 0 ≤ 8446; omega⟩) (fun r7 w7 => ?_)
  subst w7
  refine lv_iload hx hb dL_law_815 (lv_at hl 1 rfl) ?_
  refine lv_icmp_eq (tgt := 822) hx hb dL_law_817 (by decide) (fun _ => ?_) (fun c9 => False.elim (c9 rfl))
  refine lv_iload hx hb dL_law_822 (lv_at hl 1 rfl) ?_
  refine lv_if_ne (tgt := 839) hx hb dL_law_824 (by decide) (fun c9 => ?_) (fun c9 => ?_)
  · skip
    refine lv_goto (tgt := 1099) hx hb dL_law_839 (by decide) ?_
    exact hend H locs ls ⟨_, _, _, _, _, _, _, _, _, _, _, _, _, _, _, _, _, _, hI, hP, hD, hS⟩ (lv_sub hl [2, 3, 4, 5, 6] rfl)
  · skip
    have hR5 := wR c9
    have hR6 := w6 c9
    refine lv_aload_n hx hb dL_law_827 rfl (lv_at hl 5 rfl) ?_
    refine lv_iconst (v := 0) hx hb dL_law_828 (by decide) ?_
    refine va_lald (D := D) hx hb hK hP 0 2 rfl rfl (show vp_in 0 1 from vp_in_nI (n := 0) (by decide) (by decide)) dL_law_829 ?_
    refine lv_iload hx hb dL_law_830 (lv_at hl 0 rfl) ?_
    refine lv_i2l (v := r6.toInt64) hx hb dL_law_832 rfl ?_
    refine W.lcmp hx hb dL_law_833 ?_
    refine lv_if_eq (tgt := 839) hx hb dL_law_834 (by decide) (fun _ => ?_) (fun c9 => False.elim (c9 (z_cmp (hR5.trans (by rw [hR6])))))
    refine lv_goto (tgt := 1099) hx hb dL_law_839 (by decide) ?_
    exact hend H locs ls ⟨_, _, _, _, _, _, _, _, _, _, _, _, _, _, _, _, _, _, hI, hP, hD, hS⟩ (lv_sub hl [2, 3, 4, 5, 6] rfl)
set_option maxHeartbeats 4000000 in
set_option maxRecDepth 100000 in
theorem law_weight {p : Program} {l : Launch} {e : Env} {s : State} {m : MethodId} {below : List Frame} {meth : Method} {c : Code} {Q : State → Prop} {D : va_G} {cI cZ cJ : ClassId} {b L i cl sl : Nat} {xs : Nat → Int32} {ao h a0 a1 a2 a3 a4 a5 a6 a7 a8 a9 a10 hm b0 b4 b5 b6 b7 b8 b9 : Nat} {H : Heap} {locs : List Loc} {ls : Array Slot} (hl0 : l.stackTraces = false) (C0 : zC p s m meth c b L xs) (hZ : zX s) (hK : va_K D vwCl (zT cI cZ cJ) s) (hL : L ≤ 1536) (hi : i + 3 ≤ L) (hc1 : cl + 1 ≤ 1060) (hs1 : sl + 6 ≤ 8446) (hG : zG D cI cZ cJ ao h a0 a1 a2 a3 a4 a5 a6 a7 a8 a9 a10 hm b0 b4 b5 b6 b7 b8 b9 s H locs) (hl : lv_has ls 7 [(0, .ref b), (1, .ref h), (2, .ref hm), (3, .ref ao), (4, .int (nI i))]) (hend : ∀ (H1 : Heap) (locs1 : List Loc) (ls1 : Array Slot), zG D cI cZ cJ ao h a0 a1 a2 a3 a4 a5 a6 a7 a8 a9 a10 hm b0 b4 b5 b6 b7 b8 b9 s H1 locs1 → lv_has ls1 7 [(0, .ref b), (1, .ref h), (2, .ref hm), (3, .ref ao), (4, .int (nI i))] → W p l e room_1 s m #[Value.ref b] below meth c H1 locs1 (cl + 1) (sl + 6) Q (F0 m 1099 ls1 [])) : W p l e room_1 s m #[Value.ref b] below meth c H locs cl sl Q (F0 m 842 ls []) := by
  obtain ⟨hx, hb, hml, hown, hts0, hX, hbl⟩ := C0
  have hts := fun w h => hts0 w (wsL_law_in w h)
  obtain ⟨f0, f1, f2, f3, f4, f5, f6, f7, f8, f9, f10, v0, v1, v2, v3, m9, v4, g, hI, hP, hD, hS⟩ := hG
  have hA : ∀ q : Nat, s.heap.size ≤ q → (fun q : Nat => s.heap.size ≤ q) q := fun _ h => h
  have hbA : ¬ (fun q : Nat => s.heap.size ≤ q) b := Nat.not_le.mpr hbl
  obtain ⟨p0, hp0⟩ : ∃ z, z = xs (nI i + 1).toNatClampNeg := ⟨_, rfl⟩
  refine lv_aload_n hx hb dL_law_842 rfl (lv_at hl 1 rfl) ?_
  refine lv_aload_n hx hb dL_law_843 rfl (lv_at hl 0 rfl) ?_
  refine lv_iload hx hb dL_law_844 (lv_at hl 4 rfl) ?_
  refine lv_iconst (v := 1) hx hb dL_law_846 (by decide) ?_
  refine lv_iadd hx hb dL_law_847 ?_
  refine va_sld hx hb hX hbl hbA hS (by rw [show nI i + 1 = nI (i + 1) from nI_add i 1]; exact vp_in_nI (by omega) (by omega)) dL_law_848 ?_
  rw [← hp0]
  refine lv_aload_n hx hb dL_law_849 rfl (lv_at hl 3 rfl) ?_
  have hPc := hP.sub (ws' := wO cJ ao g ++ wQ cI cZ h a0 a1 a2 a3 a4 a5 a6 a7 a8 a9 a10 f0 f1 f2 f3 f4 f5 f6 f7 f8 f9 f10 v0 v1 v2 v3) [0, 1, 2, 3, 4, 5, 6, 7, 8, 9, 10, 11, 12] rfl
  have hDc := hD.sub (ws' := wO cJ ao g ++ wQ cI cZ h a0 a1 a2 a3 a4 a5 a6 a7 a8 a9 a10 f0 f1 f2 f3 f4 f5 f6 f7 f8 f9 f10 v0 v1 v2 v3) [0, 1, 2, 3, 4, 5, 6, 7, 8, 9, 10, 11, 12] (by decide) rfl
  have hFc := va_free (wc := wO cJ ao g ++ wQ cI cZ h a0 a1 a2 a3 a4 a5 a6 a7 a8 a9 a10 f0 f1 f2 f3 f4 f5 f6 f7 f8 f9 f10 v0 v1 v2 v3) hD hS hA [0, 1, 2, 3, 4, 5, 6, 7, 8, 9, 10, 11, 12] rfl
  refine vx_calli (vx_runSX (As := [.ref h, .int p0, .ref ao]) (rest := []) ⟨hx, hb, hml, hown, hts⟩ (c_L_weight l hl0 D cI cZ cJ H.size h a0 a1 a2 a3 a4 a5 a6 a7 a8 a9 a10 f0 f1 f2 f3 f4 f5 f6 f7 f8 f9 f10 v0 v1 v2 v3 ao g p0 hI) (vx_cwSW 3 hts gL_law_L_weight rfl rfl rfl (by decide +kernel) ⟨Nat.le_of_ble_eq_true rfl, Nat.le_of_ble_eq_true rfl⟩) ⟨zDX_blind, fun U hU hW => ⟨rfl, zX_on hZ hS (fun _ h => h) hU hW, zD_mk hPc hK hDc hU hW⟩⟩ rfl rfl hl.1 rfl (lv_room (Nat.le_of_ble_eq_true rfl)) dL_law_850 ⟨hc1, hs1⟩) hS (fun q _ h => hFc q h) hFc (fun q _ z => z.elim) (fun E ce q9 u t H1 locs1 _ _ _ hE _ _ _ _ _ _ => hE.elim) (fun r5 u5 t5 H1 locs ht hvm w5 hB hz1 hk1 hS => ?_)
  obtain ⟨go, e5g⟩ : ∃ z, z = u5 := ⟨_, rfl⟩
  subst e5g
  obtain ⟨hP1, hK1, hD1⟩ := hB
  rw [ht] at hP1
  try dsimp only at w5
  obtain ⟨wK, wR⟩ := w5
  obtain ⟨hP, hD⟩ := va_join (wr := wM cI cZ hm b0 b4 b5 b6 b7 b8 b9 f0 f4 f5 f6 f7 f8 m9 v0 v1 v2 v3 v4) hP hD [0, 1, 2, 3, 4, 5, 6, 7, 8, 9, 10, 11, 12] [13, 14, 15, 16, 17, 18, 19, 20] rfl rfl (by decide) (by decide) hk1 hFc hP1 hD1
  generalize H1 = H at hP hS ⊢
  subst wK
  have hP := hP.sub (ws' := wO cJ ao go ++ (wQ cI cZ h a0 a1 a2 a3 a4 a5 a6 a7 a8 a9 a10 f0 f1 f2 f3 f4 f5 f6 f7 f8 f9 f10 v0 v1 v2 v3 ++ wM cI cZ hm b0 b4 b5 b6 b7 b8 b9 f0 f4 f5 f6 f7 f8 m9 v0 v1 v2 v3 v4)) [8, 9, 10, 11, 12, 13, 14, 15, 16, 17, 18, 19, 20, 0, 1, 2, 3, 4, 5, 6, 7] rfl
  have hD := hD.sub (ws' := wO cJ ao go ++ (wQ cI cZ h a0 a1 a2 a3 a4 a5 a6 a7 a8 a9 a10 f0 f1 f2 f3 f4 f5 f6 f7 f8 f9 f10 v0 v1 v2 v3 ++ wM cI cZ hm b0 b4 b5 b6 b7 b8 b9 f0 f4 f5 f6 f7 f8 m9 v0 v1 v2 v3 v4)) [8, 9, 10, 11, 12, 13, 14, 15, 16, 17, 18, 19, 20, 0, 1, 2, 3, 4, 5, 6, 7] (by decide) rfl
  have hP : va_P D vwCl (wO cJ ao go ++ (wQ cI cZ h a0 a1 a2 a3 a4 a5 a6 a7 a8 a9 a10 f0 f1 f2 f3 f4 f5 f6 f7 f8 f9 f10 v0 v1 v2 v3 ++ wM cI cZ hm b0 b4 b5 b6 b7 b8 b9 f0 f4 f5 f6 f7 f8 m9 v0 v1 v2 v3 v4)) H := hP
  have hD : va_D (fun q : Nat => s.heap.size ≤ q) (wO cJ ao go ++ (wQ cI cZ h a0 a1 a2 a3 a4 a5 a6 a7 a8 a9 a10 f0 f1 f2 f3 f4 f5 f6 f7 f8 f9 f10 v0 v1 v2 v3 ++ wM cI cZ hm b0 b4 b5 b6 b7 b8 b9 f0 f4 f5 f6 f7 f8 m9 v0 v1 v2 v3 v4)) := hD
  refine lv_istore (lv' := [(5, .int (q_wK p0)), (0, .ref b), (1, .ref h), (2, .ref hm), (3, .ref ao), (4, .int (nI i))]) hx hb dL_law_853 hl (by decide) rfl (fun ls hl => ?_)
  refine lv_aload_n hx hb dL_law_855 rfl (lv_at hl 3 rfl) ?_
  refine lv_aload_n hx hb dL_law_856 rfl (lv_at hl 1 rfl) ?_
  refine lv_iload hx hb dL_law_857 (lv_at hl 5 rfl) ?_
  refine lv_iconst (v := 1) hx hb dL_law_859 (by decide) ?_
  refine lv_iadd hx hb dL_law_860 ?_
  refine va_sld hx hb hX hbl hbA hS (by rw [show nI i + 1 = nI (i + 1) from nI_add i 1]; exact vp_in_nI (by omega) (by omega)) dL_law_861 ?_
  rw [← hp0]
  have hPm := hP.sub (ws' := wM cI cZ hm b0 b4 b5 b6 b7 b8 b9 f0 f4 f5 f6 f7 f8 m9 v0 v1 v2 v3 v4) [13, 14, 15, 16, 17, 18, 19, 20] rfl
  have hDm := hD.sub (ws' := wM cI cZ hm b0 b4 b5 b6 b7 b8 b9 f0 f4 f5 f6 f7 f8 m9 v0 v1 v2 v3 v4) [13, 14, 15, 16, 17, 18, 19, 20] (by decide) rfl
  have hFm := va_free (wc := wM cI cZ hm b0 b4 b5 b6 b7 b8 b9 f0 f4 f5 f6 f7 f8 m9 v0 v1 v2 v3 v4) hD hS hA [13, 14, 15, 16, 17, 18, 19, 20] rfl
  refine va_calli (va_runV (As := [.int p0]) (rest := []) ⟨hx, hb, hml, hown, hts⟩ (c_X1_weight l D cI cZ cJ H.size hm b0 b4 b5 b6 b7 b8 b9 f0 f4 f5 f6 f7 f8 m9 v0 v1 v2 v3 v4 p0 (iv_he hI)) (cwV 1 hts gL_law_X1_weight rfl rfl rfl (by decide +kernel) ⟨Nat.le_of_ble_eq_true rfl, Nat.le_of_ble_eq_true rfl⟩) ⟨zD_blind, va_recv hK hPm (ci := 1) (q0 := 0) rfl rfl, fun U hU hW => ⟨rfl, zD_mk hPm hK hDm hU hW⟩⟩ rfl rfl hl.1 rfl (lv_room (Nat.le_of_ble_eq_true rfl)) dL_law_862 ⟨by show cl + 1 + 0 ≤ 1060; omega, by show sl + 6 + 0 ≤ 8446; omega⟩) hS (fun q _ h => hFm q h) hFm (fun r6 u6 t6 H1 locs ht hvm w6 hB hz1 hk1 hS => ?_)
  obtain ⟨hP1, hK1, hD1⟩ := hB
  rw [ht] at hP1
  try dsimp only at w6
  obtain ⟨w6, e6_0⟩ := w6
  obtain ⟨hP, hD⟩ := va_join (wr := wO cJ ao go ++ wQ cI cZ h a0 a1 a2 a3 a4 a5 a6 a7 a8 a9 a10 f0 f1 f2 f3 f4 f5 f6 f7 f8 f9 f10 v0 v1 v2 v3) hP hD [13, 14, 15, 16, 17, 18, 19, 20] [0, 1, 2, 3, 4, 5, 6, 7, 8, 9, 10, 11, 12] rfl rfl (by decide) (by decide) hk1 hFm hP1 hD1
  generalize H1 = H at hP hS ⊢
  subst e6_0
  have hP : va_P D vwCl (wO cJ ao go ++ (wQ cI cZ h a0 a1 a2 a3 a4 a5 a6 a7 a8 a9 a10 f0 f1 f2 f3 f4 f5 f6 f7 f8 f9 f10 v0 v1 v2 v3 ++ wM cI cZ hm b0 b4 b5 b6 b7 b8 b9 f0 f4 f5 f6 f7 f8 m9 v0 v1 v2 v3 (q_wK p0))) H := hP
  have hD : va_D (fun q : Nat => s.heap.size ≤ q) (wO cJ ao go ++ (wQ cI cZ h a0 a1 a2 a3 a4 a5 a6 a7 a8 a9 a10 f0 f1 f2 f3 f4 f5 f6 f7 f8 f9 f10 v0 v1 v2 v3 ++ wM cI cZ hm b0 b4 b5 b6 b7 b8 b9 f0 f4 f5 f6 f7 f8 m9 v0 v1 v2 v3 (q_wK p0))) := hD
  refine lv_istore (lv' := [(6, .int r6), (5, .int (q_wK p0)), (0, .ref b), (1, .ref h), (2, .ref hm), (3, .ref ao), (4, .int (nI i))]) hx hb dL_law_865 hl (by decide) rfl (fun ls hl => ?_)
  refine lv_aload_n hx hb dL_law_867 rfl (lv_at hl 4 rfl) ?_
  have hPm := hP.sub (ws' := wM cI cZ hm b0 b4 b5 b6 b7 b8 b9 f0 f4 f5 f6 f7 f8 m9 v0 v1 v2 v3 (q_wK p0)) [13, 14, 15, 16, 17, 18, 19, 20] rfl
  refine vp_callSi (W.runV (As := []) (rest := []) ⟨hx, hb, hml, hown, hts⟩ (c_X1_thrown l D cI cZ cJ hm b0 b4 b5 b6 b7 b8 b9 f0 f4 f5 f6 f7 f8 m9 v0 v1 v2 v3 (q_wK p0)) (cwV 0 hts gL_law_X1_thrown rfl rfl rfl (by decide +kernel) ⟨Nat.le_of_ble_eq_true rfl, Nat.le_of_ble_eq_true rfl⟩) ⟨zP_blind, va_recv hK hPm (ci := 1) (q0 := 0) rfl rfl, fun U hU hW => ⟨rfl, zP_mk hPm hK hU hW⟩⟩ rfl rfl hl.1 rfl (lv_room (Nat.le_of_ble_eq_true rfl)) dL_law_868 ⟨by show cl + 1 + 0 ≤ 1060; omega, by show sl + 6 + 0 ≤ 8446; omega⟩) (fun r7 w7 => ?_)
  subst w7
  refine lv_iload hx hb dL_law_871 (lv_at hl 1 rfl) ?_
  refine lv_icmp_eq (tgt := 878) hx hb dL_law_873 (by decide) (fun _ => ?_) (fun c9 => False.elim (c9 rfl))
  refine lv_iload hx hb dL_law_878 (lv_at hl 1 rfl) ?_
  refine lv_if_ne (tgt := 895) hx hb dL_law_880 (by decide) (fun c9 => ?_) (fun c9 => ?_)
  · skip
    refine lv_goto (tgt := 1099) hx hb dL_law_895 (by decide) ?_
    exact hend H locs ls ⟨_, _, _, _, _, _, _, _, _, _, _, _, _, _, _, _, _, _, hI, hP, hD, hS⟩ (lv_sub hl [2, 3, 4, 5, 6] rfl)
  · skip
    have hR5 := wR c9
    have hR6 := w6 c9
    refine lv_aload_n hx hb dL_law_883 rfl (lv_at hl 5 rfl) ?_
    refine lv_iconst (v := 0) hx hb dL_law_884 (by decide) ?_
    refine va_lald (D := D) hx hb hK hP 0 2 rfl rfl (show vp_in 0 1 from vp_in_nI (n := 0) (by decide) (by decide)) dL_law_885 ?_
    refine lv_iload hx hb dL_law_886 (lv_at hl 0 rfl) ?_
    refine lv_i2l (v := r6.toInt64) hx hb dL_law_888 rfl ?_
    refine W.lcmp hx hb dL_law_889 ?_
    refine lv_if_eq (tgt := 895) hx hb dL_law_890 (by decide) (fun _ => ?_) (fun c9 => False.elim (c9 (z_cmp (hR5.trans (by rw [hR6])))))
    refine lv_goto (tgt := 1099) hx hb dL_law_895 (by decide) ?_
    exact hend H locs ls ⟨_, _, _, _, _, _, _, _, _, _, _, _, _, _, _, _, _, _, hI, hP, hD, hS⟩ (lv_sub hl [2, 3, 4, 5, 6] rfl)
set_option maxHeartbeats 4000000 in
set_option maxRecDepth 100000 in
theorem law_share {p : Program} {l : Launch} {e : Env} {s : State} {m : MethodId} {below : List Frame} {meth : Method} {c : Code} {Q : State → Prop} {D : va_G} {cI cZ cJ : ClassId} {b L i cl sl : Nat} {xs : Nat → Int32} {ao h a0 a1 a2 a3 a4 a5 a6 a7 a8 a9 a10 hm b0 b4 b5 b6 b7 b8 b9 : Nat} {H : Heap} {locs : List Loc} {ls : Array Slot} (hl0 : l.stackTraces = false) (C0 : zC p s m meth c b L xs) (hZ : zX s) (hK : va_K D vwCl (zT cI cZ cJ) s) (hL : L ≤ 1536) (hi : i + 3 ≤ L) (hc1 : cl + 1 ≤ 1060) (hs1 : sl + 6 ≤ 8446) (hG : zG D cI cZ cJ ao h a0 a1 a2 a3 a4 a5 a6 a7 a8 a9 a10 hm b0 b4 b5 b6 b7 b8 b9 s H locs) (hl : lv_has ls 7 [(0, .ref b), (1, .ref h), (2, .ref hm), (3, .ref ao), (4, .int (nI i))]) (hend : ∀ (H1 : Heap) (locs1 : List Loc) (ls1 : Array Slot), zG D cI cZ cJ ao h a0 a1 a2 a3 a4 a5 a6 a7 a8 a9 a10 hm b0 b4 b5 b6 b7 b8 b9 s H1 locs1 → lv_has ls1 7 [(0, .ref b), (1, .ref h), (2, .ref hm), (3, .ref ao), (4, .int (nI i))] → W p l e room_1 s m #[Value.ref b] below meth c H1 locs1 (cl + 1) (sl + 6) Q (F0 m 1099 ls1 [])) : W p l e room_1 s m #[Value.ref b] below meth c H locs cl sl Q (F0 m 898 ls []) := by
  obtain ⟨hx, hb, hml, hown, hts0, hX, hbl⟩ := C0
  have hts := fun w h => hts0 w (wsL_law_in w h)
  obtain ⟨f0, f1, f2, f3, f4, f5, f6, f7, f8, f9, f10, v0, v1, v2, v3, m9, v4, g, hI, hP, hD, hS⟩ := hG
  have hA : ∀ q : Nat, s.heap.size ≤ q → (fun q : Nat => s.heap.size ≤ q) q := fun _ h => h
  have hbA : ¬ (fun q : Nat => s.heap.size ≤ q) b := Nat.not_le.mpr hbl
  obtain ⟨p0, hp0⟩ : ∃ z, z = xs (nI i + 1).toNatClampNeg := ⟨_, rfl⟩
  refine lv_aload_n hx hb dL_law_898 rfl (lv_at hl 1 rfl) ?_
  refine lv_aload_n hx hb dL_law_899 rfl (lv_at hl 0 rfl) ?_
  refine lv_iload hx hb dL_law_900 (lv_at hl 4 rfl) ?_
  refine lv_iconst (v := 1) hx hb dL_law_902 (by decide) ?_
  refine lv_iadd hx hb dL_law_903 ?_
  refine va_sld hx hb hX hbl hbA hS (by rw [show nI i + 1 = nI (i + 1) from nI_add i 1]; exact vp_in_nI (by omega) (by omega)) dL_law_904 ?_
  rw [← hp0]
  refine lv_aload_n hx hb dL_law_905 rfl (lv_at hl 3 rfl) ?_
  have hPc := hP.sub (ws' := wO cJ ao g ++ wQ cI cZ h a0 a1 a2 a3 a4 a5 a6 a7 a8 a9 a10 f0 f1 f2 f3 f4 f5 f6 f7 f8 f9 f10 v0 v1 v2 v3) [0, 1, 2, 3, 4, 5, 6, 7, 8, 9, 10, 11, 12] rfl
  have hDc := hD.sub (ws' := wO cJ ao g ++ wQ cI cZ h a0 a1 a2 a3 a4 a5 a6 a7 a8 a9 a10 f0 f1 f2 f3 f4 f5 f6 f7 f8 f9 f10 v0 v1 v2 v3) [0, 1, 2, 3, 4, 5, 6, 7, 8, 9, 10, 11, 12] (by decide) rfl
  have hFc := va_free (wc := wO cJ ao g ++ wQ cI cZ h a0 a1 a2 a3 a4 a5 a6 a7 a8 a9 a10 f0 f1 f2 f3 f4 f5 f6 f7 f8 f9 f10 v0 v1 v2 v3) hD hS hA [0, 1, 2, 3, 4, 5, 6, 7, 8, 9, 10, 11, 12] rfl
  refine vx_calli (vx_runSX (As := [.ref h, .int p0, .ref ao]) (rest := []) ⟨hx, hb, hml, hown, hts⟩ (c_L_share l hl0 D cI cZ cJ H.size h a0 a1 a2 a3 a4 a5 a6 a7 a8 a9 a10 f0 f1 f2 f3 f4 f5 f6 f7 f8 f9 f10 v0 v1 v2 v3 ao g p0 hI) (vx_cwSW 3 hts gL_law_L_share rfl rfl rfl (by decide +kernel) ⟨Nat.le_of_ble_eq_true rfl, Nat.le_of_ble_eq_true rfl⟩) ⟨zDX_blind, fun U hU hW => ⟨rfl, zX_on hZ hS (fun _ h => h) hU hW, zD_mk hPc hK hDc hU hW⟩⟩ rfl rfl hl.1 rfl (lv_room (Nat.le_of_ble_eq_true rfl)) dL_law_906 ⟨hc1, hs1⟩) hS (fun q _ h => hFc q h) hFc (fun q _ z => z.elim) (fun E ce q9 u t H1 locs1 _ _ _ hE _ _ _ _ _ _ => hE.elim) (fun r5 u5 t5 H1 locs ht hvm w5 hB hz1 hk1 hS => ?_)
  obtain ⟨u5_0, go⟩ := u5
  obtain ⟨hP1, hK1, hD1⟩ := hB
  rw [ht] at hP1
  try dsimp only at w5
  obtain ⟨wK, wR⟩ := w5
  obtain ⟨hP, hD⟩ := va_join (wr := wM cI cZ hm b0 b4 b5 b6 b7 b8 b9 f0 f4 f5 f6 f7 f8 m9 v0 v1 v2 v3 v4) hP hD [0, 1, 2, 3, 4, 5, 6, 7, 8, 9, 10, 11, 12] [13, 14, 15, 16, 17, 18, 19, 20] rfl rfl (by decide) (by decide) hk1 hFc hP1 hD1
  generalize H1 = H at hP hS ⊢
  subst wK
  have hP := hP.sub (ws' := wO cJ ao go ++ (wQ cI cZ h a0 a1 a2 a3 a4 a5 a6 a7 a8 a9 a10 f0 f1 f2 f3 f4 f5 f6 f7 f8 u5_0 f10 v0 v1 v2 v3 ++ wM cI cZ hm b0 b4 b5 b6 b7 b8 b9 f0 f4 f5 f6 f7 f8 m9 v0 v1 v2 v3 v4)) [8, 9, 10, 11, 12, 13, 14, 15, 16, 17, 18, 19, 20, 0, 1, 2, 3, 4, 5, 6, 7] rfl
  have hD := hD.sub (ws' := wO cJ ao go ++ (wQ cI cZ h a0 a1 a2 a3 a4 a5 a6 a7 a8 a9 a10 f0 f1 f2 f3 f4 f5 f6 f7 f8 u5_0 f10 v0 v1 v2 v3 ++ wM cI cZ hm b0 b4 b5 b6 b7 b8 b9 f0 f4 f5 f6 f7 f8 m9 v0 v1 v2 v3 v4)) [8, 9, 10, 11, 12, 13, 14, 15, 16, 17, 18, 19, 20, 0, 1, 2, 3, 4, 5, 6, 7] (by decide) rfl
  have hP : va_P D vwCl (wO cJ ao go ++ (wQ cI cZ h a0 a1 a2 a3 a4 a5 a6 a7 a8 a9 a10 f0 f1 f2 f3 f4 f5 f6 f7 f8 u5_0 f10 v0 v1 v2 v3 ++ wM cI cZ hm b0 b4 b5 b6 b7 b8 b9 f0 f4 f5 f6 f7 f8 m9 v0 v1 v2 v3 v4)) H := hP
  have hD : va_D (fun q : Nat => s.heap.size ≤ q) (wO cJ ao go ++ (wQ cI cZ h a0 a1 a2 a3 a4 a5 a6 a7 a8 a9 a10 f0 f1 f2 f3 f4 f5 f6 f7 f8 u5_0 f10 v0 v1 v2 v3 ++ wM cI cZ hm b0 b4 b5 b6 b7 b8 b9 f0 f4 f5 f6 f7 f8 m9 v0 v1 v2 v3 v4)) := hD
  refine lv_istore (lv' := [(5, .int (q_shK (q_cov f0 f7 v0 v1) p0)), (0, .ref b), (1, .ref h), (2, .ref hm), (3, .ref ao), (4, .int (nI i))]) hx hb dL_law_909 hl (by decide) rfl (fun ls hl => ?_)
  refine lv_aload_n hx hb dL_law_911 rfl (lv_at hl 3 rfl) ?_
  refine lv_aload_n hx hb dL_law_912 rfl (lv_at hl 1 rfl) ?_
  refine lv_iload hx hb dL_law_913 (lv_at hl 5 rfl) ?_
  refine lv_iconst (v := 1) hx hb dL_law_915 (by decide) ?_
  refine lv_iadd hx hb dL_law_916 ?_
  refine va_sld hx hb hX hbl hbA hS (by rw [show nI i + 1 = nI (i + 1) from nI_add i 1]; exact vp_in_nI (by omega) (by omega)) dL_law_917 ?_
  rw [← hp0]
  have hPm := hP.sub (ws' := wM cI cZ hm b0 b4 b5 b6 b7 b8 b9 f0 f4 f5 f6 f7 f8 m9 v0 v1 v2 v3 v4) [13, 14, 15, 16, 17, 18, 19, 20] rfl
  have hDm := hD.sub (ws' := wM cI cZ hm b0 b4 b5 b6 b7 b8 b9 f0 f4 f5 f6 f7 f8 m9 v0 v1 v2 v3 v4) [13, 14, 15, 16, 17, 18, 19, 20] (by decide) rfl
  have hFm := va_free (wc := wM cI cZ hm b0 b4 b5 b6 b7 b8 b9 f0 f4 f5 f6 f7 f8 m9 v0 v1 v2 v3 v4) hD hS hA [13, 14, 15, 16, 17, 18, 19, 20] rfl
  refine va_calli (va_runV (As := [.int p0]) (rest := []) ⟨hx, hb, hml, hown, hts⟩ (c_X1_share l D cI cZ cJ H.size hm b0 b4 b5 b6 b7 b8 b9 f0 f4 f5 f6 f7 f8 m9 v0 v1 v2 v3 v4 p0 (iv_hb hI) (fun z => iv_hT hI z)) (cwV 1 hts gL_law_X1_share rfl rfl rfl (by decide +kernel) ⟨Nat.le_of_ble_eq_true rfl, Nat.le_of_ble_eq_true rfl⟩) ⟨zD_blind, va_recv hK hPm (ci := 1) (q0 := 0) rfl rfl, fun U hU hW => ⟨rfl, zD_mk hPm hK hDm hU hW⟩⟩ rfl rfl hl.1 rfl (lv_room (Nat.le_of_ble_eq_true rfl)) dL_law_918 ⟨by show cl + 1 + 0 ≤ 1060; omega, by show sl + 6 + 0 ≤ 8446; omega⟩) hS (fun q _ h => hFm q h) hFm (fun r6 u6 t6 H1 locs ht hvm w6 hB hz1 hk1 hS => ?_)
  obtain ⟨u6_0, u6_1⟩ := u6
  obtain ⟨hP1, hK1, hD1⟩ := hB
  rw [ht] at hP1
  try dsimp only at w6
  obtain ⟨w6, e6_1⟩ := w6
  obtain ⟨hP, hD⟩ := va_join (wr := wO cJ ao go ++ wQ cI cZ h a0 a1 a2 a3 a4 a5 a6 a7 a8 a9 a10 f0 f1 f2 f3 f4 f5 f6 f7 f8 u5_0 f10 v0 v1 v2 v3) hP hD [13, 14, 15, 16, 17, 18, 19, 20] [0, 1, 2, 3, 4, 5, 6, 7, 8, 9, 10, 11, 12] rfl rfl (by decide) (by decide) hk1 hFm hP1 hD1
  generalize H1 = H at hP hS ⊢
  subst e6_1
  have hP : va_P D vwCl (wO cJ ao go ++ (wQ cI cZ h a0 a1 a2 a3 a4 a5 a6 a7 a8 a9 a10 f0 f1 f2 f3 f4 f5 f6 f7 f8 u5_0 f10 v0 v1 v2 v3 ++ wM cI cZ hm b0 b4 b5 b6 b7 b8 b9 f0 f4 f5 f6 f7 f8 u6_0 v0 v1 v2 v3 (q_shK (q_cov f0 f7 v0 v1) p0))) H := hP
  have hD : va_D (fun q : Nat => s.heap.size ≤ q) (wO cJ ao go ++ (wQ cI cZ h a0 a1 a2 a3 a4 a5 a6 a7 a8 a9 a10 f0 f1 f2 f3 f4 f5 f6 f7 f8 u5_0 f10 v0 v1 v2 v3 ++ wM cI cZ hm b0 b4 b5 b6 b7 b8 b9 f0 f4 f5 f6 f7 f8 u6_0 v0 v1 v2 v3 (q_shK (q_cov f0 f7 v0 v1) p0))) := hD
  refine lv_istore (lv' := [(6, .int r6), (5, .int (q_shK (q_cov f0 f7 v0 v1) p0)), (0, .ref b), (1, .ref h), (2, .ref hm), (3, .ref ao), (4, .int (nI i))]) hx hb dL_law_921 hl (by decide) rfl (fun ls hl => ?_)
  refine lv_aload_n hx hb dL_law_923 rfl (lv_at hl 4 rfl) ?_
  have hPm := hP.sub (ws' := wM cI cZ hm b0 b4 b5 b6 b7 b8 b9 f0 f4 f5 f6 f7 f8 u6_0 v0 v1 v2 v3 (q_shK (q_cov f0 f7 v0 v1) p0)) [13, 14, 15, 16, 17, 18, 19, 20] rfl
  refine vp_callSi (W.runV (As := []) (rest := []) ⟨hx, hb, hml, hown, hts⟩ (c_X1_thrown l D cI cZ cJ hm b0 b4 b5 b6 b7 b8 b9 f0 f4 f5 f6 f7 f8 u6_0 v0 v1 v2 v3 (q_shK (q_cov f0 f7 v0 v1) p0)) (cwV 0 hts gL_law_X1_thrown rfl rfl rfl (by decide +kernel) ⟨Nat.le_of_ble_eq_true rfl, Nat.le_of_ble_eq_true rfl⟩) ⟨zP_blind, va_recv hK hPm (ci := 1) (q0 := 0) rfl rfl, fun U hU hW => ⟨rfl, zP_mk hPm hK hU hW⟩⟩ rfl rfl hl.1 rfl (lv_room (Nat.le_of_ble_eq_true rfl)) dL_law_924 ⟨by show cl + 1 + 0 ≤ 1060; omega, by show sl + 6 + 0 ≤ 8446; omega⟩) (fun r7 w7 => ?_)
  subst w7
  refine lv_iload hx hb dL_law_927 (lv_at hl 1 rfl) ?_
  refine lv_icmp_eq (tgt := 934) hx hb dL_law_929 (by decide) (fun _ => ?_) (fun c9 => False.elim (c9 rfl))
  refine lv_iload hx hb dL_law_934 (lv_at hl 1 rfl) ?_
  refine lv_if_ne (tgt := 951) hx hb dL_law_936 (by decide) (fun c9 => ?_) (fun c9 => ?_)
  · skip
    refine lv_goto (tgt := 1099) hx hb dL_law_951 (by decide) ?_
    exact hend H locs ls ⟨_, _, _, _, _, _, _, _, _, _, _, _, _, _, _, _, _, _, hI, hP, hD, hS⟩ (lv_sub hl [2, 3, 4, 5, 6] rfl)
  · skip
    have hR5 := wR c9
    have hR6 := w6 c9
    refine lv_aload_n hx hb dL_law_939 rfl (lv_at hl 5 rfl) ?_
    refine lv_iconst (v := 0) hx hb dL_law_940 (by decide) ?_
    refine va_lald (D := D) hx hb hK hP 0 2 rfl rfl (show vp_in 0 1 from vp_in_nI (n := 0) (by decide) (by decide)) dL_law_941 ?_
    refine lv_iload hx hb dL_law_942 (lv_at hl 0 rfl) ?_
    refine lv_i2l (v := r6.toInt64) hx hb dL_law_944 rfl ?_
    refine W.lcmp hx hb dL_law_945 ?_
    refine lv_if_eq (tgt := 951) hx hb dL_law_946 (by decide) (fun _ => ?_) (fun c9 => False.elim (c9 (z_cmp (hR5.trans (by rw [hR6])))))
    refine lv_goto (tgt := 1099) hx hb dL_law_951 (by decide) ?_
    exact hend H locs ls ⟨_, _, _, _, _, _, _, _, _, _, _, _, _, _, _, _, _, _, hI, hP, hD, hS⟩ (lv_sub hl [2, 3, 4, 5, 6] rfl)
set_option maxHeartbeats 4000000 in
set_option maxRecDepth 100000 in
theorem law_match {p : Program} {l : Launch} {e : Env} {s : State} {m : MethodId} {below : List Frame} {meth : Method} {c : Code} {Q : State → Prop} {D : va_G} {cI cZ cJ : ClassId} {b L i cl sl : Nat} {xs : Nat → Int32} {ao h a0 a1 a2 a3 a4 a5 a6 a7 a8 a9 a10 hm b0 b4 b5 b6 b7 b8 b9 : Nat} {H : Heap} {locs : List Loc} {ls : Array Slot} (hl0 : l.stackTraces = false) (C0 : zC p s m meth c b L xs) (hZ : zX s) (hK : va_K D vwCl (zT cI cZ cJ) s) (hL : L ≤ 1536) (hi : i + 3 ≤ L) (hc1 : cl + 1 ≤ 1060) (hs1 : sl + 6 ≤ 8446) (hG : zG D cI cZ cJ ao h a0 a1 a2 a3 a4 a5 a6 a7 a8 a9 a10 hm b0 b4 b5 b6 b7 b8 b9 s H locs) (hl : lv_has ls 7 [(0, .ref b), (1, .ref h), (2, .ref hm), (3, .ref ao), (4, .int (nI i))]) (hend : ∀ (H1 : Heap) (locs1 : List Loc) (ls1 : Array Slot), zG D cI cZ cJ ao h a0 a1 a2 a3 a4 a5 a6 a7 a8 a9 a10 hm b0 b4 b5 b6 b7 b8 b9 s H1 locs1 → lv_has ls1 7 [(0, .ref b), (1, .ref h), (2, .ref hm), (3, .ref ao), (4, .int (nI i))] → W p l e room_1 s m #[Value.ref b] below meth c H1 locs1 (cl + 1) (sl + 6) Q (F0 m 1099 ls1 [])) : W p l e room_1 s m #[Value.ref b] below meth c H locs cl sl Q (F0 m 954 ls []) := by
  obtain ⟨hx, hb, hml, hown, hts0, hX, hbl⟩ := C0
  have hts := fun w h => hts0 w (wsL_law_in w h)
  obtain ⟨f0, f1, f2, f3, f4, f5, f6, f7, f8, f9, f10, v0, v1, v2, v3, m9, v4, g, hI, hP, hD, hS⟩ := hG
  have hA : ∀ q : Nat, s.heap.size ≤ q → (fun q : Nat => s.heap.size ≤ q) q := fun _ h => h
  have hbA : ¬ (fun q : Nat => s.heap.size ≤ q) b := Nat.not_le.mpr hbl
  refine lv_aload_n hx hb dL_law_954 rfl (lv_at hl 1 rfl) ?_
  refine lv_aload_n hx hb dL_law_955 rfl (lv_at hl 3 rfl) ?_
  have hPc := hP.sub (ws' := wO cJ ao g ++ wQ cI cZ h a0 a1 a2 a3 a4 a5 a6 a7 a8 a9 a10 f0 f1 f2 f3 f4 f5 f6 f7 f8 f9 f10 v0 v1 v2 v3) [0, 1, 2, 3, 4, 5, 6, 7, 8, 9, 10, 11, 12] rfl
  have hDc := hD.sub (ws' := wO cJ ao g ++ wQ cI cZ h a0 a1 a2 a3 a4 a5 a6 a7 a8 a9 a10 f0 f1 f2 f3 f4 f5 f6 f7 f8 f9 f10 v0 v1 v2 v3) [0, 1, 2, 3, 4, 5, 6, 7, 8, 9, 10, 11, 12] (by decide) rfl
  have hFc := va_free (wc := wO cJ ao g ++ wQ cI cZ h a0 a1 a2 a3 a4 a5 a6 a7 a8 a9 a10 f0 f1 f2 f3 f4 f5 f6 f7 f8 f9 f10 v0 v1 v2 v3) hD hS hA [0, 1, 2, 3, 4, 5, 6, 7, 8, 9, 10, 11, 12] rfl
  refine vx_calli (vx_runSX (As := [.ref h, .ref ao]) (rest := []) ⟨hx, hb, hml, hown, hts⟩ (c_L_match l hl0 D cI cZ cJ H.size h a0 a1 a2 a3 a4 a5 a6 a7 a8 a9 a10 f0 f1 f2 f3 f4 f5 f6 f7 f8 f9 f10 v0 v1 v2 v3 ao g hI) (vx_cwSW 2 hts gL_law_L_match rfl rfl rfl (by decide +kernel) ⟨Nat.le_of_ble_eq_true rfl, Nat.le_of_ble_eq_true rfl⟩) ⟨zDX_blind, fun U hU hW => ⟨rfl, zX_on hZ hS (fun _ h => h) hU hW, zD_mk hPc hK hDc hU hW⟩⟩ rfl rfl hl.1 rfl (lv_room (Nat.le_of_ble_eq_true rfl)) dL_law_956 ⟨hc1, hs1⟩) hS (fun q _ h => hFc q h) hFc (fun q _ z => z.elim) (fun E ce q9 u t H1 locs1 _ _ _ hE _ _ _ _ _ _ => hE.elim) (fun r5 u5 t5 H1 locs ht hvm w5 hB hz1 hk1 hS => ?_)
  obtain ⟨u5_0, u5_1, go⟩ := u5
  obtain ⟨hP1, hK1, hD1⟩ := hB
  rw [ht] at hP1
  try dsimp only at w5
  obtain ⟨wK, wR⟩ := w5
  obtain ⟨hP, hD⟩ := va_join (wr := wM cI cZ hm b0 b4 b5 b6 b7 b8 b9 f0 f4 f5 f6 f7 f8 m9 v0 v1 v2 v3 v4) hP hD [0, 1, 2, 3, 4, 5, 6, 7, 8, 9, 10, 11, 12] [13, 14, 15, 16, 17, 18, 19, 20] rfl rfl (by decide) (by decide) hk1 hFc hP1 hD1
  generalize H1 = H at hP hS ⊢
  subst wK
  have hP := hP.sub (ws' := wO cJ ao go ++ (wQ cI cZ h a0 a1 a2 a3 a4 a5 a6 a7 a8 a9 a10 f0 f1 f2 f3 f4 f5 f6 f7 f8 u5_0 u5_1 v0 v1 v2 v3 ++ wM cI cZ hm b0 b4 b5 b6 b7 b8 b9 f0 f4 f5 f6 f7 f8 m9 v0 v1 v2 v3 v4)) [8, 9, 10, 11, 12, 13, 14, 15, 16, 17, 18, 19, 20, 0, 1, 2, 3, 4, 5, 6, 7] rfl
  have hD := hD.sub (ws' := wO cJ ao go ++ (wQ cI cZ h a0 a1 a2 a3 a4 a5 a6 a7 a8 a9 a10 f0 f1 f2 f3 f4 f5 f6 f7 f8 u5_0 u5_1 v0 v1 v2 v3 ++ wM cI cZ hm b0 b4 b5 b6 b7 b8 b9 f0 f4 f5 f6 f7 f8 m9 v0 v1 v2 v3 v4)) [8, 9, 10, 11, 12, 13, 14, 15, 16, 17, 18, 19, 20, 0, 1, 2, 3, 4, 5, 6, 7] (by decide) rfl
  have hP : va_P D vwCl (wO cJ ao go ++ (wQ cI cZ h a0 a1 a2 a3 a4 a5 a6 a7 a8 a9 a10 f0 f1 f2 f3 f4 f5 f6 f7 f8 u5_0 u5_1 v0 v1 v2 v3 ++ wM cI cZ hm b0 b4 b5 b6 b7 b8 b9 f0 f4 f5 f6 f7 f8 m9 v0 v1 v2 v3 v4)) H := hP
  have hD : va_D (fun q : Nat => s.heap.size ≤ q) (wO cJ ao go ++ (wQ cI cZ h a0 a1 a2 a3 a4 a5 a6 a7 a8 a9 a10 f0 f1 f2 f3 f4 f5 f6 f7 f8 u5_0 u5_1 v0 v1 v2 v3 ++ wM cI cZ hm b0 b4 b5 b6 b7 b8 b9 f0 f4 f5 f6 f7 f8 m9 v0 v1 v2 v3 v4)) := hD
  refine lv_istore (lv' := [(5, .int (q_mK (q_cov f0 f7 v0 v1))), (0, .ref b), (1, .ref h), (2, .ref hm), (3, .ref ao), (4, .int (nI i))]) hx hb dL_law_959 hl (by decide) rfl (fun ls hl => ?_)
  refine lv_aload_n hx hb dL_law_961 rfl (lv_at hl 3 rfl) ?_
  have hPm := hP.sub (ws' := wM cI cZ hm b0 b4 b5 b6 b7 b8 b9 f0 f4 f5 f6 f7 f8 m9 v0 v1 v2 v3 v4) [13, 14, 15, 16, 17, 18, 19, 20] rfl
  have hDm := hD.sub (ws' := wM cI cZ hm b0 b4 b5 b6 b7 b8 b9 f0 f4 f5 f6 f7 f8 m9 v0 v1 v2 v3 v4) [13, 14, 15, 16, 17, 18, 19, 20] (by decide) rfl
  have hFm := va_free (wc := wM cI cZ hm b0 b4 b5 b6 b7 b8 b9 f0 f4 f5 f6 f7 f8 m9 v0 v1 v2 v3 v4) hD hS hA [13, 14, 15, 16, 17, 18, 19, 20] rfl
  refine va_calli (va_runV (As := []) (rest := []) ⟨hx, hb, hml, hown, hts⟩ (c_X1_match l D cI cZ cJ H.size hm b0 b4 b5 b6 b7 b8 b9 f0 f4 f5 f6 f7 f8 m9 v0 v1 v2 v3 v4 (iv_hb hI) (fun z => iv_hT hI z) (fun z => iv_hpb hI z)) (cwV 0 hts gL_law_X1_match rfl rfl rfl (by decide +kernel) ⟨Nat.le_of_ble_eq_true rfl, Nat.le_of_ble_eq_true rfl⟩) ⟨zD_blind, va_recv hK hPm (ci := 1) (q0 := 0) rfl rfl, fun U hU hW => ⟨rfl, zD_mk hPm hK hDm hU hW⟩⟩ rfl rfl hl.1 rfl (lv_room (Nat.le_of_ble_eq_true rfl)) dL_law_962 ⟨by show cl + 1 + 0 ≤ 1060; omega, by show sl + 6 + 0 ≤ 8446; omega⟩) hS (fun q _ h => hFm q h) hFm (fun r6 u6 t6 H1 locs ht hvm w6 hB hz1 hk1 hS => ?_)
  obtain ⟨u6_0, u6_1⟩ := u6
  obtain ⟨hP1, hK1, hD1⟩ := hB
  rw [ht] at hP1
  try dsimp only at w6
  obtain ⟨w6, e6_1⟩ := w6
  obtain ⟨hP, hD⟩ := va_join (wr := wO cJ ao go ++ wQ cI cZ h a0 a1 a2 a3 a4 a5 a6 a7 a8 a9 a10 f0 f1 f2 f3 f4 f5 f6 f7 f8 u5_0 u5_1 v0 v1 v2 v3) hP hD [13, 14, 15, 16, 17, 18, 19, 20] [0, 1, 2, 3, 4, 5, 6, 7, 8, 9, 10, 11, 12] rfl rfl (by decide) (by decide) hk1 hFm hP1 hD1
  generalize H1 = H at hP hS ⊢
  subst e6_1
  have hP : va_P D vwCl (wO cJ ao go ++ (wQ cI cZ h a0 a1 a2 a3 a4 a5 a6 a7 a8 a9 a10 f0 f1 f2 f3 f4 f5 f6 f7 f8 u5_0 u5_1 v0 v1 v2 v3 ++ wM cI cZ hm b0 b4 b5 b6 b7 b8 b9 f0 f4 f5 f6 f7 f8 u6_0 v0 v1 v2 v3 (q_mK (q_cov f0 f7 v0 v1)))) H := hP
  have hD : va_D (fun q : Nat => s.heap.size ≤ q) (wO cJ ao go ++ (wQ cI cZ h a0 a1 a2 a3 a4 a5 a6 a7 a8 a9 a10 f0 f1 f2 f3 f4 f5 f6 f7 f8 u5_0 u5_1 v0 v1 v2 v3 ++ wM cI cZ hm b0 b4 b5 b6 b7 b8 b9 f0 f4 f5 f6 f7 f8 u6_0 v0 v1 v2 v3 (q_mK (q_cov f0 f7 v0 v1)))) := hD
  refine lv_istore (lv' := [(6, .int r6), (5, .int (q_mK (q_cov f0 f7 v0 v1))), (0, .ref b), (1, .ref h), (2, .ref hm), (3, .ref ao), (4, .int (nI i))]) hx hb dL_law_965 hl (by decide) rfl (fun ls hl => ?_)
  refine lv_aload_n hx hb dL_law_967 rfl (lv_at hl 4 rfl) ?_
  have hPm := hP.sub (ws' := wM cI cZ hm b0 b4 b5 b6 b7 b8 b9 f0 f4 f5 f6 f7 f8 u6_0 v0 v1 v2 v3 (q_mK (q_cov f0 f7 v0 v1))) [13, 14, 15, 16, 17, 18, 19, 20] rfl
  refine vp_callSi (W.runV (As := []) (rest := []) ⟨hx, hb, hml, hown, hts⟩ (c_X1_thrown l D cI cZ cJ hm b0 b4 b5 b6 b7 b8 b9 f0 f4 f5 f6 f7 f8 u6_0 v0 v1 v2 v3 (q_mK (q_cov f0 f7 v0 v1))) (cwV 0 hts gL_law_X1_thrown rfl rfl rfl (by decide +kernel) ⟨Nat.le_of_ble_eq_true rfl, Nat.le_of_ble_eq_true rfl⟩) ⟨zP_blind, va_recv hK hPm (ci := 1) (q0 := 0) rfl rfl, fun U hU hW => ⟨rfl, zP_mk hPm hK hU hW⟩⟩ rfl rfl hl.1 rfl (lv_room (Nat.le_of_ble_eq_true rfl)) dL_law_968 ⟨by show cl + 1 + 0 ≤ 1060; omega, by show sl + 6 + 0 ≤ 8446; omega⟩) (fun r7 w7 => ?_)
  subst w7
  refine lv_iload hx hb dL_law_971 (lv_at hl 1 rfl) ?_
  refine lv_icmp_eq (tgt := 978) hx hb dL_law_973 (by decide) (fun _ => ?_) (fun c9 => False.elim (c9 rfl))
  refine lv_iload hx hb dL_law_978 (lv_at hl 1 rfl) ?_
  refine lv_if_ne (tgt := 995) hx hb dL_law_980 (by decide) (fun c9 => ?_) (fun c9 => ?_)
  · skip
    refine lv_goto (tgt := 1099) hx hb dL_law_995 (by decide) ?_
    exact hend H locs ls ⟨_, _, _, _, _, _, _, _, _, _, _, _, _, _, _, _, _, _, hI, hP, hD, hS⟩ (lv_sub hl [2, 3, 4, 5, 6] rfl)
  · skip
    have hR5 := wR c9
    have hR6 := w6 c9
    refine lv_aload_n hx hb dL_law_983 rfl (lv_at hl 5 rfl) ?_
    refine lv_iconst (v := 0) hx hb dL_law_984 (by decide) ?_
    refine va_lald (D := D) hx hb hK hP 0 2 rfl rfl (show vp_in 0 1 from vp_in_nI (n := 0) (by decide) (by decide)) dL_law_985 ?_
    refine lv_iload hx hb dL_law_986 (lv_at hl 0 rfl) ?_
    refine lv_i2l (v := r6.toInt64) hx hb dL_law_988 rfl ?_
    refine W.lcmp hx hb dL_law_989 ?_
    refine lv_if_eq (tgt := 995) hx hb dL_law_990 (by decide) (fun _ => ?_) (fun c9 => False.elim (c9 (z_cmp (hR5.trans (by rw [hR6])))))
    refine lv_goto (tgt := 1099) hx hb dL_law_995 (by decide) ?_
    exact hend H locs ls ⟨_, _, _, _, _, _, _, _, _, _, _, _, _, _, _, _, _, _, hI, hP, hD, hS⟩ (lv_sub hl [2, 3, 4, 5, 6] rfl)
set_option maxHeartbeats 4000000 in
set_option maxRecDepth 100000 in
theorem law_matchByPairs {p : Program} {l : Launch} {e : Env} {s : State} {m : MethodId} {below : List Frame} {meth : Method} {c : Code} {Q : State → Prop} {D : va_G} {cI cZ cJ : ClassId} {b L i cl sl : Nat} {xs : Nat → Int32} {ao h a0 a1 a2 a3 a4 a5 a6 a7 a8 a9 a10 hm b0 b4 b5 b6 b7 b8 b9 : Nat} {H : Heap} {locs : List Loc} {ls : Array Slot} (hl0 : l.stackTraces = false) (C0 : zC p s m meth c b L xs) (hZ : zX s) (hK : va_K D vwCl (zT cI cZ cJ) s) (hL : L ≤ 1536) (hi : i + 3 ≤ L) (hc1 : cl + 1 ≤ 1060) (hs1 : sl + 6 ≤ 8446) (hG : zG D cI cZ cJ ao h a0 a1 a2 a3 a4 a5 a6 a7 a8 a9 a10 hm b0 b4 b5 b6 b7 b8 b9 s H locs) (hl : lv_has ls 7 [(0, .ref b), (1, .ref h), (2, .ref hm), (3, .ref ao), (4, .int (nI i))]) (hend : ∀ (H1 : Heap) (locs1 : List Loc) (ls1 : Array Slot), zG D cI cZ cJ ao h a0 a1 a2 a3 a4 a5 a6 a7 a8 a9 a10 hm b0 b4 b5 b6 b7 b8 b9 s H1 locs1 → lv_has ls1 7 [(0, .ref b), (1, .ref h), (2, .ref hm), (3, .ref ao), (4, .int (nI i))] → W p l e room_1 s m #[Value.ref b] below meth c H1 locs1 (cl + 1) (sl + 6) Q (F0 m 1099 ls1 [])) : W p l e room_1 s m #[Value.ref b] below meth c H locs cl sl Q (F0 m 998 ls []) := by
  obtain ⟨hx, hb, hml, hown, hts0, hX, hbl⟩ := C0
  have hts := fun w h => hts0 w (wsL_law_in w h)
  obtain ⟨f0, f1, f2, f3, f4, f5, f6, f7, f8, f9, f10, v0, v1, v2, v3, m9, v4, g, hI, hP, hD, hS⟩ := hG
  have hA : ∀ q : Nat, s.heap.size ≤ q → (fun q : Nat => s.heap.size ≤ q) q := fun _ h => h
  have hbA : ¬ (fun q : Nat => s.heap.size ≤ q) b := Nat.not_le.mpr hbl
  refine lv_aload_n hx hb dL_law_998 rfl (lv_at hl 1 rfl) ?_
  refine lv_aload_n hx hb dL_law_999 rfl (lv_at hl 3 rfl) ?_
  have hPc := hP.sub (ws' := wO cJ ao g ++ wQ cI cZ h a0 a1 a2 a3 a4 a5 a6 a7 a8 a9 a10 f0 f1 f2 f3 f4 f5 f6 f7 f8 f9 f10 v0 v1 v2 v3) [0, 1, 2, 3, 4, 5, 6, 7, 8, 9, 10, 11, 12] rfl
  have hDc := hD.sub (ws' := wO cJ ao g ++ wQ cI cZ h a0 a1 a2 a3 a4 a5 a6 a7 a8 a9 a10 f0 f1 f2 f3 f4 f5 f6 f7 f8 f9 f10 v0 v1 v2 v3) [0, 1, 2, 3, 4, 5, 6, 7, 8, 9, 10, 11, 12] (by decide) rfl
  have hFc := va_free (wc := wO cJ ao g ++ wQ cI cZ h a0 a1 a2 a3 a4 a5 a6 a7 a8 a9 a10 f0 f1 f2 f3 f4 f5 f6 f7 f8 f9 f10 v0 v1 v2 v3) hD hS hA [0, 1, 2, 3, 4, 5, 6, 7, 8, 9, 10, 11, 12] rfl
  refine vx_calli (vx_runSX (As := [.ref h, .ref ao]) (rest := []) ⟨hx, hb, hml, hown, hts⟩ (c_L_matchByPairs l hl0 D cI cZ cJ H.size h a0 a1 a2 a3 a4 a5 a6 a7 a8 a9 a10 f0 f1 f2 f3 f4 f5 f6 f7 f8 f9 f10 v0 v1 v2 v3 ao g hI) (vx_cwSW 2 hts gL_law_L_matchByPairs rfl rfl rfl (by decide +kernel) ⟨Nat.le_of_ble_eq_true rfl, Nat.le_of_ble_eq_true rfl⟩) ⟨zDX_blind, fun U hU hW => ⟨rfl, zX_on hZ hS (fun _ h => h) hU hW, zD_mk hPc hK hDc hU hW⟩⟩ rfl rfl hl.1 rfl (lv_room (Nat.le_of_ble_eq_true rfl)) dL_law_1000 ⟨hc1, hs1⟩) hS (fun q _ h => hFc q h) hFc (fun q _ z => z.elim) (fun E ce q9 u t H1 locs1 _ _ _ hE _ _ _ _ _ _ => hE.elim) (fun r5 u5 t5 H1 locs ht hvm w5 hB hz1 hk1 hS => ?_)
  obtain ⟨u5_0, u5_1, go⟩ := u5
  obtain ⟨hP1, hK1, hD1⟩ := hB
  rw [ht] at hP1
  try dsimp only at w5
  obtain ⟨wK, wR⟩ := w5
  obtain ⟨hP, hD⟩ := va_join (wr := wM cI cZ hm b0 b4 b5 b6 b7 b8 b9 f0 f4 f5 f6 f7 f8 m9 v0 v1 v2 v3 v4) hP hD [0, 1, 2, 3, 4, 5, 6, 7, 8, 9, 10, 11, 12] [13, 14, 15, 16, 17, 18, 19, 20] rfl rfl (by decide) (by decide) hk1 hFc hP1 hD1
  generalize H1 = H at hP hS ⊢
  subst wK
  have hP := hP.sub (ws' := wO cJ ao go ++ (wQ cI cZ h a0 a1 a2 a3 a4 a5 a6 a7 a8 a9 a10 f0 f1 f2 f3 f4 f5 f6 f7 f8 u5_0 u5_1 v0 v1 v2 v3 ++ wM cI cZ hm b0 b4 b5 b6 b7 b8 b9 f0 f4 f5 f6 f7 f8 m9 v0 v1 v2 v3 v4)) [8, 9, 10, 11, 12, 13, 14, 15, 16, 17, 18, 19, 20, 0, 1, 2, 3, 4, 5, 6, 7] rfl
  have hD := hD.sub (ws' := wO cJ ao go ++ (wQ cI cZ h a0 a1 a2 a3 a4 a5 a6 a7 a8 a9 a10 f0 f1 f2 f3 f4 f5 f6 f7 f8 u5_0 u5_1 v0 v1 v2 v3 ++ wM cI cZ hm b0 b4 b5 b6 b7 b8 b9 f0 f4 f5 f6 f7 f8 m9 v0 v1 v2 v3 v4)) [8, 9, 10, 11, 12, 13, 14, 15, 16, 17, 18, 19, 20, 0, 1, 2, 3, 4, 5, 6, 7] (by decide) rfl
  have hP : va_P D vwCl (wO cJ ao go ++ (wQ cI cZ h a0 a1 a2 a3 a4 a5 a6 a7 a8 a9 a10 f0 f1 f2 f3 f4 f5 f6 f7 f8 u5_0 u5_1 v0 v1 v2 v3 ++ wM cI cZ hm b0 b4 b5 b6 b7 b8 b9 f0 f4 f5 f6 f7 f8 m9 v0 v1 v2 v3 v4)) H := hP
  have hD : va_D (fun q : Nat => s.heap.size ≤ q) (wO cJ ao go ++ (wQ cI cZ h a0 a1 a2 a3 a4 a5 a6 a7 a8 a9 a10 f0 f1 f2 f3 f4 f5 f6 f7 f8 u5_0 u5_1 v0 v1 v2 v3 ++ wM cI cZ hm b0 b4 b5 b6 b7 b8 b9 f0 f4 f5 f6 f7 f8 m9 v0 v1 v2 v3 v4)) := hD
  refine lv_istore (lv' := [(5, .int (q_mK (q_cov f0 f7 v0 v1))), (0, .ref b), (1, .ref h), (2, .ref hm), (3, .ref ao), (4, .int (nI i))]) hx hb dL_law_1003 hl (by decide) rfl (fun ls hl => ?_)
  refine lv_aload_n hx hb dL_law_1005 rfl (lv_at hl 3 rfl) ?_
  have hPm := hP.sub (ws' := wM cI cZ hm b0 b4 b5 b6 b7 b8 b9 f0 f4 f5 f6 f7 f8 m9 v0 v1 v2 v3 v4) [13, 14, 15, 16, 17, 18, 19, 20] rfl
  have hDm := hD.sub (ws' := wM cI cZ hm b0 b4 b5 b6 b7 b8 b9 f0 f4 f5 f6 f7 f8 m9 v0 v1 v2 v3 v4) [13, 14, 15, 16, 17, 18, 19, 20] (by decide) rfl
  have hFm := va_free (wc := wM cI cZ hm b0 b4 b5 b6 b7 b8 b9 f0 f4 f5 f6 f7 f8 m9 v0 v1 v2 v3 v4) hD hS hA [13, 14, 15, 16, 17, 18, 19, 20] rfl
  refine va_calli (va_runV (As := []) (rest := []) ⟨hx, hb, hml, hown, hts⟩ (c_X1_matchByPairs l D cI cZ cJ H.size hm b0 b4 b5 b6 b7 b8 b9 f0 f4 f5 f6 f7 f8 m9 v0 v1 v2 v3 v4 (iv_hb hI) (fun z => iv_hT hI z) (fun z => iv_hpb hI z)) (cwV 0 hts gL_law_X1_matchByPairs rfl rfl rfl (by decide +kernel) ⟨Nat.le_of_ble_eq_true rfl, Nat.le_of_ble_eq_true rfl⟩) ⟨zD_blind, va_recv hK hPm (ci := 1) (q0 := 0) rfl rfl, fun U hU hW => ⟨rfl, zD_mk hPm hK hDm hU hW⟩⟩ rfl rfl hl.1 rfl (lv_room (Nat.le_of_ble_eq_true rfl)) dL_law_1006 ⟨by show cl + 1 + 0 ≤ 1060; omega, by show sl + 6 + 0 ≤ 8446; omega⟩) hS (fun q _ h => hFm q h) hFm (fun r6 u6 t6 H1 locs ht hvm w6 hB hz1 hk1 hS => ?_)
  obtain ⟨u6_0, u6_1⟩ := u6
  obtain ⟨hP1, hK1, hD1⟩ := hB
  rw [ht] at hP1
  try dsimp only at w6
  obtain ⟨w6, e6_1⟩ := w6
  obtain ⟨hP, hD⟩ := va_join (wr := wO cJ ao go ++ wQ cI cZ h a0 a1 a2 a3 a4 a5 a6 a7 a8 a9 a10 f0 f1 f2 f3 f4 f5 f6 f7 f8 u5_0 u5_1 v0 v1 v2 v3) hP hD [13, 14, 15, 16, 17, 18, 19, 20] [0, 1, 2, 3, 4, 5, 6, 7, 8, 9, 10, 11, 12] rfl rfl (by decide) (by decide) hk1 hFm hP1 hD1
  generalize H1 = H at hP hS ⊢
  subst e6_1
  have hP : va_P D vwCl (wO cJ ao go ++ (wQ cI cZ h a0 a1 a2 a3 a4 a5 a6 a7 a8 a9 a10 f0 f1 f2 f3 f4 f5 f6 f7 f8 u5_0 u5_1 v0 v1 v2 v3 ++ wM cI cZ hm b0 b4 b5 b6 b7 b8 b9 f0 f4 f5 f6 f7 f8 u6_0 v0 v1 v2 v3 (q_mK (q_cov f0 f7 v0 v1)))) H := hP
  have hD : va_D (fun q : Nat => s.heap.size ≤ q) (wO cJ ao go ++ (wQ cI cZ h a0 a1 a2 a3 a4 a5 a6 a7 a8 a9 a10 f0 f1 f2 f3 f4 f5 f6 f7 f8 u5_0 u5_1 v0 v1 v2 v3 ++ wM cI cZ hm b0 b4 b5 b6 b7 b8 b9 f0 f4 f5 f6 f7 f8 u6_0 v0 v1 v2 v3 (q_mK (q_cov f0 f7 v0 v1)))) := hD
  refine lv_istore (lv' := [(6, .int r6), (5, .int (q_mK (q_cov f0 f7 v0 v1))), (0, .ref b), (1, .ref h), (2, .ref hm), (3, .ref ao), (4, .int (nI i))]) hx hb dL_law_1009 hl (by decide) rfl (fun ls hl => ?_)
  refine lv_aload_n hx hb dL_law_1011 rfl (lv_at hl 4 rfl) ?_
  have hPm := hP.sub (ws' := wM cI cZ hm b0 b4 b5 b6 b7 b8 b9 f0 f4 f5 f6 f7 f8 u6_0 v0 v1 v2 v3 (q_mK (q_cov f0 f7 v0 v1))) [13, 14, 15, 16, 17, 18, 19, 20] rfl
  refine vp_callSi (W.runV (As := []) (rest := []) ⟨hx, hb, hml, hown, hts⟩ (c_X1_thrown l D cI cZ cJ hm b0 b4 b5 b6 b7 b8 b9 f0 f4 f5 f6 f7 f8 u6_0 v0 v1 v2 v3 (q_mK (q_cov f0 f7 v0 v1))) (cwV 0 hts gL_law_X1_thrown rfl rfl rfl (by decide +kernel) ⟨Nat.le_of_ble_eq_true rfl, Nat.le_of_ble_eq_true rfl⟩) ⟨zP_blind, va_recv hK hPm (ci := 1) (q0 := 0) rfl rfl, fun U hU hW => ⟨rfl, zP_mk hPm hK hU hW⟩⟩ rfl rfl hl.1 rfl (lv_room (Nat.le_of_ble_eq_true rfl)) dL_law_1012 ⟨by show cl + 1 + 0 ≤ 1060; omega, by show sl + 6 + 0 ≤ 8446; omega⟩) (fun r7 w7 => ?_)
  subst w7
  refine lv_iload hx hb dL_law_1015 (lv_at hl 1 rfl) ?_
  refine lv_icmp_eq (tgt := 1022) hx hb dL_law_1017 (by decide) (fun _ => ?_) (fun c9 => False.elim (c9 rfl))
  refine lv_iload hx hb dL_law_1022 (lv_at hl 1 rfl) ?_
  refine lv_if_ne (tgt := 1039) hx hb dL_law_1024 (by decide) (fun c9 => ?_) (fun c9 => ?_)
  · skip
    refine lv_goto (tgt := 1099) hx hb dL_law_1039 (by decide) ?_
    exact hend H locs ls ⟨_, _, _, _, _, _, _, _, _, _, _, _, _, _, _, _, _, _, hI, hP, hD, hS⟩ (lv_sub hl [2, 3, 4, 5, 6] rfl)
  · skip
    have hR5 := wR c9
    have hR6 := w6 c9
    refine lv_aload_n hx hb dL_law_1027 rfl (lv_at hl 5 rfl) ?_
    refine lv_iconst (v := 0) hx hb dL_law_1028 (by decide) ?_
    refine va_lald (D := D) hx hb hK hP 0 2 rfl rfl (show vp_in 0 1 from vp_in_nI (n := 0) (by decide) (by decide)) dL_law_1029 ?_
    refine lv_iload hx hb dL_law_1030 (lv_at hl 0 rfl) ?_
    refine lv_i2l (v := r6.toInt64) hx hb dL_law_1032 rfl ?_
    refine W.lcmp hx hb dL_law_1033 ?_
    refine lv_if_eq (tgt := 1039) hx hb dL_law_1034 (by decide) (fun _ => ?_) (fun c9 => False.elim (c9 (z_cmp (hR5.trans (by rw [hR6])))))
    refine lv_goto (tgt := 1099) hx hb dL_law_1039 (by decide) ?_
    exact hend H locs ls ⟨_, _, _, _, _, _, _, _, _, _, _, _, _, _, _, _, _, _, hI, hP, hD, hS⟩ (lv_sub hl [2, 3, 4, 5, 6] rfl)
set_option maxHeartbeats 4000000 in
set_option maxRecDepth 100000 in
theorem law_release {p : Program} {l : Launch} {e : Env} {s : State} {m : MethodId} {below : List Frame} {meth : Method} {c : Code} {Q : State → Prop} {D : va_G} {cI cZ cJ : ClassId} {b L i cl sl : Nat} {xs : Nat → Int32} {ao h a0 a1 a2 a3 a4 a5 a6 a7 a8 a9 a10 hm b0 b4 b5 b6 b7 b8 b9 : Nat} {H : Heap} {locs : List Loc} {ls : Array Slot} (hl0 : l.stackTraces = false) (C0 : zC p s m meth c b L xs) (hZ : zX s) (hK : va_K D vwCl (zT cI cZ cJ) s) (hL : L ≤ 1536) (hi : i + 3 ≤ L) (hc1 : cl + 1 ≤ 1060) (hs1 : sl + 6 ≤ 8446) (hG : zG D cI cZ cJ ao h a0 a1 a2 a3 a4 a5 a6 a7 a8 a9 a10 hm b0 b4 b5 b6 b7 b8 b9 s H locs) (hl : lv_has ls 7 [(0, .ref b), (1, .ref h), (2, .ref hm), (3, .ref ao), (4, .int (nI i))]) (hend : ∀ (H1 : Heap) (locs1 : List Loc) (ls1 : Array Slot), zG D cI cZ cJ ao h a0 a1 a2 a3 a4 a5 a6 a7 a8 a9 a10 hm b0 b4 b5 b6 b7 b8 b9 s H1 locs1 → lv_has ls1 7 [(0, .ref b), (1, .ref h), (2, .ref hm), (3, .ref ao), (4, .int (nI i))] → W p l e room_1 s m #[Value.ref b] below meth c H1 locs1 (cl + 1) (sl + 6) Q (F0 m 1099 ls1 [])) : W p l e room_1 s m #[Value.ref b] below meth c H locs cl sl Q (F0 m 1042 ls []) := by
  obtain ⟨hx, hb, hml, hown, hts0, hX, hbl⟩ := C0
  have hts := fun w h => hts0 w (wsL_law_in w h)
  obtain ⟨f0, f1, f2, f3, f4, f5, f6, f7, f8, f9, f10, v0, v1, v2, v3, m9, v4, g, hI, hP, hD, hS⟩ := hG
  have hA : ∀ q : Nat, s.heap.size ≤ q → (fun q : Nat => s.heap.size ≤ q) q := fun _ h => h
  have hbA : ¬ (fun q : Nat => s.heap.size ≤ q) b := Nat.not_le.mpr hbl
  refine lv_aload_n hx hb dL_law_1042 rfl (lv_at hl 1 rfl) ?_
  refine lv_aload_n hx hb dL_law_1043 rfl (lv_at hl 3 rfl) ?_
  have hPc := hP.sub (ws' := wO cJ ao g ++ wQ cI cZ h a0 a1 a2 a3 a4 a5 a6 a7 a8 a9 a10 f0 f1 f2 f3 f4 f5 f6 f7 f8 f9 f10 v0 v1 v2 v3) [0, 1, 2, 3, 4, 5, 6, 7, 8, 9, 10, 11, 12] rfl
  have hDc := hD.sub (ws' := wO cJ ao g ++ wQ cI cZ h a0 a1 a2 a3 a4 a5 a6 a7 a8 a9 a10 f0 f1 f2 f3 f4 f5 f6 f7 f8 f9 f10 v0 v1 v2 v3) [0, 1, 2, 3, 4, 5, 6, 7, 8, 9, 10, 11, 12] (by decide) rfl
  have hFc := va_free (wc := wO cJ ao g ++ wQ cI cZ h a0 a1 a2 a3 a4 a5 a6 a7 a8 a9 a10 f0 f1 f2 f3 f4 f5 f6 f7 f8 f9 f10 v0 v1 v2 v3) hD hS hA [0, 1, 2, 3, 4, 5, 6, 7, 8, 9, 10, 11, 12] rfl
  refine vx_calli (vx_runSX (As := [.ref h, .ref ao]) (rest := []) ⟨hx, hb, hml, hown, hts⟩ (c_L_release l hl0 D cI cZ cJ H.size h a0 a1 a2 a3 a4 a5 a6 a7 a8 a9 a10 f0 f1 f2 f3 f4 f5 f6 f7 f8 f9 f10 v0 v1 v2 v3 ao g hI) (vx_cwSW 2 hts gL_law_L_release rfl rfl rfl (by decide +kernel) ⟨Nat.le_of_ble_eq_true rfl, Nat.le_of_ble_eq_true rfl⟩) ⟨zDX_blind, fun U hU hW => ⟨rfl, zX_on hZ hS (fun _ h => h) hU hW, zD_mk hPc hK hDc hU hW⟩⟩ rfl rfl hl.1 rfl (lv_room (Nat.le_of_ble_eq_true rfl)) dL_law_1044 ⟨hc1, hs1⟩) hS (fun q _ h => hFc q h) hFc (fun q _ z => z.elim) (fun E ce q9 u t H1 locs1 _ _ _ hE _ _ _ _ _ _ => hE.elim) (fun r5 u5 t5 H1 locs ht hvm w5 hB hz1 hk1 hS => ?_)
  obtain ⟨u5_0, u5_1, u5_2, u5_3, u5_4, u5_5, u5_6, u5_7, go⟩ := u5
  obtain ⟨hP1, hK1, hD1⟩ := hB
  rw [ht] at hP1
  try dsimp only at w5
  obtain ⟨wK, e5_0, e5_1, e5_2, e5_3, e5_4, e5_5, wR⟩ := w5
  obtain ⟨hP, hD⟩ := va_join (wr := wM cI cZ hm b0 b4 b5 b6 b7 b8 b9 f0 f4 f5 f6 f7 f8 m9 v0 v1 v2 v3 v4) hP hD [0, 1, 2, 3, 4, 5, 6, 7, 8, 9, 10, 11, 12] [13, 14, 15, 16, 17, 18, 19, 20] rfl rfl (by decide) (by decide) hk1 hFc hP1 hD1
  generalize H1 = H at hP hS ⊢
  subst wK
  have hP := hP.sub (ws' := wO cJ ao go ++ (wQ cI cZ h a0 a1 a2 a3 a4 a5 a6 a7 a8 a9 a10 u5_0 f1 f2 u5_1 f4 f5 u5_2 f7 f8 u5_6 u5_7 v0 u5_3 u5_4 u5_5 ++ wM cI cZ hm b0 b4 b5 b6 b7 b8 b9 f0 f4 f5 f6 f7 f8 m9 v0 v1 v2 v3 v4)) [8, 9, 10, 11, 12, 13, 14, 15, 16, 17, 18, 19, 20, 0, 1, 2, 3, 4, 5, 6, 7] rfl
  have hD := hD.sub (ws' := wO cJ ao go ++ (wQ cI cZ h a0 a1 a2 a3 a4 a5 a6 a7 a8 a9 a10 u5_0 f1 f2 u5_1 f4 f5 u5_2 f7 f8 u5_6 u5_7 v0 u5_3 u5_4 u5_5 ++ wM cI cZ hm b0 b4 b5 b6 b7 b8 b9 f0 f4 f5 f6 f7 f8 m9 v0 v1 v2 v3 v4)) [8, 9, 10, 11, 12, 13, 14, 15, 16, 17, 18, 19, 20, 0, 1, 2, 3, 4, 5, 6, 7] (by decide) rfl
  subst e5_0
  subst e5_1
  subst e5_2
  subst e5_3
  subst e5_4
  subst e5_5
  have hP : va_P D vwCl (wO cJ ao go ++ (wQ cI cZ h a0 a1 a2 a3 a4 a5 a6 a7 a8 a9 a10 (q_uA (q_reK f0 f4 f6 f7 f8 v0 v1) f0 (q_fill (fun n => f0 n - q_sh f0 (f7 v1.toNatClampNeg) n) f0 8)) f1 f2 (q_uA (q_reK f0 f4 f6 f7 f8 v0 v1) f3 (q_fill (fun n => f3 n + q_sh f0 (f7 v1.toNatClampNeg) n) f3 8)) f4 f5 (q_uA (q_reK f0 f4 f6 f7 f8 v0 v1) f6 (q_fill (fun _ => 0) f6 8)) f7 f8 u5_6 u5_7 v0 (q_us (q_reK f0 f4 f6 f7 f8 v0 v1) v1 (v1 + 1)) (q_us (q_reK f0 f4 f6 f7 f8 v0 v1) v2 (v2 - q_mt f5 (q_sh f0 (f7 v1.toNatClampNeg)) (f7 v1.toNatClampNeg) v2)) (q_us (q_reK f0 f4 f6 f7 f8 v0 v1) v3 (v3 + (f7 v1.toNatClampNeg + q_mt f5 (q_sh f0 (f7 v1.toNatClampNeg)) (f7 v1.toNatClampNeg) v2))) ++ wM cI cZ hm b0 b4 b5 b6 b7 b8 b9 f0 f4 f5 f6 f7 f8 m9 v0 v1 v2 v3 v4)) H := hP
  have hD : va_D (fun q : Nat => s.heap.size ≤ q) (wO cJ ao go ++ (wQ cI cZ h a0 a1 a2 a3 a4 a5 a6 a7 a8 a9 a10 (q_uA (q_reK f0 f4 f6 f7 f8 v0 v1) f0 (q_fill (fun n => f0 n - q_sh f0 (f7 v1.toNatClampNeg) n) f0 8)) f1 f2 (q_uA (q_reK f0 f4 f6 f7 f8 v0 v1) f3 (q_fill (fun n => f3 n + q_sh f0 (f7 v1.toNatClampNeg) n) f3 8)) f4 f5 (q_uA (q_reK f0 f4 f6 f7 f8 v0 v1) f6 (q_fill (fun _ => 0) f6 8)) f7 f8 u5_6 u5_7 v0 (q_us (q_reK f0 f4 f6 f7 f8 v0 v1) v1 (v1 + 1)) (q_us (q_reK f0 f4 f6 f7 f8 v0 v1) v2 (v2 - q_mt f5 (q_sh f0 (f7 v1.toNatClampNeg)) (f7 v1.toNatClampNeg) v2)) (q_us (q_reK f0 f4 f6 f7 f8 v0 v1) v3 (v3 + (f7 v1.toNatClampNeg + q_mt f5 (q_sh f0 (f7 v1.toNatClampNeg)) (f7 v1.toNatClampNeg) v2))) ++ wM cI cZ hm b0 b4 b5 b6 b7 b8 b9 f0 f4 f5 f6 f7 f8 m9 v0 v1 v2 v3 v4)) := hD
  refine lv_istore (lv' := [(5, .int (q_reK f0 f4 f6 f7 f8 v0 v1)), (0, .ref b), (1, .ref h), (2, .ref hm), (3, .ref ao), (4, .int (nI i))]) hx hb dL_law_1047 hl (by decide) rfl (fun ls hl => ?_)
  refine lv_aload_n hx hb dL_law_1049 rfl (lv_at hl 3 rfl) ?_
  have hPm := hP.sub (ws' := wM cI cZ hm b0 b4 b5 b6 b7 b8 b9 f0 f4 f5 f6 f7 f8 m9 v0 v1 v2 v3 v4) [13, 14, 15, 16, 17, 18, 19, 20] rfl
  have hDm := hD.sub (ws' := wM cI cZ hm b0 b4 b5 b6 b7 b8 b9 f0 f4 f5 f6 f7 f8 m9 v0 v1 v2 v3 v4) [13, 14, 15, 16, 17, 18, 19, 20] (by decide) rfl
  have hFm := va_free (wc := wM cI cZ hm b0 b4 b5 b6 b7 b8 b9 f0 f4 f5 f6 f7 f8 m9 v0 v1 v2 v3 v4) hD hS hA [13, 14, 15, 16, 17, 18, 19, 20] rfl
  refine va_calli (va_runV (As := []) (rest := []) ⟨hx, hb, hml, hown, hts⟩ (c_X1_release l D cI cZ cJ H.size hm b0 b4 b5 b6 b7 b8 b9 f0 f4 f5 f6 f7 f8 m9 v0 v1 v2 v3 v4 (iv_hb hI) (fun z => iv_hT hI z) (fun z => iv_hpb hI z) (iv_he hI)) (cwV 0 hts gL_law_X1_release rfl rfl rfl (by decide +kernel) ⟨Nat.le_of_ble_eq_true rfl, Nat.le_of_ble_eq_true rfl⟩) ⟨zD_blind, va_recv hK hPm (ci := 1) (q0 := 0) rfl rfl, fun U hU hW => ⟨rfl, zD_mk hPm hK hDm hU hW⟩⟩ rfl rfl hl.1 rfl (lv_room (Nat.le_of_ble_eq_true rfl)) dL_law_1050 ⟨by show cl + 1 + 0 ≤ 1060; omega, by show sl + 6 + 0 ≤ 8446; omega⟩) hS (fun q _ h => hFm q h) hFm (fun r6 u6 t6 H1 locs ht hvm w6 hB hz1 hk1 hS => ?_)
  obtain ⟨u6_0, u6_1, u6_2, u6_3, u6_4, u6_5, u6_6⟩ := u6
  obtain ⟨hP1, hK1, hD1⟩ := hB
  rw [ht] at hP1
  try dsimp only at w6
  obtain ⟨w6, e6_0, e6_1, e6_2, e6_3, e6_4, e6_6⟩ := w6
  obtain ⟨hP, hD⟩ := va_join (wr := wO cJ ao go ++ wQ cI cZ h a0 a1 a2 a3 a4 a5 a6 a7 a8 a9 a10 (q_uA (q_reK f0 f4 f6 f7 f8 v0 v1) f0 (q_fill (fun n => f0 n - q_sh f0 (f7 v1.toNatClampNeg) n) f0 8)) f1 f2 (q_uA (q_reK f0 f4 f6 f7 f8 v0 v1) f3 (q_fill (fun n => f3 n + q_sh f0 (f7 v1.toNatClampNeg) n) f3 8)) f4 f5 (q_uA (q_reK f0 f4 f6 f7 f8 v0 v1) f6 (q_fill (fun _ => 0) f6 8)) f7 f8 u5_6 u5_7 v0 (q_us (q_reK f0 f4 f6 f7 f8 v0 v1) v1 (v1 + 1)) (q_us (q_reK f0 f4 f6 f7 f8 v0 v1) v2 (v2 - q_mt f5 (q_sh f0 (f7 v1.toNatClampNeg)) (f7 v1.toNatClampNeg) v2)) (q_us (q_reK f0 f4 f6 f7 f8 v0 v1) v3 (v3 + (f7 v1.toNatClampNeg + q_mt f5 (q_sh f0 (f7 v1.toNatClampNeg)) (f7 v1.toNatClampNeg) v2)))) hP hD [13, 14, 15, 16, 17, 18, 19, 20] [0, 1, 2, 3, 4, 5, 6, 7, 8, 9, 10, 11, 12] rfl rfl (by decide) (by decide) hk1 hFm hP1 hD1
  generalize H1 = H at hP hS ⊢
  subst e6_0
  subst e6_1
  subst e6_2
  subst e6_3
  subst e6_4
  subst e6_6
  have hP : va_P D vwCl (wO cJ ao go ++ (wQ cI cZ h a0 a1 a2 a3 a4 a5 a6 a7 a8 a9 a10 (q_uA (q_reK f0 f4 f6 f7 f8 v0 v1) f0 (q_fill (fun n => f0 n - q_sh f0 (f7 v1.toNatClampNeg) n) f0 8)) f1 f2 (q_uA (q_reK f0 f4 f6 f7 f8 v0 v1) f3 (q_fill (fun n => f3 n + q_sh f0 (f7 v1.toNatClampNeg) n) f3 8)) f4 f5 (q_uA (q_reK f0 f4 f6 f7 f8 v0 v1) f6 (q_fill (fun _ => 0) f6 8)) f7 f8 u5_6 u5_7 v0 (q_us (q_reK f0 f4 f6 f7 f8 v0 v1) v1 (v1 + 1)) (q_us (q_reK f0 f4 f6 f7 f8 v0 v1) v2 (v2 - q_mt f5 (q_sh f0 (f7 v1.toNatClampNeg)) (f7 v1.toNatClampNeg) v2)) (q_us (q_reK f0 f4 f6 f7 f8 v0 v1) v3 (v3 + (f7 v1.toNatClampNeg + q_mt f5 (q_sh f0 (f7 v1.toNatClampNeg)) (f7 v1.toNatClampNeg) v2))) ++ wM cI cZ hm b0 b4 b5 b6 b7 b8 b9 (q_uA (q_reK f0 f4 f6 f7 f8 v0 v1) f0 (q_fill (fun n => f0 n - q_sh f0 (f7 v1.toNatClampNeg) n) f0 8)) f4 f5 (q_uA (q_reK f0 f4 f6 f7 f8 v0 v1) f6 (q_fill (fun _ => 0) f6 8)) f7 f8 u6_5 v0 (q_us (q_reK f0 f4 f6 f7 f8 v0 v1) v1 (v1 + 1)) (q_us (q_reK f0 f4 f6 f7 f8 v0 v1) v2 (v2 - q_mt f5 (q_sh f0 (f7 v1.toNatClampNeg)) (f7 v1.toNatClampNeg) v2)) (q_us (q_reK f0 f4 f6 f7 f8 v0 v1) v3 (v3 + ((f7 v1.toNatClampNeg) + q_mt f5 (q_sh f0 (f7 v1.toNatClampNeg)) (f7 v1.toNatClampNeg) v2))) (q_reK f0 f4 f6 f7 f8 v0 v1))) H := hP
  have hD : va_D (fun q : Nat => s.heap.size ≤ q) (wO cJ ao go ++ (wQ cI cZ h a0 a1 a2 a3 a4 a5 a6 a7 a8 a9 a10 (q_uA (q_reK f0 f4 f6 f7 f8 v0 v1) f0 (q_fill (fun n => f0 n - q_sh f0 (f7 v1.toNatClampNeg) n) f0 8)) f1 f2 (q_uA (q_reK f0 f4 f6 f7 f8 v0 v1) f3 (q_fill (fun n => f3 n + q_sh f0 (f7 v1.toNatClampNeg) n) f3 8)) f4 f5 (q_uA (q_reK f0 f4 f6 f7 f8 v0 v1) f6 (q_fill (fun _ => 0) f6 8)) f7 f8 u5_6 u5_7 v0 (q_us (q_reK f0 f4 f6 f7 f8 v0 v1) v1 (v1 + 1)) (q_us (q_reK f0 f4 f6 f7 f8 v0 v1) v2 (v2 - q_mt f5 (q_sh f0 (f7 v1.toNatClampNeg)) (f7 v1.toNatClampNeg) v2)) (q_us (q_reK f0 f4 f6 f7 f8 v0 v1) v3 (v3 + (f7 v1.toNatClampNeg + q_mt f5 (q_sh f0 (f7 v1.toNatClampNeg)) (f7 v1.toNatClampNeg) v2))) ++ wM cI cZ hm b0 b4 b5 b6 b7 b8 b9 (q_uA (q_reK f0 f4 f6 f7 f8 v0 v1) f0 (q_fill (fun n => f0 n - q_sh f0 (f7 v1.toNatClampNeg) n) f0 8)) f4 f5 (q_uA (q_reK f0 f4 f6 f7 f8 v0 v1) f6 (q_fill (fun _ => 0) f6 8)) f7 f8 u6_5 v0 (q_us (q_reK f0 f4 f6 f7 f8 v0 v1) v1 (v1 + 1)) (q_us (q_reK f0 f4 f6 f7 f8 v0 v1) v2 (v2 - q_mt f5 (q_sh f0 (f7 v1.toNatClampNeg)) (f7 v1.toNatClampNeg) v2)) (q_us (q_reK f0 f4 f6 f7 f8 v0 v1) v3 (v3 + ((f7 v1.toNatClampNeg) + q_mt f5 (q_sh f0 (f7 v1.toNatClampNeg)) (f7 v1.toNatClampNeg) v2))) (q_reK f0 f4 f6 f7 f8 v0 v1))) := hD
  refine lv_istore (lv' := [(6, .int r6), (5, .int (q_reK f0 f4 f6 f7 f8 v0 v1)), (0, .ref b), (1, .ref h), (2, .ref hm), (3, .ref ao), (4, .int (nI i))]) hx hb dL_law_1053 hl (by decide) rfl (fun ls hl => ?_)
  refine lv_aload_n hx hb dL_law_1055 rfl (lv_at hl 4 rfl) ?_
  have hPm := hP.sub (ws' := wM cI cZ hm b0 b4 b5 b6 b7 b8 b9 (q_uA (q_reK f0 f4 f6 f7 f8 v0 v1) f0 (q_fill (fun n => f0 n - q_sh f0 (f7 v1.toNatClampNeg) n) f0 8)) f4 f5 (q_uA (q_reK f0 f4 f6 f7 f8 v0 v1) f6 (q_fill (fun _ => 0) f6 8)) f7 f8 u6_5 v0 (q_us (q_reK f0 f4 f6 f7 f8 v0 v1) v1 (v1 + 1)) (q_us (q_reK f0 f4 f6 f7 f8 v0 v1) v2 (v2 - q_mt f5 (q_sh f0 (f7 v1.toNatClampNeg)) (f7 v1.toNatClampNeg) v2)) (q_us (q_reK f0 f4 f6 f7 f8 v0 v1) v3 (v3 + ((f7 v1.toNatClampNeg) + q_mt f5 (q_sh f0 (f7 v1.toNatClampNeg)) (f7 v1.toNatClampNeg) v2))) (q_reK f0 f4 f6 f7 f8 v0 v1)) [13, 14, 15, 16, 17, 18, 19, 20] rfl
  refine vp_callSi (W.runV (As := []) (rest := []) ⟨hx, hb, hml, hown, hts⟩ (c_X1_thrown l D cI cZ cJ hm b0 b4 b5 b6 b7 b8 b9 (q_uA (q_reK f0 f4 f6 f7 f8 v0 v1) f0 (q_fill (fun n => f0 n - q_sh f0 (f7 v1.toNatClampNeg) n) f0 8)) f4 f5 (q_uA (q_reK f0 f4 f6 f7 f8 v0 v1) f6 (q_fill (fun _ => 0) f6 8)) f7 f8 u6_5 v0 (q_us (q_reK f0 f4 f6 f7 f8 v0 v1) v1 (v1 + 1)) (q_us (q_reK f0 f4 f6 f7 f8 v0 v1) v2 (v2 - q_mt f5 (q_sh f0 (f7 v1.toNatClampNeg)) (f7 v1.toNatClampNeg) v2)) (q_us (q_reK f0 f4 f6 f7 f8 v0 v1) v3 (v3 + ((f7 v1.toNatClampNeg) + q_mt f5 (q_sh f0 (f7 v1.toNatClampNeg)) (f7 v1.toNatClampNeg) v2))) (q_reK f0 f4 f6 f7 f8 v0 v1)) (cwV 0 hts gL_law_X1_thrown rfl rfl rfl (by decide +kernel) ⟨Nat.le_of_ble_eq_true rfl, Nat.le_of_ble_eq_true rfl⟩) ⟨zP_blind, va_recv hK hPm (ci := 1) (q0 := 0) rfl rfl, fun U hU hW => ⟨rfl, zP_mk hPm hK hU hW⟩⟩ rfl rfl hl.1 rfl (lv_room (Nat.le_of_ble_eq_true rfl)) dL_law_1056 ⟨by show cl + 1 + 0 ≤ 1060; omega, by show sl + 6 + 0 ≤ 8446; omega⟩) (fun r7 w7 => ?_)
  subst w7
  refine lv_iload hx hb dL_law_1059 (lv_at hl 1 rfl) ?_
  refine lv_icmp_eq (tgt := 1066) hx hb dL_law_1061 (by decide) (fun _ => ?_) (fun c9 => False.elim (c9 rfl))
  refine lv_iload hx hb dL_law_1066 (lv_at hl 1 rfl) ?_
  refine lv_if_ne (tgt := 1083) hx hb dL_law_1068 (by decide) (fun c9 => ?_) (fun c9 => ?_)
  · skip
    refine lv_goto (tgt := 1099) hx hb dL_law_1083 (by decide) ?_
    exact hend H locs ls ⟨_, _, _, _, _, _, _, _, _, _, _, _, _, _, _, _, _, _, (iv_rel hI f5 f6), hP, hD, hS⟩ (lv_sub hl [2, 3, 4, 5, 6] rfl)
  · skip
    have hR5 := wR c9
    have hR6 := w6 c9
    refine lv_aload_n hx hb dL_law_1071 rfl (lv_at hl 5 rfl) ?_
    refine lv_iconst (v := 0) hx hb dL_law_1072 (by decide) ?_
    refine va_lald (D := D) hx hb hK hP 0 2 rfl rfl (show vp_in 0 1 from vp_in_nI (n := 0) (by decide) (by decide)) dL_law_1073 ?_
    refine lv_iload hx hb dL_law_1074 (lv_at hl 0 rfl) ?_
    refine lv_i2l (v := r6.toInt64) hx hb dL_law_1076 rfl ?_
    refine W.lcmp hx hb dL_law_1077 ?_
    refine lv_if_eq (tgt := 1083) hx hb dL_law_1078 (by decide) (fun _ => ?_) (fun c9 => False.elim (c9 (z_cmp (hR5.trans (by rw [hR6])))))
    refine lv_goto (tgt := 1099) hx hb dL_law_1083 (by decide) ?_
    exact hend H locs ls ⟨_, _, _, _, _, _, _, _, _, _, _, _, _, _, _, _, _, _, (iv_rel hI f5 f6), hP, hD, hS⟩ (lv_sub hl [2, 3, 4, 5, 6] rfl)
set_option maxHeartbeats 4000000 in
set_option maxRecDepth 100000 in
theorem law_out {p : Program} {l : Launch} {e : Env} {s : State} {m : MethodId} {below : List Frame} {meth : Method} {c : Code} {Q : State → Prop} {D : va_G} {cI cZ cJ : ClassId} {b L i cl sl : Nat} {xs : Nat → Int32} {ao h a0 a1 a2 a3 a4 a5 a6 a7 a8 a9 a10 hm b0 b4 b5 b6 b7 b8 b9 : Nat} {H : Heap} {locs : List Loc} {ls : Array Slot} (hl0 : l.stackTraces = false) (C0 : zC p s m meth c b L xs) (hZ : zX s) (hK : va_K D vwCl (zT cI cZ cJ) s) (hL : L ≤ 1536) (hi : i + 3 ≤ L) (hc1 : cl + 1 ≤ 1060) (hs1 : sl + 6 ≤ 8446) (hG : zG D cI cZ cJ ao h a0 a1 a2 a3 a4 a5 a6 a7 a8 a9 a10 hm b0 b4 b5 b6 b7 b8 b9 s H locs) (hl : lv_has ls 7 [(0, .ref b), (1, .ref h), (2, .ref hm), (3, .ref ao), (4, .int (nI i))]) (hend : ∀ (H1 : Heap) (locs1 : List Loc) (ls1 : Array Slot), zG D cI cZ cJ ao h a0 a1 a2 a3 a4 a5 a6 a7 a8 a9 a10 hm b0 b4 b5 b6 b7 b8 b9 s H1 locs1 → lv_has ls1 7 [(0, .ref b), (1, .ref h), (2, .ref hm), (3, .ref ao), (4, .int (nI i))] → W p l e room_1 s m #[Value.ref b] below meth c H1 locs1 (cl + 1) (sl + 6) Q (F0 m 1099 ls1 [])) : W p l e room_1 s m #[Value.ref b] below meth c H locs cl sl Q (F0 m 1086 ls []) := by
  obtain ⟨hx, hb, hml, hown, hts0, hX, hbl⟩ := C0
  have hts := fun w h => hts0 w (wsL_law_in w h)
  obtain ⟨f0, f1, f2, f3, f4, f5, f6, f7, f8, f9, f10, v0, v1, v2, v3, m9, v4, g, hI, hP, hD, hS⟩ := hG
  have hA : ∀ q : Nat, s.heap.size ≤ q → (fun q : Nat => s.heap.size ≤ q) q := fun _ h => h
  have hbA : ¬ (fun q : Nat => s.heap.size ≤ q) b := Nat.not_le.mpr hbl
  refine lv_aload_n hx hb dL_law_1086 rfl (lv_at hl 1 rfl) ?_
  have hPc := hP.sub (ws' := wQ cI cZ h a0 a1 a2 a3 a4 a5 a6 a7 a8 a9 a10 f0 f1 f2 f3 f4 f5 f6 f7 f8 f9 f10 v0 v1 v2 v3) [1, 2, 3, 4, 5, 6, 7, 8, 9, 10, 11, 12] rfl
  refine vp_callSi (W.runV (As := []) (rest := []) ⟨hx, hb, hml, hown, hts⟩ (c_X0_out l D cI cZ cJ h a0 a1 a2 a3 a4 a5 a6 a7 a8 a9 a10 f0 f1 f2 f3 f4 f5 f6 f7 f8 f9 f10 v0 v1 v2 v3) (cwV 0 hts gL_law_X0_out rfl rfl rfl (by decide +kernel) ⟨Nat.le_of_ble_eq_true rfl, Nat.le_of_ble_eq_true rfl⟩) ⟨zP_blind, va_recv hK hPc (ci := 0) (q0 := 0) rfl rfl, fun U hU hW => ⟨rfl, zP_mk hPc hK hU hW⟩⟩ rfl rfl hl.1 rfl (lv_room (Nat.le_of_ble_eq_true rfl)) dL_law_1087 ⟨by show cl + 0 ≤ 1060; omega, by show sl + 0 ≤ 8446; omega⟩) (fun r5 w5 => ?_)
  have w5 := w5.symm
  subst w5
  refine lv_aload_n hx hb dL_law_1090 rfl (lv_at hl 2 rfl) ?_
  have hPm := hP.sub (ws' := wM cI cZ hm b0 b4 b5 b6 b7 b8 b9 f0 f4 f5 f6 f7 f8 m9 v0 v1 v2 v3 v4) [13, 14, 15, 16, 17, 18, 19, 20] rfl
  have hDm := hD.sub (ws' := wM cI cZ hm b0 b4 b5 b6 b7 b8 b9 f0 f4 f5 f6 f7 f8 m9 v0 v1 v2 v3 v4) [13, 14, 15, 16, 17, 18, 19, 20] (by decide) rfl
  have hFm := va_free (wc := wM cI cZ hm b0 b4 b5 b6 b7 b8 b9 f0 f4 f5 f6 f7 f8 m9 v0 v1 v2 v3 v4) hD hS hA [13, 14, 15, 16, 17, 18, 19, 20] rfl
  refine va_calli (va_runV (As := []) (rest := [.int v3]) ⟨hx, hb, hml, hown, hts⟩ (c_X1_out l D cI cZ cJ H.size hm b0 b4 b5 b6 b7 b8 b9 f0 f4 f5 f6 f7 f8 m9 v0 v1 v2 v3 v4) (cwV 0 hts gL_law_X1_out rfl rfl rfl (by decide +kernel) ⟨Nat.le_of_ble_eq_true rfl, Nat.le_of_ble_eq_true rfl⟩) ⟨zD_blind, va_recv hK hPm (ci := 1) (q0 := 0) rfl rfl, fun U hU hW => ⟨rfl, zD_mk hPm hK hDm hU hW⟩⟩ rfl rfl hl.1 rfl (lv_room (Nat.le_of_ble_eq_true rfl)) dL_law_1091 ⟨by show cl + 0 ≤ 1060; omega, by show sl + 0 ≤ 8446; omega⟩) hS (fun q _ h => hFm q h) hFm (fun r6 u6 t6 H1 locs ht hvm w6 hB hz1 hk1 hS => ?_)
  obtain ⟨hP1, hK1, hD1⟩ := hB
  rw [ht] at hP1
  try dsimp only at w6
  obtain ⟨w6, e6_0⟩ := w6
  obtain ⟨hP, hD⟩ := va_join (wr := wO cJ ao g ++ wQ cI cZ h a0 a1 a2 a3 a4 a5 a6 a7 a8 a9 a10 f0 f1 f2 f3 f4 f5 f6 f7 f8 f9 f10 v0 v1 v2 v3) hP hD [13, 14, 15, 16, 17, 18, 19, 20] [0, 1, 2, 3, 4, 5, 6, 7, 8, 9, 10, 11, 12] rfl rfl (by decide) (by decide) hk1 hFm hP1 hD1
  generalize H1 = H at hP hS ⊢
  subst e6_0
  have hP : va_P D vwCl (wO cJ ao g ++ (wQ cI cZ h a0 a1 a2 a3 a4 a5 a6 a7 a8 a9 a10 f0 f1 f2 f3 f4 f5 f6 f7 f8 f9 f10 v0 v1 v2 v3 ++ wM cI cZ hm b0 b4 b5 b6 b7 b8 b9 f0 f4 f5 f6 f7 f8 m9 v0 v1 v2 v3 0)) H := hP
  have hD : va_D (fun q : Nat => s.heap.size ≤ q) (wO cJ ao g ++ (wQ cI cZ h a0 a1 a2 a3 a4 a5 a6 a7 a8 a9 a10 f0 f1 f2 f3 f4 f5 f6 f7 f8 f9 f10 v0 v1 v2 v3 ++ wM cI cZ hm b0 b4 b5 b6 b7 b8 b9 f0 f4 f5 f6 f7 f8 m9 v0 v1 v2 v3 0)) := hD
  have w6 := w6.symm
  subst w6
  refine lv_icmp_eq (tgt := 1099) hx hb dL_law_1094 (by decide) (fun _ => ?_) (fun c9 => False.elim (c9 rfl))
  refine W.widen (k := cl + 1) (n := sl + 6) (by omega) (by omega) ?_
  exact hend H locs ls ⟨_, _, _, _, _, _, _, _, _, _, _, _, _, _, _, _, _, _, hI, hP, hD, hS⟩ (lv_sub hl [0, 1, 2, 3, 4] rfl)
