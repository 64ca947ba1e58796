/-! THE LAW'S LOOP: at its head, with i ints read, class and reference agree (zG) -/
set_option maxHeartbeats 4000000 in
set_option maxRecDepth 100000 in
theorem law_loop {p : Program} {l : Launch} {e : Env} {s : State} {m : MethodId} {below : List Frame} {meth : Method} {c : Code} {Q : State → Prop} {D : va_G} {cI cZ cJ : ClassId} {b L : Nat} {xs : Nat → Int32} {ao h a0 a1 a2 a3 a4 a5 a6 a7 a8 a9 a10 hm b0 b4 b5 b6 b7 b8 b9 : Nat} (hl0 : l.stackTraces = false) (C0 : zC p s m meth c b L xs) (hZ : zX s) (hK : va_K D vwCl (zT cI cZ cJ) s) (hL : L ≤ 1536) (hex : ∀ (H : Heap) (locs : List Loc) (cl sl : Nat) (ls : Array Slot), va_S (fun q : Nat => s.heap.size ≤ q) s.heap H locs → cl ≤ 1060 → sl ≤ 8446 → W p l e room_1 s m #[Value.ref b] below meth c H locs cl sl Q (F0 m 1105 ls [])) :
    ∀ (n i cl sl : Nat) (H : Heap) (locs : List Loc) (ls : Array Slot), i ≤ L → L < i + 3 * n → cl + n ≤ 1060 → sl + 6 * n ≤ 8446 → zG D cI cZ cJ ao h a0 a1 a2 a3 a4 a5 a6 a7 a8 a9 a10 hm b0 b4 b5 b6 b7 b8 b9 s H locs → lv_has ls 7 [(0, .ref b), (1, .ref h), (2, .ref hm), (3, .ref ao), (4, .int (nI i))] → W p l e room_1 s m #[Value.ref b] below meth c H locs cl sl Q (F0 m 23 ls []) := by
  intro n
  induction n with
  | zero => intro i cl sl H locs ls h1 h2; exact absurd h2 (by omega)
  | succ n ih =>
    intro i cl sl H locs ls h1 h2 h3 h4 hG hl
    obtain ⟨hx, hb, hml, hown, hts0, hX, hbl⟩ := id C0
    have hbA : ¬ (fun q : Nat => s.heap.size ≤ q) b := Nat.not_le.mpr hbl
    have hS : va_S (fun q : Nat => s.heap.size ≤ q) s.heap H locs := by obtain ⟨_, _, _, _, _, _, _, _, _, _, _, _, _, _, _, _, _, _, -, -, -, hS⟩ := hG; exact hS
    refine lv_iload hx hb dL_law_23 (lv_at hl 4 rfl) ?_
    refine lv_aload_n hx hb dL_law_25 rfl (lv_at hl 0 rfl) ?_
    refine va_slen hx hb hX hbl hbA hS dL_law_26 ?_
    refine lv_iconst (v := 3) hx hb dL_law_27 (by decide) ?_
    refine lv_isub hx hb dL_law_28 ?_
    refine lv_icmp_gt (tgt := 1105) hx hb dL_law_29 (by decide) (fun c1 => ?_) (fun c1 => ?_)
    · exact hex H locs cl sl ls hS (by omega) (by omega)
    · have hi3 : i + 3 ≤ L := by
        have e1 : (nI L - nI 3).toInt = (L : Int) - (3 : Nat) := pk_sub_toInt (by omega) (by omega)
        have c2 : ¬ (nI L - nI 3 < nI i) := c1
        rw [z_lt, e1, nI_toInt (by omega)] at c2
        omega
      refine lv_aload_n hx hb dL_law_32 rfl (lv_at hl 0 rfl) ?_
      refine lv_iload hx hb dL_law_33 (lv_at hl 4 rfl) ?_
      refine va_sld hx hb hX hbl hbA hS (vp_in_nI (by omega) (by omega)) dL_law_35 ?_
      refine lv_bipush (v := 31) hx hb dL_law_36 (by decide) ?_
      refine lv_iand hx hb dL_law_38 ?_
      obtain ⟨j, hj, ej⟩ := pk_andE (xs (nI i).toNatClampNeg) (m := 31) 5 (by decide)
      rw [ej]
      have hend : ∀ (H1 : Heap) (locs1 : List Loc) (ls1 : Array Slot), zG D cI cZ cJ ao h a0 a1 a2 a3 a4 a5 a6 a7 a8 a9 a10 hm b0 b4 b5 b6 b7 b8 b9 s H1 locs1 → lv_has ls1 7 [(0, .ref b), (1, .ref h), (2, .ref hm), (3, .ref ao), (4, .int (nI i))] → W p l e room_1 s m #[Value.ref b] below meth c H1 locs1 (cl + 1) (sl + 6) Q (F0 m 1099 ls1 []) := by
        intro H1 locs1 ls1 hG1 hl1
        refine lv_iinc (v := nI (i + 3)) (lv' := [(4, .int (nI (i + 3))), (0, .ref b), (1, .ref h), (2, .ref hm), (3, .ref ao)]) hx hb dL_law_1099 hl1 (k := 4) rfl (nI_add i 3) (by decide) rfl (fun ls hl => ?_)
        refine lv_goto (tgt := 23) hx hb dL_law_1102 (by decide) ?_
        exact ih (i + 3) (cl + 1) (sl + 6) H1 locs1 ls hi3 (by omega) (by omega) (by omega) hG1 (lv_sub hl [1, 2, 3, 4, 0] rfl)
      rcases Nat.lt_or_ge j 20 with h20 | h20
      · have hj20 : j = 0 ∨ j = 1 ∨ j = 2 ∨ j = 3 ∨ j = 4 ∨ j = 5 ∨ j = 6 ∨ j = 7 ∨ j = 8 ∨ j = 9 ∨ j = 10 ∨ j = 11 ∨ j = 12 ∨ j = 13 ∨ j = 14 ∨ j = 15 ∨ j = 16 ∨ j = 17 ∨ j = 18 ∨ j = 19 := by omega
        rcases hj20 with rfl | rfl | rfl | rfl | rfl | rfl | rfl | rfl | rfl | rfl | rfl | rfl | rfl | rfl | rfl | rfl | rfl | rfl | rfl | rfl
        · refine lv_tableIn (tgt := 132) hx hb dL_law_39 (by decide) (by decide) rfl (by decide) ?_
          exact law_give hl0 C0 hZ hK hL hi3 (by omega) (by omega) hG hl hend
        · refine lv_tableIn (tgt := 200) hx hb dL_law_39 (by decide) (by decide) rfl (by decide) ?_
          exact law_leave hl0 C0 hZ hK hL hi3 (by omega) (by omega) hG hl hend
        · refine lv_tableIn (tgt := 256) hx hb dL_law_39 (by decide) (by decide) rfl (by decide) ?_
          exact law_trust hl0 C0 hZ hK hL hi3 (by omega) (by omega) hG hl hend
        · refine lv_tableIn (tgt := 324) hx hb dL_law_39 (by decide) (by decide) rfl (by decide) ?_
          exact law_setPerson hl0 C0 hZ hK hL hi3 (by omega) (by omega) hG hl hend
        · refine lv_tableIn (tgt := 392) hx hb dL_law_39 (by decide) (by decide) rfl (by decide) ?_
          exact law_in hl0 C0 hZ hK hL hi3 (by omega) (by omega) hG hl hend
        · refine lv_tableIn (tgt := 448) hx hb dL_law_39 (by decide) (by decide) rfl (by decide) ?_
          exact law_inByBook hl0 C0 hZ hK hL hi3 (by omega) (by omega) hG hl hend
        · refine lv_tableIn (tgt := 504) hx hb dL_law_39 (by decide) (by decide) rfl (by decide) ?_
          exact law_total hl0 C0 hZ hK hL hi3 (by omega) (by omega) hG hl hend
        · refine lv_tableIn (tgt := 517) hx hb dL_law_39 (by decide) (by decide) rfl (by decide) ?_
          exact law_fillPot hl0 C0 hZ hK hL hi3 (by omega) (by omega) hG hl hend
        · refine lv_tableIn (tgt := 573) hx hb dL_law_39 (by decide) (by decide) rfl (by decide) ?_
          exact law_pot hl0 C0 hZ hK hL hi3 (by omega) (by omega) hG hl hend
        · refine lv_tableIn (tgt := 586) hx hb dL_law_39 (by decide) (by decide) rfl (by decide) ?_
          exact law_addMilestone hl0 C0 hZ hK hL hi3 (by omega) (by omega) hG hl hend
        · refine lv_tableIn (tgt := 642) hx hb dL_law_39 (by decide) (by decide) rfl (by decide) ?_
          exact law_prove hl0 C0 hZ hK hL hi3 (by omega) (by omega) hG hl hend
        · refine lv_tableIn (tgt := 705) hx hb dL_law_39 (by decide) (by decide) rfl (by decide) ?_
          exact law_current hl0 C0 hZ hK hL hi3 (by omega) (by omega) hG hl hend
        · refine lv_tableIn (tgt := 718) hx hb dL_law_39 (by decide) (by decide) rfl (by decide) ?_
          exact law_vote hl0 C0 hZ hK hL hi3 (by omega) (by omega) hG hl hend
        · refine lv_tableIn (tgt := 786) hx hb dL_law_39 (by decide) (by decide) rfl (by decide) ?_
          exact law_speaker hl0 C0 hZ hK hL hi3 (by omega) (by omega) hG hl hend
        · refine lv_tableIn (tgt := 842) hx hb dL_law_39 (by decide) (by decide) rfl (by decide) ?_
          exact law_weight hl0 C0 hZ hK hL hi3 (by omega) (by omega) hG hl hend
        · refine lv_tableIn (tgt := 898) hx hb dL_law_39 (by decide) (by decide) rfl (by decide) ?_
          exact law_share hl0 C0 hZ hK hL hi3 (by omega) (by omega) hG hl hend
        · refine lv_tableIn (tgt := 954) hx hb dL_law_39 (by decide) (by decide) rfl (by decide) ?_
          exact law_match hl0 C0 hZ hK hL hi3 (by omega) (by omega) hG hl hend
        · refine lv_tableIn (tgt := 998) hx hb dL_law_39 (by decide) (by decide) rfl (by decide) ?_
          exact law_matchByPairs hl0 C0 hZ hK hL hi3 (by omega) (by omega) hG hl hend
        · refine lv_tableIn (tgt := 1042) hx hb dL_law_39 (by decide) (by decide) rfl (by decide) ?_
          exact law_release hl0 C0 hZ hK hL hi3 (by omega) (by omega) hG hl hend
        · refine lv_tableIn (tgt := 1086) hx hb dL_law_39 (by decide) (by decide) rfl (by decide) ?_
          exact law_out hl0 C0 hZ hK hL hi3 (by omega) (by omega) hG hl hend
      · refine lv_tableOut (tgt := 1099) hx hb dL_law_39 (Or.inr (by rw [nI_toInt (by omega)]; omega)) (by decide) ?_
        refine W.widen (k := cl + 1) (n := sl + 6) (by omega) (by omega) ?_
        exact hend H locs ls hG hl
