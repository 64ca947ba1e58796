set_option maxHeartbeats 4000000 in
set_option maxRecDepth 100000 in
theorem c_L_give (l : Launch) (hl0 : l.stackTraces = false) (D : va_G) (cI cZ cJ : ClassId) (sz : Nat) (h a0 a1 a2 a3 a4 a5 a6 a7 a8 a9 a10 : Nat) (f0 f1 f2 f3 f4 f5 f6 f7 f8 f9 f10 : Nat → Int32) (v0 v1 v2 v3 : Int32) (ao : Nat) (g : Nat → Int64) (p0 p1 : Int32) (hI : q_IV f0 f1 f2 f3 f4 f7 f8 v0 v1 v2) : vx_Met l yL_give wsL_give ({ frames := 8, cells := 1, slots := 6, locals := 133 }) (va_Pc [.ref h, .int p0, .int p1, .ref ao] (zDX D cI cZ cJ sz (wO cJ ao g ++ wQ cI cZ h a0 a1 a2 a3 a4 a5 a6 a7 a8 a9 a10 f0 f1 f2 f3 f4 f5 f6 f7 f8 f9 f10 v0 v1 v2 v3))) (va_Qi (fun (r : Int32) (u : (Nat → Int32) × (Nat → Int32) × (Nat → Int64)) => r = q_giveK f0 p0 p1 ∧ u.1 = q_up (q_giveK f0 p0 p1) f0 p0.toNatClampNeg (f0 p0.toNatClampNeg + p1) ∧ u.2.1 = q_up (q_giveK f0 p0 p1) f1 p0.toNatClampNeg (f1 p0.toNatClampNeg + p1) ∧ (q_giveK f0 p0 p1 = 0 → u.2.2 0 = (f0 p0.toNatClampNeg + p1).toInt64)) (fun u t => zB D cI cZ cJ (va_A (wO cJ ao g ++ wQ cI cZ h a0 a1 a2 a3 a4 a5 a6 a7 a8 a9 a10 f0 f1 f2 f3 f4 f5 f6 f7 f8 f9 f10 v0 v1 v2 v3) sz) (wO cJ ao (u.2.2) ++ wQ cI cZ h a0 a1 a2 a3 a4 a5 a6 a7 a8 a9 a10 u.1 u.2.1 f2 f3 f4 f5 f6 f7 f8 f9 f10 v0 v1 v2 v3) t) (va_A (wO cJ ao g ++ wQ cI cZ h a0 a1 a2 a3 a4 a5 a6 a7 a8 a9 a10 f0 f1 f2 f3 f4 f5 f6 f7 f8 f9 f10 v0 v1 v2 v3) sz)) (zXC (fun _ => False)) 1 6 (va_A (wO cJ ao g ++ wQ cI cZ h a0 a1 a2 a3 a4 a5 a6 a7 a8 a9 a10 f0 f1 f2 f3 f4 f5 f6 f7 f8 f9 f10 v0 v1 v2 v3) sz) := by
  refine vx_ofWH (cc := cL_give) (maxL := 5) (ret := (some .int)) (hh := [(0, 10, 13, 13), (0, 10, 17, 15), (0, 10, 21, 17)]) (by decide) rfl ?_
  intro p e s m args below meth c s₁ B hml hv
  obtain ⟨rfl, hZ, hsz, hP, hK, hD0⟩ := hv
  have hx := B.exec
  have hb := B.bytes
  have hr := B.returns
  have hts := atoms_spec (ws := wsL_give) B.pre
  have htab := vx_table (x := yL_give) B (hts _ List.mem_cons_self)
  have hown : s.vm.findClass RL = some m.cls := findClass_of_methodNamed B.named
  have hlocks := B.notSynchronized
  subst hsz
  have hD := hD0.self (sz := s.heap.size)
  generalize hAe : va_A (wO cJ ao g ++ wQ cI cZ h a0 a1 a2 a3 a4 a5 a6 a7 a8 a9 a10 f0 f1 f2 f3 f4 f5 f6 f7 f8 f9 f10 v0 v1 v2 v3) s.heap.size = A at hD ⊢
  have hA : ∀ q : Nat, s.heap.size ≤ q → A q := fun q h => by rw [← hAe]; exact Or.inr h
  have hS : va_S A s.heap s.heap [] := va_S.rf
  have hl := lv_entry ([.ref h, .int p0, .int p1, .ref ao]) (n := 5) (Nat.le_of_ble_eq_true rfl)
  rw [lg_entry_eq]
  generalize (lg_sl ([.ref h, .int p0, .int p1, .ref ao]) ++ List.replicate (5 - (lg_sl ([.ref h, .int p0, .int p1, .ref ao])).length) Slot.unset).toArray = ls at hl ⊢
  have hl : lv_has ls 5 [(0, .ref h), (1, .int p0), (2, .int p1), (3, .ref ao)] := hl
  have hPc := hP.sub (ws' := wQ cI cZ h a0 a1 a2 a3 a4 a5 a6 a7 a8 a9 a10 f0 f1 f2 f3 f4 f5 f6 f7 f8 f9 f10 v0 v1 v2 v3) [1, 2, 3, 4, 5, 6, 7, 8, 9, 10, 11, 12] rfl
  have hDc := hD.sub (ws' := wQ cI cZ h a0 a1 a2 a3 a4 a5 a6 a7 a8 a9 a10 f0 f1 f2 f3 f4 f5 f6 f7 f8 f9 f10 v0 v1 v2 v3) [1, 2, 3, 4, 5, 6, 7, 8, 9, 10, 11, 12] (by decide) rfl
  refine lv_aload_n hx hb dL_give_0 rfl (lv_at hl 3 rfl) ?_
  refine lv_iconst (v := 0) hx hb dL_give_1 (by decide) ?_
  refine lv_aload_n hx hb dL_give_2 rfl (lv_at hl 0 rfl) ?_
  refine lv_iload_n hx hb dL_give_3 rfl (lv_at hl 1 rfl) ?_
  refine lv_iload_n hx hb dL_give_4 rfl (lv_at hl 2 rfl) ?_
  cases hg : q_g p0
  · skip
    refine z_catch (vx_runV (As := [.int p0, .int p1]) (rest := [.int 0, .ref ao]) ⟨hx, hb, hml, hown, hts⟩ (c_X0_give_t1 l hl0 D cI cZ cJ h a0 a1 a2 a3 a4 a5 a6 a7 a8 a9 a10 f0 f1 f2 f3 f4 f5 f6 f7 f8 f9 f10 v0 v1 v2 v3 p0 p1 hg) (cwV 2 hts gL_give_X0_give rfl rfl rfl (by decide +kernel) ⟨Nat.le_of_ble_eq_true rfl, Nat.le_of_ble_eq_true rfl⟩) ⟨zPX_blind, va_recv hK hPc (ci := 0) (q0 := 0) rfl rfl, fun U hU hW => ⟨rfl, zX_at hZ hU hW, zP_mk hPc hK hU hW⟩⟩ rfl rfl hl.1 rfl (lv_room (Nat.le_of_ble_eq_true rfl)) dL_give_5 ⟨Nat.le_of_ble_eq_true rfl, Nat.le_of_ble_eq_true rfl⟩) (fun _ h => h) hS (fun E ce q9 H1 locs hE hk9 hS hce hcv hcl => ?_)
    subst hE
    have hps : ∀ z ∈ ([] : List ExceptionTableEntry), covers z 5 = false ∨ (z.catchType ≠ 0 ∧ ∃ nm : String, (Cond.classLink RL z.catchType nm).before ([Value.ref h, Value.int p0, Value.int p1, Value.ref ao] : List Value).toArray s = true ∧ va_Nc "java/lang/IndexOutOfBoundsException" nm s) := (fun z hz => nomatch hz)
    refine vx_catch (own := RL) (name := "java/lang/IndexOutOfBoundsException") hown [] ⟨0, 10, 13, 13⟩ [⟨0, 10, 17, 15⟩, ⟨0, 10, 21, 17⟩] (htab.trans rfl) hps (by decide) (by decide) (hts (.classLink RL 13 "java/lang/IndexOutOfBoundsException") (by decide +kernel)) (va_Nw.use rfl (hZ.1 (.castable "java/lang/IndexOutOfBoundsException" "java/lang/IndexOutOfBoundsException") (by decide))) hce hcv hcl ?_
    have hP := hP.kept (fun k q hk => hk9 q.1 (vx_lt hP hk))
    refine lv_astore (lv' := [(4, .ref q9), (0, .ref h), (1, .int p0), (2, .int p1), (3, .ref ao)]) hx hb dL_give_13 hl (by decide) rfl (fun ls hl => ?_)
    refine lv_iconst (v := 1) hx hb dL_give_15 (by decide) ?_
    refine vx_ret ?_
    exact W.iret (v := 1) hx hb hr (fun t ht hW => ⟨⟨1, ⟨f0, f1, g⟩, rfl, ⟨by simp [q_up, q_us, q_uA, q_giveK, hg], by simp [q_up, q_us, q_uA, q_giveK, hg], by simp [q_up, q_us, q_uA, q_giveK, hg], fun hz9 => absurd hz9 (by simp [q_up, q_us, q_uA, q_giveK, hg])⟩, ⟨by rw [ht]; exact hP, va_K.moved hW.alike hK, hD⟩⟩, hS.F ht⟩) hS.2.2 dL_give_16
  · skip
    cases hi : q_i p1 1 10000
    · skip
      refine z_catch (vx_runV (As := [.int p0, .int p1]) (rest := [.int 0, .ref ao]) ⟨hx, hb, hml, hown, hts⟩ (c_X0_give_t2 l hl0 D cI cZ cJ h a0 a1 a2 a3 a4 a5 a6 a7 a8 a9 a10 f0 f1 f2 f3 f4 f5 f6 f7 f8 f9 f10 v0 v1 v2 v3 p0 p1 hg hi) (cwV 2 hts gL_give_X0_give rfl rfl rfl (by decide +kernel) ⟨Nat.le_of_ble_eq_true rfl, Nat.le_of_ble_eq_true rfl⟩) ⟨zPX_blind, va_recv hK hPc (ci := 0) (q0 := 0) rfl rfl, fun U hU hW => ⟨rfl, zX_at hZ hU hW, zP_mk hPc hK hU hW⟩⟩ rfl rfl hl.1 rfl (lv_room (Nat.le_of_ble_eq_true rfl)) dL_give_5 ⟨Nat.le_of_ble_eq_true rfl, Nat.le_of_ble_eq_true rfl⟩) (fun _ h => h) hS (fun E ce q9 H1 locs hE hk9 hS hce hcv hcl => ?_)
      subst hE
      have hps : ∀ z ∈ ([⟨0, 10, 13, 13⟩] : List ExceptionTableEntry), covers z 5 = false ∨ (z.catchType ≠ 0 ∧ ∃ nm : String, (Cond.classLink RL z.catchType nm).before ([Value.ref h, Value.int p0, Value.int p1, Value.ref ao] : List Value).toArray s = true ∧ va_Nc "java/lang/IllegalArgumentException" nm s) := (fun z hz => by
          simp only [List.mem_cons, List.not_mem_nil, or_false] at hz
          rcases hz with rfl
          · exact Or.inr ⟨by decide, "java/lang/IndexOutOfBoundsException", hts (.classLink RL 13 "java/lang/IndexOutOfBoundsException") (by decide +kernel), hZ.2.2.1 ("java/lang/IllegalArgumentException", "java/lang/IndexOutOfBoundsException") (by decide)⟩)
      refine vx_catch (own := RL) (name := "java/lang/IllegalArgumentException") hown [⟨0, 10, 13, 13⟩] ⟨0, 10, 17, 15⟩ [⟨0, 10, 21, 17⟩] (htab.trans rfl) hps (by decide) (by decide) (hts (.classLink RL 15 "java/lang/IllegalArgumentException") (by decide +kernel)) (va_Nw.use rfl (hZ.1 (.castable "java/lang/IllegalArgumentException" "java/lang/IllegalArgumentException") (by decide))) hce hcv hcl ?_
      have hP := hP.kept (fun k q hk => hk9 q.1 (vx_lt hP hk))
      refine lv_astore (lv' := [(4, .ref q9), (0, .ref h), (1, .int p0), (2, .int p1), (3, .ref ao)]) hx hb dL_give_17 hl (by decide) rfl (fun ls hl => ?_)
      refine lv_iconst (v := 2) hx hb dL_give_19 (by decide) ?_
      refine vx_ret ?_
      exact W.iret (v := 2) hx hb hr (fun t ht hW => ⟨⟨2, ⟨f0, f1, g⟩, rfl, ⟨by simp [q_up, q_us, q_uA, q_giveK, hg, hi], by simp [q_up, q_us, q_uA, q_giveK, hg, hi], by simp [q_up, q_us, q_uA, q_giveK, hg, hi], fun hz9 => absurd hz9 (by simp [q_up, q_us, q_uA, q_giveK, hg, hi])⟩, ⟨by rw [ht]; exact hP, va_K.moved hW.alike hK, hD⟩⟩, hS.F ht⟩) hS.2.2 dL_give_20
    · skip
      by_cases hm : 100000 < f0 p0.toNatClampNeg + p1
      · skip
        refine z_catch (vx_runV (As := [.int p0, .int p1]) (rest := [.int 0, .ref ao]) ⟨hx, hb, hml, hown, hts⟩ (c_X0_give_t3 l hl0 D cI cZ cJ h a0 a1 a2 a3 a4 a5 a6 a7 a8 a9 a10 f0 f1 f2 f3 f4 f5 f6 f7 f8 f9 f10 v0 v1 v2 v3 p0 p1 hg hi hm) (cwV 2 hts gL_give_X0_give rfl rfl rfl (by decide +kernel) ⟨Nat.le_of_ble_eq_true rfl, Nat.le_of_ble_eq_true rfl⟩) ⟨zPX_blind, va_recv hK hPc (ci := 0) (q0 := 0) rfl rfl, fun U hU hW => ⟨rfl, zX_at hZ hU hW, zP_mk hPc hK hU hW⟩⟩ rfl rfl hl.1 rfl (lv_room (Nat.le_of_ble_eq_true rfl)) dL_give_5 ⟨Nat.le_of_ble_eq_true rfl, Nat.le_of_ble_eq_true rfl⟩) (fun _ h => h) hS (fun E ce q9 H1 locs hE hk9 hS hce hcv hcl => ?_)
        subst hE
        have hps : ∀ z ∈ ([⟨0, 10, 13, 13⟩, ⟨0, 10, 17, 15⟩] : List ExceptionTableEntry), covers z 5 = false ∨ (z.catchType ≠ 0 ∧ ∃ nm : String, (Cond.classLink RL z.catchType nm).before ([Value.ref h, Value.int p0, Value.int p1, Value.ref ao] : List Value).toArray s = true ∧ va_Nc "java/lang/IllegalStateException" nm s) := (fun z hz => by
            simp only [List.mem_cons, List.not_mem_nil, or_false] at hz
            rcases hz with rfl | rfl
            · exact Or.inr ⟨by decide, "java/lang/IndexOutOfBoundsException", hts (.classLink RL 13 "java/lang/IndexOutOfBoundsException") (by decide +kernel), hZ.2.2.1 ("java/lang/IllegalStateException", "java/lang/IndexOutOfBoundsException") (by decide)⟩
            · exact Or.inr ⟨by decide, "java/lang/IllegalArgumentException", hts (.classLink RL 15 "java/lang/IllegalArgumentException") (by decide +kernel), hZ.2.2.1 ("java/lang/IllegalStateException", "java/lang/IllegalArgumentException") (by decide)⟩)
        refine vx_catch (own := RL) (name := "java/lang/IllegalStateException") hown [⟨0, 10, 13, 13⟩, ⟨0, 10, 17, 15⟩] ⟨0, 10, 21, 17⟩ [] (htab.trans rfl) hps (by decide) (by decide) (hts (.classLink RL 17 "java/lang/IllegalStateException") (by decide +kernel)) (va_Nw.use rfl (hZ.1 (.castable "java/lang/IllegalStateException" "java/lang/IllegalStateException") (by decide))) hce hcv hcl ?_
        have hP := hP.kept (fun k q hk => hk9 q.1 (vx_lt hP hk))
        refine lv_astore (lv' := [(4, .ref q9), (0, .ref h), (1, .int p0), (2, .int p1), (3, .ref ao)]) hx hb dL_give_21 hl (by decide) rfl (fun ls hl => ?_)
        refine lv_iconst (v := 3) hx hb dL_give_23 (by decide) ?_
        refine vx_ret ?_
        exact W.iret (v := 3) hx hb hr (fun t ht hW => ⟨⟨3, ⟨f0, f1, g⟩, rfl, ⟨by simp [q_up, q_us, q_uA, q_giveK, hg, hi, hm], by simp [q_up, q_us, q_uA, q_giveK, hg, hi, hm], by simp [q_up, q_us, q_uA, q_giveK, hg, hi, hm], fun hz9 => absurd hz9 (by simp [q_up, q_us, q_uA, q_giveK, hg, hi, hm])⟩, ⟨by rw [ht]; exact hP, va_K.moved hW.alike hK, hD⟩⟩, hS.F ht⟩) hS.2.2 dL_give_24
      · skip
        have hFc := va_free (wc := wQ cI cZ h a0 a1 a2 a3 a4 a5 a6 a7 a8 a9 a10 f0 f1 f2 f3 f4 f5 f6 f7 f8 f9 f10 v0 v1 v2 v3) hD hS hA [1, 2, 3, 4, 5, 6, 7, 8, 9, 10, 11, 12] rfl
        refine va_calli (va_runV (As := [.int p0, .int p1]) (rest := [.int 0, .ref ao]) ⟨hx, hb, hml, hown, hts⟩ (c_X0_give l D cI cZ cJ s.heap.size h a0 a1 a2 a3 a4 a5 a6 a7 a8 a9 a10 f0 f1 f2 f3 f4 f5 f6 f7 f8 f9 f10 v0 v1 v2 v3 p0 p1 hg hi hm) (cwV 2 hts gL_give_X0_give rfl rfl rfl (by decide +kernel) ⟨Nat.le_of_ble_eq_true rfl, Nat.le_of_ble_eq_true rfl⟩) ⟨zD_blind, va_recv hK hPc (ci := 0) (q0 := 0) rfl rfl, fun U hU hW => ⟨rfl, zD_mk hPc hK hDc hU hW⟩⟩ rfl rfl hl.1 rfl (lv_room (Nat.le_of_ble_eq_true rfl)) dL_give_5 ⟨Nat.le_of_ble_eq_true rfl, Nat.le_of_ble_eq_true rfl⟩) hS (fun q _ h => hFc q h) hFc (fun r9 u9 t H1 locs ht hvm w9 hB hz1 hk1 hS => ?_)
        obtain ⟨u9_0, u9_1⟩ := u9
        obtain ⟨hP1, hK1, hD1⟩ := hB
        rw [ht] at hP1
        generalize H1 = H at hP1 hS hk1 ⊢
        try dsimp only at w9
        obtain ⟨w9, e9_0, e9_1⟩ := w9
        obtain ⟨hP, hD⟩ := va_join (wr := wO cJ ao g) hP hD [1, 2, 3, 4, 5, 6, 7, 8, 9, 10, 11, 12] [0] rfl rfl (by decide) (by decide) hk1 hFc hP1 hD1
        subst e9_0
        subst e9_1
        have hP : va_P D vwCl (wO cJ ao g ++ wQ cI cZ h a0 a1 a2 a3 a4 a5 a6 a7 a8 a9 a10 (upd f0 p0.toNatClampNeg (f0 p0.toNatClampNeg + p1)) (upd f1 p0.toNatClampNeg (f1 p0.toNatClampNeg + p1)) f2 f3 f4 f5 f6 f7 f8 f9 f10 v0 v1 v2 v3) H := hP
        have hD : va_D A (wO cJ ao g ++ wQ cI cZ h a0 a1 a2 a3 a4 a5 a6 a7 a8 a9 a10 (upd f0 p0.toNatClampNeg (f0 p0.toNatClampNeg + p1)) (upd f1 p0.toNatClampNeg (f1 p0.toNatClampNeg + p1)) f2 f3 f4 f5 f6 f7 f8 f9 f10 v0 v1 v2 v3) := hD
        refine lv_i2l (v := r9.toInt64) hx hb dL_give_8 rfl ?_
        refine va_last (D := D) hx hb hK hP hD hS 0 2 rfl rfl (show vp_in 0 1 from vp_in_nI (n := 0) (by decide) (by decide)) dL_give_9 (fun H locs hP hD hS => ?_)
        have hP : va_P D vwCl (wO cJ ao (vp_updL g (0 : Int32).toNatClampNeg (r9.toInt64)) ++ wQ cI cZ h a0 a1 a2 a3 a4 a5 a6 a7 a8 a9 a10 (upd f0 p0.toNatClampNeg (f0 p0.toNatClampNeg + p1)) (upd f1 p0.toNatClampNeg (f1 p0.toNatClampNeg + p1)) f2 f3 f4 f5 f6 f7 f8 f9 f10 v0 v1 v2 v3) H := hP
        have hD : va_D A (wO cJ ao (vp_updL g (0 : Int32).toNatClampNeg (r9.toInt64)) ++ wQ cI cZ h a0 a1 a2 a3 a4 a5 a6 a7 a8 a9 a10 (upd f0 p0.toNatClampNeg (f0 p0.toNatClampNeg + p1)) (upd f1 p0.toNatClampNeg (f1 p0.toNatClampNeg + p1)) f2 f3 f4 f5 f6 f7 f8 f9 f10 v0 v1 v2 v3) := hD
        refine lv_goto (tgt := 25) hx hb dL_give_10 (by decide) ?_
        refine lv_iconst (v := 0) hx hb dL_give_25 (by decide) ?_
        refine vx_ret ?_
        refine W.widen (k := 1) (n := 6) (by omega) (by omega) ?_
        exact W.iret (v := 0) hx hb hr (fun t ht hW => ⟨⟨0, ⟨(upd f0 p0.toNatClampNeg (f0 p0.toNatClampNeg + p1)), (upd f1 p0.toNatClampNeg (f1 p0.toNatClampNeg + p1)), (vp_updL g (0 : Int32).toNatClampNeg (r9.toInt64))⟩, rfl, ⟨by simp [q_up, q_us, q_uA, q_giveK, hg, hi, hm], by simp [q_up, q_us, q_uA, q_giveK, hg, hi, hm], by simp [q_up, q_us, q_uA, q_giveK, hg, hi, hm], fun _ => by rw [w9]; rfl⟩, ⟨by rw [ht]; exact hP, va_K.moved hW.alike hK, hD⟩⟩, hS.F ht⟩) hS.2.2 dL_give_26
set_option maxHeartbeats 4000000 in
set_option maxRecDepth 100000 in
theorem c_L_leave (l : Launch) (hl0 : l.stackTraces = false) (D : va_G) (cI cZ cJ : ClassId) (sz : Nat) (h a0 a1 a2 a3 a4 a5 a6 a7 a8 a9 a10 : Nat) (f0 f1 f2 f3 f4 f5 f6 f7 f8 f9 f10 : Nat → Int32) (v0 v1 v2 v3 : Int32) (ao : Nat) (g : Nat → Int64) (p0 : Int32) (hI : q_IV f0 f1 f2 f3 f4 f7 f8 v0 v1 v2) : vx_Met l yL_leave wsL_leave ({ frames := 8, cells := 1, slots := 6, locals := 132 }) (va_Pc [.ref h, .int p0, .ref ao] (zDX D cI cZ cJ sz (wO cJ ao g ++ wQ cI cZ h a0 a1 a2 a3 a4 a5 a6 a7 a8 a9 a10 f0 f1 f2 f3 f4 f5 f6 f7 f8 f9 f10 v0 v1 v2 v3))) (va_Qi (fun (r : Int32) (u : (Nat → Int32) × (Nat → Int32) × (Nat → Int32) × (Nat → Int64)) => r = q_gK p0 ∧ u.1 = q_up (q_gK p0) f0 p0.toNatClampNeg 0 ∧ u.2.1 = q_up (q_gK p0) f2 p0.toNatClampNeg (f2 p0.toNatClampNeg + f0 p0.toNatClampNeg) ∧ u.2.2.1 = q_up (q_gK p0) f6 p0.toNatClampNeg 0 ∧ (q_gK p0 = 0 → u.2.2.2 0 = (f0 p0.toNatClampNeg).toInt64)) (fun u t => zB D cI cZ cJ (va_A (wO cJ ao g ++ wQ cI cZ h a0 a1 a2 a3 a4 a5 a6 a7 a8 a9 a10 f0 f1 f2 f3 f4 f5 f6 f7 f8 f9 f10 v0 v1 v2 v3) sz) (wO cJ ao (u.2.2.2) ++ wQ cI cZ h a0 a1 a2 a3 a4 a5 a6 a7 a8 a9 a10 u.1 f1 u.2.1 f3 f4 f5 u.2.2.1 f7 f8 f9 f10 v0 v1 v2 v3) t) (va_A (wO cJ ao g ++ wQ cI cZ h a0 a1 a2 a3 a4 a5 a6 a7 a8 a9 a10 f0 f1 f2 f3 f4 f5 f6 f7 f8 f9 f10 v0 v1 v2 v3) sz)) (zXC (fun _ => False)) 1 6 (va_A (wO cJ ao g ++ wQ cI cZ h a0 a1 a2 a3 a4 a5 a6 a7 a8 a9 a10 f0 f1 f2 f3 f4 f5 f6 f7 f8 f9 f10 v0 v1 v2 v3) sz) := by
  refine vx_ofWH (cc := cL_leave) (maxL := 4) (ret := (some .int)) (hh := [(0, 9, 12, 13)]) (by decide) rfl ?_
  intro p e s m args below meth c s₁ B hml hv
  obtain ⟨rfl, hZ, hsz, hP, hK, hD0⟩ := hv
  have hx := B.exec
  have hb := B.bytes
  have hr := B.returns
  have hts := atoms_spec (ws := wsL_leave) B.pre
  have htab := vx_table (x := yL_leave) B (hts _ List.mem_cons_self)
  have hown : s.vm.findClass RL = some m.cls := findClass_of_methodNamed B.named
  have hlocks := B.notSynchronized
  subst hsz
  have hD := hD0.self (sz := s.heap.size)
  generalize hAe : va_A (wO cJ ao g ++ wQ cI cZ h a0 a1 a2 a3 a4 a5 a6 a7 a8 a9 a10 f0 f1 f2 f3 f4 f5 f6 f7 f8 f9 f10 v0 v1 v2 v3) s.heap.size = A at hD ⊢
  have hA : ∀ q : Nat, s.heap.size ≤ q → A q := fun q h => by rw [← hAe]; exact Or.inr h
  have hS : va_S A s.heap s.heap [] := va_S.rf
  have hl := lv_entry ([.ref h, .int p0, .ref ao]) (n := 4) (Nat.le_of_ble_eq_true rfl)
  rw [lg_entry_eq]
  generalize (lg_sl ([.ref h, .int p0, .ref ao]) ++ List.replicate (4 - (lg_sl ([.ref h, .int p0, .ref ao])).length) Slot.unset).toArray = ls at hl ⊢
  have hl : lv_has ls 4 [(0, .ref h), (1, .int p0), (2, .ref ao)] := hl
  have hPc := hP.sub (ws' := wQ cI cZ h a0 a1 a2 a3 a4 a5 a6 a7 a8 a9 a10 f0 f1 f2 f3 f4 f5 f6 f7 f8 f9 f10 v0 v1 v2 v3) [1, 2, 3, 4, 5, 6, 7, 8, 9, 10, 11, 12] rfl
  have hDc := hD.sub (ws' := wQ cI cZ h a0 a1 a2 a3 a4 a5 a6 a7 a8 a9 a10 f0 f1 f2 f3 f4 f5 f6 f7 f8 f9 f10 v0 v1 v2 v3) [1, 2, 3, 4, 5, 6, 7, 8, 9, 10, 11, 12] (by decide) rfl
  refine lv_aload_n hx hb dL_leave_0 rfl (lv_at hl 2 rfl) ?_
  refine lv_iconst (v := 0) hx hb dL_leave_1 (by decide) ?_
  refine lv_aload_n hx hb dL_leave_2 rfl (lv_at hl 0 rfl) ?_
  refine lv_iload_n hx hb dL_leave_3 rfl (lv_at hl 1 rfl) ?_
  cases hg : q_g p0
  · skip
    refine z_catch (vx_runV (As := [.int p0]) (rest := [.int 0, .ref ao]) ⟨hx, hb, hml, hown, hts⟩ (c_X0_leave_t l hl0 D cI cZ cJ h a0 a1 a2 a3 a4 a5 a6 a7 a8 a9 a10 f0 f1 f2 f3 f4 f5 f6 f7 f8 f9 f10 v0 v1 v2 v3 p0 hg) (cwV 1 hts gL_leave_X0_leave rfl rfl rfl (by decide +kernel) ⟨Nat.le_of_ble_eq_true rfl, Nat.le_of_ble_eq_true rfl⟩) ⟨zPX_blind, va_recv hK hPc (ci := 0) (q0 := 0) rfl rfl, fun U hU hW => ⟨rfl, zX_at hZ hU hW, zP_mk hPc hK hU hW⟩⟩ rfl rfl hl.1 rfl (lv_room (Nat.le_of_ble_eq_true rfl)) dL_leave_4 ⟨Nat.le_of_ble_eq_true rfl, Nat.le_of_ble_eq_true rfl⟩) (fun _ h => h) hS (fun E ce q9 H1 locs hE hk9 hS hce hcv hcl => ?_)
    subst hE
    have hps : ∀ z ∈ ([] : List ExceptionTableEntry), covers z 4 = false ∨ (z.catchType ≠ 0 ∧ ∃ nm : String, (Cond.classLink RL z.catchType nm).before ([Value.ref h, Value.int p0, Value.ref ao] : List Value).toArray s = true ∧ va_Nc "java/lang/IndexOutOfBoundsException" nm s) := (fun z hz => nomatch hz)
    refine vx_catch (own := RL) (name := "java/lang/IndexOutOfBoundsException") hown [] ⟨0, 9, 12, 13⟩ [] (htab.trans rfl) hps (by decide) (by decide) (hts (.classLink RL 13 "java/lang/IndexOutOfBoundsException") (by decide +kernel)) (va_Nw.use rfl (hZ.1 (.castable "java/lang/IndexOutOfBoundsException" "java/lang/IndexOutOfBoundsException") (by decide))) hce hcv hcl ?_
    have hP := hP.kept (fun k q hk => hk9 q.1 (vx_lt hP hk))
    refine lv_astore_n (lv' := [(3, .ref q9), (0, .ref h), (1, .int p0), (2, .ref ao)]) hx hb dL_leave_12 rfl hl (by decide) rfl (fun ls hl => ?_)
    refine lv_iconst (v := 1) hx hb dL_leave_13 (by decide) ?_
    refine vx_ret ?_
    exact W.iret (v := 1) hx hb hr (fun t ht hW => ⟨⟨1, ⟨f0, f2, f6, g⟩, rfl, ⟨by simp [q_up, q_us, q_uA, q_gK, hg], by simp [q_up, q_us, q_uA, q_gK, hg], by simp [q_up, q_us, q_uA, q_gK, hg], by simp [q_up, q_us, q_uA, q_gK, hg], fun hz9 => absurd hz9 (by simp [q_up, q_us, q_uA, q_gK, hg])⟩, ⟨by rw [ht]; exact hP, va_K.moved hW.alike hK, hD⟩⟩, hS.F ht⟩) hS.2.2 dL_leave_14
  · skip
    have hFc := va_free (wc := wQ cI cZ h a0 a1 a2 a3 a4 a5 a6 a7 a8 a9 a10 f0 f1 f2 f3 f4 f5 f6 f7 f8 f9 f10 v0 v1 v2 v3) hD hS hA [1, 2, 3, 4, 5, 6, 7, 8, 9, 10, 11, 12] rfl
    refine va_calli (va_runV (As := [.int p0]) (rest := [.int 0, .ref ao]) ⟨hx, hb, hml, hown, hts⟩ (c_X0_leave l D cI cZ cJ s.heap.size h a0 a1 a2 a3 a4 a5 a6 a7 a8 a9 a10 f0 f1 f2 f3 f4 f5 f6 f7 f8 f9 f10 v0 v1 v2 v3 p0 hg) (cwV 1 hts gL_leave_X0_leave rfl rfl rfl (by decide +kernel) ⟨Nat.le_of_ble_eq_true rfl, Nat.le_of_ble_eq_true rfl⟩) ⟨zD_blind, va_recv hK hPc (ci := 0) (q0 := 0) rfl rfl, fun U hU hW => ⟨rfl, zD_mk hPc hK hDc hU hW⟩⟩ rfl rfl hl.1 rfl (lv_room (Nat.le_of_ble_eq_true rfl)) dL_leave_4 ⟨Nat.le_of_ble_eq_true rfl, Nat.le_of_ble_eq_true rfl⟩) hS (fun q _ h => hFc q h) hFc (fun r9 u9 t H1 locs ht hvm w9 hB hz1 hk1 hS => ?_)
    obtain ⟨u9_0, u9_1, u9_2⟩ := u9
    obtain ⟨hP1, hK1, hD1⟩ := hB
    rw [ht] at hP1
    generalize H1 = H at hP1 hS hk1 ⊢
    try dsimp only at w9
    obtain ⟨w9, e9_0, e9_1, e9_2⟩ := w9
    obtain ⟨hP, hD⟩ := va_join (wr := wO cJ ao g) hP hD [1, 2, 3, 4, 5, 6, 7, 8, 9, 10, 11, 12] [0] rfl rfl (by decide) (by decide) hk1 hFc hP1 hD1
    subst e9_0
    subst e9_1
    subst e9_2
    have hP : va_P D vwCl (wO cJ ao g ++ wQ cI cZ h a0 a1 a2 a3 a4 a5 a6 a7 a8 a9 a10 (upd f0 p0.toNatClampNeg 0) f1 (upd f2 p0.toNatClampNeg (f2 p0.toNatClampNeg + f0 p0.toNatClampNeg)) f3 f4 f5 (upd f6 p0.toNatClampNeg 0) f7 f8 f9 f10 v0 v1 v2 v3) H := hP
    have hD : va_D A (wO cJ ao g ++ wQ cI cZ h a0 a1 a2 a3 a4 a5 a6 a7 a8 a9 a10 (upd f0 p0.toNatClampNeg 0) f1 (upd f2 p0.toNatClampNeg (f2 p0.toNatClampNeg + f0 p0.toNatClampNeg)) f3 f4 f5 (upd f6 p0.toNatClampNeg 0) f7 f8 f9 f10 v0 v1 v2 v3) := hD
    refine lv_i2l (v := r9.toInt64) hx hb dL_leave_7 rfl ?_
    refine va_last (D := D) hx hb hK hP hD hS 0 2 rfl rfl (show vp_in 0 1 from vp_in_nI (n := 0) (by decide) (by decide)) dL_leave_8 (fun H locs hP hD hS => ?_)
    have hP : va_P D vwCl (wO cJ ao (vp_updL g (0 : Int32).toNatClampNeg (r9.toInt64)) ++ wQ cI cZ h a0 a1 a2 a3 a4 a5 a6 a7 a8 a9 a10 (upd f0 p0.toNatClampNeg 0) f1 (upd f2 p0.toNatClampNeg (f2 p0.toNatClampNeg + f0 p0.toNatClampNeg)) f3 f4 f5 (upd f6 p0.toNatClampNeg 0) f7 f8 f9 f10 v0 v1 v2 v3) H := hP
    have hD : va_D A (wO cJ ao (vp_updL g (0 : Int32).toNatClampNeg (r9.toInt64)) ++ wQ cI cZ h a0 a1 a2 a3 a4 a5 a6 a7 a8 a9 a10 (upd f0 p0.toNatClampNeg 0) f1 (upd f2 p0.toNatClampNeg (f2 p0.toNatClampNeg + f0 p0.toNatClampNeg)) f3 f4 f5 (upd f6 p0.toNatClampNeg 0) f7 f8 f9 f10 v0 v1 v2 v3) := hD
    refine lv_goto (tgt := 15) hx hb dL_leave_9 (by decide) ?_
    refine lv_iconst (v := 0) hx hb dL_leave_15 (by decide) ?_
    refine vx_ret ?_
    refine W.widen (k := 1) (n := 6) (by omega) (by omega) ?_
    exact W.iret (v := 0) hx hb hr (fun t ht hW => ⟨⟨0, ⟨(upd f0 p0.toNatClampNeg 0), (upd f2 p0.toNatClampNeg (f2 p0.toNatClampNeg + f0 p0.toNatClampNeg)), (upd f6 p0.toNatClampNeg 0), (vp_updL g (0 : Int32).toNatClampNeg (r9.toInt64))⟩, rfl, ⟨by simp [q_up, q_us, q_uA, q_gK, hg], by simp [q_up, q_us, q_uA, q_gK, hg], by simp [q_up, q_us, q_uA, q_gK, hg], by simp [q_up, q_us, q_uA, q_gK, hg], fun _ => by rw [w9]; rfl⟩, ⟨by rw [ht]; exact hP, va_K.moved hW.alike hK, hD⟩⟩, hS.F ht⟩) hS.2.2 dL_leave_16
set_option maxHeartbeats 4000000 in
set_option maxRecDepth 100000 in
theorem c_L_trust (l : Launch) (hl0 : l.stackTraces = false) (D : va_G) (cI cZ cJ : ClassId) (sz : Nat) (h a0 a1 a2 a3 a4 a5 a6 a7 a8 a9 a10 : Nat) (f0 f1 f2 f3 f4 f5 f6 f7 f8 f9 f10 : Nat → Int32) (v0 v1 v2 v3 : Int32) (ao : Nat) (g : Nat → Int64) (p0 p1 : Int32) (hI : q_IV f0 f1 f2 f3 f4 f7 f8 v0 v1 v2) : vx_Met l yL_trust wsL_trust ({ frames := 8, cells := 1, slots := 6, locals := 133 }) (va_Pc [.ref h, .int p0, .int p1, .ref ao] (zDX D cI cZ cJ sz (wO cJ ao g ++ wQ cI cZ h a0 a1 a2 a3 a4 a5 a6 a7 a8 a9 a10 f0 f1 f2 f3 f4 f5 f6 f7 f8 f9 f10 v0 v1 v2 v3))) (va_Qi (fun (r : Int32) (u : (Nat → Int32) × (Nat → Int64)) => r = q_trK f4 p0 p1 ∧ u.1 = q_up (q_trK f4 p0 p1) f4 p0.toNatClampNeg p1 ∧ (q_trK f4 p0 p1 = 0 → u.2 0 = (f4 p0.toNatClampNeg).toInt64)) (fun u t => zB D cI cZ cJ (va_A (wO cJ ao g ++ wQ cI cZ h a0 a1 a2 a3 a4 a5 a6 a7 a8 a9 a10 f0 f1 f2 f3 f4 f5 f6 f7 f8 f9 f10 v0 v1 v2 v3) sz) (wO cJ ao (u.2) ++ wQ cI cZ h a0 a1 a2 a3 a4 a5 a6 a7 a8 a9 a10 f0 f1 f2 f3 u.1 f5 f6 f7 f8 f9 f10 v0 v1 v2 v3) t) (va_A (wO cJ ao g ++ wQ cI cZ h a0 a1 a2 a3 a4 a5 a6 a7 a8 a9 a10 f0 f1 f2 f3 f4 f5 f6 f7 f8 f9 f10 v0 v1 v2 v3) sz)) (zXC (fun _ => False)) 1 6 (va_A (wO cJ ao g ++ wQ cI cZ h a0 a1 a2 a3 a4 a5 a6 a7 a8 a9 a10 f0 f1 f2 f3 f4 f5 f6 f7 f8 f9 f10 v0 v1 v2 v3) sz) := by
  refine vx_ofWH (cc := cL_trust) (maxL := 5) (ret := (some .int)) (hh := [(0, 10, 13, 13), (0, 10, 17, 17)]) (by decide) rfl ?_
  intro p e s m args below meth c s₁ B hml hv
  obtain ⟨rfl, hZ, hsz, hP, hK, hD0⟩ := hv
  have hx := B.exec
  have hb := B.bytes
  have hr := B.returns
  have hts := atoms_spec (ws := wsL_trust) B.pre
  have htab := vx_table (x := yL_trust) B (hts _ List.mem_cons_self)
  have hown : s.vm.findClass RL = some m.cls := findClass_of_methodNamed B.named
  have hlocks := B.notSynchronized
  subst hsz
  have hD := hD0.self (sz := s.heap.size)
  generalize hAe : va_A (wO cJ ao g ++ wQ cI cZ h a0 a1 a2 a3 a4 a5 a6 a7 a8 a9 a10 f0 f1 f2 f3 f4 f5 f6 f7 f8 f9 f10 v0 v1 v2 v3) s.heap.size = A at hD ⊢
  have hA : ∀ q : Nat, s.heap.size ≤ q → A q := fun q h => by rw [← hAe]; exact Or.inr h
  have hS : va_S A s.heap s.heap [] := va_S.rf
  have hl := lv_entry ([.ref h, .int p0, .int p1, .ref ao]) (n := 5) (Nat.le_of_ble_eq_true rfl)
  rw [lg_entry_eq]
  generalize (lg_sl ([.ref h, .int p0, .int p1, .ref ao]) ++ List.replicate (5 - (lg_sl ([.ref h, .int p0, .int p1, .ref ao])).length) Slot.unset).toArray = ls at hl ⊢
  have hl : lv_has ls 5 [(0, .ref h), (1, .int p0), (2, .int p1), (3, .ref ao)] := hl
  have hPc := hP.sub (ws' := wQ cI cZ h a0 a1 a2 a3 a4 a5 a6 a7 a8 a9 a10 f0 f1 f2 f3 f4 f5 f6 f7 f8 f9 f10 v0 v1 v2 v3) [1, 2, 3, 4, 5, 6, 7, 8, 9, 10, 11, 12] rfl
  have hDc := hD.sub (ws' := wQ cI cZ h a0 a1 a2 a3 a4 a5 a6 a7 a8 a9 a10 f0 f1 f2 f3 f4 f5 f6 f7 f8 f9 f10 v0 v1 v2 v3) [1, 2, 3, 4, 5, 6, 7, 8, 9, 10, 11, 12] (by decide) rfl
  refine lv_aload_n hx hb dL_trust_0 rfl (lv_at hl 3 rfl) ?_
  refine lv_iconst (v := 0) hx hb dL_trust_1 (by decide) ?_
  refine lv_aload_n hx hb dL_trust_2 rfl (lv_at hl 0 rfl) ?_
  refine lv_iload_n hx hb dL_trust_3 rfl (lv_at hl 1 rfl) ?_
  refine lv_iload_n hx hb dL_trust_4 rfl (lv_at hl 2 rfl) ?_
  cases hg : q_g p0
  · skip
    refine z_catch (vx_runV (As := [.int p0, .int p1]) (rest := [.int 0, .ref ao]) ⟨hx, hb, hml, hown, hts⟩ (c_X0_trust_t1 l hl0 D cI cZ cJ h a0 a1 a2 a3 a4 a5 a6 a7 a8 a9 a10 f0 f1 f2 f3 f4 f5 f6 f7 f8 f9 f10 v0 v1 v2 v3 p0 p1 hg) (cwV 2 hts gL_trust_X0_trust rfl rfl rfl (by decide +kernel) ⟨Nat.le_of_ble_eq_true rfl, Nat.le_of_ble_eq_true rfl⟩) ⟨zPX_blind, va_recv hK hPc (ci := 0) (q0 := 0) rfl rfl, fun U hU hW => ⟨rfl, zX_at hZ hU hW, zP_mk hPc hK hU hW⟩⟩ rfl rfl hl.1 rfl (lv_room (Nat.le_of_ble_eq_true rfl)) dL_trust_5 ⟨Nat.le_of_ble_eq_true rfl, Nat.le_of_ble_eq_true rfl⟩) (fun _ h => h) hS (fun E ce q9 H1 locs hE hk9 hS hce hcv hcl => ?_)
    subst hE
    have hps : ∀ z ∈ ([] : List ExceptionTableEntry), covers z 5 = false ∨ (z.catchType ≠ 0 ∧ ∃ nm : String, (Cond.classLink RL z.catchType nm).before ([Value.ref h, Value.int p0, Value.int p1, Value.ref ao] : List Value).toArray s = true ∧ va_Nc "java/lang/IndexOutOfBoundsException" nm s) := (fun z hz => nomatch hz)
    refine vx_catch (own := RL) (name := "java/lang/IndexOutOfBoundsException") hown [] ⟨0, 10, 13, 13⟩ [⟨0, 10, 17, 17⟩] (htab.trans rfl) hps (by decide) (by decide) (hts (.classLink RL 13 "java/lang/IndexOutOfBoundsException") (by decide +kernel)) (va_Nw.use rfl (hZ.1 (.castable "java/lang/IndexOutOfBoundsException" "java/lang/IndexOutOfBoundsException") (by decide))) hce hcv hcl ?_
    have hP := hP.kept (fun k q hk => hk9 q.1 (vx_lt hP hk))
    refine lv_astore (lv' := [(4, .ref q9), (0, .ref h), (1, .int p0), (2, .int p1), (3, .ref ao)]) hx hb dL_trust_13 hl (by decide) rfl (fun ls hl => ?_)
    refine lv_iconst (v := 1) hx hb dL_trust_15 (by decide) ?_
    refine vx_ret ?_
    exact W.iret (v := 1) hx hb hr (fun t ht hW => ⟨⟨1, ⟨f4, g⟩, rfl, ⟨by simp [q_up, q_us, q_uA, q_trK, hg], by simp [q_up, q_us, q_uA, q_trK, hg], fun hz9 => absurd hz9 (by simp [q_up, q_us, q_uA, q_trK, hg])⟩, ⟨by rw [ht]; exact hP, va_K.moved hW.alike hK, hD⟩⟩, hS.F ht⟩) hS.2.2 dL_trust_16
  · skip
    cases ho : (decide (p1 = -1) || q_g p1)
    · skip
      refine z_catch (vx_runV (As := [.int p0, .int p1]) (rest := [.int 0, .ref ao]) ⟨hx, hb, hml, hown, hts⟩ (c_X0_trust_t2 l hl0 D cI cZ cJ h a0 a1 a2 a3 a4 a5 a6 a7 a8 a9 a10 f0 f1 f2 f3 f4 f5 f6 f7 f8 f9 f10 v0 v1 v2 v3 p0 p1 hg ho) (cwV 2 hts gL_trust_X0_trust rfl rfl rfl (by decide +kernel) ⟨Nat.le_of_ble_eq_true rfl, Nat.le_of_ble_eq_true rfl⟩) ⟨zPX_blind, va_recv hK hPc (ci := 0) (q0 := 0) rfl rfl, fun U hU hW => ⟨rfl, zX_at hZ hU hW, zP_mk hPc hK hU hW⟩⟩ rfl rfl hl.1 rfl (lv_room (Nat.le_of_ble_eq_true rfl)) dL_trust_5 ⟨Nat.le_of_ble_eq_true rfl, Nat.le_of_ble_eq_true rfl⟩) (fun _ h => h) hS (fun E ce q9 H1 locs hE hk9 hS hce hcv hcl => ?_)
      subst hE
      have hps : ∀ z ∈ ([] : List ExceptionTableEntry), covers z 5 = false ∨ (z.catchType ≠ 0 ∧ ∃ nm : String, (Cond.classLink RL z.catchType nm).before ([Value.ref h, Value.int p0, Value.int p1, Value.ref ao] : List Value).toArray s = true ∧ va_Nc "java/lang/IndexOutOfBoundsException" nm s) := (fun z hz => nomatch hz)
      refine vx_catch (own := RL) (name := "java/lang/IndexOutOfBoundsException") hown [] ⟨0, 10, 13, 13⟩ [⟨0, 10, 17, 17⟩] (htab.trans rfl) hps (by decide) (by decide) (hts (.classLink RL 13 "java/lang/IndexOutOfBoundsException") (by decide +kernel)) (va_Nw.use rfl (hZ.1 (.castable "java/lang/IndexOutOfBoundsException" "java/lang/IndexOutOfBoundsException") (by decide))) hce hcv hcl ?_
      have hP := hP.kept (fun k q hk => hk9 q.1 (vx_lt hP hk))
      refine lv_astore (lv' := [(4, .ref q9), (0, .ref h), (1, .int p0), (2, .int p1), (3, .ref ao)]) hx hb dL_trust_13 hl (by decide) rfl (fun ls hl => ?_)
      refine lv_iconst (v := 1) hx hb dL_trust_15 (by decide) ?_
      refine vx_ret ?_
      exact W.iret (v := 1) hx hb hr (fun t ht hW => ⟨⟨1, ⟨f4, g⟩, rfl, ⟨by simp [q_up, q_us, q_uA, q_trK, hg, ho], by simp [q_up, q_us, q_uA, q_trK, hg, ho], fun hz9 => absurd hz9 (by simp [q_up, q_us, q_uA, q_trK, hg, ho])⟩, ⟨by rw [ht]; exact hP, va_K.moved hW.alike hK, hD⟩⟩, hS.F ht⟩) hS.2.2 dL_trust_16
    · skip
      cases hle : q_lead f4 8 p1 p0
      · skip
        have hFc := va_free (wc := wQ cI cZ h a0 a1 a2 a3 a4 a5 a6 a7 a8 a9 a10 f0 f1 f2 f3 f4 f5 f6 f7 f8 f9 f10 v0 v1 v2 v3) hD hS hA [1, 2, 3, 4, 5, 6, 7, 8, 9, 10, 11, 12] rfl
        refine va_calli (va_runV (As := [.int p0, .int p1]) (rest := [.int 0, .ref ao]) ⟨hx, hb, hml, hown, hts⟩ (c_X0_trust l D cI cZ cJ s.heap.size h a0 a1 a2 a3 a4 a5 a6 a7 a8 a9 a10 f0 f1 f2 f3 f4 f5 f6 f7 f8 f9 f10 v0 v1 v2 v3 p0 p1 hg ho hle) (cwV 2 hts gL_trust_X0_trust rfl rfl rfl (by decide +kernel) ⟨Nat.le_of_ble_eq_true rfl, Nat.le_of_ble_eq_true rfl⟩) ⟨zD_blind, va_recv hK hPc (ci := 0) (q0 := 0) rfl rfl, fun U hU hW => ⟨rfl, zD_mk hPc hK hDc hU hW⟩⟩ rfl rfl hl.1 rfl (lv_room (Nat.le_of_ble_eq_true rfl)) dL_trust_5 ⟨Nat.le_of_ble_eq_true rfl, Nat.le_of_ble_eq_true rfl⟩) hS (fun q _ h => hFc q h) hFc (fun r9 u9 t H1 locs ht hvm w9 hB hz1 hk1 hS => ?_)
        obtain ⟨hP1, hK1, hD1⟩ := hB
        rw [ht] at hP1
        generalize H1 = H at hP1 hS hk1 ⊢
        try dsimp only at w9
        obtain ⟨w9, e9_0⟩ := w9
        obtain ⟨hP, hD⟩ := va_join (wr := wO cJ ao g) hP hD [1, 2, 3, 4, 5, 6, 7, 8, 9, 10, 11, 12] [0] rfl rfl (by decide) (by decide) hk1 hFc hP1 hD1
        subst e9_0
        have hP : va_P D vwCl (wO cJ ao g ++ wQ cI cZ h a0 a1 a2 a3 a4 a5 a6 a7 a8 a9 a10 f0 f1 f2 f3 (upd f4 p0.toNatClampNeg p1) f5 f6 f7 f8 f9 f10 v0 v1 v2 v3) H := hP
        have hD : va_D A (wO cJ ao g ++ wQ cI cZ h a0 a1 a2 a3 a4 a5 a6 a7 a8 a9 a10 f0 f1 f2 f3 (upd f4 p0.toNatClampNeg p1) f5 f6 f7 f8 f9 f10 v0 v1 v2 v3) := hD
        refine lv_i2l (v := r9.toInt64) hx hb dL_trust_8 rfl ?_
        refine va_last (D := D) hx hb hK hP hD hS 0 2 rfl rfl (show vp_in 0 1 from vp_in_nI (n := 0) (by decide) (by decide)) dL_trust_9 (fun H locs hP hD hS => ?_)
        have hP : va_P D vwCl (wO cJ ao (vp_updL g (0 : Int32).toNatClampNeg (r9.toInt64)) ++ wQ cI cZ h a0 a1 a2 a3 a4 a5 a6 a7 a8 a9 a10 f0 f1 f2 f3 (upd f4 p0.toNatClampNeg p1) f5 f6 f7 f8 f9 f10 v0 v1 v2 v3) H := hP
        have hD : va_D A (wO cJ ao (vp_updL g (0 : Int32).toNatClampNeg (r9.toInt64)) ++ wQ cI cZ h a0 a1 a2 a3 a4 a5 a6 a7 a8 a9 a10 f0 f1 f2 f3 (upd f4 p0.toNatClampNeg p1) f5 f6 f7 f8 f9 f10 v0 v1 v2 v3) := hD
        refine lv_goto (tgt := 21) hx hb dL_trust_10 (by decide) ?_
        refine lv_iconst (v := 0) hx hb dL_trust_21 (by decide) ?_
        refine vx_ret ?_
        refine W.widen (k := 1) (n := 6) (by omega) (by omega) ?_
        exact W.iret (v := 0) hx hb hr (fun t ht hW => ⟨⟨0, ⟨(upd f4 p0.toNatClampNeg p1), (vp_updL g (0 : Int32).toNatClampNeg (r9.toInt64))⟩, rfl, ⟨by simp [q_up, q_us, q_uA, q_trK, hg, ho, hle], by simp [q_up, q_us, q_uA, q_trK, hg, ho, hle], fun _ => by rw [w9]; rfl⟩, ⟨by rw [ht]; exact hP, va_K.moved hW.alike hK, hD⟩⟩, hS.F ht⟩) hS.2.2 dL_trust_22
      · skip
        refine z_catch (vx_runV (As := [.int p0, .int p1]) (rest := [.int 0, .ref ao]) ⟨hx, hb, hml, hown, hts⟩ (c_X0_trust_t3 l hl0 D cI cZ cJ h a0 a1 a2 a3 a4 a5 a6 a7 a8 a9 a10 f0 f1 f2 f3 f4 f5 f6 f7 f8 f9 f10 v0 v1 v2 v3 p0 p1 hg ho hle) (cwV 2 hts gL_trust_X0_trust rfl rfl rfl (by decide +kernel) ⟨Nat.le_of_ble_eq_true rfl, Nat.le_of_ble_eq_true rfl⟩) ⟨zPX_blind, va_recv hK hPc (ci := 0) (q0 := 0) rfl rfl, fun U hU hW => ⟨rfl, zX_at hZ hU hW, zP_mk hPc hK hU hW⟩⟩ rfl rfl hl.1 rfl (lv_room (Nat.le_of_ble_eq_true rfl)) dL_trust_5 ⟨Nat.le_of_ble_eq_true rfl, Nat.le_of_ble_eq_true rfl⟩) (fun _ h => h) hS (fun E ce q9 H1 locs hE hk9 hS hce hcv hcl => ?_)
        subst hE
        have hps : ∀ z ∈ ([⟨0, 10, 13, 13⟩] : List ExceptionTableEntry), covers z 5 = false ∨ (z.catchType ≠ 0 ∧ ∃ nm : String, (Cond.classLink RL z.catchType nm).before ([Value.ref h, Value.int p0, Value.int p1, Value.ref ao] : List Value).toArray s = true ∧ va_Nc "java/lang/IllegalStateException" nm s) := (fun z hz => by
            simp only [List.mem_cons, List.not_mem_nil, or_false] at hz
            rcases hz with rfl
            · exact Or.inr ⟨by decide, "java/lang/IndexOutOfBoundsException", hts (.classLink RL 13 "java/lang/IndexOutOfBoundsException") (by decide +kernel), hZ.2.2.1 ("java/lang/IllegalStateException", "java/lang/IndexOutOfBoundsException") (by decide)⟩)
        refine vx_catch (own := RL) (name := "java/lang/IllegalStateException") hown [⟨0, 10, 13, 13⟩] ⟨0, 10, 17, 17⟩ [] (htab.trans rfl) hps (by decide) (by decide) (hts (.classLink RL 17 "java/lang/IllegalStateException") (by decide +kernel)) (va_Nw.use rfl (hZ.1 (.castable "java/lang/IllegalStateException" "java/lang/IllegalStateException") (by decide))) hce hcv hcl ?_
        have hP := hP.kept (fun k q hk => hk9 q.1 (vx_lt hP hk))
        refine lv_astore (lv' := [(4, .ref q9), (0, .ref h), (1, .int p0), (2, .int p1), (3, .ref ao)]) hx hb dL_trust_17 hl (by decide) rfl (fun ls hl => ?_)
        refine lv_iconst (v := 2) hx hb dL_trust_19 (by decide) ?_
        refine vx_ret ?_
        exact W.iret (v := 2) hx hb hr (fun t ht hW => ⟨⟨2, ⟨f4, g⟩, rfl, ⟨by simp [q_up, q_us, q_uA, q_trK, hg, ho, hle], by simp [q_up, q_us, q_uA, q_trK, hg, ho, hle], fun hz9 => absurd hz9 (by simp [q_up, q_us, q_uA, q_trK, hg, ho, hle])⟩, ⟨by rw [ht]; exact hP, va_K.moved hW.alike hK, hD⟩⟩, hS.F ht⟩) hS.2.2 dL_trust_20
set_option maxHeartbeats 4000000 in
set_option maxRecDepth 100000 in
theorem c_L_setPerson (l : Launch) (hl0 : l.stackTraces = false) (D : va_G) (cI cZ cJ : ClassId) (sz : Nat) (h a0 a1 a2 a3 a4 a5 a6 a7 a8 a9 a10 : Nat) (f0 f1 f2 f3 f4 f5 f6 f7 f8 f9 f10 : Nat → Int32) (v0 v1 v2 v3 : Int32) (ao : Nat) (g : Nat → Int64) (p0 p1 : Int32) (hI : q_IV f0 f1 f2 f3 f4 f7 f8 v0 v1 v2) : vx_Met l yL_setPerson wsL_setPerson ({ frames := 8, cells := 1, slots := 6, locals := 133 }) (va_Pc [.ref h, .int p0, .int p1, .ref ao] (zDX D cI cZ cJ sz (wO cJ ao g ++ wQ cI cZ h a0 a1 a2 a3 a4 a5 a6 a7 a8 a9 a10 f0 f1 f2 f3 f4 f5 f6 f7 f8 f9 f10 v0 v1 v2 v3))) (va_Qi (fun (r : Int32) (u : (Nat → Int32) × (Nat → Int64)) => r = q_ggK p0 p1 ∧ u.1 = q_up (q_ggK p0 p1) f5 p0.toNatClampNeg p1 ∧ (q_ggK p0 p1 = 0 → u.2 0 = (f5 p0.toNatClampNeg).toInt64)) (fun u t => zB D cI cZ cJ (va_A (wO cJ ao g ++ wQ cI cZ h a0 a1 a2 a3 a4 a5 a6 a7 a8 a9 a10 f0 f1 f2 f3 f4 f5 f6 f7 f8 f9 f10 v0 v1 v2 v3) sz) (wO cJ ao (u.2) ++ wQ cI cZ h a0 a1 a2 a3 a4 a5 a6 a7 a8 a9 a10 f0 f1 f2 f3 f4 u.1 f6 f7 f8 f9 f10 v0 v1 v2 v3) t) (va_A (wO cJ ao g ++ wQ cI cZ h a0 a1 a2 a3 a4 a5 a6 a7 a8 a9 a10 f0 f1 f2 f3 f4 f5 f6 f7 f8 f9 f10 v0 v1 v2 v3) sz)) (zXC (fun _ => False)) 1 6 (va_A (wO cJ ao g ++ wQ cI cZ h a0 a1 a2 a3 a4 a5 a6 a7 a8 a9 a10 f0 f1 f2 f3 f4 f5 f6 f7 f8 f9 f10 v0 v1 v2 v3) sz) := by
  refine vx_ofWH (cc := cL_setPerson) (maxL := 5) (ret := (some .int)) (hh := [(0, 10, 13, 13)]) (by decide) rfl ?_
  intro p e s m args below meth c s₁ B hml hv
  obtain ⟨rfl, hZ, hsz, hP, hK, hD0⟩ := hv
  have hx := B.exec
  have hb := B.bytes
  have hr := B.returns
  have hts := atoms_spec (ws := wsL_setPerson) B.pre
  have htab := vx_table (x := yL_setPerson) B (hts _ List.mem_cons_self)
  have hown : s.vm.findClass RL = some m.cls := findClass_of_methodNamed B.named
  have hlocks := B.notSynchronized
  subst hsz
  have hD := hD0.self (sz := s.heap.size)
  generalize hAe : va_A (wO cJ ao g ++ wQ cI cZ h a0 a1 a2 a3 a4 a5 a6 a7 a8 a9 a10 f0 f1 f2 f3 f4 f5 f6 f7 f8 f9 f10 v0 v1 v2 v3) s.heap.size = A at hD ⊢
  have hA : ∀ q : Nat, s.heap.size ≤ q → A q := fun q h => by rw [← hAe]; exact Or.inr h
  have hS : va_S A s.heap s.heap [] := va_S.rf
  have hl := lv_entry ([.ref h, .int p0, .int p1, .ref ao]) (n := 5) (Nat.le_of_ble_eq_true rfl)
  rw [lg_entry_eq]
  generalize (lg_sl ([.ref h, .int p0, .int p1, .ref ao]) ++ List.replicate (5 - (lg_sl ([.ref h, .int p0, .int p1, .ref ao])).length) Slot.unset).toArray = ls at hl ⊢
  have hl : lv_has ls 5 [(0, .ref h), (1, .int p0), (2, .int p1), (3, .ref ao)] := hl
  have hPc := hP.sub (ws' := wQ cI cZ h a0 a1 a2 a3 a4 a5 a6 a7 a8 a9 a10 f0 f1 f2 f3 f4 f5 f6 f7 f8 f9 f10 v0 v1 v2 v3) [1, 2, 3, 4, 5, 6, 7, 8, 9, 10, 11, 12] rfl
  have hDc := hD.sub (ws' := wQ cI cZ h a0 a1 a2 a3 a4 a5 a6 a7 a8 a9 a10 f0 f1 f2 f3 f4 f5 f6 f7 f8 f9 f10 v0 v1 v2 v3) [1, 2, 3, 4, 5, 6, 7, 8, 9, 10, 11, 12] (by decide) rfl
  refine lv_aload_n hx hb dL_setPerson_0 rfl (lv_at hl 3 rfl) ?_
  refine lv_iconst (v := 0) hx hb dL_setPerson_1 (by decide) ?_
  refine lv_aload_n hx hb dL_setPerson_2 rfl (lv_at hl 0 rfl) ?_
  refine lv_iload_n hx hb dL_setPerson_3 rfl (lv_at hl 1 rfl) ?_
  refine lv_iload_n hx hb dL_setPerson_4 rfl (lv_at hl 2 rfl) ?_
  cases hg : q_g p0
  · skip
    refine z_catch (vx_runV (As := [.int p0, .int p1]) (rest := [.int 0, .ref ao]) ⟨hx, hb, hml, hown, hts⟩ (c_X0_setPerson_t1 l hl0 D cI cZ cJ h a0 a1 a2 a3 a4 a5 a6 a7 a8 a9 a10 f0 f1 f2 f3 f4 f5 f6 f7 f8 f9 f10 v0 v1 v2 v3 p0 p1 hg) (cwV 2 hts gL_setPerson_X0_setPerson rfl rfl rfl (by decide +kernel) ⟨Nat.le_of_ble_eq_true rfl, Nat.le_of_ble_eq_true rfl⟩) ⟨zPX_blind, va_recv hK hPc (ci := 0) (q0 := 0) rfl rfl, fun U hU hW => ⟨rfl, zX_at hZ hU hW, zP_mk hPc hK hU hW⟩⟩ rfl rfl hl.1 rfl (lv_room (Nat.le_of_ble_eq_true rfl)) dL_setPerson_5 ⟨Nat.le_of_ble_eq_true rfl, Nat.le_of_ble_eq_true rfl⟩) (fun _ h => h) hS (fun E ce q9 H1 locs hE hk9 hS hce hcv hcl => ?_)
    subst hE
    have hps : ∀ z ∈ ([] : List ExceptionTableEntry), covers z 5 = false ∨ (z.catchType ≠ 0 ∧ ∃ nm : String, (Cond.classLink RL z.catchType nm).before ([Value.ref h, Value.int p0, Value.int p1, Value.ref ao] : List Value).toArray s = true ∧ va_Nc "java/lang/IndexOutOfBoundsException" nm s) := (fun z hz => nomatch hz)
    refine vx_catch (own := RL) (name := "java/lang/IndexOutOfBoundsException") hown [] ⟨0, 10, 13, 13⟩ [] (htab.trans rfl) hps (by decide) (by decide) (hts (.classLink RL 13 "java/lang/IndexOutOfBoundsException") (by decide +kernel)) (va_Nw.use rfl (hZ.1 (.castable "java/lang/IndexOutOfBoundsException" "java/lang/IndexOutOfBoundsException") (by decide))) hce hcv hcl ?_
    have hP := hP.kept (fun k q hk => hk9 q.1 (vx_lt hP hk))
    refine lv_astore (lv' := [(4, .ref q9), (0, .ref h), (1, .int p0), (2, .int p1), (3, .ref ao)]) hx hb dL_setPerson_13 hl (by decide) rfl (fun ls hl => ?_)
    refine lv_iconst (v := 1) hx hb dL_setPerson_15 (by decide) ?_
    refine vx_ret ?_
    exact W.iret (v := 1) hx hb hr (fun t ht hW => ⟨⟨1, ⟨f5, g⟩, rfl, ⟨by simp [q_up, q_us, q_uA, q_ggK, hg], by simp [q_up, q_us, q_uA, q_ggK, hg], fun hz9 => absurd hz9 (by simp [q_up, q_us, q_uA, q_ggK, hg])⟩, ⟨by rw [ht]; exact hP, va_K.moved hW.alike hK, hD⟩⟩, hS.F ht⟩) hS.2.2 dL_setPerson_16
  · skip
    cases hp : q_g p1
    · skip
      refine z_catch (vx_runV (As := [.int p0, .int p1]) (rest := [.int 0, .ref ao]) ⟨hx, hb, hml, hown, hts⟩ (c_X0_setPerson_t2 l hl0 D cI cZ cJ h a0 a1 a2 a3 a4 a5 a6 a7 a8 a9 a10 f0 f1 f2 f3 f4 f5 f6 f7 f8 f9 f10 v0 v1 v2 v3 p0 p1 hg hp) (cwV 2 hts gL_setPerson_X0_setPerson rfl rfl rfl (by decide +kernel) ⟨Nat.le_of_ble_eq_true rfl, Nat.le_of_ble_eq_true rfl⟩) ⟨zPX_blind, va_recv hK hPc (ci := 0) (q0 := 0) rfl rfl, fun U hU hW => ⟨rfl, zX_at hZ hU hW, zP_mk hPc hK hU hW⟩⟩ rfl rfl hl.1 rfl (lv_room (Nat.le_of_ble_eq_true rfl)) dL_setPerson_5 ⟨Nat.le_of_ble_eq_true rfl, Nat.le_of_ble_eq_true rfl⟩) (fun _ h => h) hS (fun E ce q9 H1 locs hE hk9 hS hce hcv hcl => ?_)
      subst hE
      have hps : ∀ z ∈ ([] : List ExceptionTableEntry), covers z 5 = false ∨ (z.catchType ≠ 0 ∧ ∃ nm : String, (Cond.classLink RL z.catchType nm).before ([Value.ref h, Value.int p0, Value.int p1, Value.ref ao] : List Value).toArray s = true ∧ va_Nc "java/lang/IndexOutOfBoundsException" nm s) := (fun z hz => nomatch hz)
      refine vx_catch (own := RL) (name := "java/lang/IndexOutOfBoundsException") hown [] ⟨0, 10, 13, 13⟩ [] (htab.trans rfl) hps (by decide) (by decide) (hts (.classLink RL 13 "java/lang/IndexOutOfBoundsException") (by decide +kernel)) (va_Nw.use rfl (hZ.1 (.castable "java/lang/IndexOutOfBoundsException" "java/lang/IndexOutOfBoundsException") (by decide))) hce hcv hcl ?_
      have hP := hP.kept (fun k q hk => hk9 q.1 (vx_lt hP hk))
      refine lv_astore (lv' := [(4, .ref q9), (0, .ref h), (1, .int p0), (2, .int p1), (3, .ref ao)]) hx hb dL_setPerson_13 hl (by decide) rfl (fun ls hl => ?_)
      refine lv_iconst (v := 1) hx hb dL_setPerson_15 (by decide) ?_
      refine vx_ret ?_
      exact W.iret (v := 1) hx hb hr (fun t ht hW => ⟨⟨1, ⟨f5, g⟩, rfl, ⟨by simp [q_up, q_us, q_uA, q_ggK, hg, hp], by simp [q_up, q_us, q_uA, q_ggK, hg, hp], fun hz9 => absurd hz9 (by simp [q_up, q_us, q_uA, q_ggK, hg, hp])⟩, ⟨by rw [ht]; exact hP, va_K.moved hW.alike hK, hD⟩⟩, hS.F ht⟩) hS.2.2 dL_setPerson_16
    · skip
      have hFc := va_free (wc := wQ cI cZ h a0 a1 a2 a3 a4 a5 a6 a7 a8 a9 a10 f0 f1 f2 f3 f4 f5 f6 f7 f8 f9 f10 v0 v1 v2 v3) hD hS hA [1, 2, 3, 4, 5, 6, 7, 8, 9, 10, 11, 12] rfl
      refine va_calli (va_runV (As := [.int p0, .int p1]) (rest := [.int 0, .ref ao]) ⟨hx, hb, hml, hown, hts⟩ (c_X0_setPerson l D cI cZ cJ s.heap.size h a0 a1 a2 a3 a4 a5 a6 a7 a8 a9 a10 f0 f1 f2 f3 f4 f5 f6 f7 f8 f9 f10 v0 v1 v2 v3 p0 p1 hg hp) (cwV 2 hts gL_setPerson_X0_setPerson rfl rfl rfl (by decide +kernel) ⟨Nat.le_of_ble_eq_true rfl, Nat.le_of_ble_eq_true rfl⟩) ⟨zD_blind, va_recv hK hPc (ci := 0) (q0 := 0) rfl rfl, fun U hU hW => ⟨rfl, zD_mk hPc hK hDc hU hW⟩⟩ rfl rfl hl.1 rfl (lv_room (Nat.le_of_ble_eq_true rfl)) dL_setPerson_5 ⟨Nat.le_of_ble_eq_true rfl, Nat.le_of_ble_eq_true rfl⟩) hS (fun q _ h => hFc q h) hFc (fun r9 u9 t H1 locs ht hvm w9 hB hz1 hk1 hS => ?_)
      obtain ⟨hP1, hK1, hD1⟩ := hB
      rw [ht] at hP1
      generalize H1 = H at hP1 hS hk1 ⊢
      try dsimp only at w9
      obtain ⟨w9, e9_0⟩ := w9
      obtain ⟨hP, hD⟩ := va_join (wr := wO cJ ao g) hP hD [1, 2, 3, 4, 5, 6, 7, 8, 9, 10, 11, 12] [0] rfl rfl (by decide) (by decide) hk1 hFc hP1 hD1
      subst e9_0
      have hP : va_P D vwCl (wO cJ ao g ++ wQ cI cZ h a0 a1 a2 a3 a4 a5 a6 a7 a8 a9 a10 f0 f1 f2 f3 f4 (upd f5 p0.toNatClampNeg p1) f6 f7 f8 f9 f10 v0 v1 v2 v3) H := hP
      have hD : va_D A (wO cJ ao g ++ wQ cI cZ h a0 a1 a2 a3 a4 a5 a6 a7 a8 a9 a10 f0 f1 f2 f3 f4 (upd f5 p0.toNatClampNeg p1) f6 f7 f8 f9 f10 v0 v1 v2 v3) := hD
      refine lv_i2l (v := r9.toInt64) hx hb dL_setPerson_8 rfl ?_
      refine va_last (D := D) hx hb hK hP hD hS 0 2 rfl rfl (show vp_in 0 1 from vp_in_nI (n := 0) (by decide) (by decide)) dL_setPerson_9 (fun H locs hP hD hS => ?_)
      have hP : va_P D vwCl (wO cJ ao (vp_updL g (0 : Int32).toNatClampNeg (r9.toInt64)) ++ wQ cI cZ h a0 a1 a2 a3 a4 a5 a6 a7 a8 a9 a10 f0 f1 f2 f3 f4 (upd f5 p0.toNatClampNeg p1) f6 f7 f8 f9 f10 v0 v1 v2 v3) H := hP
      have hD : va_D A (wO cJ ao (vp_updL g (0 : Int32).toNatClampNeg (r9.toInt64)) ++ wQ cI cZ h a0 a1 a2 a3 a4 a5 a6 a7 a8 a9 a10 f0 f1 f2 f3 f4 (upd f5 p0.toNatClampNeg p1) f6 f7 f8 f9 f10 v0 v1 v2 v3) := hD
      refine lv_goto (tgt := 17) hx hb dL_setPerson_10 (by decide) ?_
      refine lv_iconst (v := 0) hx hb dL_setPerson_17 (by decide) ?_
      refine vx_ret ?_
      refine W.widen (k := 1) (n := 6) (by omega) (by omega) ?_
      exact W.iret (v := 0) hx hb hr (fun t ht hW => ⟨⟨0, ⟨(upd f5 p0.toNatClampNeg p1), (vp_updL g (0 : Int32).toNatClampNeg (r9.toInt64))⟩, rfl, ⟨by simp [q_up, q_us, q_uA, q_ggK, hg, hp], by simp [q_up, q_us, q_uA, q_ggK, hg, hp], fun _ => by rw [w9]; rfl⟩, ⟨by rw [ht]; exact hP, va_K.moved hW.alike hK, hD⟩⟩, hS.F ht⟩) hS.2.2 dL_setPerson_18
set_option maxHeartbeats 4000000 in
set_option maxRecDepth 100000 in
theorem c_L_in (l : Launch) (hl0 : l.stackTraces = false) (D : va_G) (cI cZ cJ : ClassId) (sz : Nat) (h a0 a1 a2 a3 a4 a5 a6 a7 a8 a9 a10 : Nat) (f0 f1 f2 f3 f4 f5 f6 f7 f8 f9 f10 : Nat → Int32) (v0 v1 v2 v3 : Int32) (ao : Nat) (g : Nat → Int64) (p0 : Int32) (hI : q_IV f0 f1 f2 f3 f4 f7 f8 v0 v1 v2) : vx_Met l yL_in wsL_in ({ frames := 8, cells := 1, slots := 6, locals := 131 }) (va_Pc [.ref h, .int p0, .ref ao] (zDX D cI cZ cJ sz (wO cJ ao g ++ wQ cI cZ h a0 a1 a2 a3 a4 a5 a6 a7 a8 a9 a10 f0 f1 f2 f3 f4 f5 f6 f7 f8 f9 f10 v0 v1 v2 v3))) (va_Qi (fun (r : Int32) (u : (Nat → Int64)) => r = q_gK p0 ∧ (q_gK p0 = 0 → u 0 = (f0 p0.toNatClampNeg).toInt64)) (fun u t => zB D cI cZ cJ (va_A (wO cJ ao g ++ wQ cI cZ h a0 a1 a2 a3 a4 a5 a6 a7 a8 a9 a10 f0 f1 f2 f3 f4 f5 f6 f7 f8 f9 f10 v0 v1 v2 v3) sz) (wO cJ ao (u) ++ wQ cI cZ h a0 a1 a2 a3 a4 a5 a6 a7 a8 a9 a10 f0 f1 f2 f3 f4 f5 f6 f7 f8 f9 f10 v0 v1 v2 v3) t) (va_A (wO cJ ao g ++ wQ cI cZ h a0 a1 a2 a3 a4 a5 a6 a7 a8 a9 a10 f0 f1 f2 f3 f4 f5 f6 f7 f8 f9 f10 v0 v1 v2 v3) sz)) (zXC (fun _ => False)) 1 6 (va_A (wO cJ ao g ++ wQ cI cZ h a0 a1 a2 a3 a4 a5 a6 a7 a8 a9 a10 f0 f1 f2 f3 f4 f5 f6 f7 f8 f9 f10 v0 v1 v2 v3) sz) := by
  refine vx_ofWH (cc := cL_in) (maxL := 4) (ret := (some .int)) (hh := [(0, 9, 12, 13)]) (by decide) rfl ?_
  intro p e s m args below meth c s₁ B hml hv
  obtain ⟨rfl, hZ, hsz, hP, hK, hD0⟩ := hv
  have hx := B.exec
  have hb := B.bytes
  have hr := B.returns
  have hts := atoms_spec (ws := wsL_in) B.pre
  have htab := vx_table (x := yL_in) B (hts _ List.mem_cons_self)
  have hown : s.vm.findClass RL = some m.cls := findClass_of_methodNamed B.named
  have hlocks := B.notSynchronized
  subst hsz
  have hD := hD0.self (sz := s.heap.size)
  generalize hAe : va_A (wO cJ ao g ++ wQ cI cZ h a0 a1 a2 a3 a4 a5 a6 a7 a8 a9 a10 f0 f1 f2 f3 f4 f5 f6 f7 f8 f9 f10 v0 v1 v2 v3) s.heap.size = A at hD ⊢
  have hA : ∀ q : Nat, s.heap.size ≤ q → A q := fun q h => by rw [← hAe]; exact Or.inr h
  have hS : va_S A s.heap s.heap [] := va_S.rf
  have hl := lv_entry ([.ref h, .int p0, .ref ao]) (n := 4) (Nat.le_of_ble_eq_true rfl)
  rw [lg_entry_eq]
  generalize (lg_sl ([.ref h, .int p0, .ref ao]) ++ List.replicate (4 - (lg_sl ([.ref h, .int p0, .ref ao])).length) Slot.unset).toArray = ls at hl ⊢
  have hl : lv_has ls 4 [(0, .ref h), (1, .int p0), (2, .ref ao)] := hl
  have hPc := hP.sub (ws' := wQ cI cZ h a0 a1 a2 a3 a4 a5 a6 a7 a8 a9 a10 f0 f1 f2 f3 f4 f5 f6 f7 f8 f9 f10 v0 v1 v2 v3) [1, 2, 3, 4, 5, 6, 7, 8, 9, 10, 11, 12] rfl
  have hDc := hD.sub (ws' := wQ cI cZ h a0 a1 a2 a3 a4 a5 a6 a7 a8 a9 a10 f0 f1 f2 f3 f4 f5 f6 f7 f8 f9 f10 v0 v1 v2 v3) [1, 2, 3, 4, 5, 6, 7, 8, 9, 10, 11, 12] (by decide) rfl
  refine lv_aload_n hx hb dL_in_0 rfl (lv_at hl 2 rfl) ?_
  refine lv_iconst (v := 0) hx hb dL_in_1 (by decide) ?_
  refine lv_aload_n hx hb dL_in_2 rfl (lv_at hl 0 rfl) ?_
  refine lv_iload_n hx hb dL_in_3 rfl (lv_at hl 1 rfl) ?_
  cases hg : q_g p0
  · skip
    refine z_catch (vx_runV (As := [.int p0]) (rest := [.int 0, .ref ao]) ⟨hx, hb, hml, hown, hts⟩ (c_X0_in_t l hl0 D cI cZ cJ h a0 a1 a2 a3 a4 a5 a6 a7 a8 a9 a10 f0 f1 f2 f3 f4 f5 f6 f7 f8 f9 f10 v0 v1 v2 v3 p0 hg) (cwV 1 hts gL_in_X0_in rfl rfl rfl (by decide +kernel) ⟨Nat.le_of_ble_eq_true rfl, Nat.le_of_ble_eq_true rfl⟩) ⟨zPX_blind, va_recv hK hPc (ci := 0) (q0 := 0) rfl rfl, fun U hU hW => ⟨rfl, zX_at hZ hU hW, zP_mk hPc hK hU hW⟩⟩ rfl rfl hl.1 rfl (lv_room (Nat.le_of_ble_eq_true rfl)) dL_in_4 ⟨Nat.le_of_ble_eq_true rfl, Nat.le_of_ble_eq_true rfl⟩) (fun _ h => h) hS (fun E ce q9 H1 locs hE hk9 hS hce hcv hcl => ?_)
    subst hE
    have hps : ∀ z ∈ ([] : List ExceptionTableEntry), covers z 4 = false ∨ (z.catchType ≠ 0 ∧ ∃ nm : String, (Cond.classLink RL z.catchType nm).before ([Value.ref h, Value.int p0, Value.ref ao] : List Value).toArray s = true ∧ va_Nc "java/lang/IndexOutOfBoundsException" nm s) := (fun z hz => nomatch hz)
    refine vx_catch (own := RL) (name := "java/lang/IndexOutOfBoundsException") hown [] ⟨0, 9, 12, 13⟩ [] (htab.trans rfl) hps (by decide) (by decide) (hts (.classLink RL 13 "java/lang/IndexOutOfBoundsException") (by decide +kernel)) (va_Nw.use rfl (hZ.1 (.castable "java/lang/IndexOutOfBoundsException" "java/lang/IndexOutOfBoundsException") (by decide))) hce hcv hcl ?_
    have hP := hP.kept (fun k q hk => hk9 q.1 (vx_lt hP hk))
    refine lv_astore_n (lv' := [(3, .ref q9), (0, .ref h), (1, .int p0), (2, .ref ao)]) hx hb dL_in_12 rfl hl (by decide) rfl (fun ls hl => ?_)
    refine lv_iconst (v := 1) hx hb dL_in_13 (by decide) ?_
    refine vx_ret ?_
    exact W.iret (v := 1) hx hb hr (fun t ht hW => ⟨⟨1, g, rfl, ⟨by simp [q_up, q_us, q_uA, q_gK, hg], fun hz9 => absurd hz9 (by simp [q_up, q_us, q_uA, q_gK, hg])⟩, ⟨by rw [ht]; exact hP, va_K.moved hW.alike hK, hD⟩⟩, hS.F ht⟩) hS.2.2 dL_in_14
  · skip
    refine vp_callSi (W.runV (As := [.int p0]) (rest := [.int 0, .ref ao]) ⟨hx, hb, hml, hown, hts⟩ (c_X0_in l D cI cZ cJ h a0 a1 a2 a3 a4 a5 a6 a7 a8 a9 a10 f0 f1 f2 f3 f4 f5 f6 f7 f8 f9 f10 v0 v1 v2 v3 p0 hg) (cwV 1 hts gL_in_X0_in rfl rfl rfl (by decide +kernel) ⟨Nat.le_of_ble_eq_true rfl, Nat.le_of_ble_eq_true rfl⟩) ⟨zP_blind, va_recv hK hPc (ci := 0) (q0 := 0) rfl rfl, fun U hU hW => ⟨rfl, zP_mk hPc hK hU hW⟩⟩ rfl rfl hl.1 rfl (lv_room (Nat.le_of_ble_eq_true rfl)) dL_in_4 ⟨Nat.le_of_ble_eq_true rfl, Nat.le_of_ble_eq_true rfl⟩) (fun r9 w9 => ?_)
    refine lv_i2l (v := r9.toInt64) hx hb dL_in_7 rfl ?_
    refine va_last (D := D) hx hb hK hP hD hS 0 2 rfl rfl (show vp_in 0 1 from vp_in_nI (n := 0) (by decide) (by decide)) dL_in_8 (fun H locs hP hD hS => ?_)
    have hP : va_P D vwCl (wO cJ ao (vp_updL g (0 : Int32).toNatClampNeg (r9.toInt64)) ++ wQ cI cZ h a0 a1 a2 a3 a4 a5 a6 a7 a8 a9 a10 f0 f1 f2 f3 f4 f5 f6 f7 f8 f9 f10 v0 v1 v2 v3) H := hP
    have hD : va_D A (wO cJ ao (vp_updL g (0 : Int32).toNatClampNeg (r9.toInt64)) ++ wQ cI cZ h a0 a1 a2 a3 a4 a5 a6 a7 a8 a9 a10 f0 f1 f2 f3 f4 f5 f6 f7 f8 f9 f10 v0 v1 v2 v3) := hD
    refine lv_goto (tgt := 15) hx hb dL_in_9 (by decide) ?_
    refine lv_iconst (v := 0) hx hb dL_in_15 (by decide) ?_
    refine vx_ret ?_
    refine W.widen (k := 1) (n := 6) (by omega) (by omega) ?_
    exact W.iret (v := 0) hx hb hr (fun t ht hW => ⟨⟨0, (vp_updL g (0 : Int32).toNatClampNeg (r9.toInt64)), rfl, ⟨by simp [q_up, q_us, q_uA, q_gK, hg], fun _ => by rw [w9]; rfl⟩, ⟨by rw [ht]; exact hP, va_K.moved hW.alike hK, hD⟩⟩, hS.F ht⟩) hS.2.2 dL_in_16
set_option maxHeartbeats 4000000 in
set_option maxRecDepth 100000 in
theorem c_L_inByBook (l : Launch) (hl0 : l.stackTraces = false) (D : va_G) (cI cZ cJ : ClassId) (sz : Nat) (h a0 a1 a2 a3 a4 a5 a6 a7 a8 a9 a10 : Nat) (f0 f1 f2 f3 f4 f5 f6 f7 f8 f9 f10 : Nat → Int32) (v0 v1 v2 v3 : Int32) (ao : Nat) (g : Nat → Int64) (p0 : Int32) (hI : q_IV f0 f1 f2 f3 f4 f7 f8 v0 v1 v2) : vx_Met l yL_inByBook wsL_inByBook ({ frames := 8, cells := 1, slots := 6, locals := 131 }) (va_Pc [.ref h, .int p0, .ref ao] (zDX D cI cZ cJ sz (wO cJ ao g ++ wQ cI cZ h a0 a1 a2 a3 a4 a5 a6 a7 a8 a9 a10 f0 f1 f2 f3 f4 f5 f6 f7 f8 f9 f10 v0 v1 v2 v3))) (va_Qi (fun (r : Int32) (u : (Nat → Int64)) => r = q_gK p0 ∧ (q_gK p0 = 0 → u 0 = (f0 p0.toNatClampNeg).toInt64)) (fun u t => zB D cI cZ cJ (va_A (wO cJ ao g ++ wQ cI cZ h a0 a1 a2 a3 a4 a5 a6 a7 a8 a9 a10 f0 f1 f2 f3 f4 f5 f6 f7 f8 f9 f10 v0 v1 v2 v3) sz) (wO cJ ao (u) ++ wQ cI cZ h a0 a1 a2 a3 a4 a5 a6 a7 a8 a9 a10 f0 f1 f2 f3 f4 f5 f6 f7 f8 f9 f10 v0 v1 v2 v3) t) (va_A (wO cJ ao g ++ wQ cI cZ h a0 a1 a2 a3 a4 a5 a6 a7 a8 a9 a10 f0 f1 f2 f3 f4 f5 f6 f7 f8 f9 f10 v0 v1 v2 v3) sz)) (zXC (fun _ => False)) 1 6 (va_A (wO cJ ao g ++ wQ cI cZ h a0 a1 a2 a3 a4 a5 a6 a7 a8 a9 a10 f0 f1 f2 f3 f4 f5 f6 f7 f8 f9 f10 v0 v1 v2 v3) sz) := by
  refine vx_ofWH (cc := cL_inByBook) (maxL := 4) (ret := (some .int)) (hh := [(0, 9, 12, 13)]) (by decide) rfl ?_
  intro p e s m args below meth c s₁ B hml hv
  obtain ⟨rfl, hZ, hsz, hP, hK, hD0⟩ := hv
  have hx := B.exec
  have hb := B.bytes
  have hr := B.returns
  have hts := atoms_spec (ws := wsL_inByBook) B.pre
  have htab := vx_table (x := yL_inByBook) B (hts _ List.mem_cons_self)
  have hown : s.vm.findClass RL = some m.cls := findClass_of_methodNamed B.named
  have hlocks := B.notSynchronized
  subst hsz
  have hD := hD0.self (sz := s.heap.size)
  generalize hAe : va_A (wO cJ ao g ++ wQ cI cZ h a0 a1 a2 a3 a4 a5 a6 a7 a8 a9 a10 f0 f1 f2 f3 f4 f5 f6 f7 f8 f9 f10 v0 v1 v2 v3) s.heap.size = A at hD ⊢
  have hA : ∀ q : Nat, s.heap.size ≤ q → A q := fun q h => by rw [← hAe]; exact Or.inr h
  have hS : va_S A s.heap s.heap [] := va_S.rf
  have hl := lv_entry ([.ref h, .int p0, .ref ao]) (n := 4) (Nat.le_of_ble_eq_true rfl)
  rw [lg_entry_eq]
  generalize (lg_sl ([.ref h, .int p0, .ref ao]) ++ List.replicate (4 - (lg_sl ([.ref h, .int p0, .ref ao])).length) Slot.unset).toArray = ls at hl ⊢
  have hl : lv_has ls 4 [(0, .ref h), (1, .int p0), (2, .ref ao)] := hl
  have hPc := hP.sub (ws' := wQ cI cZ h a0 a1 a2 a3 a4 a5 a6 a7 a8 a9 a10 f0 f1 f2 f3 f4 f5 f6 f7 f8 f9 f10 v0 v1 v2 v3) [1, 2, 3, 4, 5, 6, 7, 8, 9, 10, 11, 12] rfl
  have hDc := hD.sub (ws' := wQ cI cZ h a0 a1 a2 a3 a4 a5 a6 a7 a8 a9 a10 f0 f1 f2 f3 f4 f5 f6 f7 f8 f9 f10 v0 v1 v2 v3) [1, 2, 3, 4, 5, 6, 7, 8, 9, 10, 11, 12] (by decide) rfl
  refine lv_aload_n hx hb dL_inByBook_0 rfl (lv_at hl 2 rfl) ?_
  refine lv_iconst (v := 0) hx hb dL_inByBook_1 (by decide) ?_
  refine lv_aload_n hx hb dL_inByBook_2 rfl (lv_at hl 0 rfl) ?_
  refine lv_iload_n hx hb dL_inByBook_3 rfl (lv_at hl 1 rfl) ?_
  cases hg : q_g p0
  · skip
    refine z_catch (vx_runV (As := [.int p0]) (rest := [.int 0, .ref ao]) ⟨hx, hb, hml, hown, hts⟩ (c_X0_inByBook_t l hl0 D cI cZ cJ h a0 a1 a2 a3 a4 a5 a6 a7 a8 a9 a10 f0 f1 f2 f3 f4 f5 f6 f7 f8 f9 f10 v0 v1 v2 v3 p0 hg) (cwV 1 hts gL_inByBook_X0_inByBook rfl rfl rfl (by decide +kernel) ⟨Nat.le_of_ble_eq_true rfl, Nat.le_of_ble_eq_true rfl⟩) ⟨zPX_blind, va_recv hK hPc (ci := 0) (q0 := 0) rfl rfl, fun U hU hW => ⟨rfl, zX_at hZ hU hW, zP_mk hPc hK hU hW⟩⟩ rfl rfl hl.1 rfl (lv_room (Nat.le_of_ble_eq_true rfl)) dL_inByBook_4 ⟨Nat.le_of_ble_eq_true rfl, Nat.le_of_ble_eq_true rfl⟩) (fun _ h => h) hS (fun E ce q9 H1 locs hE hk9 hS hce hcv hcl => ?_)
    subst hE
    have hps : ∀ z ∈ ([] : List ExceptionTableEntry), covers z 4 = false ∨ (z.catchType ≠ 0 ∧ ∃ nm : String, (Cond.classLink RL z.catchType nm).before ([Value.ref h, Value.int p0, Value.ref ao] : List Value).toArray s = true ∧ va_Nc "java/lang/IndexOutOfBoundsException" nm s) := (fun z hz => nomatch hz)
    refine vx_catch (own := RL) (name := "java/lang/IndexOutOfBoundsException") hown [] ⟨0, 9, 12, 13⟩ [] (htab.trans rfl) hps (by decide) (by decide) (hts (.classLink RL 13 "java/lang/IndexOutOfBoundsException") (by decide +kernel)) (va_Nw.use rfl (hZ.1 (.castable "java/lang/IndexOutOfBoundsException" "java/lang/IndexOutOfBoundsException") (by decide))) hce hcv hcl ?_
    have hP := hP.kept (fun k q hk => hk9 q.1 (vx_lt hP hk))
    refine lv_astore_n (lv' := [(3, .ref q9), (0, .ref h), (1, .int p0), (2, .ref ao)]) hx hb dL_inByBook_12 rfl hl (by decide) rfl (fun ls hl => ?_)
    refine lv_iconst (v := 1) hx hb dL_inByBook_13 (by decide) ?_
    refine vx_ret ?_
    exact W.iret (v := 1) hx hb hr (fun t ht hW => ⟨⟨1, g, rfl, ⟨by simp [q_up, q_us, q_uA, q_gK, hg], fun hz9 => absurd hz9 (by simp [q_up, q_us, q_uA, q_gK, hg])⟩, ⟨by rw [ht]; exact hP, va_K.moved hW.alike hK, hD⟩⟩, hS.F ht⟩) hS.2.2 dL_inByBook_14
  · skip
    refine vp_callSi (W.runV (As := [.int p0]) (rest := [.int 0, .ref ao]) ⟨hx, hb, hml, hown, hts⟩ (c_X0_inByBook l D cI cZ cJ h a0 a1 a2 a3 a4 a5 a6 a7 a8 a9 a10 f0 f1 f2 f3 f4 f5 f6 f7 f8 f9 f10 v0 v1 v2 v3 p0 hg) (cwV 1 hts gL_inByBook_X0_inByBook rfl rfl rfl (by decide +kernel) ⟨Nat.le_of_ble_eq_true rfl, Nat.le_of_ble_eq_true rfl⟩) ⟨zP_blind, va_recv hK hPc (ci := 0) (q0 := 0) rfl rfl, fun U hU hW => ⟨rfl, zP_mk hPc hK hU hW⟩⟩ rfl rfl hl.1 rfl (lv_room (Nat.le_of_ble_eq_true rfl)) dL_inByBook_4 ⟨Nat.le_of_ble_eq_true rfl, Nat.le_of_ble_eq_true rfl⟩) (fun r9 w9 => ?_)
    rw [hI.2.1 _ (z_gN hg)] at w9
    refine lv_i2l (v := r9.toInt64) hx hb dL_inByBook_7 rfl ?_
    refine va_last (D := D) hx hb hK hP hD hS 0 2 rfl rfl (show vp_in 0 1 from vp_in_nI (n := 0) (by decide) (by decide)) dL_inByBook_8 (fun H locs hP hD hS => ?_)
    have hP : va_P D vwCl (wO cJ ao (vp_updL g (0 : Int32).toNatClampNeg (r9.toInt64)) ++ wQ cI cZ h a0 a1 a2 a3 a4 a5 a6 a7 a8 a9 a10 f0 f1 f2 f3 f4 f5 f6 f7 f8 f9 f10 v0 v1 v2 v3) H := hP
    have hD : va_D A (wO cJ ao (vp_updL g (0 : Int32).toNatClampNeg (r9.toInt64)) ++ wQ cI cZ h a0 a1 a2 a3 a4 a5 a6 a7 a8 a9 a10 f0 f1 f2 f3 f4 f5 f6 f7 f8 f9 f10 v0 v1 v2 v3) := hD
    refine lv_goto (tgt := 15) hx hb dL_inByBook_9 (by decide) ?_
    refine lv_iconst (v := 0) hx hb dL_inByBook_15 (by decide) ?_
    refine vx_ret ?_
    refine W.widen (k := 1) (n := 6) (by omega) (by omega) ?_
    exact W.iret (v := 0) hx hb hr (fun t ht hW => ⟨⟨0, (vp_updL g (0 : Int32).toNatClampNeg (r9.toInt64)), rfl, ⟨by simp [q_up, q_us, q_uA, q_gK, hg], fun _ => by rw [w9]; rfl⟩, ⟨by rw [ht]; exact hP, va_K.moved hW.alike hK, hD⟩⟩, hS.F ht⟩) hS.2.2 dL_inByBook_16
set_option maxHeartbeats 4000000 in
set_option maxRecDepth 100000 in
theorem c_L_fillPot (l : Launch) (hl0 : l.stackTraces = false) (D : va_G) (cI cZ cJ : ClassId) (sz : Nat) (h a0 a1 a2 a3 a4 a5 a6 a7 a8 a9 a10 : Nat) (f0 f1 f2 f3 f4 f5 f6 f7 f8 f9 f10 : Nat → Int32) (v0 v1 v2 v3 : Int32) (ao : Nat) (g : Nat → Int64) (p0 : Int32) (hI : q_IV f0 f1 f2 f3 f4 f7 f8 v0 v1 v2) : vx_Met l yL_fillPot wsL_fillPot ({ frames := 8, cells := 1, slots := 6, locals := 132 }) (va_Pc [.ref h, .int p0, .ref ao] (zDX D cI cZ cJ sz (wO cJ ao g ++ wQ cI cZ h a0 a1 a2 a3 a4 a5 a6 a7 a8 a9 a10 f0 f1 f2 f3 f4 f5 f6 f7 f8 f9 f10 v0 v1 v2 v3))) (va_Qi (fun (r : Int32) (u : Int32 × (Nat → Int64)) => r = q_fpK v2 p0 ∧ u.1 = q_us (q_fpK v2 p0) v2 (v2 + p0) ∧ (q_fpK v2 p0 = 0 → u.2 0 = (v2 + p0).toInt64)) (fun u t => zB D cI cZ cJ (va_A (wO cJ ao g ++ wQ cI cZ h a0 a1 a2 a3 a4 a5 a6 a7 a8 a9 a10 f0 f1 f2 f3 f4 f5 f6 f7 f8 f9 f10 v0 v1 v2 v3) sz) (wO cJ ao (u.2) ++ wQ cI cZ h a0 a1 a2 a3 a4 a5 a6 a7 a8 a9 a10 f0 f1 f2 f3 f4 f5 f6 f7 f8 f9 f10 v0 v1 u.1 v3) t) (va_A (wO cJ ao g ++ wQ cI cZ h a0 a1 a2 a3 a4 a5 a6 a7 a8 a9 a10 f0 f1 f2 f3 f4 f5 f6 f7 f8 f9 f10 v0 v1 v2 v3) sz)) (zXC (fun _ => False)) 1 6 (va_A (wO cJ ao g ++ wQ cI cZ h a0 a1 a2 a3 a4 a5 a6 a7 a8 a9 a10 f0 f1 f2 f3 f4 f5 f6 f7 f8 f9 f10 v0 v1 v2 v3) sz) := by
  refine vx_ofWH (cc := cL_fillPot) (maxL := 4) (ret := (some .int)) (hh := [(0, 9, 12, 15), (0, 9, 15, 17)]) (by decide) rfl ?_
  intro p e s m args below meth c s₁ B hml hv
  obtain ⟨rfl, hZ, hsz, hP, hK, hD0⟩ := hv
  have hx := B.exec
  have hb := B.bytes
  have hr := B.returns
  have hts := atoms_spec (ws := wsL_fillPot) B.pre
  have htab := vx_table (x := yL_fillPot) B (hts _ List.mem_cons_self)
  have hown : s.vm.findClass RL = some m.cls := findClass_of_methodNamed B.named
  have hlocks := B.notSynchronized
  subst hsz
  have hD := hD0.self (sz := s.heap.size)
  generalize hAe : va_A (wO cJ ao g ++ wQ cI cZ h a0 a1 a2 a3 a4 a5 a6 a7 a8 a9 a10 f0 f1 f2 f3 f4 f5 f6 f7 f8 f9 f10 v0 v1 v2 v3) s.heap.size = A at hD ⊢
  have hA : ∀ q : Nat, s.heap.size ≤ q → A q := fun q h => by rw [← hAe]; exact Or.inr h
  have hS : va_S A s.heap s.heap [] := va_S.rf
  have hl := lv_entry ([.ref h, .int p0, .ref ao]) (n := 4) (Nat.le_of_ble_eq_true rfl)
  rw [lg_entry_eq]
  generalize (lg_sl ([.ref h, .int p0, .ref ao]) ++ List.replicate (4 - (lg_sl ([.ref h, .int p0, .ref ao])).length) Slot.unset).toArray = ls at hl ⊢
  have hl : lv_has ls 4 [(0, .ref h), (1, .int p0), (2, .ref ao)] := hl
  have hPc := hP.sub (ws' := wQ cI cZ h a0 a1 a2 a3 a4 a5 a6 a7 a8 a9 a10 f0 f1 f2 f3 f4 f5 f6 f7 f8 f9 f10 v0 v1 v2 v3) [1, 2, 3, 4, 5, 6, 7, 8, 9, 10, 11, 12] rfl
  have hDc := hD.sub (ws' := wQ cI cZ h a0 a1 a2 a3 a4 a5 a6 a7 a8 a9 a10 f0 f1 f2 f3 f4 f5 f6 f7 f8 f9 f10 v0 v1 v2 v3) [1, 2, 3, 4, 5, 6, 7, 8, 9, 10, 11, 12] (by decide) rfl
  refine lv_aload_n hx hb dL_fillPot_0 rfl (lv_at hl 2 rfl) ?_
  refine lv_iconst (v := 0) hx hb dL_fillPot_1 (by decide) ?_
  refine lv_aload_n hx hb dL_fillPot_2 rfl (lv_at hl 0 rfl) ?_
  refine lv_iload_n hx hb dL_fillPot_3 rfl (lv_at hl 1 rfl) ?_
  cases hi : q_i p0 1 100000
  · skip
    refine z_catch (vx_runV (As := [.int p0]) (rest := [.int 0, .ref ao]) ⟨hx, hb, hml, hown, hts⟩ (c_X0_fillPot_t1 l hl0 D cI cZ cJ h a0 a1 a2 a3 a4 a5 a6 a7 a8 a9 a10 f0 f1 f2 f3 f4 f5 f6 f7 f8 f9 f10 v0 v1 v2 v3 p0 hi) (cwV 1 hts gL_fillPot_X0_fillPot rfl rfl rfl (by decide +kernel) ⟨Nat.le_of_ble_eq_true rfl, Nat.le_of_ble_eq_true rfl⟩) ⟨zPX_blind, va_recv hK hPc (ci := 0) (q0 := 0) rfl rfl, fun U hU hW => ⟨rfl, zX_at hZ hU hW, zP_mk hPc hK hU hW⟩⟩ rfl rfl hl.1 rfl (lv_room (Nat.le_of_ble_eq_true rfl)) dL_fillPot_4 ⟨Nat.le_of_ble_eq_true rfl, Nat.le_of_ble_eq_true rfl⟩) (fun _ h => h) hS (fun E ce q9 H1 locs hE hk9 hS hce hcv hcl => ?_)
    subst hE
    have hps : ∀ z ∈ ([] : List ExceptionTableEntry), covers z 4 = false ∨ (z.catchType ≠ 0 ∧ ∃ nm : String, (Cond.classLink RL z.catchType nm).before ([Value.ref h, Value.int p0, Value.ref ao] : List Value).toArray s = true ∧ va_Nc "java/lang/IllegalArgumentException" nm s) := (fun z hz => nomatch hz)
    refine vx_catch (own := RL) (name := "java/lang/IllegalArgumentException") hown [] ⟨0, 9, 12, 15⟩ [⟨0, 9, 15, 17⟩] (htab.trans rfl) hps (by decide) (by decide) (hts (.classLink RL 15 "java/lang/IllegalArgumentException") (by decide +kernel)) (va_Nw.use rfl (hZ.1 (.castable "java/lang/IllegalArgumentException" "java/lang/IllegalArgumentException") (by decide))) hce hcv hcl ?_
    have hP := hP.kept (fun k q hk => hk9 q.1 (vx_lt hP hk))
    refine lv_astore_n (lv' := [(3, .ref q9), (0, .ref h), (1, .int p0), (2, .ref ao)]) hx hb dL_fillPot_12 rfl hl (by decide) rfl (fun ls hl => ?_)
    refine lv_iconst (v := 1) hx hb dL_fillPot_13 (by decide) ?_
    refine vx_ret ?_
    exact W.iret (v := 1) hx hb hr (fun t ht hW => ⟨⟨1, ⟨v2, g⟩, rfl, ⟨by simp [q_up, q_us, q_uA, q_fpK, hi], by simp [q_up, q_us, q_uA, q_fpK, hi], fun hz9 => absurd hz9 (by simp [q_up, q_us, q_uA, q_fpK, hi])⟩, ⟨by rw [ht]; exact hP, va_K.moved hW.alike hK, hD⟩⟩, hS.F ht⟩) hS.2.2 dL_fillPot_14
  · skip
    by_cases hm : 1000000 < v2 + p0
    · skip
      refine z_catch (vx_runV (As := [.int p0]) (rest := [.int 0, .ref ao]) ⟨hx, hb, hml, hown, hts⟩ (c_X0_fillPot_t2 l hl0 D cI cZ cJ h a0 a1 a2 a3 a4 a5 a6 a7 a8 a9 a10 f0 f1 f2 f3 f4 f5 f6 f7 f8 f9 f10 v0 v1 v2 v3 p0 hi hm) (cwV 1 hts gL_fillPot_X0_fillPot rfl rfl rfl (by decide +kernel) ⟨Nat.le_of_ble_eq_true rfl, Nat.le_of_ble_eq_true rfl⟩) ⟨zPX_blind, va_recv hK hPc (ci := 0) (q0 := 0) rfl rfl, fun U hU hW => ⟨rfl, zX_at hZ hU hW, zP_mk hPc hK hU hW⟩⟩ rfl rfl hl.1 rfl (lv_room (Nat.le_of_ble_eq_true rfl)) dL_fillPot_4 ⟨Nat.le_of_ble_eq_true rfl, Nat.le_of_ble_eq_true rfl⟩) (fun _ h => h) hS (fun E ce q9 H1 locs hE hk9 hS hce hcv hcl => ?_)
      subst hE
      have hps : ∀ z ∈ ([⟨0, 9, 12, 15⟩] : List ExceptionTableEntry), covers z 4 = false ∨ (z.catchType ≠ 0 ∧ ∃ nm : String, (Cond.classLink RL z.catchType nm).before ([Value.ref h, Value.int p0, Value.ref ao] : List Value).toArray s = true ∧ va_Nc "java/lang/IllegalStateException" nm s) := (fun z hz => by
          simp only [List.mem_cons, List.not_mem_nil, or_false] at hz
          rcases hz with rfl
          · exact Or.inr ⟨by decide, "java/lang/IllegalArgumentException", hts (.classLink RL 15 "java/lang/IllegalArgumentException") (by decide +kernel), hZ.2.2.1 ("java/lang/IllegalStateException", "java/lang/IllegalArgumentException") (by decide)⟩)
      refine vx_catch (own := RL) (name := "java/lang/IllegalStateException") hown [⟨0, 9, 12, 15⟩] ⟨0, 9, 15, 17⟩ [] (htab.trans rfl) hps (by decide) (by decide) (hts (.classLink RL 17 "java/lang/IllegalStateException") (by decide +kernel)) (va_Nw.use rfl (hZ.1 (.castable "java/lang/IllegalStateException" "java/lang/IllegalStateException") (by decide))) hce hcv hcl ?_
      have hP := hP.kept (fun k q hk => hk9 q.1 (vx_lt hP hk))
      refine lv_astore_n (lv' := [(3, .ref q9), (0, .ref h), (1, .int p0), (2, .ref ao)]) hx hb dL_fillPot_15 rfl hl (by decide) rfl (fun ls hl => ?_)
      refine lv_iconst (v := 2) hx hb dL_fillPot_16 (by decide) ?_
      refine vx_ret ?_
      exact W.iret (v := 2) hx hb hr (fun t ht hW => ⟨⟨2, ⟨v2, g⟩, rfl, ⟨by simp [q_up, q_us, q_uA, q_fpK, hi, hm], by simp [q_up, q_us, q_uA, q_fpK, hi, hm], fun hz9 => absurd hz9 (by simp [q_up, q_us, q_uA, q_fpK, hi, hm])⟩, ⟨by rw [ht]; exact hP, va_K.moved hW.alike hK, hD⟩⟩, hS.F ht⟩) hS.2.2 dL_fillPot_17
    · skip
      have hFc := va_free (wc := wQ cI cZ h a0 a1 a2 a3 a4 a5 a6 a7 a8 a9 a10 f0 f1 f2 f3 f4 f5 f6 f7 f8 f9 f10 v0 v1 v2 v3) hD hS hA [1, 2, 3, 4, 5, 6, 7, 8, 9, 10, 11, 12] rfl
      refine va_calli (va_runV (As := [.int p0]) (rest := [.int 0, .ref ao]) ⟨hx, hb, hml, hown, hts⟩ (c_X0_fillPot l D cI cZ cJ s.heap.size h a0 a1 a2 a3 a4 a5 a6 a7 a8 a9 a10 f0 f1 f2 f3 f4 f5 f6 f7 f8 f9 f10 v0 v1 v2 v3 p0 hi hm) (cwV 1 hts gL_fillPot_X0_fillPot rfl rfl rfl (by decide +kernel) ⟨Nat.le_of_ble_eq_true rfl, Nat.le_of_ble_eq_true rfl⟩) ⟨zD_blind, va_recv hK hPc (ci := 0) (q0 := 0) rfl rfl, fun U hU hW => ⟨rfl, zD_mk hPc hK hDc hU hW⟩⟩ rfl rfl hl.1 rfl (lv_room (Nat.le_of_ble_eq_true rfl)) dL_fillPot_4 ⟨Nat.le_of_ble_eq_true rfl, Nat.le_of_ble_eq_true rfl⟩) hS (fun q _ h => hFc q h) hFc (fun r9 u9 t H1 locs ht hvm w9 hB hz1 hk1 hS => ?_)
      obtain ⟨hP1, hK1, hD1⟩ := hB
      rw [ht] at hP1
      generalize H1 = H at hP1 hS hk1 ⊢
      try dsimp only at w9
      obtain ⟨w9, e9_0⟩ := w9
      obtain ⟨hP, hD⟩ := va_join (wr := wO cJ ao g) hP hD [1, 2, 3, 4, 5, 6, 7, 8, 9, 10, 11, 12] [0] rfl rfl (by decide) (by decide) hk1 hFc hP1 hD1
      subst e9_0
      have hP : va_P D vwCl (wO cJ ao g ++ wQ cI cZ h a0 a1 a2 a3 a4 a5 a6 a7 a8 a9 a10 f0 f1 f2 f3 f4 f5 f6 f7 f8 f9 f10 v0 v1 (v2 + p0) v3) H := hP
      have hD : va_D A (wO cJ ao g ++ wQ cI cZ h a0 a1 a2 a3 a4 a5 a6 a7 a8 a9 a10 f0 f1 f2 f3 f4 f5 f6 f7 f8 f9 f10 v0 v1 (v2 + p0) v3) := hD
      refine lv_i2l (v := r9.toInt64) hx hb dL_fillPot_7 rfl ?_
      refine va_last (D := D) hx hb hK hP hD hS 0 2 rfl rfl (show vp_in 0 1 from vp_in_nI (n := 0) (by decide) (by decide)) dL_fillPot_8 (fun H locs hP hD hS => ?_)
      have hP : va_P D vwCl (wO cJ ao (vp_updL g (0 : Int32).toNatClampNeg (r9.toInt64)) ++ wQ cI cZ h a0 a1 a2 a3 a4 a5 a6 a7 a8 a9 a10 f0 f1 f2 f3 f4 f5 f6 f7 f8 f9 f10 v0 v1 (v2 + p0) v3) H := hP
      have hD : va_D A (wO cJ ao (vp_updL g (0 : Int32).toNatClampNeg (r9.toInt64)) ++ wQ cI cZ h a0 a1 a2 a3 a4 a5 a6 a7 a8 a9 a10 f0 f1 f2 f3 f4 f5 f6 f7 f8 f9 f10 v0 v1 (v2 + p0) v3) := hD
      refine lv_goto (tgt := 18) hx hb dL_fillPot_9 (by decide) ?_
      refine lv_iconst (v := 0) hx hb dL_fillPot_18 (by decide) ?_
      refine vx_ret ?_
      refine W.widen (k := 1) (n := 6) (by omega) (by omega) ?_
      exact W.iret (v := 0) hx hb hr (fun t ht hW => ⟨⟨0, ⟨(v2 + p0), (vp_updL g (0 : Int32).toNatClampNeg (r9.toInt64))⟩, rfl, ⟨by simp [q_up, q_us, q_uA, q_fpK, hi, hm], by simp [q_up, q_us, q_uA, q_fpK, hi, hm], fun _ => by rw [w9]; rfl⟩, ⟨by rw [ht]; exact hP, va_K.moved hW.alike hK, hD⟩⟩, hS.F ht⟩) hS.2.2 dL_fillPot_19
set_option maxHeartbeats 4000000 in
set_option maxRecDepth 100000 in
theorem c_L_addMilestone (l : Launch) (hl0 : l.stackTraces = false) (D : va_G) (cI cZ cJ : ClassId) (sz : Nat) (h a0 a1 a2 a3 a4 a5 a6 a7 a8 a9 a10 : Nat) (f0 f1 f2 f3 f4 f5 f6 f7 f8 f9 f10 : Nat → Int32) (v0 v1 v2 v3 : Int32) (ao : Nat) (g : Nat → Int64) (p0 : Int32) (hI : q_IV f0 f1 f2 f3 f4 f7 f8 v0 v1 v2) : vx_Met l yL_addMilestone wsL_addMilestone ({ frames := 8, cells := 1, slots := 6, locals := 132 }) (va_Pc [.ref h, .int p0, .ref ao] (zDX D cI cZ cJ sz (wO cJ ao g ++ wQ cI cZ h a0 a1 a2 a3 a4 a5 a6 a7 a8 a9 a10 f0 f1 f2 f3 f4 f5 f6 f7 f8 f9 f10 v0 v1 v2 v3))) (va_Qi (fun (r : Int32) (u : (Nat → Int32) × Int32 × (Nat → Int64)) => r = q_amK v0 p0 ∧ u.1 = q_up (q_amK v0 p0) f7 v0.toNatClampNeg p0 ∧ u.2.1 = q_us (q_amK v0 p0) v0 (v0 + 1) ∧ (q_amK v0 p0 = 0 → u.2.2 0 = (v0 + 1 - 1).toInt64)) (fun u t => zB D cI cZ cJ (va_A (wO cJ ao g ++ wQ cI cZ h a0 a1 a2 a3 a4 a5 a6 a7 a8 a9 a10 f0 f1 f2 f3 f4 f5 f6 f7 f8 f9 f10 v0 v1 v2 v3) sz) (wO cJ ao (u.2.2) ++ wQ cI cZ h a0 a1 a2 a3 a4 a5 a6 a7 a8 a9 a10 f0 f1 f2 f3 f4 f5 f6 u.1 f8 f9 f10 u.2.1 v1 v2 v3) t) (va_A (wO cJ ao g ++ wQ cI cZ h a0 a1 a2 a3 a4 a5 a6 a7 a8 a9 a10 f0 f1 f2 f3 f4 f5 f6 f7 f8 f9 f10 v0 v1 v2 v3) sz)) (zXC (fun _ => False)) 1 6 (va_A (wO cJ ao g ++ wQ cI cZ h a0 a1 a2 a3 a4 a5 a6 a7 a8 a9 a10 f0 f1 f2 f3 f4 f5 f6 f7 f8 f9 f10 v0 v1 v2 v3) sz) := by
  refine vx_ofWH (cc := cL_addMilestone) (maxL := 4) (ret := (some .int)) (hh := [(0, 9, 12, 15), (0, 9, 15, 17)]) (by decide) rfl ?_
  intro p e s m args below meth c s₁ B hml hv
  obtain ⟨rfl, hZ, hsz, hP, hK, hD0⟩ := hv
  have hx := B.exec
  have hb := B.bytes
  have hr := B.returns
  have hts := atoms_spec (ws := wsL_addMilestone) B.pre
  have htab := vx_table (x := yL_addMilestone) B (hts _ List.mem_cons_self)
  have hown : s.vm.findClass RL = some m.cls := findClass_of_methodNamed B.named
  have hlocks := B.notSynchronized
  subst hsz
  have hD := hD0.self (sz := s.heap.size)
  generalize hAe : va_A (wO cJ ao g ++ wQ cI cZ h a0 a1 a2 a3 a4 a5 a6 a7 a8 a9 a10 f0 f1 f2 f3 f4 f5 f6 f7 f8 f9 f10 v0 v1 v2 v3) s.heap.size = A at hD ⊢
  have hA : ∀ q : Nat, s.heap.size ≤ q → A q := fun q h => by rw [← hAe]; exact Or.inr h
  have hS : va_S A s.heap s.heap [] := va_S.rf
  have hl := lv_entry ([.ref h, .int p0, .ref ao]) (n := 4) (Nat.le_of_ble_eq_true rfl)
  rw [lg_entry_eq]
  generalize (lg_sl ([.ref h, .int p0, .ref ao]) ++ List.replicate (4 - (lg_sl ([.ref h, .int p0, .ref ao])).length) Slot.unset).toArray = ls at hl ⊢
  have hl : lv_has ls 4 [(0, .ref h), (1, .int p0), (2, .ref ao)] := hl
  have hPc := hP.sub (ws' := wQ cI cZ h a0 a1 a2 a3 a4 a5 a6 a7 a8 a9 a10 f0 f1 f2 f3 f4 f5 f6 f7 f8 f9 f10 v0 v1 v2 v3) [1, 2, 3, 4, 5, 6, 7, 8, 9, 10, 11, 12] rfl
  have hDc := hD.sub (ws' := wQ cI cZ h a0 a1 a2 a3 a4 a5 a6 a7 a8 a9 a10 f0 f1 f2 f3 f4 f5 f6 f7 f8 f9 f10 v0 v1 v2 v3) [1, 2, 3, 4, 5, 6, 7, 8, 9, 10, 11, 12] (by decide) rfl
  refine lv_aload_n hx hb dL_addMilestone_0 rfl (lv_at hl 2 rfl) ?_
  refine lv_iconst (v := 0) hx hb dL_addMilestone_1 (by decide) ?_
  refine lv_aload_n hx hb dL_addMilestone_2 rfl (lv_at hl 0 rfl) ?_
  refine lv_iload_n hx hb dL_addMilestone_3 rfl (lv_at hl 1 rfl) ?_
  cases hi : q_i p0 1 100000
  · skip
    refine z_catch (vx_runV (As := [.int p0]) (rest := [.int 0, .ref ao]) ⟨hx, hb, hml, hown, hts⟩ (c_X0_addMilestone_t1 l hl0 D cI cZ cJ h a0 a1 a2 a3 a4 a5 a6 a7 a8 a9 a10 f0 f1 f2 f3 f4 f5 f6 f7 f8 f9 f10 v0 v1 v2 v3 p0 hi) (cwV 1 hts gL_addMilestone_X0_addMilestone rfl rfl rfl (by decide +kernel) ⟨Nat.le_of_ble_eq_true rfl, Nat.le_of_ble_eq_true rfl⟩) ⟨zPX_blind, va_recv hK hPc (ci := 0) (q0 := 0) rfl rfl, fun U hU hW => ⟨rfl, zX_at hZ hU hW, zP_mk hPc hK hU hW⟩⟩ rfl rfl hl.1 rfl (lv_room (Nat.le_of_ble_eq_true rfl)) dL_addMilestone_4 ⟨Nat.le_of_ble_eq_true rfl, Nat.le_of_ble_eq_true rfl⟩) (fun _ h => h) hS (fun E ce q9 H1 locs hE hk9 hS hce hcv hcl => ?_)
    subst hE
    have hps : ∀ z ∈ ([] : List ExceptionTableEntry), covers z 4 = false ∨ (z.catchType ≠ 0 ∧ ∃ nm : String, (Cond.classLink RL z.catchType nm).before ([Value.ref h, Value.int p0, Value.ref ao] : List Value).toArray s = true ∧ va_Nc "java/lang/IllegalArgumentException" nm s) := (fun z hz => nomatch hz)
    refine vx_catch (own := RL) (name := "java/lang/IllegalArgumentException") hown [] ⟨0, 9, 12, 15⟩ [⟨0, 9, 15, 17⟩] (htab.trans rfl) hps (by decide) (by decide) (hts (.classLink RL 15 "java/lang/IllegalArgumentException") (by decide +kernel)) (va_Nw.use rfl (hZ.1 (.castable "java/lang/IllegalArgumentException" "java/lang/IllegalArgumentException") (by decide))) hce hcv hcl ?_
    have hP := hP.kept (fun k q hk => hk9 q.1 (vx_lt hP hk))
    refine lv_astore_n (lv' := [(3, .ref q9), (0, .ref h), (1, .int p0), (2, .ref ao)]) hx hb dL_addMilestone_12 rfl hl (by decide) rfl (fun ls hl => ?_)
    refine lv_iconst (v := 1) hx hb dL_addMilestone_13 (by decide) ?_
    refine vx_ret ?_
    exact W.iret (v := 1) hx hb hr (fun t ht hW => ⟨⟨1, ⟨f7, v0, g⟩, rfl, ⟨by simp [q_up, q_us, q_uA, q_amK, hi], by simp [q_up, q_us, q_uA, q_amK, hi], by simp [q_up, q_us, q_uA, q_amK, hi], fun hz9 => absurd hz9 (by simp [q_up, q_us, q_uA, q_amK, hi])⟩, ⟨by rw [ht]; exact hP, va_K.moved hW.alike hK, hD⟩⟩, hS.F ht⟩) hS.2.2 dL_addMilestone_14
  · skip
    by_cases hm : v0 = 6
    · skip
      refine z_catch (vx_runV (As := [.int p0]) (rest := [.int 0, .ref ao]) ⟨hx, hb, hml, hown, hts⟩ (c_X0_addMilestone_t2 l hl0 D cI cZ cJ h a0 a1 a2 a3 a4 a5 a6 a7 a8 a9 a10 f0 f1 f2 f3 f4 f5 f6 f7 f8 f9 f10 v0 v1 v2 v3 p0 hi hm) (cwV 1 hts gL_addMilestone_X0_addMilestone rfl rfl rfl (by decide +kernel) ⟨Nat.le_of_ble_eq_true rfl, Nat.le_of_ble_eq_true rfl⟩) ⟨zPX_blind, va_recv hK hPc (ci := 0) (q0 := 0) rfl rfl, fun U hU hW => ⟨rfl, zX_at hZ hU hW, zP_mk hPc hK hU hW⟩⟩ rfl rfl hl.1 rfl (lv_room (Nat.le_of_ble_eq_true rfl)) dL_addMilestone_4 ⟨Nat.le_of_ble_eq_true rfl, Nat.le_of_ble_eq_true rfl⟩) (fun _ h => h) hS (fun E ce q9 H1 locs hE hk9 hS hce hcv hcl => ?_)
      subst hE
      have hps : ∀ z ∈ ([⟨0, 9, 12, 15⟩] : List ExceptionTableEntry), covers z 4 = false ∨ (z.catchType ≠ 0 ∧ ∃ nm : String, (Cond.classLink RL z.catchType nm).before ([Value.ref h, Value.int p0, Value.ref ao] : List Value).toArray s = true ∧ va_Nc "java/lang/IllegalStateException" nm s) := (fun z hz => by
          simp only [List.mem_cons, List.not_mem_nil, or_false] at hz
          rcases hz with rfl
          · exact Or.inr ⟨by decide, "java/lang/IllegalArgumentException", hts (.classLink RL 15 "java/lang/IllegalArgumentException") (by decide +kernel), hZ.2.2.1 ("java/lang/IllegalStateException", "java/lang/IllegalArgumentException") (by decide)⟩)
      refine vx_catch (own := RL) (name := "java/lang/IllegalStateException") hown [⟨0, 9, 12, 15⟩] ⟨0, 9, 15, 17⟩ [] (htab.trans rfl) hps (by decide) (by decide) (hts (.classLink RL 17 "java/lang/IllegalStateException") (by decide +kernel)) (va_Nw.use rfl (hZ.1 (.castable "java/lang/IllegalStateException" "java/lang/IllegalStateException") (by decide))) hce hcv hcl ?_
      have hP := hP.kept (fun k q hk => hk9 q.1 (vx_lt hP hk))
      refine lv_astore_n (lv' := [(3, .ref q9), (0, .ref h), (1, .int p0), (2, .ref ao)]) hx hb dL_addMilestone_15 rfl hl (by decide) rfl (fun ls hl => ?_)
      refine lv_iconst (v := 2) hx hb dL_addMilestone_16 (by decide) ?_
      refine vx_ret ?_
      exact W.iret (v := 2) hx hb hr (fun t ht hW => ⟨⟨2, ⟨f7, v0, g⟩, rfl, ⟨by simp [q_up, q_us, q_uA, q_amK, hi, hm], by simp [q_up, q_us, q_uA, q_amK, hi, hm], by simp [q_up, q_us, q_uA, q_amK, hi, hm], fun hz9 => absurd hz9 (by simp [q_up, q_us, q_uA, q_amK, hi, hm])⟩, ⟨by rw [ht]; exact hP, va_K.moved hW.alike hK, hD⟩⟩, hS.F ht⟩) hS.2.2 dL_addMilestone_17
    · skip
      have hFc := va_free (wc := wQ cI cZ h a0 a1 a2 a3 a4 a5 a6 a7 a8 a9 a10 f0 f1 f2 f3 f4 f5 f6 f7 f8 f9 f10 v0 v1 v2 v3) hD hS hA [1, 2, 3, 4, 5, 6, 7, 8, 9, 10, 11, 12] rfl
      refine va_calli (va_runV (As := [.int p0]) (rest := [.int 0, .ref ao]) ⟨hx, hb, hml, hown, hts⟩ (c_X0_addMilestone l D cI cZ cJ s.heap.size h a0 a1 a2 a3 a4 a5 a6 a7 a8 a9 a10 f0 f1 f2 f3 f4 f5 f6 f7 f8 f9 f10 v0 v1 v2 v3 p0 hi (iv_hv hI hm)) (cwV 1 hts gL_addMilestone_X0_addMilestone rfl rfl rfl (by decide +kernel) ⟨Nat.le_of_ble_eq_true rfl, Nat.le_of_ble_eq_true rfl⟩) ⟨zD_blind, va_recv hK hPc (ci := 0) (q0 := 0) rfl rfl, fun U hU hW => ⟨rfl, zD_mk hPc hK hDc hU hW⟩⟩ rfl rfl hl.1 rfl (lv_room (Nat.le_of_ble_eq_true rfl)) dL_addMilestone_4 ⟨Nat.le_of_ble_eq_true rfl, Nat.le_of_ble_eq_true rfl⟩) hS (fun q _ h => hFc q h) hFc (fun r9 u9 t H1 locs ht hvm w9 hB hz1 hk1 hS => ?_)
      obtain ⟨u9_0, u9_1⟩ := u9
      obtain ⟨hP1, hK1, hD1⟩ := hB
      rw [ht] at hP1
      generalize H1 = H at hP1 hS hk1 ⊢
      try dsimp only at w9
      obtain ⟨w9, e9_0, e9_1⟩ := w9
      obtain ⟨hP, hD⟩ := va_join (wr := wO cJ ao g) hP hD [1, 2, 3, 4, 5, 6, 7, 8, 9, 10, 11, 12] [0] rfl rfl (by decide) (by decide) hk1 hFc hP1 hD1
      subst e9_0
      subst e9_1
      have hP : va_P D vwCl (wO cJ ao g ++ wQ cI cZ h a0 a1 a2 a3 a4 a5 a6 a7 a8 a9 a10 f0 f1 f2 f3 f4 f5 f6 (upd f7 v0.toNatClampNeg p0) f8 f9 f10 (v0 + 1) v1 v2 v3) H := hP
      have hD : va_D A (wO cJ ao g ++ wQ cI cZ h a0 a1 a2 a3 a4 a5 a6 a7 a8 a9 a10 f0 f1 f2 f3 f4 f5 f6 (upd f7 v0.toNatClampNeg p0) f8 f9 f10 (v0 + 1) v1 v2 v3) := hD
      refine lv_i2l (v := r9.toInt64) hx hb dL_addMilestone_7 rfl ?_
      refine va_last (D := D) hx hb hK hP hD hS 0 2 rfl rfl (show vp_in 0 1 from vp_in_nI (n := 0) (by decide) (by decide)) dL_addMilestone_8 (fun H locs hP hD hS => ?_)
      have hP : va_P D vwCl (wO cJ ao (vp_updL g (0 : Int32).toNatClampNeg (r9.toInt64)) ++ wQ cI cZ h a0 a1 a2 a3 a4 a5 a6 a7 a8 a9 a10 f0 f1 f2 f3 f4 f5 f6 (upd f7 v0.toNatClampNeg p0) f8 f9 f10 (v0 + 1) v1 v2 v3) H := hP
      have hD : va_D A (wO cJ ao (vp_updL g (0 : Int32).toNatClampNeg (r9.toInt64)) ++ wQ cI cZ h a0 a1 a2 a3 a4 a5 a6 a7 a8 a9 a10 f0 f1 f2 f3 f4 f5 f6 (upd f7 v0.toNatClampNeg p0) f8 f9 f10 (v0 + 1) v1 v2 v3) := hD
      refine lv_goto (tgt := 18) hx hb dL_addMilestone_9 (by decide) ?_
      refine lv_iconst (v := 0) hx hb dL_addMilestone_18 (by decide) ?_
      refine vx_ret ?_
      refine W.widen (k := 1) (n := 6) (by omega) (by omega) ?_
      exact W.iret (v := 0) hx hb hr (fun t ht hW => ⟨⟨0, ⟨(upd f7 v0.toNatClampNeg p0), (v0 + 1), (vp_updL g (0 : Int32).toNatClampNeg (r9.toInt64))⟩, rfl, ⟨by simp [q_up, q_us, q_uA, q_amK, hi, hm], by simp [q_up, q_us, q_uA, q_amK, hi, hm], by simp [q_up, q_us, q_uA, q_amK, hi, hm], fun _ => by rw [w9]; rfl⟩, ⟨by rw [ht]; exact hP, va_K.moved hW.alike hK, hD⟩⟩, hS.F ht⟩) hS.2.2 dL_addMilestone_19
set_option maxHeartbeats 4000000 in
set_option maxRecDepth 100000 in
theorem c_L_prove (l : Launch) (hl0 : l.stackTraces = false) (D : va_G) (cI cZ cJ : ClassId) (sz : Nat) (h a0 a1 a2 a3 a4 a5 a6 a7 a8 a9 a10 : Nat) (f0 f1 f2 f3 f4 f5 f6 f7 f8 f9 f10 : Nat → Int32) (v0 v1 v2 v3 : Int32) (ao : Nat) (g : Nat → Int64) (p0 : Int32) (hI : q_IV f0 f1 f2 f3 f4 f7 f8 v0 v1 v2) : vx_Met l yL_prove wsL_prove ({ frames := 7, cells := 1, slots := 6, locals := 111 }) (va_Pc [.ref h, .int p0, .ref ao] (zDX D cI cZ cJ sz (wO cJ ao g ++ wQ cI cZ h a0 a1 a2 a3 a4 a5 a6 a7 a8 a9 a10 f0 f1 f2 f3 f4 f5 f6 f7 f8 f9 f10 v0 v1 v2 v3))) (va_Qi (fun (r : Int32) (u : (Nat → Int32) × (Nat → Int64)) => r = q_prK v0 v1 p0 ∧ u.1 = q_up (q_prK v0 v1 p0) f8 p0.toNatClampNeg (q_tog (f8 p0.toNatClampNeg)) ∧ (q_prK v0 v1 p0 = 0 → u.2 0 = (q_tog (f8 p0.toNatClampNeg)).toInt64)) (fun u t => zB D cI cZ cJ (va_A (wO cJ ao g ++ wQ cI cZ h a0 a1 a2 a3 a4 a5 a6 a7 a8 a9 a10 f0 f1 f2 f3 f4 f5 f6 f7 f8 f9 f10 v0 v1 v2 v3) sz) (wO cJ ao (u.2) ++ wQ cI cZ h a0 a1 a2 a3 a4 a5 a6 a7 a8 a9 a10 f0 f1 f2 f3 f4 f5 f6 f7 u.1 f9 f10 v0 v1 v2 v3) t) (va_A (wO cJ ao g ++ wQ cI cZ h a0 a1 a2 a3 a4 a5 a6 a7 a8 a9 a10 f0 f1 f2 f3 f4 f5 f6 f7 f8 f9 f10 v0 v1 v2 v3) sz)) (zXC (fun _ => False)) 1 6 (va_A (wO cJ ao g ++ wQ cI cZ h a0 a1 a2 a3 a4 a5 a6 a7 a8 a9 a10 f0 f1 f2 f3 f4 f5 f6 f7 f8 f9 f10 v0 v1 v2 v3) sz) := by
  refine vx_ofWH (cc := cL_prove) (maxL := 4) (ret := (some .int)) (hh := [(0, 16, 19, 13), (0, 16, 22, 17)]) (by decide) rfl ?_
  intro p e s m args below meth c s₁ B hml hv
  obtain ⟨rfl, hZ, hsz, hP, hK, hD0⟩ := hv
  have hx := B.exec
  have hb := B.bytes
  have hr := B.returns
  have hts := atoms_spec (ws := wsL_prove) B.pre
  have htab := vx_table (x := yL_prove) B (hts _ List.mem_cons_self)
  have hown : s.vm.findClass RL = some m.cls := findClass_of_methodNamed B.named
  have hlocks := B.notSynchronized
  subst hsz
  have hD := hD0.self (sz := s.heap.size)
  generalize hAe : va_A (wO cJ ao g ++ wQ cI cZ h a0 a1 a2 a3 a4 a5 a6 a7 a8 a9 a10 f0 f1 f2 f3 f4 f5 f6 f7 f8 f9 f10 v0 v1 v2 v3) s.heap.size = A at hD ⊢
  have hA : ∀ q : Nat, s.heap.size ≤ q → A q := fun q h => by rw [← hAe]; exact Or.inr h
  have hS : va_S A s.heap s.heap [] := va_S.rf
  have hl := lv_entry ([.ref h, .int p0, .ref ao]) (n := 4) (Nat.le_of_ble_eq_true rfl)
  rw [lg_entry_eq]
  generalize (lg_sl ([.ref h, .int p0, .ref ao]) ++ List.replicate (4 - (lg_sl ([.ref h, .int p0, .ref ao])).length) Slot.unset).toArray = ls at hl ⊢
  have hl : lv_has ls 4 [(0, .ref h), (1, .int p0), (2, .ref ao)] := hl
  have hPc := hP.sub (ws' := wQ cI cZ h a0 a1 a2 a3 a4 a5 a6 a7 a8 a9 a10 f0 f1 f2 f3 f4 f5 f6 f7 f8 f9 f10 v0 v1 v2 v3) [1, 2, 3, 4, 5, 6, 7, 8, 9, 10, 11, 12] rfl
  have hDc := hD.sub (ws' := wQ cI cZ h a0 a1 a2 a3 a4 a5 a6 a7 a8 a9 a10 f0 f1 f2 f3 f4 f5 f6 f7 f8 f9 f10 v0 v1 v2 v3) [1, 2, 3, 4, 5, 6, 7, 8, 9, 10, 11, 12] (by decide) rfl
  refine lv_aload_n hx hb dL_prove_0 rfl (lv_at hl 2 rfl) ?_
  refine lv_iconst (v := 0) hx hb dL_prove_1 (by decide) ?_
  refine lv_aload_n hx hb dL_prove_2 rfl (lv_at hl 0 rfl) ?_
  refine lv_iload_n hx hb dL_prove_3 rfl (lv_at hl 1 rfl) ?_
  cases hi : q_i p0 0 (v0 - 1)
  · skip
    have hb9 : ¬ (¬ p0 < 0 ∧ p0 < v0) := fun z => by rw [(z_prlt (iv_v0 hI)).mpr z] at hi; exact Bool.noConfusion hi
    refine z_catch (vx_runV (As := [.int p0]) (rest := [.int 0, .ref ao]) ⟨hx, hb, hml, hown, hts⟩ (c_X0_prove_t1 l hl0 D cI cZ cJ h a0 a1 a2 a3 a4 a5 a6 a7 a8 a9 a10 f0 f1 f2 f3 f4 f5 f6 f7 f8 f9 f10 v0 v1 v2 v3 p0 hb9) (cwV 1 hts gL_prove_X0_prove rfl rfl rfl (by decide +kernel) ⟨Nat.le_of_ble_eq_true rfl, Nat.le_of_ble_eq_true rfl⟩) ⟨zPX_blind, va_recv hK hPc (ci := 0) (q0 := 0) rfl rfl, fun U hU hW => ⟨rfl, zX_at hZ hU hW, zP_mk hPc hK hU hW⟩⟩ rfl rfl hl.1 rfl (lv_room (Nat.le_of_ble_eq_true rfl)) dL_prove_4 ⟨Nat.le_of_ble_eq_true rfl, Nat.le_of_ble_eq_true rfl⟩) (fun _ h => h) hS (fun E ce q9 H1 locs hE hk9 hS hce hcv hcl => ?_)
    subst hE
    have hps : ∀ z ∈ ([] : List ExceptionTableEntry), covers z 4 = false ∨ (z.catchType ≠ 0 ∧ ∃ nm : String, (Cond.classLink RL z.catchType nm).before ([Value.ref h, Value.int p0, Value.ref ao] : List Value).toArray s = true ∧ va_Nc "java/lang/IndexOutOfBoundsException" nm s) := (fun z hz => nomatch hz)
    refine vx_catch (own := RL) (name := "java/lang/IndexOutOfBoundsException") hown [] ⟨0, 16, 19, 13⟩ [⟨0, 16, 22, 17⟩] (htab.trans rfl) hps (by decide) (by decide) (hts (.classLink RL 13 "java/lang/IndexOutOfBoundsException") (by decide +kernel)) (va_Nw.use rfl (hZ.1 (.castable "java/lang/IndexOutOfBoundsException" "java/lang/IndexOutOfBoundsException") (by decide))) hce hcv hcl ?_
    have hP := hP.kept (fun k q hk => hk9 q.1 (vx_lt hP hk))
    refine lv_astore_n (lv' := [(3, .ref q9), (0, .ref h), (1, .int p0), (2, .ref ao)]) hx hb dL_prove_19 rfl hl (by decide) rfl (fun ls hl => ?_)
    refine lv_iconst (v := 1) hx hb dL_prove_20 (by decide) ?_
    refine vx_ret ?_
    exact W.iret (v := 1) hx hb hr (fun t ht hW => ⟨⟨1, ⟨f8, g⟩, rfl, ⟨by simp [q_up, q_us, q_uA, q_prK, hi], by simp [q_up, q_us, q_uA, q_prK, hi], fun hz9 => absurd hz9 (by simp [q_up, q_us, q_uA, q_prK, hi])⟩, ⟨by rw [ht]; exact hP, va_K.moved hW.alike hK, hD⟩⟩, hS.F ht⟩) hS.2.2 dL_prove_21
  · skip
    have hb9 := (z_prlt (iv_v0 hI)).mp hi
    by_cases hm : p0 < v1
    · skip
      refine z_catch (vx_runV (As := [.int p0]) (rest := [.int 0, .ref ao]) ⟨hx, hb, hml, hown, hts⟩ (c_X0_prove_t2 l hl0 D cI cZ cJ h a0 a1 a2 a3 a4 a5 a6 a7 a8 a9 a10 f0 f1 f2 f3 f4 f5 f6 f7 f8 f9 f10 v0 v1 v2 v3 p0 hb9.1 hb9.2 hm) (cwV 1 hts gL_prove_X0_prove rfl rfl rfl (by decide +kernel) ⟨Nat.le_of_ble_eq_true rfl, Nat.le_of_ble_eq_true rfl⟩) ⟨zPX_blind, va_recv hK hPc (ci := 0) (q0 := 0) rfl rfl, fun U hU hW => ⟨rfl, zX_at hZ hU hW, zP_mk hPc hK hU hW⟩⟩ rfl rfl hl.1 rfl (lv_room (Nat.le_of_ble_eq_true rfl)) dL_prove_4 ⟨Nat.le_of_ble_eq_true rfl, Nat.le_of_ble_eq_true rfl⟩) (fun _ h => h) hS (fun E ce q9 H1 locs hE hk9 hS hce hcv hcl => ?_)
      subst hE
      have hps : ∀ z ∈ ([⟨0, 16, 19, 13⟩] : List ExceptionTableEntry), covers z 4 = false ∨ (z.catchType ≠ 0 ∧ ∃ nm : String, (Cond.classLink RL z.catchType nm).before ([Value.ref h, Value.int p0, Value.ref ao] : List Value).toArray s = true ∧ va_Nc "java/lang/IllegalStateException" nm s) := (fun z hz => by
          simp only [List.mem_cons, List.not_mem_nil, or_false] at hz
          rcases hz with rfl
          · exact Or.inr ⟨by decide, "java/lang/IndexOutOfBoundsException", hts (.classLink RL 13 "java/lang/IndexOutOfBoundsException") (by decide +kernel), hZ.2.2.1 ("java/lang/IllegalStateException", "java/lang/IndexOutOfBoundsException") (by decide)⟩)
      refine vx_catch (own := RL) (name := "java/lang/IllegalStateException") hown [⟨0, 16, 19, 13⟩] ⟨0, 16, 22, 17⟩ [] (htab.trans rfl) hps (by decide) (by decide) (hts (.classLink RL 17 "java/lang/IllegalStateException") (by decide +kernel)) (va_Nw.use rfl (hZ.1 (.castable "java/lang/IllegalStateException" "java/lang/IllegalStateException") (by decide))) hce hcv hcl ?_
      have hP := hP.kept (fun k q hk => hk9 q.1 (vx_lt hP hk))
      refine lv_astore_n (lv' := [(3, .ref q9), (0, .ref h), (1, .int p0), (2, .ref ao)]) hx hb dL_prove_22 rfl hl (by decide) rfl (fun ls hl => ?_)
      refine lv_iconst (v := 2) hx hb dL_prove_23 (by decide) ?_
      refine vx_ret ?_
      exact W.iret (v := 2) hx hb hr (fun t ht hW => ⟨⟨2, ⟨f8, g⟩, rfl, ⟨by simp [q_up, q_us, q_uA, q_prK, hi, hm], by simp [q_up, q_us, q_uA, q_prK, hi, hm], fun hz9 => absurd hz9 (by simp [q_up, q_us, q_uA, q_prK, hi, hm])⟩, ⟨by rw [ht]; exact hP, va_K.moved hW.alike hK, hD⟩⟩, hS.F ht⟩) hS.2.2 dL_prove_24
    · skip
      have hFc := va_free (wc := wQ cI cZ h a0 a1 a2 a3 a4 a5 a6 a7 a8 a9 a10 f0 f1 f2 f3 f4 f5 f6 f7 f8 f9 f10 v0 v1 v2 v3) hD hS hA [1, 2, 3, 4, 5, 6, 7, 8, 9, 10, 11, 12] rfl
      refine va_calli (va_runV (As := [.int p0]) (rest := [.int 0, .ref ao]) ⟨hx, hb, hml, hown, hts⟩ (c_X0_prove l D cI cZ cJ s.heap.size h a0 a1 a2 a3 a4 a5 a6 a7 a8 a9 a10 f0 f1 f2 f3 f4 f5 f6 f7 f8 f9 f10 v0 v1 v2 v3 p0 (z_prin (iv_v0 hI) hi) hb9.2 hm) (cwV 1 hts gL_prove_X0_prove rfl rfl rfl (by decide +kernel) ⟨Nat.le_of_ble_eq_true rfl, Nat.le_of_ble_eq_true rfl⟩) ⟨zD_blind, va_recv hK hPc (ci := 0) (q0 := 0) rfl rfl, fun U hU hW => ⟨rfl, zD_mk hPc hK hDc hU hW⟩⟩ rfl rfl hl.1 rfl (lv_room (Nat.le_of_ble_eq_true rfl)) dL_prove_4 ⟨Nat.le_of_ble_eq_true rfl, Nat.le_of_ble_eq_true rfl⟩) hS (fun q _ h => hFc q h) hFc (fun r9 u9 t H1 locs ht hvm w9 hB hz1 hk1 hS => ?_)
      obtain ⟨hP1, hK1, hD1⟩ := hB
      rw [ht] at hP1
      generalize H1 = H at hP1 hS hk1 ⊢
      try dsimp only at w9
      obtain ⟨w9, e9_0⟩ := w9
      obtain ⟨hP, hD⟩ := va_join (wr := wO cJ ao g) hP hD [1, 2, 3, 4, 5, 6, 7, 8, 9, 10, 11, 12] [0] rfl rfl (by decide) (by decide) hk1 hFc hP1 hD1
      subst e9_0
      have hP : va_P D vwCl (wO cJ ao g ++ wQ cI cZ h a0 a1 a2 a3 a4 a5 a6 a7 a8 a9 a10 f0 f1 f2 f3 f4 f5 f6 f7 (upd f8 p0.toNatClampNeg (q_tog (f8 p0.toNatClampNeg))) f9 f10 v0 v1 v2 v3) H := hP
      have hD : va_D A (wO cJ ao g ++ wQ cI cZ h a0 a1 a2 a3 a4 a5 a6 a7 a8 a9 a10 f0 f1 f2 f3 f4 f5 f6 f7 (upd f8 p0.toNatClampNeg (q_tog (f8 p0.toNatClampNeg))) f9 f10 v0 v1 v2 v3) := hD
      refine lv_if_eq (tgt := 14) hx hb dL_prove_7 (by decide) (fun c9 => ?_) (fun c9 => ?_)
      · skip
        refine lv_lconst (v := 0) hx hb dL_prove_14 (by decide) ?_
        refine va_last (D := D) hx hb hK hP hD hS 0 2 rfl rfl (show vp_in 0 1 from vp_in_nI (n := 0) (by decide) (by decide)) dL_prove_15 (fun H locs hP hD hS => ?_)
        have hP : va_P D vwCl (wO cJ ao (vp_updL g (0 : Int32).toNatClampNeg (0)) ++ wQ cI cZ h a0 a1 a2 a3 a4 a5 a6 a7 a8 a9 a10 f0 f1 f2 f3 f4 f5 f6 f7 (upd f8 p0.toNatClampNeg (q_tog (f8 p0.toNatClampNeg))) f9 f10 v0 v1 v2 v3) H := hP
        have hD : va_D A (wO cJ ao (vp_updL g (0 : Int32).toNatClampNeg (0)) ++ wQ cI cZ h a0 a1 a2 a3 a4 a5 a6 a7 a8 a9 a10 f0 f1 f2 f3 f4 f5 f6 f7 (upd f8 p0.toNatClampNeg (q_tog (f8 p0.toNatClampNeg))) f9 f10 v0 v1 v2 v3) := hD
        refine lv_goto (tgt := 25) hx hb dL_prove_16 (by decide) ?_
        refine lv_iconst (v := 0) hx hb dL_prove_25 (by decide) ?_
        refine vx_ret ?_
        refine W.widen (k := 1) (n := 6) (by omega) (by omega) ?_
        exact W.iret (v := 0) hx hb hr (fun t ht hW => ⟨⟨0, ⟨(upd f8 p0.toNatClampNeg (q_tog (f8 p0.toNatClampNeg))), (vp_updL g (0 : Int32).toNatClampNeg (0))⟩, rfl, ⟨by simp [q_up, q_us, q_uA, q_prK, hi, hm], by simp [q_up, q_us, q_uA, q_prK, hi, hm], fun _ => by rw [← w9, c9]; rfl⟩, ⟨by rw [ht]; exact hP, va_K.moved hW.alike hK, hD⟩⟩, hS.F ht⟩) hS.2.2 dL_prove_26
      · skip
        refine lv_lconst (v := 1) hx hb dL_prove_10 (by decide) ?_
        refine lv_goto (tgt := 15) hx hb dL_prove_11 (by decide) ?_
        refine va_last (D := D) hx hb hK hP hD hS 0 2 rfl rfl (show vp_in 0 1 from vp_in_nI (n := 0) (by decide) (by decide)) dL_prove_15 (fun H locs hP hD hS => ?_)
        have hP : va_P D vwCl (wO cJ ao (vp_updL g (0 : Int32).toNatClampNeg (1)) ++ wQ cI cZ h a0 a1 a2 a3 a4 a5 a6 a7 a8 a9 a10 f0 f1 f2 f3 f4 f5 f6 f7 (upd f8 p0.toNatClampNeg (q_tog (f8 p0.toNatClampNeg))) f9 f10 v0 v1 v2 v3) H := hP
        have hD : va_D A (wO cJ ao (vp_updL g (0 : Int32).toNatClampNeg (1)) ++ wQ cI cZ h a0 a1 a2 a3 a4 a5 a6 a7 a8 a9 a10 f0 f1 f2 f3 f4 f5 f6 f7 (upd f8 p0.toNatClampNeg (q_tog (f8 p0.toNatClampNeg))) f9 f10 v0 v1 v2 v3) := hD
        refine lv_goto (tgt := 25) hx hb dL_prove_16 (by decide) ?_
        refine lv_iconst (v := 0) hx hb dL_prove_25 (by decide) ?_
        refine vx_ret ?_
        refine W.widen (k := 1) (n := 6) (by omega) (by omega) ?_
        exact W.iret (v := 0) hx hb hr (fun t ht hW => ⟨⟨0, ⟨(upd f8 p0.toNatClampNeg (q_tog (f8 p0.toNatClampNeg))), (vp_updL g (0 : Int32).toNatClampNeg (1))⟩, rfl, ⟨by simp [q_up, q_us, q_uA, q_prK, hi, hm], by simp [q_up, q_us, q_uA, q_prK, hi, hm], fun _ => by rw [← w9, show r9 = 1 from (by rw [w9] at c9 ⊢; exact z_tog1 c9)]; rfl⟩, ⟨by rw [ht]; exact hP, va_K.moved hW.alike hK, hD⟩⟩, hS.F ht⟩) hS.2.2 dL_prove_26
set_option maxHeartbeats 4000000 in
set_option maxRecDepth 100000 in
theorem c_L_vote (l : Launch) (hl0 : l.stackTraces = false) (D : va_G) (cI cZ cJ : ClassId) (sz : Nat) (h a0 a1 a2 a3 a4 a5 a6 a7 a8 a9 a10 : Nat) (f0 f1 f2 f3 f4 f5 f6 f7 f8 f9 f10 : Nat → Int32) (v0 v1 v2 v3 : Int32) (ao : Nat) (g : Nat → Int64) (p0 p1 : Int32) (hI : q_IV f0 f1 f2 f3 f4 f7 f8 v0 v1 v2) : vx_Met l yL_vote wsL_vote ({ frames := 8, cells := 1, slots := 6, locals := 133 }) (va_Pc [.ref h, .int p0, .int p1, .ref ao] (zDX D cI cZ cJ sz (wO cJ ao g ++ wQ cI cZ h a0 a1 a2 a3 a4 a5 a6 a7 a8 a9 a10 f0 f1 f2 f3 f4 f5 f6 f7 f8 f9 f10 v0 v1 v2 v3))) (va_Qi (fun (r : Int32) (u : (Nat → Int32) × (Nat → Int64)) => r = q_voK v0 v1 p0 p1 ∧ u.1 = q_up (q_voK v0 v1 p0 p1) f6 p0.toNatClampNeg p1 ∧ (q_voK v0 v1 p0 p1 = 0 → u.2 0 = (f6 p0.toNatClampNeg).toInt64)) (fun u t => zB D cI cZ cJ (va_A (wO cJ ao g ++ wQ cI cZ h a0 a1 a2 a3 a4 a5 a6 a7 a8 a9 a10 f0 f1 f2 f3 f4 f5 f6 f7 f8 f9 f10 v0 v1 v2 v3) sz) (wO cJ ao (u.2) ++ wQ cI cZ h a0 a1 a2 a3 a4 a5 a6 a7 a8 a9 a10 f0 f1 f2 f3 f4 f5 u.1 f7 f8 f9 f10 v0 v1 v2 v3) t) (va_A (wO cJ ao g ++ wQ cI cZ h a0 a1 a2 a3 a4 a5 a6 a7 a8 a9 a10 f0 f1 f2 f3 f4 f5 f6 f7 f8 f9 f10 v0 v1 v2 v3) sz)) (zXC (fun _ => False)) 1 6 (va_A (wO cJ ao g ++ wQ cI cZ h a0 a1 a2 a3 a4 a5 a6 a7 a8 a9 a10 f0 f1 f2 f3 f4 f5 f6 f7 f8 f9 f10 v0 v1 v2 v3) sz) := by
  refine vx_ofWH (cc := cL_vote) (maxL := 5) (ret := (some .int)) (hh := [(0, 10, 13, 13), (0, 10, 17, 15), (0, 10, 21, 17)]) (by decide) rfl ?_
  intro p e s m args below meth c s₁ B hml hv
  obtain ⟨rfl, hZ, hsz, hP, hK, hD0⟩ := hv
  have hx := B.exec
  have hb := B.bytes
  have hr := B.returns
  have hts := atoms_spec (ws := wsL_vote) B.pre
  have htab := vx_table (x := yL_vote) B (hts _ List.mem_cons_self)
  have hown : s.vm.findClass RL = some m.cls := findClass_of_methodNamed B.named
  have hlocks := B.notSynchronized
  subst hsz
  have hD := hD0.self (sz := s.heap.size)
  generalize hAe : va_A (wO cJ ao g ++ wQ cI cZ h a0 a1 a2 a3 a4 a5 a6 a7 a8 a9 a10 f0 f1 f2 f3 f4 f5 f6 f7 f8 f9 f10 v0 v1 v2 v3) s.heap.size = A at hD ⊢
  have hA : ∀ q : Nat, s.heap.size ≤ q → A q := fun q h => by rw [← hAe]; exact Or.inr h
  have hS : va_S A s.heap s.heap [] := va_S.rf
  have hl := lv_entry ([.ref h, .int p0, .int p1, .ref ao]) (n := 5) (Nat.le_of_ble_eq_true rfl)
  rw [lg_entry_eq]
  generalize (lg_sl ([.ref h, .int p0, .int p1, .ref ao]) ++ List.replicate (5 - (lg_sl ([.ref h, .int p0, .int p1, .ref ao])).length) Slot.unset).toArray = ls at hl ⊢
  have hl : lv_has ls 5 [(0, .ref h), (1, .int p0), (2, .int p1), (3, .ref ao)] := hl
  have hPc := hP.sub (ws' := wQ cI cZ h a0 a1 a2 a3 a4 a5 a6 a7 a8 a9 a10 f0 f1 f2 f3 f4 f5 f6 f7 f8 f9 f10 v0 v1 v2 v3) [1, 2, 3, 4, 5, 6, 7, 8, 9, 10, 11, 12] rfl
  have hDc := hD.sub (ws' := wQ cI cZ h a0 a1 a2 a3 a4 a5 a6 a7 a8 a9 a10 f0 f1 f2 f3 f4 f5 f6 f7 f8 f9 f10 v0 v1 v2 v3) [1, 2, 3, 4, 5, 6, 7, 8, 9, 10, 11, 12] (by decide) rfl
  refine lv_aload_n hx hb dL_vote_0 rfl (lv_at hl 3 rfl) ?_
  refine lv_iconst (v := 0) hx hb dL_vote_1 (by decide) ?_
  refine lv_aload_n hx hb dL_vote_2 rfl (lv_at hl 0 rfl) ?_
  refine lv_iload_n hx hb dL_vote_3 rfl (lv_at hl 1 rfl) ?_
  refine lv_iload_n hx hb dL_vote_4 rfl (lv_at hl 2 rfl) ?_
  cases hg : q_g p0
  · skip
    refine z_catch (vx_runV (As := [.int p0, .int p1]) (rest := [.int 0, .ref ao]) ⟨hx, hb, hml, hown, hts⟩ (c_X0_vote_t1 l hl0 D cI cZ cJ h a0 a1 a2 a3 a4 a5 a6 a7 a8 a9 a10 f0 f1 f2 f3 f4 f5 f6 f7 f8 f9 f10 v0 v1 v2 v3 p0 p1 hg) (cwV 2 hts gL_vote_X0_vote rfl rfl rfl (by decide +kernel) ⟨Nat.le_of_ble_eq_true rfl, Nat.le_of_ble_eq_true rfl⟩) ⟨zPX_blind, va_recv hK hPc (ci := 0) (q0 := 0) rfl rfl, fun U hU hW => ⟨rfl, zX_at hZ hU hW, zP_mk hPc hK hU hW⟩⟩ rfl rfl hl.1 rfl (lv_room (Nat.le_of_ble_eq_true rfl)) dL_vote_5 ⟨Nat.le_of_ble_eq_true rfl, Nat.le_of_ble_eq_true rfl⟩) (fun _ h => h) hS (fun E ce q9 H1 locs hE hk9 hS hce hcv hcl => ?_)
    subst hE
    have hps : ∀ z ∈ ([] : List ExceptionTableEntry), covers z 5 = false ∨ (z.catchType ≠ 0 ∧ ∃ nm : String, (Cond.classLink RL z.catchType nm).before ([Value.ref h, Value.int p0, Value.int p1, Value.ref ao] : List Value).toArray s = true ∧ va_Nc "java/lang/IndexOutOfBoundsException" nm s) := (fun z hz => nomatch hz)
    refine vx_catch (own := RL) (name := "java/lang/IndexOutOfBoundsException") hown [] ⟨0, 10, 13, 13⟩ [⟨0, 10, 17, 15⟩, ⟨0, 10, 21, 17⟩] (htab.trans rfl) hps (by decide) (by decide) (hts (.classLink RL 13 "java/lang/IndexOutOfBoundsException") (by decide +kernel)) (va_Nw.use rfl (hZ.1 (.castable "java/lang/IndexOutOfBoundsException" "java/lang/IndexOutOfBoundsException") (by decide))) hce hcv hcl ?_
    have hP := hP.kept (fun k q hk => hk9 q.1 (vx_lt hP hk))
    refine lv_astore (lv' := [(4, .ref q9), (0, .ref h), (1, .int p0), (2, .int p1), (3, .ref ao)]) hx hb dL_vote_13 hl (by decide) rfl (fun ls hl => ?_)
    refine lv_iconst (v := 1) hx hb dL_vote_15 (by decide) ?_
    refine vx_ret ?_
    exact W.iret (v := 1) hx hb hr (fun t ht hW => ⟨⟨1, ⟨f6, g⟩, rfl, ⟨by simp [q_up, q_us, q_uA, q_voK, hg], by simp [q_up, q_us, q_uA, q_voK, hg], fun hz9 => absurd hz9 (by simp [q_up, q_us, q_uA, q_voK, hg])⟩, ⟨by rw [ht]; exact hP, va_K.moved hW.alike hK, hD⟩⟩, hS.F ht⟩) hS.2.2 dL_vote_16
  · skip
    cases hi : q_i p1 0 2
    · skip
      refine z_catch (vx_runV (As := [.int p0, .int p1]) (rest := [.int 0, .ref ao]) ⟨hx, hb, hml, hown, hts⟩ (c_X0_vote_t2 l hl0 D cI cZ cJ h a0 a1 a2 a3 a4 a5 a6 a7 a8 a9 a10 f0 f1 f2 f3 f4 f5 f6 f7 f8 f9 f10 v0 v1 v2 v3 p0 p1 hg hi) (cwV 2 hts gL_vote_X0_vote rfl rfl rfl (by decide +kernel) ⟨Nat.le_of_ble_eq_true rfl, Nat.le_of_ble_eq_true rfl⟩) ⟨zPX_blind, va_recv hK hPc (ci := 0) (q0 := 0) rfl rfl, fun U hU hW => ⟨rfl, zX_at hZ hU hW, zP_mk hPc hK hU hW⟩⟩ rfl rfl hl.1 rfl (lv_room (Nat.le_of_ble_eq_true rfl)) dL_vote_5 ⟨Nat.le_of_ble_eq_true rfl, Nat.le_of_ble_eq_true rfl⟩) (fun _ h => h) hS (fun E ce q9 H1 locs hE hk9 hS hce hcv hcl => ?_)
      subst hE
      have hps : ∀ z ∈ ([⟨0, 10, 13, 13⟩] : List ExceptionTableEntry), covers z 5 = false ∨ (z.catchType ≠ 0 ∧ ∃ nm : String, (Cond.classLink RL z.catchType nm).before ([Value.ref h, Value.int p0, Value.int p1, Value.ref ao] : List Value).toArray s = true ∧ va_Nc "java/lang/IllegalArgumentException" nm s) := (fun z hz => by
          simp only [List.mem_cons, List.not_mem_nil, or_false] at hz
          rcases hz with rfl
          · exact Or.inr ⟨by decide, "java/lang/IndexOutOfBoundsException", hts (.classLink RL 13 "java/lang/IndexOutOfBoundsException") (by decide +kernel), hZ.2.2.1 ("java/lang/IllegalArgumentException", "java/lang/IndexOutOfBoundsException") (by decide)⟩)
      refine vx_catch (own := RL) (name := "java/lang/IllegalArgumentException") hown [⟨0, 10, 13, 13⟩] ⟨0, 10, 17, 15⟩ [⟨0, 10, 21, 17⟩] (htab.trans rfl) hps (by decide) (by decide) (hts (.classLink RL 15 "java/lang/IllegalArgumentException") (by decide +kernel)) (va_Nw.use rfl (hZ.1 (.castable "java/lang/IllegalArgumentException" "java/lang/IllegalArgumentException") (by decide))) hce hcv hcl ?_
      have hP := hP.kept (fun k q hk => hk9 q.1 (vx_lt hP hk))
      refine lv_astore (lv' := [(4, .ref q9), (0, .ref h), (1, .int p0), (2, .int p1), (3, .ref ao)]) hx hb dL_vote_17 hl (by decide) rfl (fun ls hl => ?_)
      refine lv_iconst (v := 2) hx hb dL_vote_19 (by decide) ?_
      refine vx_ret ?_
      exact W.iret (v := 2) hx hb hr (fun t ht hW => ⟨⟨2, ⟨f6, g⟩, rfl, ⟨by simp [q_up, q_us, q_uA, q_voK, hg, hi], by simp [q_up, q_us, q_uA, q_voK, hg, hi], fun hz9 => absurd hz9 (by simp [q_up, q_us, q_uA, q_voK, hg, hi])⟩, ⟨by rw [ht]; exact hP, va_K.moved hW.alike hK, hD⟩⟩, hS.F ht⟩) hS.2.2 dL_vote_20
    · skip
      by_cases hm : v1 < v0
      · skip
        have hFc := va_free (wc := wQ cI cZ h a0 a1 a2 a3 a4 a5 a6 a7 a8 a9 a10 f0 f1 f2 f3 f4 f5 f6 f7 f8 f9 f10 v0 v1 v2 v3) hD hS hA [1, 2, 3, 4, 5, 6, 7, 8, 9, 10, 11, 12] rfl
        refine va_calli (va_runV (As := [.int p0, .int p1]) (rest := [.int 0, .ref ao]) ⟨hx, hb, hml, hown, hts⟩ (c_X0_vote l D cI cZ cJ s.heap.size h a0 a1 a2 a3 a4 a5 a6 a7 a8 a9 a10 f0 f1 f2 f3 f4 f5 f6 f7 f8 f9 f10 v0 v1 v2 v3 p0 p1 hg hi (fun z => (iv_cur hI).mp z hm)) (cwV 2 hts gL_vote_X0_vote rfl rfl rfl (by decide +kernel) ⟨Nat.le_of_ble_eq_true rfl, Nat.le_of_ble_eq_true rfl⟩) ⟨zD_blind, va_recv hK hPc (ci := 0) (q0 := 0) rfl rfl, fun U hU hW => ⟨rfl, zD_mk hPc hK hDc hU hW⟩⟩ rfl rfl hl.1 rfl (lv_room (Nat.le_of_ble_eq_true rfl)) dL_vote_5 ⟨Nat.le_of_ble_eq_true rfl, Nat.le_of_ble_eq_true rfl⟩) hS (fun q _ h => hFc q h) hFc (fun r9 u9 t H1 locs ht hvm w9 hB hz1 hk1 hS => ?_)
        obtain ⟨hP1, hK1, hD1⟩ := hB
        rw [ht] at hP1
        generalize H1 = H at hP1 hS hk1 ⊢
        try dsimp only at w9
        obtain ⟨w9, e9_0⟩ := w9
        obtain ⟨hP, hD⟩ := va_join (wr := wO cJ ao g) hP hD [1, 2, 3, 4, 5, 6, 7, 8, 9, 10, 11, 12] [0] rfl rfl (by decide) (by decide) hk1 hFc hP1 hD1
        subst e9_0
        have hP : va_P D vwCl (wO cJ ao g ++ wQ cI cZ h a0 a1 a2 a3 a4 a5 a6 a7 a8 a9 a10 f0 f1 f2 f3 f4 f5 (upd f6 p0.toNatClampNeg p1) f7 f8 f9 f10 v0 v1 v2 v3) H := hP
        have hD : va_D A (wO cJ ao g ++ wQ cI cZ h a0 a1 a2 a3 a4 a5 a6 a7 a8 a9 a10 f0 f1 f2 f3 f4 f5 (upd f6 p0.toNatClampNeg p1) f7 f8 f9 f10 v0 v1 v2 v3) := hD
        refine lv_i2l (v := r9.toInt64) hx hb dL_vote_8 rfl ?_
        refine va_last (D := D) hx hb hK hP hD hS 0 2 rfl rfl (show vp_in 0 1 from vp_in_nI (n := 0) (by decide) (by decide)) dL_vote_9 (fun H locs hP hD hS => ?_)
        have hP : va_P D vwCl (wO cJ ao (vp_updL g (0 : Int32).toNatClampNeg (r9.toInt64)) ++ wQ cI cZ h a0 a1 a2 a3 a4 a5 a6 a7 a8 a9 a10 f0 f1 f2 f3 f4 f5 (upd f6 p0.toNatClampNeg p1) f7 f8 f9 f10 v0 v1 v2 v3) H := hP
        have hD : va_D A (wO cJ ao (vp_updL g (0 : Int32).toNatClampNeg (r9.toInt64)) ++ wQ cI cZ h a0 a1 a2 a3 a4 a5 a6 a7 a8 a9 a10 f0 f1 f2 f3 f4 f5 (upd f6 p0.toNatClampNeg p1) f7 f8 f9 f10 v0 v1 v2 v3) := hD
        refine lv_goto (tgt := 25) hx hb dL_vote_10 (by decide) ?_
        refine lv_iconst (v := 0) hx hb dL_vote_25 (by decide) ?_
        refine vx_ret ?_
        refine W.widen (k := 1) (n := 6) (by omega) (by omega) ?_
        exact W.iret (v := 0) hx hb hr (fun t ht hW => ⟨⟨0, ⟨(upd f6 p0.toNatClampNeg p1), (vp_updL g (0 : Int32).toNatClampNeg (r9.toInt64))⟩, rfl, ⟨by simp [q_up, q_us, q_uA, q_voK, hg, hi, hm], by simp [q_up, q_us, q_uA, q_voK, hg, hi, hm], fun _ => by rw [w9]; rfl⟩, ⟨by rw [ht]; exact hP, va_K.moved hW.alike hK, hD⟩⟩, hS.F ht⟩) hS.2.2 dL_vote_26
      · skip
        refine z_catch (vx_runV (As := [.int p0, .int p1]) (rest := [.int 0, .ref ao]) ⟨hx, hb, hml, hown, hts⟩ (c_X0_vote_t3 l hl0 D cI cZ cJ h a0 a1 a2 a3 a4 a5 a6 a7 a8 a9 a10 f0 f1 f2 f3 f4 f5 f6 f7 f8 f9 f10 v0 v1 v2 v3 p0 p1 hg hi ((iv_cur hI).mpr hm)) (cwV 2 hts gL_vote_X0_vote rfl rfl rfl (by decide +kernel) ⟨Nat.le_of_ble_eq_true rfl, Nat.le_of_ble_eq_true rfl⟩) ⟨zPX_blind, va_recv hK hPc (ci := 0) (q0 := 0) rfl rfl, fun U hU hW => ⟨rfl, zX_at hZ hU hW, zP_mk hPc hK hU hW⟩⟩ rfl rfl hl.1 rfl (lv_room (Nat.le_of_ble_eq_true rfl)) dL_vote_5 ⟨Nat.le_of_ble_eq_true rfl, Nat.le_of_ble_eq_true rfl⟩) (fun _ h => h) hS (fun E ce q9 H1 locs hE hk9 hS hce hcv hcl => ?_)
        subst hE
        have hps : ∀ z ∈ ([⟨0, 10, 13, 13⟩, ⟨0, 10, 17, 15⟩] : List ExceptionTableEntry), covers z 5 = false ∨ (z.catchType ≠ 0 ∧ ∃ nm : String, (Cond.classLink RL z.catchType nm).before ([Value.ref h, Value.int p0, Value.int p1, Value.ref ao] : List Value).toArray s = true ∧ va_Nc "java/lang/IllegalStateException" nm s) := (fun z hz => by
            simp only [List.mem_cons, List.not_mem_nil, or_false] at hz
            rcases hz with rfl | rfl
            · exact Or.inr ⟨by decide, "java/lang/IndexOutOfBoundsException", hts (.classLink RL 13 "java/lang/IndexOutOfBoundsException") (by decide +kernel), hZ.2.2.1 ("java/lang/IllegalStateException", "java/lang/IndexOutOfBoundsException") (by decide)⟩
            · exact Or.inr ⟨by decide, "java/lang/IllegalArgumentException", hts (.classLink RL 15 "java/lang/IllegalArgumentException") (by decide +kernel), hZ.2.2.1 ("java/lang/IllegalStateException", "java/lang/IllegalArgumentException") (by decide)⟩)
        refine vx_catch (own := RL) (name := "java/lang/IllegalStateException") hown [⟨0, 10, 13, 13⟩, ⟨0, 10, 17, 15⟩] ⟨0, 10, 21, 17⟩ [] (htab.trans rfl) hps (by decide) (by decide) (hts (.classLink RL 17 "java/lang/IllegalStateException") (by decide +kernel)) (va_Nw.use rfl (hZ.1 (.castable "java/lang/IllegalStateException" "java/lang/IllegalStateException") (by decide))) hce hcv hcl ?_
        have hP := hP.kept (fun k q hk => hk9 q.1 (vx_lt hP hk))
        refine lv_astore (lv' := [(4, .ref q9), (0, .ref h), (1, .int p0), (2, .int p1), (3, .ref ao)]) hx hb dL_vote_21 hl (by decide) rfl (fun ls hl => ?_)
        refine lv_iconst (v := 3) hx hb dL_vote_23 (by decide) ?_
        refine vx_ret ?_
        exact W.iret (v := 3) hx hb hr (fun t ht hW => ⟨⟨3, ⟨f6, g⟩, rfl, ⟨by simp [q_up, q_us, q_uA, q_voK, hg, hi, hm], by simp [q_up, q_us, q_uA, q_voK, hg, hi, hm], fun hz9 => absurd hz9 (by simp [q_up, q_us, q_uA, q_voK, hg, hi, hm])⟩, ⟨by rw [ht]; exact hP, va_K.moved hW.alike hK, hD⟩⟩, hS.F ht⟩) hS.2.2 dL_vote_24
set_option maxHeartbeats 4000000 in
set_option maxRecDepth 100000 in
theorem c_L_speaker (l : Launch) (hl0 : l.stackTraces = false) (D : va_G) (cI cZ cJ : ClassId) (sz : Nat) (h a0 a1 a2 a3 a4 a5 a6 a7 a8 a9 a10 : Nat) (f0 f1 f2 f3 f4 f5 f6 f7 f8 f9 f10 : Nat → Int32) (v0 v1 v2 v3 : Int32) (ao : Nat) (g : Nat → Int64) (p0 : Int32) (hI : q_IV f0 f1 f2 f3 f4 f7 f8 v0 v1 v2) : vx_Met l yL_speaker wsL_speaker ({ frames := 8, cells := 1, slots := 6, locals := 131 }) (va_Pc [.ref h, .int p0, .ref ao] (zDX D cI cZ cJ sz (wO cJ ao g ++ wQ cI cZ h a0 a1 a2 a3 a4 a5 a6 a7 a8 a9 a10 f0 f1 f2 f3 f4 f5 f6 f7 f8 f9 f10 v0 v1 v2 v3))) (va_Qi (fun (r : Int32) (u : (Nat → Int64)) => r = q_gK p0 ∧ (q_gK p0 = 0 → u 0 = (q_spk f4 f6 8 p0).toInt64)) (fun u t => zB D cI cZ cJ (va_A (wO cJ ao g ++ wQ cI cZ h a0 a1 a2 a3 a4 a5 a6 a7 a8 a9 a10 f0 f1 f2 f3 f4 f5 f6 f7 f8 f9 f10 v0 v1 v2 v3) sz) (wO cJ ao (u) ++ wQ cI cZ h a0 a1 a2 a3 a4 a5 a6 a7 a8 a9 a10 f0 f1 f2 f3 f4 f5 f6 f7 f8 f9 f10 v0 v1 v2 v3) t) (va_A (wO cJ ao g ++ wQ cI cZ h a0 a1 a2 a3 a4 a5 a6 a7 a8 a9 a10 f0 f1 f2 f3 f4 f5 f6 f7 f8 f9 f10 v0 v1 v2 v3) sz)) (zXC (fun _ => False)) 1 6 (va_A (wO cJ ao g ++ wQ cI cZ h a0 a1 a2 a3 a4 a5 a6 a7 a8 a9 a10 f0 f1 f2 f3 f4 f5 f6 f7 f8 f9 f10 v0 v1 v2 v3) sz) := by
  refine vx_ofWH (cc := cL_speaker) (maxL := 4) (ret := (some .int)) (hh := [(0, 9, 12, 13)]) (by decide) rfl ?_
  intro p e s m args below meth c s₁ B hml hv
  obtain ⟨rfl, hZ, hsz, hP, hK, hD0⟩ := hv
  have hx := B.exec
  have hb := B.bytes
  have hr := B.returns
  have hts := atoms_spec (ws := wsL_speaker) B.pre
  have htab := vx_table (x := yL_speaker) B (hts _ List.mem_cons_self)
  have hown : s.vm.findClass RL = some m.cls := findClass_of_methodNamed B.named
  have hlocks := B.notSynchronized
  subst hsz
  have hD := hD0.self (sz := s.heap.size)
  generalize hAe : va_A (wO cJ ao g ++ wQ cI cZ h a0 a1 a2 a3 a4 a5 a6 a7 a8 a9 a10 f0 f1 f2 f3 f4 f5 f6 f7 f8 f9 f10 v0 v1 v2 v3) s.heap.size = A at hD ⊢
  have hA : ∀ q : Nat, s.heap.size ≤ q → A q := fun q h => by rw [← hAe]; exact Or.inr h
  have hS : va_S A s.heap s.heap [] := va_S.rf
  have hl := lv_entry ([.ref h, .int p0, .ref ao]) (n := 4) (Nat.le_of_ble_eq_true rfl)
  rw [lg_entry_eq]
  generalize (lg_sl ([.ref h, .int p0, .ref ao]) ++ List.replicate (4 - (lg_sl ([.ref h, .int p0, .ref ao])).length) Slot.unset).toArray = ls at hl ⊢
  have hl : lv_has ls 4 [(0, .ref h), (1, .int p0), (2, .ref ao)] := hl
  have hPc := hP.sub (ws' := wQ cI cZ h a0 a1 a2 a3 a4 a5 a6 a7 a8 a9 a10 f0 f1 f2 f3 f4 f5 f6 f7 f8 f9 f10 v0 v1 v2 v3) [1, 2, 3, 4, 5, 6, 7, 8, 9, 10, 11, 12] rfl
  have hDc := hD.sub (ws' := wQ cI cZ h a0 a1 a2 a3 a4 a5 a6 a7 a8 a9 a10 f0 f1 f2 f3 f4 f5 f6 f7 f8 f9 f10 v0 v1 v2 v3) [1, 2, 3, 4, 5, 6, 7, 8, 9, 10, 11, 12] (by decide) rfl
  refine lv_aload_n hx hb dL_speaker_0 rfl (lv_at hl 2 rfl) ?_
  refine lv_iconst (v := 0) hx hb dL_speaker_1 (by decide) ?_
  refine lv_aload_n hx hb dL_speaker_2 rfl (lv_at hl 0 rfl) ?_
  refine lv_iload_n hx hb dL_speaker_3 rfl (lv_at hl 1 rfl) ?_
  cases hg : q_g p0
  · skip
    refine z_catch (vx_runV (As := [.int p0]) (rest := [.int 0, .ref ao]) ⟨hx, hb, hml, hown, hts⟩ (c_X0_speaker_t l hl0 D cI cZ cJ h a0 a1 a2 a3 a4 a5 a6 a7 a8 a9 a10 f0 f1 f2 f3 f4 f5 f6 f7 f8 f9 f10 v0 v1 v2 v3 p0 hg) (cwV 1 hts gL_speaker_X0_speaker rfl rfl rfl (by decide +kernel) ⟨Nat.le_of_ble_eq_true rfl, Nat.le_of_ble_eq_true rfl⟩) ⟨zPX_blind, va_recv hK hPc (ci := 0) (q0 := 0) rfl rfl, fun U hU hW => ⟨rfl, zX_at hZ hU hW, zP_mk hPc hK hU hW⟩⟩ rfl rfl hl.1 rfl (lv_room (Nat.le_of_ble_eq_true rfl)) dL_speaker_4 ⟨Nat.le_of_ble_eq_true rfl, Nat.le_of_ble_eq_true rfl⟩) (fun _ h => h) hS (fun E ce q9 H1 locs hE hk9 hS hce hcv hcl => ?_)
    subst hE
    have hps : ∀ z ∈ ([] : List ExceptionTableEntry), covers z 4 = false ∨ (z.catchType ≠ 0 ∧ ∃ nm : String, (Cond.classLink RL z.catchType nm).before ([Value.ref h, Value.int p0, Value.ref ao] : List Value).toArray s = true ∧ va_Nc "java/lang/IndexOutOfBoundsException" nm s) := (fun z hz => nomatch hz)
    refine vx_catch (own := RL) (name := "java/lang/IndexOutOfBoundsException") hown [] ⟨0, 9, 12, 13⟩ [] (htab.trans rfl) hps (by decide) (by decide) (hts (.classLink RL 13 "java/lang/IndexOutOfBoundsException") (by decide +kernel)) (va_Nw.use rfl (hZ.1 (.castable "java/lang/IndexOutOfBoundsException" "java/lang/IndexOutOfBoundsException") (by decide))) hce hcv hcl ?_
    have hP := hP.kept (fun k q hk => hk9 q.1 (vx_lt hP hk))
    refine lv_astore_n (lv' := [(3, .ref q9), (0, .ref h), (1, .int p0), (2, .ref ao)]) hx hb dL_speaker_12 rfl hl (by decide) rfl (fun ls hl => ?_)
    refine lv_iconst (v := 1) hx hb dL_speaker_13 (by decide) ?_
    refine vx_ret ?_
    exact W.iret (v := 1) hx hb hr (fun t ht hW => ⟨⟨1, g, rfl, ⟨by simp [q_up, q_us, q_uA, q_gK, hg], fun hz9 => absurd hz9 (by simp [q_up, q_us, q_uA, q_gK, hg])⟩, ⟨by rw [ht]; exact hP, va_K.moved hW.alike hK, hD⟩⟩, hS.F ht⟩) hS.2.2 dL_speaker_14
  · skip
    refine vp_callSi (W.runV (As := [.int p0]) (rest := [.int 0, .ref ao]) ⟨hx, hb, hml, hown, hts⟩ (c_X0_speaker l D cI cZ cJ h a0 a1 a2 a3 a4 a5 a6 a7 a8 a9 a10 f0 f1 f2 f3 f4 f5 f6 f7 f8 f9 f10 v0 v1 v2 v3 p0 hg) (cwV 1 hts gL_speaker_X0_speaker rfl rfl rfl (by decide +kernel) ⟨Nat.le_of_ble_eq_true rfl, Nat.le_of_ble_eq_true rfl⟩) ⟨zP_blind, va_recv hK hPc (ci := 0) (q0 := 0) rfl rfl, fun U hU hW => ⟨rfl, zP_mk hPc hK hU hW⟩⟩ rfl rfl hl.1 rfl (lv_room (Nat.le_of_ble_eq_true rfl)) dL_speaker_4 ⟨Nat.le_of_ble_eq_true rfl, Nat.le_of_ble_eq_true rfl⟩) (fun r9 w9 => ?_)
    refine lv_i2l (v := r9.toInt64) hx hb dL_speaker_7 rfl ?_
    refine va_last (D := D) hx hb hK hP hD hS 0 2 rfl rfl (show vp_in 0 1 from vp_in_nI (n := 0) (by decide) (by decide)) dL_speaker_8 (fun H locs hP hD hS => ?_)
    have hP : va_P D vwCl (wO cJ ao (vp_updL g (0 : Int32).toNatClampNeg (r9.toInt64)) ++ wQ cI cZ h a0 a1 a2 a3 a4 a5 a6 a7 a8 a9 a10 f0 f1 f2 f3 f4 f5 f6 f7 f8 f9 f10 v0 v1 v2 v3) H := hP
    have hD : va_D A (wO cJ ao (vp_updL g (0 : Int32).toNatClampNeg (r9.toInt64)) ++ wQ cI cZ h a0 a1 a2 a3 a4 a5 a6 a7 a8 a9 a10 f0 f1 f2 f3 f4 f5 f6 f7 f8 f9 f10 v0 v1 v2 v3) := hD
    refine lv_goto (tgt := 15) hx hb dL_speaker_9 (by decide) ?_
    refine lv_iconst (v := 0) hx hb dL_speaker_15 (by decide) ?_
    refine vx_ret ?_
    refine W.widen (k := 1) (n := 6) (by omega) (by omega) ?_
    exact W.iret (v := 0) hx hb hr (fun t ht hW => ⟨⟨0, (vp_updL g (0 : Int32).toNatClampNeg (r9.toInt64)), rfl, ⟨by simp [q_up, q_us, q_uA, q_gK, hg], fun _ => by rw [w9]; rfl⟩, ⟨by rw [ht]; exact hP, va_K.moved hW.alike hK, hD⟩⟩, hS.F ht⟩) hS.2.2 dL_speaker_16
set_option maxHeartbeats 4000000 in
set_option maxRecDepth 100000 in
theorem c_L_weight (l : Launch) (hl0 : l.stackTraces = false) (D : va_G) (cI cZ cJ : ClassId) (sz : Nat) (h a0 a1 a2 a3 a4 a5 a6 a7 a8 a9 a10 : Nat) (f0 f1 f2 f3 f4 f5 f6 f7 f8 f9 f10 : Nat → Int32) (v0 v1 v2 v3 : Int32) (ao : Nat) (g : Nat → Int64) (p0 : Int32) (hI : q_IV f0 f1 f2 f3 f4 f7 f8 v0 v1 v2) : vx_Met l yL_weight wsL_weight ({ frames := 7, cells := 1, slots := 6, locals := 113 }) (va_Pc [.ref h, .int p0, .ref ao] (zDX D cI cZ cJ sz (wO cJ ao g ++ wQ cI cZ h a0 a1 a2 a3 a4 a5 a6 a7 a8 a9 a10 f0 f1 f2 f3 f4 f5 f6 f7 f8 f9 f10 v0 v1 v2 v3))) (va_Qi (fun (r : Int32) (u : (Nat → Int64)) => r = q_wK p0 ∧ (q_wK p0 = 0 → u 0 = (q_wt f0 f4 f6 p0 8).toInt64)) (fun u t => zB D cI cZ cJ (va_A (wO cJ ao g ++ wQ cI cZ h a0 a1 a2 a3 a4 a5 a6 a7 a8 a9 a10 f0 f1 f2 f3 f4 f5 f6 f7 f8 f9 f10 v0 v1 v2 v3) sz) (wO cJ ao (u) ++ wQ cI cZ h a0 a1 a2 a3 a4 a5 a6 a7 a8 a9 a10 f0 f1 f2 f3 f4 f5 f6 f7 f8 f9 f10 v0 v1 v2 v3) t) (va_A (wO cJ ao g ++ wQ cI cZ h a0 a1 a2 a3 a4 a5 a6 a7 a8 a9 a10 f0 f1 f2 f3 f4 f5 f6 f7 f8 f9 f10 v0 v1 v2 v3) sz)) (zXC (fun _ => False)) 1 6 (va_A (wO cJ ao g ++ wQ cI cZ h a0 a1 a2 a3 a4 a5 a6 a7 a8 a9 a10 f0 f1 f2 f3 f4 f5 f6 f7 f8 f9 f10 v0 v1 v2 v3) sz) := by
  refine vx_ofWH (cc := cL_weight) (maxL := 4) (ret := (some .int)) (hh := [(0, 9, 12, 15)]) (by decide) rfl ?_
  intro p e s m args below meth c s₁ B hml hv
  obtain ⟨rfl, hZ, hsz, hP, hK, hD0⟩ := hv
  have hx := B.exec
  have hb := B.bytes
  have hr := B.returns
  have hts := atoms_spec (ws := wsL_weight) B.pre
  have htab := vx_table (x := yL_weight) B (hts _ List.mem_cons_self)
  have hown : s.vm.findClass RL = some m.cls := findClass_of_methodNamed B.named
  have hlocks := B.notSynchronized
  subst hsz
  have hD := hD0.self (sz := s.heap.size)
  generalize hAe : va_A (wO cJ ao g ++ wQ cI cZ h a0 a1 a2 a3 a4 a5 a6 a7 a8 a9 a10 f0 f1 f2 f3 f4 f5 f6 f7 f8 f9 f10 v0 v1 v2 v3) s.heap.size = A at hD ⊢
  have hA : ∀ q : Nat, s.heap.size ≤ q → A q := fun q h => by rw [← hAe]; exact Or.inr h
  have hS : va_S A s.heap s.heap [] := va_S.rf
  have hl := lv_entry ([.ref h, .int p0, .ref ao]) (n := 4) (Nat.le_of_ble_eq_true rfl)
  rw [lg_entry_eq]
  generalize (lg_sl ([.ref h, .int p0, .ref ao]) ++ List.replicate (4 - (lg_sl ([.ref h, .int p0, .ref ao])).length) Slot.unset).toArray = ls at hl ⊢
  have hl : lv_has ls 4 [(0, .ref h), (1, .int p0), (2, .ref ao)] := hl
  have hPc := hP.sub (ws' := wQ cI cZ h a0 a1 a2 a3 a4 a5 a6 a7 a8 a9 a10 f0 f1 f2 f3 f4 f5 f6 f7 f8 f9 f10 v0 v1 v2 v3) [1, 2, 3, 4, 5, 6, 7, 8, 9, 10, 11, 12] rfl
  have hDc := hD.sub (ws' := wQ cI cZ h a0 a1 a2 a3 a4 a5 a6 a7 a8 a9 a10 f0 f1 f2 f3 f4 f5 f6 f7 f8 f9 f10 v0 v1 v2 v3) [1, 2, 3, 4, 5, 6, 7, 8, 9, 10, 11, 12] (by decide) rfl
  refine lv_aload_n hx hb dL_weight_0 rfl (lv_at hl 2 rfl) ?_
  refine lv_iconst (v := 0) hx hb dL_weight_1 (by decide) ?_
  refine lv_aload_n hx hb dL_weight_2 rfl (lv_at hl 0 rfl) ?_
  refine lv_iload_n hx hb dL_weight_3 rfl (lv_at hl 1 rfl) ?_
  cases hw : q_i p0 1 2
  · skip
    refine z_catch (vx_runV (As := [.int p0]) (rest := [.int 0, .ref ao]) ⟨hx, hb, hml, hown, hts⟩ (c_X0_weight_t l hl0 D cI cZ cJ h a0 a1 a2 a3 a4 a5 a6 a7 a8 a9 a10 f0 f1 f2 f3 f4 f5 f6 f7 f8 f9 f10 v0 v1 v2 v3 p0 hw) (cwV 1 hts gL_weight_X0_weight rfl rfl rfl (by decide +kernel) ⟨Nat.le_of_ble_eq_true rfl, Nat.le_of_ble_eq_true rfl⟩) ⟨zPX_blind, va_recv hK hPc (ci := 0) (q0 := 0) rfl rfl, fun U hU hW => ⟨rfl, zX_at hZ hU hW, zP_mk hPc hK hU hW⟩⟩ rfl rfl hl.1 rfl (lv_room (Nat.le_of_ble_eq_true rfl)) dL_weight_4 ⟨Nat.le_of_ble_eq_true rfl, Nat.le_of_ble_eq_true rfl⟩) (fun _ h => h) hS (fun E ce q9 H1 locs hE hk9 hS hce hcv hcl => ?_)
    subst hE
    have hps : ∀ z ∈ ([] : List ExceptionTableEntry), covers z 4 = false ∨ (z.catchType ≠ 0 ∧ ∃ nm : String, (Cond.classLink RL z.catchType nm).before ([Value.ref h, Value.int p0, Value.ref ao] : List Value).toArray s = true ∧ va_Nc "java/lang/IllegalArgumentException" nm s) := (fun z hz => nomatch hz)
    refine vx_catch (own := RL) (name := "java/lang/IllegalArgumentException") hown [] ⟨0, 9, 12, 15⟩ [] (htab.trans rfl) hps (by decide) (by decide) (hts (.classLink RL 15 "java/lang/IllegalArgumentException") (by decide +kernel)) (va_Nw.use rfl (hZ.1 (.castable "java/lang/IllegalArgumentException" "java/lang/IllegalArgumentException") (by decide))) hce hcv hcl ?_
    have hP := hP.kept (fun k q hk => hk9 q.1 (vx_lt hP hk))
    refine lv_astore_n (lv' := [(3, .ref q9), (0, .ref h), (1, .int p0), (2, .ref ao)]) hx hb dL_weight_12 rfl hl (by decide) rfl (fun ls hl => ?_)
    refine lv_iconst (v := 1) hx hb dL_weight_13 (by decide) ?_
    refine vx_ret ?_
    exact W.iret (v := 1) hx hb hr (fun t ht hW => ⟨⟨1, g, rfl, ⟨by simp [q_up, q_us, q_uA, q_wK, hw], fun hz9 => absurd hz9 (by simp [q_up, q_us, q_uA, q_wK, hw])⟩, ⟨by rw [ht]; exact hP, va_K.moved hW.alike hK, hD⟩⟩, hS.F ht⟩) hS.2.2 dL_weight_14
  · skip
    refine vp_callSi (W.runV (As := [.int p0]) (rest := [.int 0, .ref ao]) ⟨hx, hb, hml, hown, hts⟩ (c_X0_weight l D cI cZ cJ h a0 a1 a2 a3 a4 a5 a6 a7 a8 a9 a10 f0 f1 f2 f3 f4 f5 f6 f7 f8 f9 f10 v0 v1 v2 v3 p0 hw) (cwV 1 hts gL_weight_X0_weight rfl rfl rfl (by decide +kernel) ⟨Nat.le_of_ble_eq_true rfl, Nat.le_of_ble_eq_true rfl⟩) ⟨zP_blind, va_recv hK hPc (ci := 0) (q0 := 0) rfl rfl, fun U hU hW => ⟨rfl, zP_mk hPc hK hU hW⟩⟩ rfl rfl hl.1 rfl (lv_room (Nat.le_of_ble_eq_true rfl)) dL_weight_4 ⟨Nat.le_of_ble_eq_true rfl, Nat.le_of_ble_eq_true rfl⟩) (fun r9 w9 => ?_)
    refine lv_i2l (v := r9.toInt64) hx hb dL_weight_7 rfl ?_
    refine va_last (D := D) hx hb hK hP hD hS 0 2 rfl rfl (show vp_in 0 1 from vp_in_nI (n := 0) (by decide) (by decide)) dL_weight_8 (fun H locs hP hD hS => ?_)
    have hP : va_P D vwCl (wO cJ ao (vp_updL g (0 : Int32).toNatClampNeg (r9.toInt64)) ++ wQ cI cZ h a0 a1 a2 a3 a4 a5 a6 a7 a8 a9 a10 f0 f1 f2 f3 f4 f5 f6 f7 f8 f9 f10 v0 v1 v2 v3) H := hP
    have hD : va_D A (wO cJ ao (vp_updL g (0 : Int32).toNatClampNeg (r9.toInt64)) ++ wQ cI cZ h a0 a1 a2 a3 a4 a5 a6 a7 a8 a9 a10 f0 f1 f2 f3 f4 f5 f6 f7 f8 f9 f10 v0 v1 v2 v3) := hD
    refine lv_goto (tgt := 15) hx hb dL_weight_9 (by decide) ?_
    refine lv_iconst (v := 0) hx hb dL_weight_15 (by decide) ?_
    refine vx_ret ?_
    refine W.widen (k := 1) (n := 6) (by omega) (by omega) ?_
    exact W.iret (v := 0) hx hb hr (fun t ht hW => ⟨⟨0, (vp_updL g (0 : Int32).toNatClampNeg (r9.toInt64)), rfl, ⟨by simp [q_up, q_us, q_uA, q_wK, hw], fun _ => by rw [w9]; rfl⟩, ⟨by rw [ht]; exact hP, va_K.moved hW.alike hK, hD⟩⟩, hS.F ht⟩) hS.2.2 dL_weight_16
set_option maxHeartbeats 4000000 in
set_option maxRecDepth 100000 in
theorem c_L_share (l : Launch) (hl0 : l.stackTraces = false) (D : va_G) (cI cZ cJ : ClassId) (sz : Nat) (h a0 a1 a2 a3 a4 a5 a6 a7 a8 a9 a10 : Nat) (f0 f1 f2 f3 f4 f5 f6 f7 f8 f9 f10 : Nat → Int32) (v0 v1 v2 v3 : Int32) (ao : Nat) (g : Nat → Int64) (p0 : Int32) (hI : q_IV f0 f1 f2 f3 f4 f7 f8 v0 v1 v2) : vx_Met l yL_share wsL_share ({ frames := 8, cells := 1, slots := 6, locals := 131 }) (va_Pc [.ref h, .int p0, .ref ao] (zDX D cI cZ cJ sz (wO cJ ao g ++ wQ cI cZ h a0 a1 a2 a3 a4 a5 a6 a7 a8 a9 a10 f0 f1 f2 f3 f4 f5 f6 f7 f8 f9 f10 v0 v1 v2 v3))) (va_Qi (fun (r : Int32) (u : (Nat → Int32) × (Nat → Int64)) => r = q_shK (q_cov f0 f7 v0 v1) p0 ∧ (q_shK (q_cov f0 f7 v0 v1) p0 = 0 → u.2 0 = (q_sh f0 (f7 v1.toNatClampNeg) p0.toNatClampNeg).toInt64)) (fun u t => zB D cI cZ cJ (va_A (wO cJ ao g ++ wQ cI cZ h a0 a1 a2 a3 a4 a5 a6 a7 a8 a9 a10 f0 f1 f2 f3 f4 f5 f6 f7 f8 f9 f10 v0 v1 v2 v3) sz) (wO cJ ao (u.2) ++ wQ cI cZ h a0 a1 a2 a3 a4 a5 a6 a7 a8 a9 a10 f0 f1 f2 f3 f4 f5 f6 f7 f8 u.1 f10 v0 v1 v2 v3) t) (va_A (wO cJ ao g ++ wQ cI cZ h a0 a1 a2 a3 a4 a5 a6 a7 a8 a9 a10 f0 f1 f2 f3 f4 f5 f6 f7 f8 f9 f10 v0 v1 v2 v3) sz)) (zXC (fun _ => False)) 1 6 (va_A (wO cJ ao g ++ wQ cI cZ h a0 a1 a2 a3 a4 a5 a6 a7 a8 a9 a10 f0 f1 f2 f3 f4 f5 f6 f7 f8 f9 f10 v0 v1 v2 v3) sz) := by
  refine vx_ofWH (cc := cL_share) (maxL := 4) (ret := (some .int)) (hh := [(0, 9, 12, 13), (0, 9, 15, 57)]) (by decide) rfl ?_
  intro p e s m args below meth c s₁ B hml hv
  obtain ⟨rfl, hZ, hsz, hP, hK, hD0⟩ := hv
  have hx := B.exec
  have hb := B.bytes
  have hr := B.returns
  have hts := atoms_spec (ws := wsL_share) B.pre
  have htab := vx_table (x := yL_share) B (hts _ List.mem_cons_self)
  have hown : s.vm.findClass RL = some m.cls := findClass_of_methodNamed B.named
  have hlocks := B.notSynchronized
  subst hsz
  have hD := hD0.self (sz := s.heap.size)
  generalize hAe : va_A (wO cJ ao g ++ wQ cI cZ h a0 a1 a2 a3 a4 a5 a6 a7 a8 a9 a10 f0 f1 f2 f3 f4 f5 f6 f7 f8 f9 f10 v0 v1 v2 v3) s.heap.size = A at hD ⊢
  have hA : ∀ q : Nat, s.heap.size ≤ q → A q := fun q h => by rw [← hAe]; exact Or.inr h
  have hS : va_S A s.heap s.heap [] := va_S.rf
  have hl := lv_entry ([.ref h, .int p0, .ref ao]) (n := 4) (Nat.le_of_ble_eq_true rfl)
  rw [lg_entry_eq]
  generalize (lg_sl ([.ref h, .int p0, .ref ao]) ++ List.replicate (4 - (lg_sl ([.ref h, .int p0, .ref ao])).length) Slot.unset).toArray = ls at hl ⊢
  have hl : lv_has ls 4 [(0, .ref h), (1, .int p0), (2, .ref ao)] := hl
  have hPc := hP.sub (ws' := wQ cI cZ h a0 a1 a2 a3 a4 a5 a6 a7 a8 a9 a10 f0 f1 f2 f3 f4 f5 f6 f7 f8 f9 f10 v0 v1 v2 v3) [1, 2, 3, 4, 5, 6, 7, 8, 9, 10, 11, 12] rfl
  have hDc := hD.sub (ws' := wQ cI cZ h a0 a1 a2 a3 a4 a5 a6 a7 a8 a9 a10 f0 f1 f2 f3 f4 f5 f6 f7 f8 f9 f10 v0 v1 v2 v3) [1, 2, 3, 4, 5, 6, 7, 8, 9, 10, 11, 12] (by decide) rfl
  refine lv_aload_n hx hb dL_share_0 rfl (lv_at hl 2 rfl) ?_
  refine lv_iconst (v := 0) hx hb dL_share_1 (by decide) ?_
  refine lv_aload_n hx hb dL_share_2 rfl (lv_at hl 0 rfl) ?_
  refine lv_iload_n hx hb dL_share_3 rfl (lv_at hl 1 rfl) ?_
  cases hg : q_g p0
  · skip
    refine z_catch (vx_runV (As := [.int p0]) (rest := [.int 0, .ref ao]) ⟨hx, hb, hml, hown, hts⟩ (c_X0_share_t1 l hl0 D cI cZ cJ h a0 a1 a2 a3 a4 a5 a6 a7 a8 a9 a10 f0 f1 f2 f3 f4 f5 f6 f7 f8 f9 f10 v0 v1 v2 v3 p0 hg) (cwV 1 hts gL_share_X0_share rfl rfl rfl (by decide +kernel) ⟨Nat.le_of_ble_eq_true rfl, Nat.le_of_ble_eq_true rfl⟩) ⟨zPX_blind, va_recv hK hPc (ci := 0) (q0 := 0) rfl rfl, fun U hU hW => ⟨rfl, zX_at hZ hU hW, zP_mk hPc hK hU hW⟩⟩ rfl rfl hl.1 rfl (lv_room (Nat.le_of_ble_eq_true rfl)) dL_share_4 ⟨Nat.le_of_ble_eq_true rfl, Nat.le_of_ble_eq_true rfl⟩) (fun _ h => h) hS (fun E ce q9 H1 locs hE hk9 hS hce hcv hcl => ?_)
    subst hE
    have hps : ∀ z ∈ ([] : List ExceptionTableEntry), covers z 4 = false ∨ (z.catchType ≠ 0 ∧ ∃ nm : String, (Cond.classLink RL z.catchType nm).before ([Value.ref h, Value.int p0, Value.ref ao] : List Value).toArray s = true ∧ va_Nc "java/lang/IndexOutOfBoundsException" nm s) := (fun z hz => nomatch hz)
    refine vx_catch (own := RL) (name := "java/lang/IndexOutOfBoundsException") hown [] ⟨0, 9, 12, 13⟩ [⟨0, 9, 15, 57⟩] (htab.trans rfl) hps (by decide) (by decide) (hts (.classLink RL 13 "java/lang/IndexOutOfBoundsException") (by decide +kernel)) (va_Nw.use rfl (hZ.1 (.castable "java/lang/IndexOutOfBoundsException" "java/lang/IndexOutOfBoundsException") (by decide))) hce hcv hcl ?_
    have hP := hP.kept (fun k q hk => hk9 q.1 (vx_lt hP hk))
    refine lv_astore_n (lv' := [(3, .ref q9), (0, .ref h), (1, .int p0), (2, .ref ao)]) hx hb dL_share_12 rfl hl (by decide) rfl (fun ls hl => ?_)
    refine lv_iconst (v := 1) hx hb dL_share_13 (by decide) ?_
    refine vx_ret ?_
    exact W.iret (v := 1) hx hb hr (fun t ht hW => ⟨⟨1, ⟨f9, g⟩, rfl, ⟨by simp [q_up, q_us, q_uA, q_shK, hg], fun hz9 => absurd hz9 (by simp [q_up, q_us, q_uA, q_shK, hg])⟩, ⟨by rw [ht]; exact hP, va_K.moved hW.alike hK, hD⟩⟩, hS.F ht⟩) hS.2.2 dL_share_14
  · skip
    cases hc : q_cov f0 f7 v0 v1
    · skip
      refine z_catch (vx_runV (As := [.int p0]) (rest := [.int 0, .ref ao]) ⟨hx, hb, hml, hown, hts⟩ (c_X0_share_t2 l hl0 D cI cZ cJ h a0 a1 a2 a3 a4 a5 a6 a7 a8 a9 a10 f0 f1 f2 f3 f4 f5 f6 f7 f8 f9 f10 v0 v1 v2 v3 p0 hg (iv_hb hI) hc) (cwV 1 hts gL_share_X0_share rfl rfl rfl (by decide +kernel) ⟨Nat.le_of_ble_eq_true rfl, Nat.le_of_ble_eq_true rfl⟩) ⟨zPX_blind, va_recv hK hPc (ci := 0) (q0 := 0) rfl rfl, fun U hU hW => ⟨rfl, zX_at hZ hU hW, zP_mk hPc hK hU hW⟩⟩ rfl rfl hl.1 rfl (lv_room (Nat.le_of_ble_eq_true rfl)) dL_share_4 ⟨Nat.le_of_ble_eq_true rfl, Nat.le_of_ble_eq_true rfl⟩) (fun _ h => h) hS (fun E ce q9 H1 locs hE hk9 hS hce hcv hcl => ?_)
      subst hE
      have hps : ∀ z ∈ ([⟨0, 9, 12, 13⟩] : List ExceptionTableEntry), covers z 4 = false ∨ (z.catchType ≠ 0 ∧ ∃ nm : String, (Cond.classLink RL z.catchType nm).before ([Value.ref h, Value.int p0, Value.ref ao] : List Value).toArray s = true ∧ va_Nc "java/util/NoSuchElementException" nm s) := (fun z hz => by
          simp only [List.mem_cons, List.not_mem_nil, or_false] at hz
          rcases hz with rfl
          · exact Or.inr ⟨by decide, "java/lang/IndexOutOfBoundsException", hts (.classLink RL 13 "java/lang/IndexOutOfBoundsException") (by decide +kernel), hZ.2.2.1 ("java/util/NoSuchElementException", "java/lang/IndexOutOfBoundsException") (by decide)⟩)
      refine vx_catch (own := RL) (name := "java/util/NoSuchElementException") hown [⟨0, 9, 12, 13⟩] ⟨0, 9, 15, 57⟩ [] (htab.trans rfl) hps (by decide) (by decide) (hts (.classLink RL 57 "java/util/NoSuchElementException") (by decide +kernel)) (va_Nw.use rfl (hZ.1 (.castable "java/util/NoSuchElementException" "java/util/NoSuchElementException") (by decide))) hce hcv hcl ?_
      have hP := hP.kept (fun k q hk => hk9 q.1 (vx_lt hP hk))
      refine lv_astore_n (lv' := [(3, .ref q9), (0, .ref h), (1, .int p0), (2, .ref ao)]) hx hb dL_share_15 rfl hl (by decide) rfl (fun ls hl => ?_)
      refine lv_iconst (v := 2) hx hb dL_share_16 (by decide) ?_
      refine vx_ret ?_
      exact W.iret (v := 2) hx hb hr (fun t ht hW => ⟨⟨2, ⟨f9, g⟩, rfl, ⟨by simp [q_up, q_us, q_uA, q_shK, hg, hc], fun hz9 => absurd hz9 (by simp [q_up, q_us, q_uA, q_shK, hg, hc])⟩, ⟨by rw [ht]; exact hP, va_K.moved hW.alike hK, hD⟩⟩, hS.F ht⟩) hS.2.2 dL_share_17
    · skip
      have hFc := va_free (wc := wQ cI cZ h a0 a1 a2 a3 a4 a5 a6 a7 a8 a9 a10 f0 f1 f2 f3 f4 f5 f6 f7 f8 f9 f10 v0 v1 v2 v3) hD hS hA [1, 2, 3, 4, 5, 6, 7, 8, 9, 10, 11, 12] rfl
      refine va_calli (va_runV (As := [.int p0]) (rest := [.int 0, .ref ao]) ⟨hx, hb, hml, hown, hts⟩ (c_X0_share l D cI cZ cJ s.heap.size h a0 a1 a2 a3 a4 a5 a6 a7 a8 a9 a10 f0 f1 f2 f3 f4 f5 f6 f7 f8 f9 f10 v0 v1 v2 v3 p0 hg (iv_hb hI) hc (z_covin (iv_hb hI) hc)) (cwV 1 hts gL_share_X0_share rfl rfl rfl (by decide +kernel) ⟨Nat.le_of_ble_eq_true rfl, Nat.le_of_ble_eq_true rfl⟩) ⟨zD_blind, va_recv hK hPc (ci := 0) (q0 := 0) rfl rfl, fun U hU hW => ⟨rfl, zD_mk hPc hK hDc hU hW⟩⟩ rfl rfl hl.1 rfl (lv_room (Nat.le_of_ble_eq_true rfl)) dL_share_4 ⟨Nat.le_of_ble_eq_true rfl, Nat.le_of_ble_eq_true rfl⟩) hS (fun q _ h => hFc q h) hFc (fun r9 u9 t H1 locs ht hvm w9 hB hz1 hk1 hS => ?_)
      obtain ⟨hP1, hK1, hD1⟩ := hB
      rw [ht] at hP1
      generalize H1 = H at hP1 hS hk1 ⊢
      try dsimp only at w9
      obtain ⟨w9, e9_0⟩ := w9
      obtain ⟨hP, hD⟩ := va_join (wr := wO cJ ao g) hP hD [1, 2, 3, 4, 5, 6, 7, 8, 9, 10, 11, 12] [0] rfl rfl (by decide) (by decide) hk1 hFc hP1 hD1
      subst e9_0
      have hP : va_P D vwCl (wO cJ ao g ++ wQ cI cZ h a0 a1 a2 a3 a4 a5 a6 a7 a8 a9 a10 f0 f1 f2 f3 f4 f5 f6 f7 f8 (q_fill (q_sh f0 (f7 v1.toNatClampNeg)) f9 8) f10 v0 v1 v2 v3) H := hP
      have hD : va_D A (wO cJ ao g ++ wQ cI cZ h a0 a1 a2 a3 a4 a5 a6 a7 a8 a9 a10 f0 f1 f2 f3 f4 f5 f6 f7 f8 (q_fill (q_sh f0 (f7 v1.toNatClampNeg)) f9 8) f10 v0 v1 v2 v3) := hD
      refine lv_i2l (v := r9.toInt64) hx hb dL_share_7 rfl ?_
      refine va_last (D := D) hx hb hK hP hD hS 0 2 rfl rfl (show vp_in 0 1 from vp_in_nI (n := 0) (by decide) (by decide)) dL_share_8 (fun H locs hP hD hS => ?_)
      have hP : va_P D vwCl (wO cJ ao (vp_updL g (0 : Int32).toNatClampNeg (r9.toInt64)) ++ wQ cI cZ h a0 a1 a2 a3 a4 a5 a6 a7 a8 a9 a10 f0 f1 f2 f3 f4 f5 f6 f7 f8 (q_fill (q_sh f0 (f7 v1.toNatClampNeg)) f9 8) f10 v0 v1 v2 v3) H := hP
      have hD : va_D A (wO cJ ao (vp_updL g (0 : Int32).toNatClampNeg (r9.toInt64)) ++ wQ cI cZ h a0 a1 a2 a3 a4 a5 a6 a7 a8 a9 a10 f0 f1 f2 f3 f4 f5 f6 f7 f8 (q_fill (q_sh f0 (f7 v1.toNatClampNeg)) f9 8) f10 v0 v1 v2 v3) := hD
      refine lv_goto (tgt := 18) hx hb dL_share_9 (by decide) ?_
      refine lv_iconst (v := 0) hx hb dL_share_18 (by decide) ?_
      refine vx_ret ?_
      refine W.widen (k := 1) (n := 6) (by omega) (by omega) ?_
      exact W.iret (v := 0) hx hb hr (fun t ht hW => ⟨⟨0, ⟨(q_fill (q_sh f0 (f7 v1.toNatClampNeg)) f9 8), (vp_updL g (0 : Int32).toNatClampNeg (r9.toInt64))⟩, rfl, ⟨by simp [q_up, q_us, q_uA, q_shK, hg, hc], fun _ => by rw [w9]; rfl⟩, ⟨by rw [ht]; exact hP, va_K.moved hW.alike hK, hD⟩⟩, hS.F ht⟩) hS.2.2 dL_share_19
set_option maxHeartbeats 4000000 in
set_option maxRecDepth 100000 in
theorem c_L_match (l : Launch) (hl0 : l.stackTraces = false) (D : va_G) (cI cZ cJ : ClassId) (sz : Nat) (h a0 a1 a2 a3 a4 a5 a6 a7 a8 a9 a10 : Nat) (f0 f1 f2 f3 f4 f5 f6 f7 f8 f9 f10 : Nat → Int32) (v0 v1 v2 v3 : Int32) (ao : Nat) (g : Nat → Int64) (hI : q_IV f0 f1 f2 f3 f4 f7 f8 v0 v1 v2) : vx_Met l yL_match wsL_match ({ frames := 8, cells := 1, slots := 6, locals := 130 }) (va_Pc [.ref h, .ref ao] (zDX D cI cZ cJ sz (wO cJ ao g ++ wQ cI cZ h a0 a1 a2 a3 a4 a5 a6 a7 a8 a9 a10 f0 f1 f2 f3 f4 f5 f6 f7 f8 f9 f10 v0 v1 v2 v3))) (va_Qi (fun (r : Int32) (u : (Nat → Int32) × (Nat → Int32) × (Nat → Int64)) => r = q_mK (q_cov f0 f7 v0 v1) ∧ (q_mK (q_cov f0 f7 v0 v1) = 0 → u.2.2 0 = (q_mt f5 (q_sh f0 (f7 v1.toNatClampNeg)) (f7 v1.toNatClampNeg) v2).toInt64)) (fun u t => zB D cI cZ cJ (va_A (wO cJ ao g ++ wQ cI cZ h a0 a1 a2 a3 a4 a5 a6 a7 a8 a9 a10 f0 f1 f2 f3 f4 f5 f6 f7 f8 f9 f10 v0 v1 v2 v3) sz) (wO cJ ao (u.2.2) ++ wQ cI cZ h a0 a1 a2 a3 a4 a5 a6 a7 a8 a9 a10 f0 f1 f2 f3 f4 f5 f6 f7 f8 u.1 u.2.1 v0 v1 v2 v3) t) (va_A (wO cJ ao g ++ wQ cI cZ h a0 a1 a2 a3 a4 a5 a6 a7 a8 a9 a10 f0 f1 f2 f3 f4 f5 f6 f7 f8 f9 f10 v0 v1 v2 v3) sz)) (zXC (fun _ => False)) 1 6 (va_A (wO cJ ao g ++ wQ cI cZ h a0 a1 a2 a3 a4 a5 a6 a7 a8 a9 a10 f0 f1 f2 f3 f4 f5 f6 f7 f8 f9 f10 v0 v1 v2 v3) sz) := by
  refine vx_ofWH (cc := cL_match) (maxL := 3) (ret := (some .int)) (hh := [(0, 8, 11, 57)]) (by decide) rfl ?_
  intro p e s m args below meth c s₁ B hml hv
  obtain ⟨rfl, hZ, hsz, hP, hK, hD0⟩ := hv
  have hx := B.exec
  have hb := B.bytes
  have hr := B.returns
  have hts := atoms_spec (ws := wsL_match) B.pre
  have htab := vx_table (x := yL_match) B (hts _ List.mem_cons_self)
  have hown : s.vm.findClass RL = some m.cls := findClass_of_methodNamed B.named
  have hlocks := B.notSynchronized
  subst hsz
  have hD := hD0.self (sz := s.heap.size)
  generalize hAe : va_A (wO cJ ao g ++ wQ cI cZ h a0 a1 a2 a3 a4 a5 a6 a7 a8 a9 a10 f0 f1 f2 f3 f4 f5 f6 f7 f8 f9 f10 v0 v1 v2 v3) s.heap.size = A at hD ⊢
  have hA : ∀ q : Nat, s.heap.size ≤ q → A q := fun q h => by rw [← hAe]; exact Or.inr h
  have hS : va_S A s.heap s.heap [] := va_S.rf
  have hl := lv_entry ([.ref h, .ref ao]) (n := 3) (Nat.le_of_ble_eq_true rfl)
  rw [lg_entry_eq]
  generalize (lg_sl ([.ref h, .ref ao]) ++ List.replicate (3 - (lg_sl ([.ref h, .ref ao])).length) Slot.unset).toArray = ls at hl ⊢
  have hl : lv_has ls 3 [(0, .ref h), (1, .ref ao)] := hl
  have hPc := hP.sub (ws' := wQ cI cZ h a0 a1 a2 a3 a4 a5 a6 a7 a8 a9 a10 f0 f1 f2 f3 f4 f5 f6 f7 f8 f9 f10 v0 v1 v2 v3) [1, 2, 3, 4, 5, 6, 7, 8, 9, 10, 11, 12] rfl
  have hDc := hD.sub (ws' := wQ cI cZ h a0 a1 a2 a3 a4 a5 a6 a7 a8 a9 a10 f0 f1 f2 f3 f4 f5 f6 f7 f8 f9 f10 v0 v1 v2 v3) [1, 2, 3, 4, 5, 6, 7, 8, 9, 10, 11, 12] (by decide) rfl
  refine lv_aload_n hx hb dL_match_0 rfl (lv_at hl 1 rfl) ?_
  refine lv_iconst (v := 0) hx hb dL_match_1 (by decide) ?_
  refine lv_aload_n hx hb dL_match_2 rfl (lv_at hl 0 rfl) ?_
  cases hc : q_cov f0 f7 v0 v1
  · skip
    refine z_catch (vx_runV (As := []) (rest := [.int 0, .ref ao]) ⟨hx, hb, hml, hown, hts⟩ (c_X0_match_t l hl0 D cI cZ cJ h a0 a1 a2 a3 a4 a5 a6 a7 a8 a9 a10 f0 f1 f2 f3 f4 f5 f6 f7 f8 f9 f10 v0 v1 v2 v3 (iv_hb hI) hc) (cwV 0 hts gL_match_X0_match rfl rfl rfl (by decide +kernel) ⟨Nat.le_of_ble_eq_true rfl, Nat.le_of_ble_eq_true rfl⟩) ⟨zPX_blind, va_recv hK hPc (ci := 0) (q0 := 0) rfl rfl, fun U hU hW => ⟨rfl, zX_at hZ hU hW, zP_mk hPc hK hU hW⟩⟩ rfl rfl hl.1 rfl (lv_room (Nat.le_of_ble_eq_true rfl)) dL_match_3 ⟨Nat.le_of_ble_eq_true rfl, Nat.le_of_ble_eq_true rfl⟩) (fun _ h => h) hS (fun E ce q9 H1 locs hE hk9 hS hce hcv hcl => ?_)
    subst hE
    have hps : ∀ z ∈ ([] : List ExceptionTableEntry), covers z 3 = false ∨ (z.catchType ≠ 0 ∧ ∃ nm : String, (Cond.classLink RL z.catchType nm).before ([Value.ref h, Value.ref ao] : List Value).toArray s = true ∧ va_Nc "java/util/NoSuchElementException" nm s) := (fun z hz => nomatch hz)
    refine vx_catch (own := RL) (name := "java/util/NoSuchElementException") hown [] ⟨0, 8, 11, 57⟩ [] (htab.trans rfl) hps (by decide) (by decide) (hts (.classLink RL 57 "java/util/NoSuchElementException") (by decide +kernel)) (va_Nw.use rfl (hZ.1 (.castable "java/util/NoSuchElementException" "java/util/NoSuchElementException") (by decide))) hce hcv hcl ?_
    have hP := hP.kept (fun k q hk => hk9 q.1 (vx_lt hP hk))
    refine lv_astore_n (lv' := [(2, .ref q9), (0, .ref h), (1, .ref ao)]) hx hb dL_match_11 rfl hl (by decide) rfl (fun ls hl => ?_)
    refine lv_iconst (v := 1) hx hb dL_match_12 (by decide) ?_
    refine vx_ret ?_
    exact W.iret (v := 1) hx hb hr (fun t ht hW => ⟨⟨1, ⟨f9, f10, g⟩, rfl, ⟨by simp [q_up, q_us, q_uA, q_mK, hc], fun hz9 => absurd hz9 (by simp [q_up, q_us, q_uA, q_mK, hc])⟩, ⟨by rw [ht]; exact hP, va_K.moved hW.alike hK, hD⟩⟩, hS.F ht⟩) hS.2.2 dL_match_13
  · skip
    have hFc := va_free (wc := wQ cI cZ h a0 a1 a2 a3 a4 a5 a6 a7 a8 a9 a10 f0 f1 f2 f3 f4 f5 f6 f7 f8 f9 f10 v0 v1 v2 v3) hD hS hA [1, 2, 3, 4, 5, 6, 7, 8, 9, 10, 11, 12] rfl
    refine va_calli (va_runV (As := []) (rest := [.int 0, .ref ao]) ⟨hx, hb, hml, hown, hts⟩ (c_X0_match l D cI cZ cJ s.heap.size h a0 a1 a2 a3 a4 a5 a6 a7 a8 a9 a10 f0 f1 f2 f3 f4 f5 f6 f7 f8 f9 f10 v0 v1 v2 v3 (iv_hb hI) hc (z_covin (iv_hb hI) hc) (iv_hpb hI hc) (iv_hp2 hI)) (cwV 0 hts gL_match_X0_match rfl rfl rfl (by decide +kernel) ⟨Nat.le_of_ble_eq_true rfl, Nat.le_of_ble_eq_true rfl⟩) ⟨zD_blind, va_recv hK hPc (ci := 0) (q0 := 0) rfl rfl, fun U hU hW => ⟨rfl, zD_mk hPc hK hDc hU hW⟩⟩ rfl rfl hl.1 rfl (lv_room (Nat.le_of_ble_eq_true rfl)) dL_match_3 ⟨Nat.le_of_ble_eq_true rfl, Nat.le_of_ble_eq_true rfl⟩) hS (fun q _ h => hFc q h) hFc (fun r9 u9 t H1 locs ht hvm w9 hB hz1 hk1 hS => ?_)
    obtain ⟨u9_0, u9_1⟩ := u9
    obtain ⟨hP1, hK1, hD1⟩ := hB
    rw [ht] at hP1
    generalize H1 = H at hP1 hS hk1 ⊢
    try dsimp only at w9
    obtain ⟨w9, e9_0, e9_1⟩ := w9
    obtain ⟨hP, hD⟩ := va_join (wr := wO cJ ao g) hP hD [1, 2, 3, 4, 5, 6, 7, 8, 9, 10, 11, 12] [0] rfl rfl (by decide) (by decide) hk1 hFc hP1 hD1
    subst e9_0
    subst e9_1
    have hP : va_P D vwCl (wO cJ ao g ++ wQ cI cZ h a0 a1 a2 a3 a4 a5 a6 a7 a8 a9 a10 f0 f1 f2 f3 f4 f5 f6 f7 f8 (q_fill (q_sh f0 (f7 v1.toNatClampNeg)) f9 8) (q_fill (q_rts f5 (q_sh f0 (f7 v1.toNatClampNeg))) f10 8) v0 v1 v2 v3) H := hP
    have hD : va_D A (wO cJ ao g ++ wQ cI cZ h a0 a1 a2 a3 a4 a5 a6 a7 a8 a9 a10 f0 f1 f2 f3 f4 f5 f6 f7 f8 (q_fill (q_sh f0 (f7 v1.toNatClampNeg)) f9 8) (q_fill (q_rts f5 (q_sh f0 (f7 v1.toNatClampNeg))) f10 8) v0 v1 v2 v3) := hD
    refine lv_i2l (v := r9.toInt64) hx hb dL_match_6 rfl ?_
    refine va_last (D := D) hx hb hK hP hD hS 0 2 rfl rfl (show vp_in 0 1 from vp_in_nI (n := 0) (by decide) (by decide)) dL_match_7 (fun H locs hP hD hS => ?_)
    have hP : va_P D vwCl (wO cJ ao (vp_updL g (0 : Int32).toNatClampNeg (r9.toInt64)) ++ wQ cI cZ h a0 a1 a2 a3 a4 a5 a6 a7 a8 a9 a10 f0 f1 f2 f3 f4 f5 f6 f7 f8 (q_fill (q_sh f0 (f7 v1.toNatClampNeg)) f9 8) (q_fill (q_rts f5 (q_sh f0 (f7 v1.toNatClampNeg))) f10 8) v0 v1 v2 v3) H := hP
    have hD : va_D A (wO cJ ao (vp_updL g (0 : Int32).toNatClampNeg (r9.toInt64)) ++ wQ cI cZ h a0 a1 a2 a3 a4 a5 a6 a7 a8 a9 a10 f0 f1 f2 f3 f4 f5 f6 f7 f8 (q_fill (q_sh f0 (f7 v1.toNatClampNeg)) f9 8) (q_fill (q_rts f5 (q_sh f0 (f7 v1.toNatClampNeg))) f10 8) v0 v1 v2 v3) := hD
    refine lv_goto (tgt := 14) hx hb dL_match_8 (by decide) ?_
    refine lv_iconst (v := 0) hx hb dL_match_14 (by decide) ?_
    refine vx_ret ?_
    refine W.widen (k := 1) (n := 6) (by omega) (by omega) ?_
    exact W.iret (v := 0) hx hb hr (fun t ht hW => ⟨⟨0, ⟨(q_fill (q_sh f0 (f7 v1.toNatClampNeg)) f9 8), (q_fill (q_rts f5 (q_sh f0 (f7 v1.toNatClampNeg))) f10 8), (vp_updL g (0 : Int32).toNatClampNeg (r9.toInt64))⟩, rfl, ⟨by simp [q_up, q_us, q_uA, q_mK, hc], fun _ => by rw [w9]; rfl⟩, ⟨by rw [ht]; exact hP, va_K.moved hW.alike hK, hD⟩⟩, hS.F ht⟩) hS.2.2 dL_match_15
set_option maxHeartbeats 4000000 in
set_option maxRecDepth 100000 in
theorem c_L_matchByPairs (l : Launch) (hl0 : l.stackTraces = false) (D : va_G) (cI cZ cJ : ClassId) (sz : Nat) (h a0 a1 a2 a3 a4 a5 a6 a7 a8 a9 a10 : Nat) (f0 f1 f2 f3 f4 f5 f6 f7 f8 f9 f10 : Nat → Int32) (v0 v1 v2 v3 : Int32) (ao : Nat) (g : Nat → Int64) (hI : q_IV f0 f1 f2 f3 f4 f7 f8 v0 v1 v2) : vx_Met l yL_matchByPairs wsL_matchByPairs ({ frames := 8, cells := 1, slots := 6, locals := 131 }) (va_Pc [.ref h, .ref ao] (zDX D cI cZ cJ sz (wO cJ ao g ++ wQ cI cZ h a0 a1 a2 a3 a4 a5 a6 a7 a8 a9 a10 f0 f1 f2 f3 f4 f5 f6 f7 f8 f9 f10 v0 v1 v2 v3))) (va_Qi (fun (r : Int32) (u : (Nat → Int32) × (Nat → Int32) × (Nat → Int64)) => r = q_mK (q_cov f0 f7 v0 v1) ∧ (q_mK (q_cov f0 f7 v0 v1) = 0 → u.2.2 0 = (q_mt f5 (q_sh f0 (f7 v1.toNatClampNeg)) (f7 v1.toNatClampNeg) v2).toInt64)) (fun u t => zB D cI cZ cJ (va_A (wO cJ ao g ++ wQ cI cZ h a0 a1 a2 a3 a4 a5 a6 a7 a8 a9 a10 f0 f1 f2 f3 f4 f5 f6 f7 f8 f9 f10 v0 v1 v2 v3) sz) (wO cJ ao (u.2.2) ++ wQ cI cZ h a0 a1 a2 a3 a4 a5 a6 a7 a8 a9 a10 f0 f1 f2 f3 f4 f5 f6 f7 f8 u.1 u.2.1 v0 v1 v2 v3) t) (va_A (wO cJ ao g ++ wQ cI cZ h a0 a1 a2 a3 a4 a5 a6 a7 a8 a9 a10 f0 f1 f2 f3 f4 f5 f6 f7 f8 f9 f10 v0 v1 v2 v3) sz)) (zXC (fun _ => False)) 1 6 (va_A (wO cJ ao g ++ wQ cI cZ h a0 a1 a2 a3 a4 a5 a6 a7 a8 a9 a10 f0 f1 f2 f3 f4 f5 f6 f7 f8 f9 f10 v0 v1 v2 v3) sz) := by
  refine vx_ofWH (cc := cL_matchByPairs) (maxL := 3) (ret := (some .int)) (hh := [(0, 8, 11, 57)]) (by decide) rfl ?_
  intro p e s m args below meth c s₁ B hml hv
  obtain ⟨rfl, hZ, hsz, hP, hK, hD0⟩ := hv
  have hx := B.exec
  have hb := B.bytes
  have hr := B.returns
  have hts := atoms_spec (ws := wsL_matchByPairs) B.pre
  have htab := vx_table (x := yL_matchByPairs) B (hts _ List.mem_cons_self)
  have hown : s.vm.findClass RL = some m.cls := findClass_of_methodNamed B.named
  have hlocks := B.notSynchronized
  subst hsz
  have hD := hD0.self (sz := s.heap.size)
  generalize hAe : va_A (wO cJ ao g ++ wQ cI cZ h a0 a1 a2 a3 a4 a5 a6 a7 a8 a9 a10 f0 f1 f2 f3 f4 f5 f6 f7 f8 f9 f10 v0 v1 v2 v3) s.heap.size = A at hD ⊢
  have hA : ∀ q : Nat, s.heap.size ≤ q → A q := fun q h => by rw [← hAe]; exact Or.inr h
  have hS : va_S A s.heap s.heap [] := va_S.rf
  have hl := lv_entry ([.ref h, .ref ao]) (n := 3) (Nat.le_of_ble_eq_true rfl)
  rw [lg_entry_eq]
  generalize (lg_sl ([.ref h, .ref ao]) ++ List.replicate (3 - (lg_sl ([.ref h, .ref ao])).length) Slot.unset).toArray = ls at hl ⊢
  have hl : lv_has ls 3 [(0, .ref h), (1, .ref ao)] := hl
  have hPc := hP.sub (ws' := wQ cI cZ h a0 a1 a2 a3 a4 a5 a6 a7 a8 a9 a10 f0 f1 f2 f3 f4 f5 f6 f7 f8 f9 f10 v0 v1 v2 v3) [1, 2, 3, 4, 5, 6, 7, 8, 9, 10, 11, 12] rfl
  have hDc := hD.sub (ws' := wQ cI cZ h a0 a1 a2 a3 a4 a5 a6 a7 a8 a9 a10 f0 f1 f2 f3 f4 f5 f6 f7 f8 f9 f10 v0 v1 v2 v3) [1, 2, 3, 4, 5, 6, 7, 8, 9, 10, 11, 12] (by decide) rfl
  refine lv_aload_n hx hb dL_matchByPairs_0 rfl (lv_at hl 1 rfl) ?_
  refine lv_iconst (v := 0) hx hb dL_matchByPairs_1 (by decide) ?_
  refine lv_aload_n hx hb dL_matchByPairs_2 rfl (lv_at hl 0 rfl) ?_
  cases hc : q_cov f0 f7 v0 v1
  · skip
    refine z_catch (vx_runV (As := []) (rest := [.int 0, .ref ao]) ⟨hx, hb, hml, hown, hts⟩ (c_X0_matchByPairs_t l hl0 D cI cZ cJ h a0 a1 a2 a3 a4 a5 a6 a7 a8 a9 a10 f0 f1 f2 f3 f4 f5 f6 f7 f8 f9 f10 v0 v1 v2 v3 (iv_hb hI) hc) (cwV 0 hts gL_matchByPairs_X0_matchByPairs rfl rfl rfl (by decide +kernel) ⟨Nat.le_of_ble_eq_true rfl, Nat.le_of_ble_eq_true rfl⟩) ⟨zPX_blind, va_recv hK hPc (ci := 0) (q0 := 0) rfl rfl, fun U hU hW => ⟨rfl, zX_at hZ hU hW, zP_mk hPc hK hU hW⟩⟩ rfl rfl hl.1 rfl (lv_room (Nat.le_of_ble_eq_true rfl)) dL_matchByPairs_3 ⟨Nat.le_of_ble_eq_true rfl, Nat.le_of_ble_eq_true rfl⟩) (fun _ h => h) hS (fun E ce q9 H1 locs hE hk9 hS hce hcv hcl => ?_)
    subst hE
    have hps : ∀ z ∈ ([] : List ExceptionTableEntry), covers z 3 = false ∨ (z.catchType ≠ 0 ∧ ∃ nm : String, (Cond.classLink RL z.catchType nm).before ([Value.ref h, Value.ref ao] : List Value).toArray s = true ∧ va_Nc "java/util/NoSuchElementException" nm s) := (fun z hz => nomatch hz)
    refine vx_catch (own := RL) (name := "java/util/NoSuchElementException") hown [] ⟨0, 8, 11, 57⟩ [] (htab.trans rfl) hps (by decide) (by decide) (hts (.classLink RL 57 "java/util/NoSuchElementException") (by decide +kernel)) (va_Nw.use rfl (hZ.1 (.castable "java/util/NoSuchElementException" "java/util/NoSuchElementException") (by decide))) hce hcv hcl ?_
    have hP := hP.kept (fun k q hk => hk9 q.1 (vx_lt hP hk))
    refine lv_astore_n (lv' := [(2, .ref q9), (0, .ref h), (1, .ref ao)]) hx hb dL_matchByPairs_11 rfl hl (by decide) rfl (fun ls hl => ?_)
    refine lv_iconst (v := 1) hx hb dL_matchByPairs_12 (by decide) ?_
    refine vx_ret ?_
    exact W.iret (v := 1) hx hb hr (fun t ht hW => ⟨⟨1, ⟨f9, f10, g⟩, rfl, ⟨by simp [q_up, q_us, q_uA, q_mK, hc], fun hz9 => absurd hz9 (by simp [q_up, q_us, q_uA, q_mK, hc])⟩, ⟨by rw [ht]; exact hP, va_K.moved hW.alike hK, hD⟩⟩, hS.F ht⟩) hS.2.2 dL_matchByPairs_13
  · skip
    have hFc := va_free (wc := wQ cI cZ h a0 a1 a2 a3 a4 a5 a6 a7 a8 a9 a10 f0 f1 f2 f3 f4 f5 f6 f7 f8 f9 f10 v0 v1 v2 v3) hD hS hA [1, 2, 3, 4, 5, 6, 7, 8, 9, 10, 11, 12] rfl
    refine va_calli (va_runV (As := []) (rest := [.int 0, .ref ao]) ⟨hx, hb, hml, hown, hts⟩ (c_X0_matchByPairs l D cI cZ cJ s.heap.size h a0 a1 a2 a3 a4 a5 a6 a7 a8 a9 a10 f0 f1 f2 f3 f4 f5 f6 f7 f8 f9 f10 v0 v1 v2 v3 (iv_hb hI) hc (z_covin (iv_hb hI) hc) (iv_hpb hI hc) (iv_hp2 hI)) (cwV 0 hts gL_matchByPairs_X0_matchByPairs rfl rfl rfl (by decide +kernel) ⟨Nat.le_of_ble_eq_true rfl, Nat.le_of_ble_eq_true rfl⟩) ⟨zD_blind, va_recv hK hPc (ci := 0) (q0 := 0) rfl rfl, fun U hU hW => ⟨rfl, zD_mk hPc hK hDc hU hW⟩⟩ rfl rfl hl.1 rfl (lv_room (Nat.le_of_ble_eq_true rfl)) dL_matchByPairs_3 ⟨Nat.le_of_ble_eq_true rfl, Nat.le_of_ble_eq_true rfl⟩) hS (fun q _ h => hFc q h) hFc (fun r9 u9 t H1 locs ht hvm w9 hB hz1 hk1 hS => ?_)
    obtain ⟨u9_0, u9_1⟩ := u9
    obtain ⟨hP1, hK1, hD1⟩ := hB
    rw [ht] at hP1
    generalize H1 = H at hP1 hS hk1 ⊢
    try dsimp only at w9
    obtain ⟨w9, e9_0, e9_1⟩ := w9
    obtain ⟨hP, hD⟩ := va_join (wr := wO cJ ao g) hP hD [1, 2, 3, 4, 5, 6, 7, 8, 9, 10, 11, 12] [0] rfl rfl (by decide) (by decide) hk1 hFc hP1 hD1
    subst e9_0
    subst e9_1
    have hP : va_P D vwCl (wO cJ ao g ++ wQ cI cZ h a0 a1 a2 a3 a4 a5 a6 a7 a8 a9 a10 f0 f1 f2 f3 f4 f5 f6 f7 f8 (q_fill (q_sh f0 (f7 v1.toNatClampNeg)) f9 8) (q_fill (q_rts f5 (q_sh f0 (f7 v1.toNatClampNeg))) f10 8) v0 v1 v2 v3) H := hP
    have hD : va_D A (wO cJ ao g ++ wQ cI cZ h a0 a1 a2 a3 a4 a5 a6 a7 a8 a9 a10 f0 f1 f2 f3 f4 f5 f6 f7 f8 (q_fill (q_sh f0 (f7 v1.toNatClampNeg)) f9 8) (q_fill (q_rts f5 (q_sh f0 (f7 v1.toNatClampNeg))) f10 8) v0 v1 v2 v3) := hD
    refine lv_i2l (v := r9.toInt64) hx hb dL_matchByPairs_6 rfl ?_
    refine va_last (D := D) hx hb hK hP hD hS 0 2 rfl rfl (show vp_in 0 1 from vp_in_nI (n := 0) (by decide) (by decide)) dL_matchByPairs_7 (fun H locs hP hD hS => ?_)
    have hP : va_P D vwCl (wO cJ ao (vp_updL g (0 : Int32).toNatClampNeg (r9.toInt64)) ++ wQ cI cZ h a0 a1 a2 a3 a4 a5 a6 a7 a8 a9 a10 f0 f1 f2 f3 f4 f5 f6 f7 f8 (q_fill (q_sh f0 (f7 v1.toNatClampNeg)) f9 8) (q_fill (q_rts f5 (q_sh f0 (f7 v1.toNatClampNeg))) f10 8) v0 v1 v2 v3) H := hP
    have hD : va_D A (wO cJ ao (vp_updL g (0 : Int32).toNatClampNeg (r9.toInt64)) ++ wQ cI cZ h a0 a1 a2 a3 a4 a5 a6 a7 a8 a9 a10 f0 f1 f2 f3 f4 f5 f6 f7 f8 (q_fill (q_sh f0 (f7 v1.toNatClampNeg)) f9 8) (q_fill (q_rts f5 (q_sh f0 (f7 v1.toNatClampNeg))) f10 8) v0 v1 v2 v3) := hD
    refine lv_goto (tgt := 14) hx hb dL_matchByPairs_8 (by decide) ?_
    refine lv_iconst (v := 0) hx hb dL_matchByPairs_14 (by decide) ?_
    refine vx_ret ?_
    refine W.widen (k := 1) (n := 6) (by omega) (by omega) ?_
    exact W.iret (v := 0) hx hb hr (fun t ht hW => ⟨⟨0, ⟨(q_fill (q_sh f0 (f7 v1.toNatClampNeg)) f9 8), (q_fill (q_rts f5 (q_sh f0 (f7 v1.toNatClampNeg))) f10 8), (vp_updL g (0 : Int32).toNatClampNeg (r9.toInt64))⟩, rfl, ⟨by simp [q_up, q_us, q_uA, q_mK, hc], fun _ => by rw [w9]; rfl⟩, ⟨by rw [ht]; exact hP, va_K.moved hW.alike hK, hD⟩⟩, hS.F ht⟩) hS.2.2 dL_matchByPairs_15
set_option maxHeartbeats 4000000 in
set_option maxRecDepth 100000 in
theorem c_L_release (l : Launch) (hl0 : l.stackTraces = false) (D : va_G) (cI cZ cJ : ClassId) (sz : Nat) (h a0 a1 a2 a3 a4 a5 a6 a7 a8 a9 a10 : Nat) (f0 f1 f2 f3 f4 f5 f6 f7 f8 f9 f10 : Nat → Int32) (v0 v1 v2 v3 : Int32) (ao : Nat) (g : Nat → Int64) (hI : q_IV f0 f1 f2 f3 f4 f7 f8 v0 v1 v2) : vx_Met l yL_release wsL_release ({ frames := 7, cells := 1, slots := 6, locals := 112 }) (va_Pc [.ref h, .ref ao] (zDX D cI cZ cJ sz (wO cJ ao g ++ wQ cI cZ h a0 a1 a2 a3 a4 a5 a6 a7 a8 a9 a10 f0 f1 f2 f3 f4 f5 f6 f7 f8 f9 f10 v0 v1 v2 v3))) (va_Qi (fun (r : Int32) (u : (Nat → Int32) × (Nat → Int32) × (Nat → Int32) × Int32 × Int32 × Int32 × (Nat → Int32) × (Nat → Int32) × (Nat → Int64)) => r = q_reK f0 f4 f6 f7 f8 v0 v1 ∧ u.1 = q_uA (q_reK f0 f4 f6 f7 f8 v0 v1) f0 (q_fill (fun n => f0 n - q_sh f0 (f7 v1.toNatClampNeg) n) f0 8) ∧ u.2.1 = q_uA (q_reK f0 f4 f6 f7 f8 v0 v1) f3 (q_fill (fun n => f3 n + q_sh f0 (f7 v1.toNatClampNeg) n) f3 8) ∧ u.2.2.1 = q_uA (q_reK f0 f4 f6 f7 f8 v0 v1) f6 (q_fill (fun _ => 0) f6 8) ∧ u.2.2.2.1 = q_us (q_reK f0 f4 f6 f7 f8 v0 v1) v1 (v1 + 1) ∧ u.2.2.2.2.1 = q_us (q_reK f0 f4 f6 f7 f8 v0 v1) v2 (v2 - q_mt f5 (q_sh f0 (f7 v1.toNatClampNeg)) (f7 v1.toNatClampNeg) v2) ∧ u.2.2.2.2.2.1 = q_us (q_reK f0 f4 f6 f7 f8 v0 v1) v3 (v3 + (f7 v1.toNatClampNeg + q_mt f5 (q_sh f0 (f7 v1.toNatClampNeg)) (f7 v1.toNatClampNeg) v2)) ∧ (q_reK f0 f4 f6 f7 f8 v0 v1 = 0 → u.2.2.2.2.2.2.2.2 0 = (f7 v1.toNatClampNeg + q_mt f5 (q_sh f0 (f7 v1.toNatClampNeg)) (f7 v1.toNatClampNeg) v2).toInt64)) (fun u t => zB D cI cZ cJ (va_A (wO cJ ao g ++ wQ cI cZ h a0 a1 a2 a3 a4 a5 a6 a7 a8 a9 a10 f0 f1 f2 f3 f4 f5 f6 f7 f8 f9 f10 v0 v1 v2 v3) sz) (wO cJ ao (u.2.2.2.2.2.2.2.2) ++ wQ cI cZ h a0 a1 a2 a3 a4 a5 a6 a7 a8 a9 a10 u.1 f1 f2 u.2.1 f4 f5 u.2.2.1 f7 f8 u.2.2.2.2.2.2.1 u.2.2.2.2.2.2.2.1 v0 u.2.2.2.1 u.2.2.2.2.1 u.2.2.2.2.2.1) t) (va_A (wO cJ ao g ++ wQ cI cZ h a0 a1 a2 a3 a4 a5 a6 a7 a8 a9 a10 f0 f1 f2 f3 f4 f5 f6 f7 f8 f9 f10 v0 v1 v2 v3) sz)) (zXC (fun _ => False)) 1 6 (va_A (wO cJ ao g ++ wQ cI cZ h a0 a1 a2 a3 a4 a5 a6 a7 a8 a9 a10 f0 f1 f2 f3 f4 f5 f6 f7 f8 f9 f10 v0 v1 v2 v3) sz) := by
  refine vx_ofWH (cc := cL_release) (maxL := 3) (ret := (some .int)) (hh := [(0, 8, 11, 17)]) (by decide) rfl ?_
  intro p e s m args below meth c s₁ B hml hv
  obtain ⟨rfl, hZ, hsz, hP, hK, hD0⟩ := hv
  have hx := B.exec
  have hb := B.bytes
  have hr := B.returns
  have hts := atoms_spec (ws := wsL_release) B.pre
  have htab := vx_table (x := yL_release) B (hts _ List.mem_cons_self)
  have hown : s.vm.findClass RL = some m.cls := findClass_of_methodNamed B.named
  have hlocks := B.notSynchronized
  subst hsz
  have hD := hD0.self (sz := s.heap.size)
  generalize hAe : va_A (wO cJ ao g ++ wQ cI cZ h a0 a1 a2 a3 a4 a5 a6 a7 a8 a9 a10 f0 f1 f2 f3 f4 f5 f6 f7 f8 f9 f10 v0 v1 v2 v3) s.heap.size = A at hD ⊢
  have hA : ∀ q : Nat, s.heap.size ≤ q → A q := fun q h => by rw [← hAe]; exact Or.inr h
  have hS : va_S A s.heap s.heap [] := va_S.rf
  have hl := lv_entry ([.ref h, .ref ao]) (n := 3) (Nat.le_of_ble_eq_true rfl)
  rw [lg_entry_eq]
  generalize (lg_sl ([.ref h, .ref ao]) ++ List.replicate (3 - (lg_sl ([.ref h, .ref ao])).length) Slot.unset).toArray = ls at hl ⊢
  have hl : lv_has ls 3 [(0, .ref h), (1, .ref ao)] := hl
  have hPc := hP.sub (ws' := wQ cI cZ h a0 a1 a2 a3 a4 a5 a6 a7 a8 a9 a10 f0 f1 f2 f3 f4 f5 f6 f7 f8 f9 f10 v0 v1 v2 v3) [1, 2, 3, 4, 5, 6, 7, 8, 9, 10, 11, 12] rfl
  have hDc := hD.sub (ws' := wQ cI cZ h a0 a1 a2 a3 a4 a5 a6 a7 a8 a9 a10 f0 f1 f2 f3 f4 f5 f6 f7 f8 f9 f10 v0 v1 v2 v3) [1, 2, 3, 4, 5, 6, 7, 8, 9, 10, 11, 12] (by decide) rfl
  refine lv_aload_n hx hb dL_release_0 rfl (lv_at hl 1 rfl) ?_
  refine lv_iconst (v := 0) hx hb dL_release_1 (by decide) ?_
  refine lv_aload_n hx hb dL_release_2 rfl (lv_at hl 0 rfl) ?_
  by_cases hk : q_cov f0 f7 v0 v1 = true ∧ ¬ f8 v1.toNatClampNeg = 0 ∧ q_sum f0 8 < 2 * q_wt f0 f4 f6 1 8
  · skip
    obtain ⟨hk1, hk2, hk3⟩ := hk
    have hkK : q_reK f0 f4 f6 f7 f8 v0 v1 = 0 := by simp [q_reK, hk1, hk2, hk3]
    have hFc := va_free (wc := wQ cI cZ h a0 a1 a2 a3 a4 a5 a6 a7 a8 a9 a10 f0 f1 f2 f3 f4 f5 f6 f7 f8 f9 f10 v0 v1 v2 v3) hD hS hA [1, 2, 3, 4, 5, 6, 7, 8, 9, 10, 11, 12] rfl
    refine va_calli (va_runV (As := []) (rest := [.int 0, .ref ao]) ⟨hx, hb, hml, hown, hts⟩ (c_X0_release l D cI cZ cJ s.heap.size h a0 a1 a2 a3 a4 a5 a6 a7 a8 a9 a10 f0 f1 f2 f3 f4 f5 f6 f7 f8 f9 f10 v0 v1 v2 v3 (iv_hb hI) hk1 (z_covin (iv_hb hI) hk1) (iv_hpb hI hk1) (iv_hp2 hI) hk2 hk3) (cwV 0 hts gL_release_X0_release rfl rfl rfl (by decide +kernel) ⟨Nat.le_of_ble_eq_true rfl, Nat.le_of_ble_eq_true rfl⟩) ⟨zD_blind, va_recv hK hPc (ci := 0) (q0 := 0) rfl rfl, fun U hU hW => ⟨rfl, zD_mk hPc hK hDc hU hW⟩⟩ rfl rfl hl.1 rfl (lv_room (Nat.le_of_ble_eq_true rfl)) dL_release_3 ⟨Nat.le_of_ble_eq_true rfl, Nat.le_of_ble_eq_true rfl⟩) hS (fun q _ h => hFc q h) hFc (fun r9 u9 t H1 locs ht hvm w9 hB hz1 hk1 hS => ?_)
    obtain ⟨u9_0, u9_1, u9_2, u9_3, u9_4, u9_5, u9_6, u9_7⟩ := u9
    obtain ⟨hP1, hK1, hD1⟩ := hB
    rw [ht] at hP1
    generalize H1 = H at hP1 hS hk1 ⊢
    try dsimp only at w9
    obtain ⟨w9, e9_0, e9_1, e9_2, e9_3, e9_4, e9_5, e9_6, e9_7⟩ := w9
    obtain ⟨hP, hD⟩ := va_join (wr := wO cJ ao g) hP hD [1, 2, 3, 4, 5, 6, 7, 8, 9, 10, 11, 12] [0] rfl rfl (by decide) (by decide) hk1 hFc hP1 hD1
    subst e9_0
    subst e9_1
    subst e9_2
    subst e9_3
    subst e9_4
    subst e9_5
    subst e9_6
    subst e9_7
    have hP : va_P D vwCl (wO cJ ao g ++ wQ cI cZ h a0 a1 a2 a3 a4 a5 a6 a7 a8 a9 a10 (q_fill (fun n => f0 n - q_sh f0 (f7 v1.toNatClampNeg) n) f0 8) f1 f2 (q_fill (fun n => f3 n + q_sh f0 (f7 v1.toNatClampNeg) n) f3 8) f4 f5 (q_fill (fun _ => 0) f6 8) f7 f8 (q_fill (q_sh f0 (f7 v1.toNatClampNeg)) f9 8) (q_fill (q_rts f5 (q_sh f0 (f7 v1.toNatClampNeg))) f10 8) v0 (v1 + 1) (v2 - q_mt f5 (q_sh f0 (f7 v1.toNatClampNeg)) (f7 v1.toNatClampNeg) v2) (v3 + ((f7 v1.toNatClampNeg) + q_mt f5 (q_sh f0 (f7 v1.toNatClampNeg)) (f7 v1.toNatClampNeg) v2))) H := hP
    have hD : va_D A (wO cJ ao g ++ wQ cI cZ h a0 a1 a2 a3 a4 a5 a6 a7 a8 a9 a10 (q_fill (fun n => f0 n - q_sh f0 (f7 v1.toNatClampNeg) n) f0 8) f1 f2 (q_fill (fun n => f3 n + q_sh f0 (f7 v1.toNatClampNeg) n) f3 8) f4 f5 (q_fill (fun _ => 0) f6 8) f7 f8 (q_fill (q_sh f0 (f7 v1.toNatClampNeg)) f9 8) (q_fill (q_rts f5 (q_sh f0 (f7 v1.toNatClampNeg))) f10 8) v0 (v1 + 1) (v2 - q_mt f5 (q_sh f0 (f7 v1.toNatClampNeg)) (f7 v1.toNatClampNeg) v2) (v3 + ((f7 v1.toNatClampNeg) + q_mt f5 (q_sh f0 (f7 v1.toNatClampNeg)) (f7 v1.toNatClampNeg) v2))) := hD
    refine lv_i2l (v := r9.toInt64) hx hb dL_release_6 rfl ?_
    refine va_last (D := D) hx hb hK hP hD hS 0 2 rfl rfl (show vp_in 0 1 from vp_in_nI (n := 0) (by decide) (by decide)) dL_release_7 (fun H locs hP hD hS => ?_)
    have hP : va_P D vwCl (wO cJ ao (vp_updL g (0 : Int32).toNatClampNeg (r9.toInt64)) ++ wQ cI cZ h a0 a1 a2 a3 a4 a5 a6 a7 a8 a9 a10 (q_fill (fun n => f0 n - q_sh f0 (f7 v1.toNatClampNeg) n) f0 8) f1 f2 (q_fill (fun n => f3 n + q_sh f0 (f7 v1.toNatClampNeg) n) f3 8) f4 f5 (q_fill (fun _ => 0) f6 8) f7 f8 (q_fill (q_sh f0 (f7 v1.toNatClampNeg)) f9 8) (q_fill (q_rts f5 (q_sh f0 (f7 v1.toNatClampNeg))) f10 8) v0 (v1 + 1) (v2 - q_mt f5 (q_sh f0 (f7 v1.toNatClampNeg)) (f7 v1.toNatClampNeg) v2) (v3 + ((f7 v1.toNatClampNeg) + q_mt f5 (q_sh f0 (f7 v1.toNatClampNeg)) (f7 v1.toNatClampNeg) v2))) H := hP
    have hD : va_D A (wO cJ ao (vp_updL g (0 : Int32).toNatClampNeg (r9.toInt64)) ++ wQ cI cZ h a0 a1 a2 a3 a4 a5 a6 a7 a8 a9 a10 (q_fill (fun n => f0 n - q_sh f0 (f7 v1.toNatClampNeg) n) f0 8) f1 f2 (q_fill (fun n => f3 n + q_sh f0 (f7 v1.toNatClampNeg) n) f3 8) f4 f5 (q_fill (fun _ => 0) f6 8) f7 f8 (q_fill (q_sh f0 (f7 v1.toNatClampNeg)) f9 8) (q_fill (q_rts f5 (q_sh f0 (f7 v1.toNatClampNeg))) f10 8) v0 (v1 + 1) (v2 - q_mt f5 (q_sh f0 (f7 v1.toNatClampNeg)) (f7 v1.toNatClampNeg) v2) (v3 + ((f7 v1.toNatClampNeg) + q_mt f5 (q_sh f0 (f7 v1.toNatClampNeg)) (f7 v1.toNatClampNeg) v2))) := hD
    refine lv_goto (tgt := 14) hx hb dL_release_8 (by decide) ?_
    refine lv_iconst (v := 0) hx hb dL_release_14 (by decide) ?_
    refine vx_ret ?_
    refine W.widen (k := 1) (n := 6) (by omega) (by omega) ?_
    exact W.iret (v := 0) hx hb hr (fun t ht hW => ⟨⟨0, ⟨(q_fill (fun n => f0 n - q_sh f0 (f7 v1.toNatClampNeg) n) f0 8), (q_fill (fun n => f3 n + q_sh f0 (f7 v1.toNatClampNeg) n) f3 8), (q_fill (fun _ => 0) f6 8), (v1 + 1), (v2 - q_mt f5 (q_sh f0 (f7 v1.toNatClampNeg)) (f7 v1.toNatClampNeg) v2), (v3 + ((f7 v1.toNatClampNeg) + q_mt f5 (q_sh f0 (f7 v1.toNatClampNeg)) (f7 v1.toNatClampNeg) v2)), (q_fill (q_sh f0 (f7 v1.toNatClampNeg)) f9 8), (q_fill (q_rts f5 (q_sh f0 (f7 v1.toNatClampNeg))) f10 8), (vp_updL g (0 : Int32).toNatClampNeg (r9.toInt64))⟩, rfl, ⟨by simp [q_up, q_us, q_uA, hkK], by simp [q_up, q_us, q_uA, hkK], by simp [q_up, q_us, q_uA, hkK], by simp [q_up, q_us, q_uA, hkK], by simp [q_up, q_us, q_uA, hkK], by simp [q_up, q_us, q_uA, hkK], by simp [q_up, q_us, q_uA, hkK], fun _ => by rw [w9]; rfl⟩, ⟨by rw [ht]; exact hP, va_K.moved hW.alike hK, hD⟩⟩, hS.F ht⟩) hS.2.2 dL_release_15
  · skip
    have hkK : q_reK f0 f4 f6 f7 f8 v0 v1 = 1 := z_reK1 hk
    refine z_catch (vx_runV (As := []) (rest := [.int 0, .ref ao]) ⟨hx, hb, hml, hown, hts⟩ (c_X0_release_t l hl0 D cI cZ cJ h a0 a1 a2 a3 a4 a5 a6 a7 a8 a9 a10 f0 f1 f2 f3 f4 f5 f6 f7 f8 f9 f10 v0 v1 v2 v3 (iv_hb hI) hk) (cwV 0 hts gL_release_X0_release rfl rfl rfl (by decide +kernel) ⟨Nat.le_of_ble_eq_true rfl, Nat.le_of_ble_eq_true rfl⟩) ⟨zPX_blind, va_recv hK hPc (ci := 0) (q0 := 0) rfl rfl, fun U hU hW => ⟨rfl, zX_at hZ hU hW, zP_mk hPc hK hU hW⟩⟩ rfl rfl hl.1 rfl (lv_room (Nat.le_of_ble_eq_true rfl)) dL_release_3 ⟨Nat.le_of_ble_eq_true rfl, Nat.le_of_ble_eq_true rfl⟩) (fun _ h => h) hS (fun E ce q9 H1 locs hE hk9 hS hce hcv hcl => ?_)
    subst hE
    have hps : ∀ z ∈ ([] : List ExceptionTableEntry), covers z 3 = false ∨ (z.catchType ≠ 0 ∧ ∃ nm : String, (Cond.classLink RL z.catchType nm).before ([Value.ref h, Value.ref ao] : List Value).toArray s = true ∧ va_Nc "java/lang/IllegalStateException" nm s) := (fun z hz => nomatch hz)
    refine vx_catch (own := RL) (name := "java/lang/IllegalStateException") hown [] ⟨0, 8, 11, 17⟩ [] (htab.trans rfl) hps (by decide) (by decide) (hts (.classLink RL 17 "java/lang/IllegalStateException") (by decide +kernel)) (va_Nw.use rfl (hZ.1 (.castable "java/lang/IllegalStateException" "java/lang/IllegalStateException") (by decide))) hce hcv hcl ?_
    have hP := hP.kept (fun k q hk => hk9 q.1 (vx_lt hP hk))
    refine lv_astore_n (lv' := [(2, .ref q9), (0, .ref h), (1, .ref ao)]) hx hb dL_release_11 rfl hl (by decide) rfl (fun ls hl => ?_)
    refine lv_iconst (v := 1) hx hb dL_release_12 (by decide) ?_
    refine vx_ret ?_
    exact W.iret (v := 1) hx hb hr (fun t ht hW => ⟨⟨1, ⟨f0, f3, f6, v1, v2, v3, f9, f10, g⟩, rfl, ⟨by simp [q_up, q_us, q_uA, hkK], by simp [q_up, q_us, q_uA, hkK], by simp [q_up, q_us, q_uA, hkK], by simp [q_up, q_us, q_uA, hkK], by simp [q_up, q_us, q_uA, hkK], by simp [q_up, q_us, q_uA, hkK], by simp [q_up, q_us, q_uA, hkK], fun hz9 => absurd hz9 (by simp [q_up, q_us, q_uA, hkK])⟩, ⟨by rw [ht]; exact hP, va_K.moved hW.alike hK, hD⟩⟩, hS.F ht⟩) hS.2.2 dL_release_13
