def zg : Nat → Int32 := upd (upd (upd (upd (upd (upd (upd (upd (upd (upd (upd (upd (upd (upd (upd (upd z0 (0 : Int32).toNatClampNeg (-1)) (8 : Int32).toNatClampNeg 0) (1 : Int32).toNatClampNeg (-1)) (9 : Int32).toNatClampNeg 1) (2 : Int32).toNatClampNeg (-1)) (10 : Int32).toNatClampNeg 2) (3 : Int32).toNatClampNeg (-1)) (11 : Int32).toNatClampNeg 3) (4 : Int32).toNatClampNeg (-1)) (12 : Int32).toNatClampNeg 4) (5 : Int32).toNatClampNeg (-1)) (13 : Int32).toNatClampNeg 5) (6 : Int32).toNatClampNeg (-1)) (14 : Int32).toNatClampNeg 6) (7 : Int32).toNatClampNeg (-1)) (15 : Int32).toNatClampNeg 7
set_option maxHeartbeats 4000000 in
set_option maxRecDepth 100000 in
theorem k_act_give_t1 (l : Launch) (hl0 : l.stackTraces = false) (D : va_G) (cI cZ cJ : ClassId) (sz : Nat) (h a0 a1 a2 a3 a4 a5 a6 a7 a8 a9 a10 : Nat) (f0 f1 f2 f3 f4 f5 f6 f7 f8 f9 f10 : Nat → Int32) (v0 v1 v2 v3 : Int32) (p0 p1 : Int32) (hg : q_g p0 = false) : vx_Met l yL_act wsL_act ({ frames := 8, cells := 1, slots := 6, locals := 132 }) (va_Pc [.ref h, .int 0, .int p0, .int p1] (zKX D cI cZ cJ sz (wQ cI cZ h a0 a1 a2 a3 a4 a5 a6 a7 a8 a9 a10 f0 f1 f2 f3 f4 f5 f6 f7 f8 f9 f10 v0 v1 v2 v3))) (va_Qi (fun (r : Int32) (_ : Unit) => r = (-1041)) (fun _ t => sz + 0 ≤ t.heap.size) (fun _ => False)) (zXC (fun _ => False)) 1 6 (fun _ => False) := by
  refine vx_ofWH (cc := cL_act) (maxL := 5) (ret := (some .int)) (hh := [(0, 121, 122, 42), (0, 121, 128, 44), (0, 121, 134, 46)]) (by decide) rfl ?_
  intro p e s m args below meth c s₁ B hml hv
  obtain ⟨rfl, hsz, hZ, hP, hK⟩ := hv
  have hx := B.exec
  have hb := B.bytes
  have hr := B.returns
  have hts := atoms_spec (ws := wsL_act) B.pre
  have htab := vx_table (x := yL_act) B (hts _ List.mem_cons_self)
  have hown : s.vm.findClass RL = some m.cls := findClass_of_methodNamed B.named
  have hlocks := B.notSynchronized
  subst hsz
  have hS : va_S (fun _ : Nat => False) s.heap s.heap [] := va_S.rf
  have hgr : s.heap.size + 0 ≤ s.heap.size := Nat.le_refl _
  have hl := lv_entry ([.ref h, .int 0, .int p0, .int p1]) (n := 5) (Nat.le_of_ble_eq_true rfl)
  rw [lg_entry_eq]
  generalize (lg_sl ([.ref h, .int 0, .int p0, .int p1]) ++ List.replicate (5 - (lg_sl ([.ref h, .int 0, .int p0, .int p1])).length) Slot.unset).toArray = ls at hl ⊢
  have hl : lv_has ls 5 [(0, .ref h), (1, .int 0), (2, .int p0), (3, .int p1)] := hl
  refine lv_iload_n hx hb dL_act_0 rfl (lv_at hl 1 rfl) ?_
  refine lv_if_ne (tgt := 13) hx hb dL_act_1 (by decide) (fun c9 => False.elim (by revert c9; decide)) (fun _ => ?_)
  refine lv_aload_n hx hb dL_act_4 rfl (lv_at hl 0 rfl) ?_
  refine lv_iload_n hx hb dL_act_5 rfl (lv_at hl 2 rfl) ?_
  refine lv_iload_n hx hb dL_act_6 rfl (lv_at hl 3 rfl) ?_
  refine z_catch (vx_runV (As := [.int p0, .int p1]) (rest := []) ⟨hx, hb, hml, hown, hts⟩ (c_X0_give_t1 l hl0 D cI cZ cJ h a0 a1 a2 a3 a4 a5 a6 a7 a8 a9 a10 f0 f1 f2 f3 f4 f5 f6 f7 f8 f9 f10 v0 v1 v2 v3 p0 p1 hg) (cwV 2 hts gL_act_X0_give rfl rfl rfl (by decide +kernel) ⟨Nat.le_of_ble_eq_true rfl, Nat.le_of_ble_eq_true rfl⟩) ⟨zPX_blind, va_recv hK hP (ci := 0) (q0 := 0) rfl rfl, fun U hU hW => ⟨rfl, zX_at hZ hU hW, zP_mk hP hK hU hW⟩⟩ rfl rfl hl.1 rfl (lv_room (Nat.le_of_ble_eq_true rfl)) dL_act_7 ⟨Nat.le_of_ble_eq_true rfl, Nat.le_of_ble_eq_true rfl⟩) (fun _ h => h) hS (fun E ce q9 H1 locs hE hk9 hS hce hcv hcl => ?_)
  subst hE
  have hps : ∀ z ∈ ([] : List ExceptionTableEntry), covers z 7 = false ∨ (z.catchType ≠ 0 ∧ ∃ nm : String, (Cond.classLink RL z.catchType nm).before ([Value.ref h, Value.int 0, Value.int p0, Value.int p1] : List Value).toArray s = true ∧ va_Nc "java/lang/IndexOutOfBoundsException" nm s) := (fun z hz => nomatch hz)
  refine vx_catch (own := RL) (name := "java/lang/IndexOutOfBoundsException") hown [] ⟨0, 121, 122, 42⟩ [⟨0, 121, 128, 44⟩, ⟨0, 121, 134, 46⟩] (htab.trans rfl) hps (by decide) (by decide) (hts (.classLink RL 42 "java/lang/IndexOutOfBoundsException") (by decide +kernel)) (va_Nw.use rfl (hZ.1 (.castable "java/lang/IndexOutOfBoundsException" "java/lang/IndexOutOfBoundsException") (by decide))) hce hcv hcl ?_
  have hP := hP.kept (fun k q hk => hk9 q.1 (vx_lt hP hk))
  have hgr : s.heap.size + 0 ≤ H1.size := hS.1
  refine lv_astore (lv' := [(4, .ref q9), (0, .ref h), (1, .int 0), (2, .int p0), (3, .int p1)]) hx hb dL_act_122 hl (by decide) rfl (fun ls hl => ?_)
  refine lv_sipush (v := (-1041)) hx hb dL_act_124 (by decide) ?_
  refine W.widen (k := 1) (n := 6) (Nat.le_of_ble_eq_true rfl) (Nat.le_of_ble_eq_true rfl) ?_
  refine vx_ret ?_
  exact W.iret (v := (-1041)) hx hb hr (fun t ht hW => ⟨⟨(-1041), (), rfl, rfl, by show s.heap.size + 0 ≤ t.heap.size; rw [ht]; exact hgr⟩, hS.F ht⟩) hS.2.2 dL_act_127
set_option maxHeartbeats 4000000 in
set_option maxRecDepth 100000 in
theorem k_act_give_t2 (l : Launch) (hl0 : l.stackTraces = false) (D : va_G) (cI cZ cJ : ClassId) (sz : Nat) (h a0 a1 a2 a3 a4 a5 a6 a7 a8 a9 a10 : Nat) (f0 f1 f2 f3 f4 f5 f6 f7 f8 f9 f10 : Nat → Int32) (v0 v1 v2 v3 : Int32) (p0 p1 : Int32) (hg : q_g p0 = true) (hi : q_i p1 1 10000 = false) : vx_Met l yL_act wsL_act ({ frames := 8, cells := 1, slots := 6, locals := 133 }) (va_Pc [.ref h, .int 0, .int p0, .int p1] (zKX D cI cZ cJ sz (wQ cI cZ h a0 a1 a2 a3 a4 a5 a6 a7 a8 a9 a10 f0 f1 f2 f3 f4 f5 f6 f7 f8 f9 f10 v0 v1 v2 v3))) (va_Qi (fun (r : Int32) (_ : Unit) => r = (-1042)) (fun _ t => sz + 0 ≤ t.heap.size) (fun _ => False)) (zXC (fun _ => False)) 1 6 (fun _ => False) := by
  refine vx_ofWH (cc := cL_act) (maxL := 5) (ret := (some .int)) (hh := [(0, 121, 122, 42), (0, 121, 128, 44), (0, 121, 134, 46)]) (by decide) rfl ?_
  intro p e s m args below meth c s₁ B hml hv
  obtain ⟨rfl, hsz, hZ, hP, hK⟩ := hv
  have hx := B.exec
  have hb := B.bytes
  have hr := B.returns
  have hts := atoms_spec (ws := wsL_act) B.pre
  have htab := vx_table (x := yL_act) B (hts _ List.mem_cons_self)
  have hown : s.vm.findClass RL = some m.cls := findClass_of_methodNamed B.named
  have hlocks := B.notSynchronized
  subst hsz
  have hS : va_S (fun _ : Nat => False) s.heap s.heap [] := va_S.rf
  have hgr : s.heap.size + 0 ≤ s.heap.size := Nat.le_refl _
  have hl := lv_entry ([.ref h, .int 0, .int p0, .int p1]) (n := 5) (Nat.le_of_ble_eq_true rfl)
  rw [lg_entry_eq]
  generalize (lg_sl ([.ref h, .int 0, .int p0, .int p1]) ++ List.replicate (5 - (lg_sl ([.ref h, .int 0, .int p0, .int p1])).length) Slot.unset).toArray = ls at hl ⊢
  have hl : lv_has ls 5 [(0, .ref h), (1, .int 0), (2, .int p0), (3, .int p1)] := hl
  refine lv_iload_n hx hb dL_act_0 rfl (lv_at hl 1 rfl) ?_
  refine lv_if_ne (tgt := 13) hx hb dL_act_1 (by decide) (fun c9 => False.elim (by revert c9; decide)) (fun _ => ?_)
  refine lv_aload_n hx hb dL_act_4 rfl (lv_at hl 0 rfl) ?_
  refine lv_iload_n hx hb dL_act_5 rfl (lv_at hl 2 rfl) ?_
  refine lv_iload_n hx hb dL_act_6 rfl (lv_at hl 3 rfl) ?_
  refine z_catch (vx_runV (As := [.int p0, .int p1]) (rest := []) ⟨hx, hb, hml, hown, hts⟩ (c_X0_give_t2 l hl0 D cI cZ cJ h a0 a1 a2 a3 a4 a5 a6 a7 a8 a9 a10 f0 f1 f2 f3 f4 f5 f6 f7 f8 f9 f10 v0 v1 v2 v3 p0 p1 hg hi) (cwV 2 hts gL_act_X0_give rfl rfl rfl (by decide +kernel) ⟨Nat.le_of_ble_eq_true rfl, Nat.le_of_ble_eq_true rfl⟩) ⟨zPX_blind, va_recv hK hP (ci := 0) (q0 := 0) rfl rfl, fun U hU hW => ⟨rfl, zX_at hZ hU hW, zP_mk hP hK hU hW⟩⟩ rfl rfl hl.1 rfl (lv_room (Nat.le_of_ble_eq_true rfl)) dL_act_7 ⟨Nat.le_of_ble_eq_true rfl, Nat.le_of_ble_eq_true rfl⟩) (fun _ h => h) hS (fun E ce q9 H1 locs hE hk9 hS hce hcv hcl => ?_)
  subst hE
  have hps : ∀ z ∈ ([⟨0, 121, 122, 42⟩] : List ExceptionTableEntry), covers z 7 = false ∨ (z.catchType ≠ 0 ∧ ∃ nm : String, (Cond.classLink RL z.catchType nm).before ([Value.ref h, Value.int 0, Value.int p0, Value.int p1] : List Value).toArray s = true ∧ va_Nc "java/lang/IllegalArgumentException" nm s) := (fun z hz => by
      simp only [List.mem_cons, List.not_mem_nil, or_false] at hz
      rcases hz with rfl
      · exact Or.inr ⟨by decide, "java/lang/IndexOutOfBoundsException", hts (.classLink RL 42 "java/lang/IndexOutOfBoundsException") (by decide +kernel), hZ.2.2.1 ("java/lang/IllegalArgumentException", "java/lang/IndexOutOfBoundsException") (by decide)⟩)
  refine vx_catch (own := RL) (name := "java/lang/IllegalArgumentException") hown [⟨0, 121, 122, 42⟩] ⟨0, 121, 128, 44⟩ [⟨0, 121, 134, 46⟩] (htab.trans rfl) hps (by decide) (by decide) (hts (.classLink RL 44 "java/lang/IllegalArgumentException") (by decide +kernel)) (va_Nw.use rfl (hZ.1 (.castable "java/lang/IllegalArgumentException" "java/lang/IllegalArgumentException") (by decide))) hce hcv hcl ?_
  have hP := hP.kept (fun k q hk => hk9 q.1 (vx_lt hP hk))
  have hgr : s.heap.size + 0 ≤ H1.size := hS.1
  refine lv_astore (lv' := [(4, .ref q9), (0, .ref h), (1, .int 0), (2, .int p0), (3, .int p1)]) hx hb dL_act_128 hl (by decide) rfl (fun ls hl => ?_)
  refine lv_sipush (v := (-1042)) hx hb dL_act_130 (by decide) ?_
  refine W.widen (k := 1) (n := 6) (Nat.le_of_ble_eq_true rfl) (Nat.le_of_ble_eq_true rfl) ?_
  refine vx_ret ?_
  exact W.iret (v := (-1042)) hx hb hr (fun t ht hW => ⟨⟨(-1042), (), rfl, rfl, by show s.heap.size + 0 ≤ t.heap.size; rw [ht]; exact hgr⟩, hS.F ht⟩) hS.2.2 dL_act_133
set_option maxHeartbeats 4000000 in
set_option maxRecDepth 100000 in
theorem k_act_leave_t (l : Launch) (hl0 : l.stackTraces = false) (D : va_G) (cI cZ cJ : ClassId) (sz : Nat) (h a0 a1 a2 a3 a4 a5 a6 a7 a8 a9 a10 : Nat) (f0 f1 f2 f3 f4 f5 f6 f7 f8 f9 f10 : Nat → Int32) (v0 v1 v2 v3 : Int32) (p0 p1 : Int32) (hg : q_g p0 = false) : vx_Met l yL_act wsL_act ({ frames := 8, cells := 1, slots := 6, locals := 132 }) (va_Pc [.ref h, .int 1, .int p0, .int p1] (zKX D cI cZ cJ sz (wQ cI cZ h a0 a1 a2 a3 a4 a5 a6 a7 a8 a9 a10 f0 f1 f2 f3 f4 f5 f6 f7 f8 f9 f10 v0 v1 v2 v3))) (va_Qi (fun (r : Int32) (_ : Unit) => r = (-1041)) (fun _ t => sz + 0 ≤ t.heap.size) (fun _ => False)) (zXC (fun _ => False)) 1 6 (fun _ => False) := by
  refine vx_ofWH (cc := cL_act) (maxL := 5) (ret := (some .int)) (hh := [(0, 121, 122, 42), (0, 121, 128, 44), (0, 121, 134, 46)]) (by decide) rfl ?_
  intro p e s m args below meth c s₁ B hml hv
  obtain ⟨rfl, hsz, hZ, hP, hK⟩ := hv
  have hx := B.exec
  have hb := B.bytes
  have hr := B.returns
  have hts := atoms_spec (ws := wsL_act) B.pre
  have htab := vx_table (x := yL_act) B (hts _ List.mem_cons_self)
  have hown : s.vm.findClass RL = some m.cls := findClass_of_methodNamed B.named
  have hlocks := B.notSynchronized
  subst hsz
  have hS : va_S (fun _ : Nat => False) s.heap s.heap [] := va_S.rf
  have hgr : s.heap.size + 0 ≤ s.heap.size := Nat.le_refl _
  have hl := lv_entry ([.ref h, .int 1, .int p0, .int p1]) (n := 5) (Nat.le_of_ble_eq_true rfl)
  rw [lg_entry_eq]
  generalize (lg_sl ([.ref h, .int 1, .int p0, .int p1]) ++ List.replicate (5 - (lg_sl ([.ref h, .int 1, .int p0, .int p1])).length) Slot.unset).toArray = ls at hl ⊢
  have hl : lv_has ls 5 [(0, .ref h), (1, .int 1), (2, .int p0), (3, .int p1)] := hl
  refine lv_iload_n hx hb dL_act_0 rfl (lv_at hl 1 rfl) ?_
  refine lv_if_ne (tgt := 13) hx hb dL_act_1 (by decide) (fun _ => ?_) (fun c9 => False.elim (by revert c9; decide))
  refine lv_iload_n hx hb dL_act_13 rfl (lv_at hl 1 rfl) ?_
  refine lv_iconst (v := 1) hx hb dL_act_14 (by decide) ?_
  refine lv_icmp_ne (tgt := 26) hx hb dL_act_15 (by decide) (fun c9 => False.elim (by revert c9; decide)) (fun _ => ?_)
  refine lv_aload_n hx hb dL_act_18 rfl (lv_at hl 0 rfl) ?_
  refine lv_iload_n hx hb dL_act_19 rfl (lv_at hl 2 rfl) ?_
  refine z_catch (vx_runV (As := [.int p0]) (rest := []) ⟨hx, hb, hml, hown, hts⟩ (c_X0_leave_t l hl0 D cI cZ cJ h a0 a1 a2 a3 a4 a5 a6 a7 a8 a9 a10 f0 f1 f2 f3 f4 f5 f6 f7 f8 f9 f10 v0 v1 v2 v3 p0 hg) (cwV 1 hts gL_act_X0_leave rfl rfl rfl (by decide +kernel) ⟨Nat.le_of_ble_eq_true rfl, Nat.le_of_ble_eq_true rfl⟩) ⟨zPX_blind, va_recv hK hP (ci := 0) (q0 := 0) rfl rfl, fun U hU hW => ⟨rfl, zX_at hZ hU hW, zP_mk hP hK hU hW⟩⟩ rfl rfl hl.1 rfl (lv_room (Nat.le_of_ble_eq_true rfl)) dL_act_20 ⟨Nat.le_of_ble_eq_true rfl, Nat.le_of_ble_eq_true rfl⟩) (fun _ h => h) hS (fun E ce q9 H1 locs hE hk9 hS hce hcv hcl => ?_)
  subst hE
  have hps : ∀ z ∈ ([] : List ExceptionTableEntry), covers z 20 = false ∨ (z.catchType ≠ 0 ∧ ∃ nm : String, (Cond.classLink RL z.catchType nm).before ([Value.ref h, Value.int 1, Value.int p0, Value.int p1] : List Value).toArray s = true ∧ va_Nc "java/lang/IndexOutOfBoundsException" nm s) := (fun z hz => nomatch hz)
  refine vx_catch (own := RL) (name := "java/lang/IndexOutOfBoundsException") hown [] ⟨0, 121, 122, 42⟩ [⟨0, 121, 128, 44⟩, ⟨0, 121, 134, 46⟩] (htab.trans rfl) hps (by decide) (by decide) (hts (.classLink RL 42 "java/lang/IndexOutOfBoundsException") (by decide +kernel)) (va_Nw.use rfl (hZ.1 (.castable "java/lang/IndexOutOfBoundsException" "java/lang/IndexOutOfBoundsException") (by decide))) hce hcv hcl ?_
  have hP := hP.kept (fun k q hk => hk9 q.1 (vx_lt hP hk))
  have hgr : s.heap.size + 0 ≤ H1.size := hS.1
  refine lv_astore (lv' := [(4, .ref q9), (0, .ref h), (1, .int 1), (2, .int p0), (3, .int p1)]) hx hb dL_act_122 hl (by decide) rfl (fun ls hl => ?_)
  refine lv_sipush (v := (-1041)) hx hb dL_act_124 (by decide) ?_
  refine W.widen (k := 1) (n := 6) (Nat.le_of_ble_eq_true rfl) (Nat.le_of_ble_eq_true rfl) ?_
  refine vx_ret ?_
  exact W.iret (v := (-1041)) hx hb hr (fun t ht hW => ⟨⟨(-1041), (), rfl, rfl, by show s.heap.size + 0 ≤ t.heap.size; rw [ht]; exact hgr⟩, hS.F ht⟩) hS.2.2 dL_act_127
set_option maxHeartbeats 4000000 in
set_option maxRecDepth 100000 in
theorem k_act_trust_t1 (l : Launch) (hl0 : l.stackTraces = false) (D : va_G) (cI cZ cJ : ClassId) (sz : Nat) (h a0 a1 a2 a3 a4 a5 a6 a7 a8 a9 a10 : Nat) (f0 f1 f2 f3 f4 f5 f6 f7 f8 f9 f10 : Nat → Int32) (v0 v1 v2 v3 : Int32) (p0 p1 : Int32) (hg : q_g p0 = false) : vx_Met l yL_act wsL_act ({ frames := 8, cells := 1, slots := 6, locals := 133 }) (va_Pc [.ref h, .int 2, .int p0, .int p1] (zKX D cI cZ cJ sz (wQ cI cZ h a0 a1 a2 a3 a4 a5 a6 a7 a8 a9 a10 f0 f1 f2 f3 f4 f5 f6 f7 f8 f9 f10 v0 v1 v2 v3))) (va_Qi (fun (r : Int32) (_ : Unit) => r = (-1041)) (fun _ t => sz + 0 ≤ t.heap.size) (fun _ => False)) (zXC (fun _ => False)) 1 6 (fun _ => False) := by
  refine vx_ofWH (cc := cL_act) (maxL := 5) (ret := (some .int)) (hh := [(0, 121, 122, 42), (0, 121, 128, 44), (0, 121, 134, 46)]) (by decide) rfl ?_
  intro p e s m args below meth c s₁ B hml hv
  obtain ⟨rfl, hsz, hZ, hP, hK⟩ := hv
  have hx := B.exec
  have hb := B.bytes
  have hr := B.returns
  have hts := atoms_spec (ws := wsL_act) B.pre
  have htab := vx_table (x := yL_act) B (hts _ List.mem_cons_self)
  have hown : s.vm.findClass RL = some m.cls := findClass_of_methodNamed B.named
  have hlocks := B.notSynchronized
  subst hsz
  have hS : va_S (fun _ : Nat => False) s.heap s.heap [] := va_S.rf
  have hgr : s.heap.size + 0 ≤ s.heap.size := Nat.le_refl _
  have hl := lv_entry ([.ref h, .int 2, .int p0, .int p1]) (n := 5) (Nat.le_of_ble_eq_true rfl)
  rw [lg_entry_eq]
  generalize (lg_sl ([.ref h, .int 2, .int p0, .int p1]) ++ List.replicate (5 - (lg_sl ([.ref h, .int 2, .int p0, .int p1])).length) Slot.unset).toArray = ls at hl ⊢
  have hl : lv_has ls 5 [(0, .ref h), (1, .int 2), (2, .int p0), (3, .int p1)] := hl
  refine lv_iload_n hx hb dL_act_0 rfl (lv_at hl 1 rfl) ?_
  refine lv_if_ne (tgt := 13) hx hb dL_act_1 (by decide) (fun _ => ?_) (fun c9 => False.elim (by revert c9; decide))
  refine lv_iload_n hx hb dL_act_13 rfl (lv_at hl 1 rfl) ?_
  refine lv_iconst (v := 1) hx hb dL_act_14 (by decide) ?_
  refine lv_icmp_ne (tgt := 26) hx hb dL_act_15 (by decide) (fun _ => ?_) (fun c9 => False.elim (by revert c9; decide))
  refine lv_iload_n hx hb dL_act_26 rfl (lv_at hl 1 rfl) ?_
  refine lv_iconst (v := 2) hx hb dL_act_27 (by decide) ?_
  refine lv_icmp_ne (tgt := 40) hx hb dL_act_28 (by decide) (fun c9 => False.elim (by revert c9; decide)) (fun _ => ?_)
  refine lv_aload_n hx hb dL_act_31 rfl (lv_at hl 0 rfl) ?_
  refine lv_iload_n hx hb dL_act_32 rfl (lv_at hl 2 rfl) ?_
  refine lv_iload_n hx hb dL_act_33 rfl (lv_at hl 3 rfl) ?_
  refine z_catch (vx_runV (As := [.int p0, .int p1]) (rest := []) ⟨hx, hb, hml, hown, hts⟩ (c_X0_trust_t1 l hl0 D cI cZ cJ h a0 a1 a2 a3 a4 a5 a6 a7 a8 a9 a10 f0 f1 f2 f3 f4 f5 f6 f7 f8 f9 f10 v0 v1 v2 v3 p0 p1 hg) (cwV 2 hts gL_act_X0_trust rfl rfl rfl (by decide +kernel) ⟨Nat.le_of_ble_eq_true rfl, Nat.le_of_ble_eq_true rfl⟩) ⟨zPX_blind, va_recv hK hP (ci := 0) (q0 := 0) rfl rfl, fun U hU hW => ⟨rfl, zX_at hZ hU hW, zP_mk hP hK hU hW⟩⟩ rfl rfl hl.1 rfl (lv_room (Nat.le_of_ble_eq_true rfl)) dL_act_34 ⟨Nat.le_of_ble_eq_true rfl, Nat.le_of_ble_eq_true rfl⟩) (fun _ h => h) hS (fun E ce q9 H1 locs hE hk9 hS hce hcv hcl => ?_)
  subst hE
  have hps : ∀ z ∈ ([] : List ExceptionTableEntry), covers z 34 = false ∨ (z.catchType ≠ 0 ∧ ∃ nm : String, (Cond.classLink RL z.catchType nm).before ([Value.ref h, Value.int 2, Value.int p0, Value.int p1] : List Value).toArray s = true ∧ va_Nc "java/lang/IndexOutOfBoundsException" nm s) := (fun z hz => nomatch hz)
  refine vx_catch (own := RL) (name := "java/lang/IndexOutOfBoundsException") hown [] ⟨0, 121, 122, 42⟩ [⟨0, 121, 128, 44⟩, ⟨0, 121, 134, 46⟩] (htab.trans rfl) hps (by decide) (by decide) (hts (.classLink RL 42 "java/lang/IndexOutOfBoundsException") (by decide +kernel)) (va_Nw.use rfl (hZ.1 (.castable "java/lang/IndexOutOfBoundsException" "java/lang/IndexOutOfBoundsException") (by decide))) hce hcv hcl ?_
  have hP := hP.kept (fun k q hk => hk9 q.1 (vx_lt hP hk))
  have hgr : s.heap.size + 0 ≤ H1.size := hS.1
  refine lv_astore (lv' := [(4, .ref q9), (0, .ref h), (1, .int 2), (2, .int p0), (3, .int p1)]) hx hb dL_act_122 hl (by decide) rfl (fun ls hl => ?_)
  refine lv_sipush (v := (-1041)) hx hb dL_act_124 (by decide) ?_
  refine W.widen (k := 1) (n := 6) (Nat.le_of_ble_eq_true rfl) (Nat.le_of_ble_eq_true rfl) ?_
  refine vx_ret ?_
  exact W.iret (v := (-1041)) hx hb hr (fun t ht hW => ⟨⟨(-1041), (), rfl, rfl, by show s.heap.size + 0 ≤ t.heap.size; rw [ht]; exact hgr⟩, hS.F ht⟩) hS.2.2 dL_act_127
set_option maxHeartbeats 4000000 in
set_option maxRecDepth 100000 in
theorem k_act_trust_t2 (l : Launch) (hl0 : l.stackTraces = false) (D : va_G) (cI cZ cJ : ClassId) (sz : Nat) (h a0 a1 a2 a3 a4 a5 a6 a7 a8 a9 a10 : Nat) (f0 f1 f2 f3 f4 f5 f6 f7 f8 f9 f10 : Nat → Int32) (v0 v1 v2 v3 : Int32) (p0 p1 : Int32) (hg : q_g p0 = true) (ho : (decide (p1 = -1) || q_g p1) = false) : vx_Met l yL_act wsL_act ({ frames := 8, cells := 1, slots := 6, locals := 133 }) (va_Pc [.ref h, .int 2, .int p0, .int p1] (zKX D cI cZ cJ sz (wQ cI cZ h a0 a1 a2 a3 a4 a5 a6 a7 a8 a9 a10 f0 f1 f2 f3 f4 f5 f6 f7 f8 f9 f10 v0 v1 v2 v3))) (va_Qi (fun (r : Int32) (_ : Unit) => r = (-1041)) (fun _ t => sz + 0 ≤ t.heap.size) (fun _ => False)) (zXC (fun _ => False)) 1 6 (fun _ => False) := by
  refine vx_ofWH (cc := cL_act) (maxL := 5) (ret := (some .int)) (hh := [(0, 121, 122, 42), (0, 121, 128, 44), (0, 121, 134, 46)]) (by decide) rfl ?_
  intro p e s m args below meth c s₁ B hml hv
  obtain ⟨rfl, hsz, hZ, hP, hK⟩ := hv
  have hx := B.exec
  have hb := B.bytes
  have hr := B.returns
  have hts := atoms_spec (ws := wsL_act) B.pre
  have htab := vx_table (x := yL_act) B (hts _ List.mem_cons_self)
  have hown : s.vm.findClass RL = some m.cls := findClass_of_methodNamed B.named
  have hlocks := B.notSynchronized
  subst hsz
  have hS : va_S (fun _ : Nat => False) s.heap s.heap [] := va_S.rf
  have hgr : s.heap.size + 0 ≤ s.heap.size := Nat.le_refl _
  have hl := lv_entry ([.ref h, .int 2, .int p0, .int p1]) (n := 5) (Nat.le_of_ble_eq_true rfl)
  rw [lg_entry_eq]
  generalize (lg_sl ([.ref h, .int 2, .int p0, .int p1]) ++ List.replicate (5 - (lg_sl ([.ref h, .int 2, .int p0, .int p1])).length) Slot.unset).toArray = ls at hl ⊢
  have hl : lv_has ls 5 [(0, .ref h), (1, .int 2), (2, .int p0), (3, .int p1)] := hl
  refine lv_iload_n hx hb dL_act_0 rfl (lv_at hl 1 rfl) ?_
  refine lv_if_ne (tgt := 13) hx hb dL_act_1 (by decide) (fun _ => ?_) (fun c9 => False.elim (by revert c9; decide))
  refine lv_iload_n hx hb dL_act_13 rfl (lv_at hl 1 rfl) ?_
  refine lv_iconst (v := 1) hx hb dL_act_14 (by decide) ?_
  refine lv_icmp_ne (tgt := 26) hx hb dL_act_15 (by decide) (fun _ => ?_) (fun c9 => False.elim (by revert c9; decide))
  refine lv_iload_n hx hb dL_act_26 rfl (lv_at hl 1 rfl) ?_
  refine lv_iconst (v := 2) hx hb dL_act_27 (by decide) ?_
  refine lv_icmp_ne (tgt := 40) hx hb dL_act_28 (by decide) (fun c9 => False.elim (by revert c9; decide)) (fun _ => ?_)
  refine lv_aload_n hx hb dL_act_31 rfl (lv_at hl 0 rfl) ?_
  refine lv_iload_n hx hb dL_act_32 rfl (lv_at hl 2 rfl) ?_
  refine lv_iload_n hx hb dL_act_33 rfl (lv_at hl 3 rfl) ?_
  refine z_catch (vx_runV (As := [.int p0, .int p1]) (rest := []) ⟨hx, hb, hml, hown, hts⟩ (c_X0_trust_t2 l hl0 D cI cZ cJ h a0 a1 a2 a3 a4 a5 a6 a7 a8 a9 a10 f0 f1 f2 f3 f4 f5 f6 f7 f8 f9 f10 v0 v1 v2 v3 p0 p1 hg ho) (cwV 2 hts gL_act_X0_trust rfl rfl rfl (by decide +kernel) ⟨Nat.le_of_ble_eq_true rfl, Nat.le_of_ble_eq_true rfl⟩) ⟨zPX_blind, va_recv hK hP (ci := 0) (q0 := 0) rfl rfl, fun U hU hW => ⟨rfl, zX_at hZ hU hW, zP_mk hP hK hU hW⟩⟩ rfl rfl hl.1 rfl (lv_room (Nat.le_of_ble_eq_true rfl)) dL_act_34 ⟨Nat.le_of_ble_eq_true rfl, Nat.le_of_ble_eq_true rfl⟩) (fun _ h => h) hS (fun E ce q9 H1 locs hE hk9 hS hce hcv hcl => ?_)
  subst hE
  have hps : ∀ z ∈ ([] : List ExceptionTableEntry), covers z 34 = false ∨ (z.catchType ≠ 0 ∧ ∃ nm : String, (Cond.classLink RL z.catchType nm).before ([Value.ref h, Value.int 2, Value.int p0, Value.int p1] : List Value).toArray s = true ∧ va_Nc "java/lang/IndexOutOfBoundsException" nm s) := (fun z hz => nomatch hz)
  refine vx_catch (own := RL) (name := "java/lang/IndexOutOfBoundsException") hown [] ⟨0, 121, 122, 42⟩ [⟨0, 121, 128, 44⟩, ⟨0, 121, 134, 46⟩] (htab.trans rfl) hps (by decide) (by decide) (hts (.classLink RL 42 "java/lang/IndexOutOfBoundsException") (by decide +kernel)) (va_Nw.use rfl (hZ.1 (.castable "java/lang/IndexOutOfBoundsException" "java/lang/IndexOutOfBoundsException") (by decide))) hce hcv hcl ?_
  have hP := hP.kept (fun k q hk => hk9 q.1 (vx_lt hP hk))
  have hgr : s.heap.size + 0 ≤ H1.size := hS.1
  refine lv_astore (lv' := [(4, .ref q9), (0, .ref h), (1, .int 2), (2, .int p0), (3, .int p1)]) hx hb dL_act_122 hl (by decide) rfl (fun ls hl => ?_)
  refine lv_sipush (v := (-1041)) hx hb dL_act_124 (by decide) ?_
  refine W.widen (k := 1) (n := 6) (Nat.le_of_ble_eq_true rfl) (Nat.le_of_ble_eq_true rfl) ?_
  refine vx_ret ?_
  exact W.iret (v := (-1041)) hx hb hr (fun t ht hW => ⟨⟨(-1041), (), rfl, rfl, by show s.heap.size + 0 ≤ t.heap.size; rw [ht]; exact hgr⟩, hS.F ht⟩) hS.2.2 dL_act_127
set_option maxHeartbeats 4000000 in
set_option maxRecDepth 100000 in
theorem k_act_trust_t3 (l : Launch) (hl0 : l.stackTraces = false) (D : va_G) (cI cZ cJ : ClassId) (sz : Nat) (h a0 a1 a2 a3 a4 a5 a6 a7 a8 a9 a10 : Nat) (f0 f1 f2 f3 f4 f5 f6 f7 f8 f9 f10 : Nat → Int32) (v0 v1 v2 v3 : Int32) (p0 p1 : Int32) (hg : q_g p0 = true) (ho : (decide (p1 = -1) || q_g p1) = true) (hle : q_lead f4 8 p1 p0 = true) : vx_Met l yL_act wsL_act ({ frames := 7, cells := 1, slots := 6, locals := 113 }) (va_Pc [.ref h, .int 2, .int p0, .int p1] (zKX D cI cZ cJ sz (wQ cI cZ h a0 a1 a2 a3 a4 a5 a6 a7 a8 a9 a10 f0 f1 f2 f3 f4 f5 f6 f7 f8 f9 f10 v0 v1 v2 v3))) (va_Qi (fun (r : Int32) (_ : Unit) => r = (-1043)) (fun _ t => sz + 0 ≤ t.heap.size) (fun _ => False)) (zXC (fun _ => False)) 1 6 (fun _ => False) := by
  refine vx_ofWH (cc := cL_act) (maxL := 5) (ret := (some .int)) (hh := [(0, 121, 122, 42), (0, 121, 128, 44), (0, 121, 134, 46)]) (by decide) rfl ?_
  intro p e s m args below meth c s₁ B hml hv
  obtain ⟨rfl, hsz, hZ, hP, hK⟩ := hv
  have hx := B.exec
  have hb := B.bytes
  have hr := B.returns
  have hts := atoms_spec (ws := wsL_act) B.pre
  have htab := vx_table (x := yL_act) B (hts _ List.mem_cons_self)
  have hown : s.vm.findClass RL = some m.cls := findClass_of_methodNamed B.named
  have hlocks := B.notSynchronized
  subst hsz
  have hS : va_S (fun _ : Nat => False) s.heap s.heap [] := va_S.rf
  have hgr : s.heap.size + 0 ≤ s.heap.size := Nat.le_refl _
  have hl := lv_entry ([.ref h, .int 2, .int p0, .int p1]) (n := 5) (Nat.le_of_ble_eq_true rfl)
  rw [lg_entry_eq]
  generalize (lg_sl ([.ref h, .int 2, .int p0, .int p1]) ++ List.replicate (5 - (lg_sl ([.ref h, .int 2, .int p0, .int p1])).length) Slot.unset).toArray = ls at hl ⊢
  have hl : lv_has ls 5 [(0, .ref h), (1, .int 2), (2, .int p0), (3, .int p1)] := hl
  refine lv_iload_n hx hb dL_act_0 rfl (lv_at hl 1 rfl) ?_
  refine lv_if_ne (tgt := 13) hx hb dL_act_1 (by decide) (fun _ => ?_) (fun c9 => False.elim (by revert c9; decide))
  refine lv_iload_n hx hb dL_act_13 rfl (lv_at hl 1 rfl) ?_
  refine lv_iconst (v := 1) hx hb dL_act_14 (by decide) ?_
  refine lv_icmp_ne (tgt := 26) hx hb dL_act_15 (by decide) (fun _ => ?_) (fun c9 => False.elim (by revert c9; decide))
  refine lv_iload_n hx hb dL_act_26 rfl (lv_at hl 1 rfl) ?_
  refine lv_iconst (v := 2) hx hb dL_act_27 (by decide) ?_
  refine lv_icmp_ne (tgt := 40) hx hb dL_act_28 (by decide) (fun c9 => False.elim (by revert c9; decide)) (fun _ => ?_)
  refine lv_aload_n hx hb dL_act_31 rfl (lv_at hl 0 rfl) ?_
  refine lv_iload_n hx hb dL_act_32 rfl (lv_at hl 2 rfl) ?_
  refine lv_iload_n hx hb dL_act_33 rfl (lv_at hl 3 rfl) ?_
  refine z_catch (vx_runV (As := [.int p0, .int p1]) (rest := []) ⟨hx, hb, hml, hown, hts⟩ (c_X0_trust_t3 l hl0 D cI cZ cJ h a0 a1 a2 a3 a4 a5 a6 a7 a8 a9 a10 f0 f1 f2 f3 f4 f5 f6 f7 f8 f9 f10 v0 v1 v2 v3 p0 p1 hg ho hle) (cwV 2 hts gL_act_X0_trust rfl rfl rfl (by decide +kernel) ⟨Nat.le_of_ble_eq_true rfl, Nat.le_of_ble_eq_true rfl⟩) ⟨zPX_blind, va_recv hK hP (ci := 0) (q0 := 0) rfl rfl, fun U hU hW => ⟨rfl, zX_at hZ hU hW, zP_mk hP hK hU hW⟩⟩ rfl rfl hl.1 rfl (lv_room (Nat.le_of_ble_eq_true rfl)) dL_act_34 ⟨Nat.le_of_ble_eq_true rfl, Nat.le_of_ble_eq_true rfl⟩) (fun _ h => h) hS (fun E ce q9 H1 locs hE hk9 hS hce hcv hcl => ?_)
  subst hE
  have hps : ∀ z ∈ ([⟨0, 121, 122, 42⟩, ⟨0, 121, 128, 44⟩] : List ExceptionTableEntry), covers z 34 = false ∨ (z.catchType ≠ 0 ∧ ∃ nm : String, (Cond.classLink RL z.catchType nm).before ([Value.ref h, Value.int 2, Value.int p0, Value.int p1] : List Value).toArray s = true ∧ va_Nc "java/lang/IllegalStateException" nm s) := (fun z hz => by
      simp only [List.mem_cons, List.not_mem_nil, or_false] at hz
      rcases hz with rfl | rfl
      · exact Or.inr ⟨by decide, "java/lang/IndexOutOfBoundsException", hts (.classLink RL 42 "java/lang/IndexOutOfBoundsException") (by decide +kernel), hZ.2.2.1 ("java/lang/IllegalStateException", "java/lang/IndexOutOfBoundsException") (by decide)⟩
      · exact Or.inr ⟨by decide, "java/lang/IllegalArgumentException", hts (.classLink RL 44 "java/lang/IllegalArgumentException") (by decide +kernel), hZ.2.2.1 ("java/lang/IllegalStateException", "java/lang/IllegalArgumentException") (by decide)⟩)
  refine vx_catch (own := RL) (name := "java/lang/IllegalStateException") hown [⟨0, 121, 122, 42⟩, ⟨0, 121, 128, 44⟩] ⟨0, 121, 134, 46⟩ [] (htab.trans rfl) hps (by decide) (by decide) (hts (.classLink RL 46 "java/lang/IllegalStateException") (by decide +kernel)) (va_Nw.use rfl (hZ.1 (.castable "java/lang/IllegalStateException" "java/lang/IllegalStateException") (by decide))) hce hcv hcl ?_
  have hP := hP.kept (fun k q hk => hk9 q.1 (vx_lt hP hk))
  have hgr : s.heap.size + 0 ≤ H1.size := hS.1
  refine lv_astore (lv' := [(4, .ref q9), (0, .ref h), (1, .int 2), (2, .int p0), (3, .int p1)]) hx hb dL_act_134 hl (by decide) rfl (fun ls hl => ?_)
  refine lv_sipush (v := (-1043)) hx hb dL_act_136 (by decide) ?_
  refine W.widen (k := 1) (n := 6) (Nat.le_of_ble_eq_true rfl) (Nat.le_of_ble_eq_true rfl) ?_
  refine vx_ret ?_
  exact W.iret (v := (-1043)) hx hb hr (fun t ht hW => ⟨⟨(-1043), (), rfl, rfl, by show s.heap.size + 0 ≤ t.heap.size; rw [ht]; exact hgr⟩, hS.F ht⟩) hS.2.2 dL_act_139
set_option maxHeartbeats 4000000 in
set_option maxRecDepth 100000 in
theorem k_act_setPerson_t1 (l : Launch) (hl0 : l.stackTraces = false) (D : va_G) (cI cZ cJ : ClassId) (sz : Nat) (h a0 a1 a2 a3 a4 a5 a6 a7 a8 a9 a10 : Nat) (f0 f1 f2 f3 f4 f5 f6 f7 f8 f9 f10 : Nat → Int32) (v0 v1 v2 v3 : Int32) (p0 p1 : Int32) (hg : q_g p0 = false) : vx_Met l yL_act wsL_act ({ frames := 8, cells := 1, slots := 6, locals := 133 }) (va_Pc [.ref h, .int 3, .int p0, .int p1] (zKX D cI cZ cJ sz (wQ cI cZ h a0 a1 a2 a3 a4 a5 a6 a7 a8 a9 a10 f0 f1 f2 f3 f4 f5 f6 f7 f8 f9 f10 v0 v1 v2 v3))) (va_Qi (fun (r : Int32) (_ : Unit) => r = (-1041)) (fun _ t => sz + 0 ≤ t.heap.size) (fun _ => False)) (zXC (fun _ => False)) 1 6 (fun _ => False) := by
  refine vx_ofWH (cc := cL_act) (maxL := 5) (ret := (some .int)) (hh := [(0, 121, 122, 42), (0, 121, 128, 44), (0, 121, 134, 46)]) (by decide) rfl ?_
  intro p e s m args below meth c s₁ B hml hv
  obtain ⟨rfl, hsz, hZ, hP, hK⟩ := hv
  have hx := B.exec
  have hb := B.bytes
  have hr := B.returns
  have hts := atoms_spec (ws := wsL_act) B.pre
  have htab := vx_table (x := yL_act) B (hts _ List.mem_cons_self)
  have hown : s.vm.findClass RL = some m.cls := findClass_of_methodNamed B.named
  have hlocks := B.notSynchronized
  subst hsz
  have hS : va_S (fun _ : Nat => False) s.heap s.heap [] := va_S.rf
  have hgr : s.heap.size + 0 ≤ s.heap.size := Nat.le_refl _
  have hl := lv_entry ([.ref h, .int 3, .int p0, .int p1]) (n := 5) (Nat.le_of_ble_eq_true rfl)
  rw [lg_entry_eq]
  generalize (lg_sl ([.ref h, .int 3, .int p0, .int p1]) ++ List.replicate (5 - (lg_sl ([.ref h, .int 3, .int p0, .int p1])).length) Slot.unset).toArray = ls at hl ⊢
  have hl : lv_has ls 5 [(0, .ref h), (1, .int 3), (2, .int p0), (3, .int p1)] := hl
  refine lv_iload_n hx hb dL_act_0 rfl (lv_at hl 1 rfl) ?_
  refine lv_if_ne (tgt := 13) hx hb dL_act_1 (by decide) (fun _ => ?_) (fun c9 => False.elim (by revert c9; decide))
  refine lv_iload_n hx hb dL_act_13 rfl (lv_at hl 1 rfl) ?_
  refine lv_iconst (v := 1) hx hb dL_act_14 (by decide) ?_
  refine lv_icmp_ne (tgt := 26) hx hb dL_act_15 (by decide) (fun _ => ?_) (fun c9 => False.elim (by revert c9; decide))
  refine lv_iload_n hx hb dL_act_26 rfl (lv_at hl 1 rfl) ?_
  refine lv_iconst (v := 2) hx hb dL_act_27 (by decide) ?_
  refine lv_icmp_ne (tgt := 40) hx hb dL_act_28 (by decide) (fun _ => ?_) (fun c9 => False.elim (by revert c9; decide))
  refine lv_iload_n hx hb dL_act_40 rfl (lv_at hl 1 rfl) ?_
  refine lv_iconst (v := 3) hx hb dL_act_41 (by decide) ?_
  refine lv_icmp_ne (tgt := 54) hx hb dL_act_42 (by decide) (fun c9 => False.elim (by revert c9; decide)) (fun _ => ?_)
  refine lv_aload_n hx hb dL_act_45 rfl (lv_at hl 0 rfl) ?_
  refine lv_iload_n hx hb dL_act_46 rfl (lv_at hl 2 rfl) ?_
  refine lv_iload_n hx hb dL_act_47 rfl (lv_at hl 3 rfl) ?_
  refine z_catch (vx_runV (As := [.int p0, .int p1]) (rest := []) ⟨hx, hb, hml, hown, hts⟩ (c_X0_setPerson_t1 l hl0 D cI cZ cJ h a0 a1 a2 a3 a4 a5 a6 a7 a8 a9 a10 f0 f1 f2 f3 f4 f5 f6 f7 f8 f9 f10 v0 v1 v2 v3 p0 p1 hg) (cwV 2 hts gL_act_X0_setPerson rfl rfl rfl (by decide +kernel) ⟨Nat.le_of_ble_eq_true rfl, Nat.le_of_ble_eq_true rfl⟩) ⟨zPX_blind, va_recv hK hP (ci := 0) (q0 := 0) rfl rfl, fun U hU hW => ⟨rfl, zX_at hZ hU hW, zP_mk hP hK hU hW⟩⟩ rfl rfl hl.1 rfl (lv_room (Nat.le_of_ble_eq_true rfl)) dL_act_48 ⟨Nat.le_of_ble_eq_true rfl, Nat.le_of_ble_eq_true rfl⟩) (fun _ h => h) hS (fun E ce q9 H1 locs hE hk9 hS hce hcv hcl => ?_)
  subst hE
  have hps : ∀ z ∈ ([] : List ExceptionTableEntry), covers z 48 = false ∨ (z.catchType ≠ 0 ∧ ∃ nm : String, (Cond.classLink RL z.catchType nm).before ([Value.ref h, Value.int 3, Value.int p0, Value.int p1] : List Value).toArray s = true ∧ va_Nc "java/lang/IndexOutOfBoundsException" nm s) := (fun z hz => nomatch hz)
  refine vx_catch (own := RL) (name := "java/lang/IndexOutOfBoundsException") hown [] ⟨0, 121, 122, 42⟩ [⟨0, 121, 128, 44⟩, ⟨0, 121, 134, 46⟩] (htab.trans rfl) hps (by decide) (by decide) (hts (.classLink RL 42 "java/lang/IndexOutOfBoundsException") (by decide +kernel)) (va_Nw.use rfl (hZ.1 (.castable "java/lang/IndexOutOfBoundsException" "java/lang/IndexOutOfBoundsException") (by decide))) hce hcv hcl ?_
  have hP := hP.kept (fun k q hk => hk9 q.1 (vx_lt hP hk))
  have hgr : s.heap.size + 0 ≤ H1.size := hS.1
  refine lv_astore (lv' := [(4, .ref q9), (0, .ref h), (1, .int 3), (2, .int p0), (3, .int p1)]) hx hb dL_act_122 hl (by decide) rfl (fun ls hl => ?_)
  refine lv_sipush (v := (-1041)) hx hb dL_act_124 (by decide) ?_
  refine W.widen (k := 1) (n := 6) (Nat.le_of_ble_eq_true rfl) (Nat.le_of_ble_eq_true rfl) ?_
  refine vx_ret ?_
  exact W.iret (v := (-1041)) hx hb hr (fun t ht hW => ⟨⟨(-1041), (), rfl, rfl, by show s.heap.size + 0 ≤ t.heap.size; rw [ht]; exact hgr⟩, hS.F ht⟩) hS.2.2 dL_act_127
set_option maxHeartbeats 4000000 in
set_option maxRecDepth 100000 in
theorem k_act_setPerson_t2 (l : Launch) (hl0 : l.stackTraces = false) (D : va_G) (cI cZ cJ : ClassId) (sz : Nat) (h a0 a1 a2 a3 a4 a5 a6 a7 a8 a9 a10 : Nat) (f0 f1 f2 f3 f4 f5 f6 f7 f8 f9 f10 : Nat → Int32) (v0 v1 v2 v3 : Int32) (p0 p1 : Int32) (hg : q_g p0 = true) (hp : q_g p1 = false) : vx_Met l yL_act wsL_act ({ frames := 7, cells := 1, slots := 6, locals := 113 }) (va_Pc [.ref h, .int 3, .int p0, .int p1] (zKX D cI cZ cJ sz (wQ cI cZ h a0 a1 a2 a3 a4 a5 a6 a7 a8 a9 a10 f0 f1 f2 f3 f4 f5 f6 f7 f8 f9 f10 v0 v1 v2 v3))) (va_Qi (fun (r : Int32) (_ : Unit) => r = (-1041)) (fun _ t => sz + 0 ≤ t.heap.size) (fun _ => False)) (zXC (fun _ => False)) 1 6 (fun _ => False) := by
  refine vx_ofWH (cc := cL_act) (maxL := 5) (ret := (some .int)) (hh := [(0, 121, 122, 42), (0, 121, 128, 44), (0, 121, 134, 46)]) (by decide) rfl ?_
  intro p e s m args below meth c s₁ B hml hv
  obtain ⟨rfl, hsz, hZ, hP, hK⟩ := hv
  have hx := B.exec
  have hb := B.bytes
  have hr := B.returns
  have hts := atoms_spec (ws := wsL_act) B.pre
  have htab := vx_table (x := yL_act) B (hts _ List.mem_cons_self)
  have hown : s.vm.findClass RL = some m.cls := findClass_of_methodNamed B.named
  have hlocks := B.notSynchronized
  subst hsz
  have hS : va_S (fun _ : Nat => False) s.heap s.heap [] := va_S.rf
  have hgr : s.heap.size + 0 ≤ s.heap.size := Nat.le_refl _
  have hl := lv_entry ([.ref h, .int 3, .int p0, .int p1]) (n := 5) (Nat.le_of_ble_eq_true rfl)
  rw [lg_entry_eq]
  generalize (lg_sl ([.ref h, .int 3, .int p0, .int p1]) ++ List.replicate (5 - (lg_sl ([.ref h, .int 3, .int p0, .int p1])).length) Slot.unset).toArray = ls at hl ⊢
  have hl : lv_has ls 5 [(0, .ref h), (1, .int 3), (2, .int p0), (3, .int p1)] := hl
  refine lv_iload_n hx hb dL_act_0 rfl (lv_at hl 1 rfl) ?_
  refine lv_if_ne (tgt := 13) hx hb dL_act_1 (by decide) (fun _ => ?_) (fun c9 => False.elim (by revert c9; decide))
  refine lv_iload_n hx hb dL_act_13 rfl (lv_at hl 1 rfl) ?_
  refine lv_iconst (v := 1) hx hb dL_act_14 (by decide) ?_
  refine lv_icmp_ne (tgt := 26) hx hb dL_act_15 (by decide) (fun _ => ?_) (fun c9 => False.elim (by revert c9; decide))
  refine lv_iload_n hx hb dL_act_26 rfl (lv_at hl 1 rfl) ?_
  refine lv_iconst (v := 2) hx hb dL_act_27 (by decide) ?_
  refine lv_icmp_ne (tgt := 40) hx hb dL_act_28 (by decide) (fun _ => ?_) (fun c9 => False.elim (by revert c9; decide))
  refine lv_iload_n hx hb dL_act_40 rfl (lv_at hl 1 rfl) ?_
  refine lv_iconst (v := 3) hx hb dL_act_41 (by decide) ?_
  refine lv_icmp_ne (tgt := 54) hx hb dL_act_42 (by decide) (fun c9 => False.elim (by revert c9; decide)) (fun _ => ?_)
  refine lv_aload_n hx hb dL_act_45 rfl (lv_at hl 0 rfl) ?_
  refine lv_iload_n hx hb dL_act_46 rfl (lv_at hl 2 rfl) ?_
  refine lv_iload_n hx hb dL_act_47 rfl (lv_at hl 3 rfl) ?_
  refine z_catch (vx_runV (As := [.int p0, .int p1]) (rest := []) ⟨hx, hb, hml, hown, hts⟩ (c_X0_setPerson_t2 l hl0 D cI cZ cJ h a0 a1 a2 a3 a4 a5 a6 a7 a8 a9 a10 f0 f1 f2 f3 f4 f5 f6 f7 f8 f9 f10 v0 v1 v2 v3 p0 p1 hg hp) (cwV 2 hts gL_act_X0_setPerson rfl rfl rfl (by decide +kernel) ⟨Nat.le_of_ble_eq_true rfl, Nat.le_of_ble_eq_true rfl⟩) ⟨zPX_blind, va_recv hK hP (ci := 0) (q0 := 0) rfl rfl, fun U hU hW => ⟨rfl, zX_at hZ hU hW, zP_mk hP hK hU hW⟩⟩ rfl rfl hl.1 rfl (lv_room (Nat.le_of_ble_eq_true rfl)) dL_act_48 ⟨Nat.le_of_ble_eq_true rfl, Nat.le_of_ble_eq_true rfl⟩) (fun _ h => h) hS (fun E ce q9 H1 locs hE hk9 hS hce hcv hcl => ?_)
  subst hE
  have hps : ∀ z ∈ ([] : List ExceptionTableEntry), covers z 48 = false ∨ (z.catchType ≠ 0 ∧ ∃ nm : String, (Cond.classLink RL z.catchType nm).before ([Value.ref h, Value.int 3, Value.int p0, Value.int p1] : List Value).toArray s = true ∧ va_Nc "java/lang/IndexOutOfBoundsException" nm s) := (fun z hz => nomatch hz)
  refine vx_catch (own := RL) (name := "java/lang/IndexOutOfBoundsException") hown [] ⟨0, 121, 122, 42⟩ [⟨0, 121, 128, 44⟩, ⟨0, 121, 134, 46⟩] (htab.trans rfl) hps (by decide) (by decide) (hts (.classLink RL 42 "java/lang/IndexOutOfBoundsException") (by decide +kernel)) (va_Nw.use rfl (hZ.1 (.castable "java/lang/IndexOutOfBoundsException" "java/lang/IndexOutOfBoundsException") (by decide))) hce hcv hcl ?_
  have hP := hP.kept (fun k q hk => hk9 q.1 (vx_lt hP hk))
  have hgr : s.heap.size + 0 ≤ H1.size := hS.1
  refine lv_astore (lv' := [(4, .ref q9), (0, .ref h), (1, .int 3), (2, .int p0), (3, .int p1)]) hx hb dL_act_122 hl (by decide) rfl (fun ls hl => ?_)
  refine lv_sipush (v := (-1041)) hx hb dL_act_124 (by decide) ?_
  refine W.widen (k := 1) (n := 6) (Nat.le_of_ble_eq_true rfl) (Nat.le_of_ble_eq_true rfl) ?_
  refine vx_ret ?_
  exact W.iret (v := (-1041)) hx hb hr (fun t ht hW => ⟨⟨(-1041), (), rfl, rfl, by show s.heap.size + 0 ≤ t.heap.size; rw [ht]; exact hgr⟩, hS.F ht⟩) hS.2.2 dL_act_127
set_option maxHeartbeats 4000000 in
set_option maxRecDepth 100000 in
theorem k_act_fillPot_t1 (l : Launch) (hl0 : l.stackTraces = false) (D : va_G) (cI cZ cJ : ClassId) (sz : Nat) (h a0 a1 a2 a3 a4 a5 a6 a7 a8 a9 a10 : Nat) (f0 f1 f2 f3 f4 f5 f6 f7 f8 f9 f10 : Nat → Int32) (v0 v1 v2 v3 : Int32) (p0 p1 : Int32) (hi : q_i p0 1 100000 = false) : vx_Met l yL_act wsL_act ({ frames := 8, cells := 1, slots := 6, locals := 132 }) (va_Pc [.ref h, .int 4, .int p0, .int p1] (zKX D cI cZ cJ sz (wQ cI cZ h a0 a1 a2 a3 a4 a5 a6 a7 a8 a9 a10 f0 f1 f2 f3 f4 f5 f6 f7 f8 f9 f10 v0 v1 v2 v3))) (va_Qi (fun (r : Int32) (_ : Unit) => r = (-1042)) (fun _ t => sz + 0 ≤ t.heap.size) (fun _ => False)) (zXC (fun _ => False)) 1 6 (fun _ => False) := by
  refine vx_ofWH (cc := cL_act) (maxL := 5) (ret := (some .int)) (hh := [(0, 121, 122, 42), (0, 121, 128, 44), (0, 121, 134, 46)]) (by decide) rfl ?_
  intro p e s m args below meth c s₁ B hml hv
  obtain ⟨rfl, hsz, hZ, hP, hK⟩ := hv
  have hx := B.exec
  have hb := B.bytes
  have hr := B.returns
  have hts := atoms_spec (ws := wsL_act) B.pre
  have htab := vx_table (x := yL_act) B (hts _ List.mem_cons_self)
  have hown : s.vm.findClass RL = some m.cls := findClass_of_methodNamed B.named
  have hlocks := B.notSynchronized
  subst hsz
  have hS : va_S (fun _ : Nat => False) s.heap s.heap [] := va_S.rf
  have hgr : s.heap.size + 0 ≤ s.heap.size := Nat.le_refl _
  have hl := lv_entry ([.ref h, .int 4, .int p0, .int p1]) (n := 5) (Nat.le_of_ble_eq_true rfl)
  rw [lg_entry_eq]
  generalize (lg_sl ([.ref h, .int 4, .int p0, .int p1]) ++ List.replicate (5 - (lg_sl ([.ref h, .int 4, .int p0, .int p1])).length) Slot.unset).toArray = ls at hl ⊢
  have hl : lv_has ls 5 [(0, .ref h), (1, .int 4), (2, .int p0), (3, .int p1)] := hl
  refine lv_iload_n hx hb dL_act_0 rfl (lv_at hl 1 rfl) ?_
  refine lv_if_ne (tgt := 13) hx hb dL_act_1 (by decide) (fun _ => ?_) (fun c9 => False.elim (by revert c9; decide))
  refine lv_iload_n hx hb dL_act_13 rfl (lv_at hl 1 rfl) ?_
  refine lv_iconst (v := 1) hx hb dL_act_14 (by decide) ?_
  refine lv_icmp_ne (tgt := 26) hx hb dL_act_15 (by decide) (fun _ => ?_) (fun c9 => False.elim (by revert c9; decide))
  refine lv_iload_n hx hb dL_act_26 rfl (lv_at hl 1 rfl) ?_
  refine lv_iconst (v := 2) hx hb dL_act_27 (by decide) ?_
  refine lv_icmp_ne (tgt := 40) hx hb dL_act_28 (by decide) (fun _ => ?_) (fun c9 => False.elim (by revert c9; decide))
  refine lv_iload_n hx hb dL_act_40 rfl (lv_at hl 1 rfl) ?_
  refine lv_iconst (v := 3) hx hb dL_act_41 (by decide) ?_
  refine lv_icmp_ne (tgt := 54) hx hb dL_act_42 (by decide) (fun _ => ?_) (fun c9 => False.elim (by revert c9; decide))
  refine lv_iload_n hx hb dL_act_54 rfl (lv_at hl 1 rfl) ?_
  refine lv_iconst (v := 4) hx hb dL_act_55 (by decide) ?_
  refine lv_icmp_ne (tgt := 67) hx hb dL_act_56 (by decide) (fun c9 => False.elim (by revert c9; decide)) (fun _ => ?_)
  refine lv_aload_n hx hb dL_act_59 rfl (lv_at hl 0 rfl) ?_
  refine lv_iload_n hx hb dL_act_60 rfl (lv_at hl 2 rfl) ?_
  refine z_catch (vx_runV (As := [.int p0]) (rest := []) ⟨hx, hb, hml, hown, hts⟩ (c_X0_fillPot_t1 l hl0 D cI cZ cJ h a0 a1 a2 a3 a4 a5 a6 a7 a8 a9 a10 f0 f1 f2 f3 f4 f5 f6 f7 f8 f9 f10 v0 v1 v2 v3 p0 hi) (cwV 1 hts gL_act_X0_fillPot rfl rfl rfl (by decide +kernel) ⟨Nat.le_of_ble_eq_true rfl, Nat.le_of_ble_eq_true rfl⟩) ⟨zPX_blind, va_recv hK hP (ci := 0) (q0 := 0) rfl rfl, fun U hU hW => ⟨rfl, zX_at hZ hU hW, zP_mk hP hK hU hW⟩⟩ rfl rfl hl.1 rfl (lv_room (Nat.le_of_ble_eq_true rfl)) dL_act_61 ⟨Nat.le_of_ble_eq_true rfl, Nat.le_of_ble_eq_true rfl⟩) (fun _ h => h) hS (fun E ce q9 H1 locs hE hk9 hS hce hcv hcl => ?_)
  subst hE
  have hps : ∀ z ∈ ([⟨0, 121, 122, 42⟩] : List ExceptionTableEntry), covers z 61 = false ∨ (z.catchType ≠ 0 ∧ ∃ nm : String, (Cond.classLink RL z.catchType nm).before ([Value.ref h, Value.int 4, Value.int p0, Value.int p1] : List Value).toArray s = true ∧ va_Nc "java/lang/IllegalArgumentException" nm s) := (fun z hz => by
      simp only [List.mem_cons, List.not_mem_nil, or_false] at hz
      rcases hz with rfl
      · exact Or.inr ⟨by decide, "java/lang/IndexOutOfBoundsException", hts (.classLink RL 42 "java/lang/IndexOutOfBoundsException") (by decide +kernel), hZ.2.2.1 ("java/lang/IllegalArgumentException", "java/lang/IndexOutOfBoundsException") (by decide)⟩)
  refine vx_catch (own := RL) (name := "java/lang/IllegalArgumentException") hown [⟨0, 121, 122, 42⟩] ⟨0, 121, 128, 44⟩ [⟨0, 121, 134, 46⟩] (htab.trans rfl) hps (by decide) (by decide) (hts (.classLink RL 44 "java/lang/IllegalArgumentException") (by decide +kernel)) (va_Nw.use rfl (hZ.1 (.castable "java/lang/IllegalArgumentException" "java/lang/IllegalArgumentException") (by decide))) hce hcv hcl ?_
  have hP := hP.kept (fun k q hk => hk9 q.1 (vx_lt hP hk))
  have hgr : s.heap.size + 0 ≤ H1.size := hS.1
  refine lv_astore (lv' := [(4, .ref q9), (0, .ref h), (1, .int 4), (2, .int p0), (3, .int p1)]) hx hb dL_act_128 hl (by decide) rfl (fun ls hl => ?_)
  refine lv_sipush (v := (-1042)) hx hb dL_act_130 (by decide) ?_
  refine W.widen (k := 1) (n := 6) (Nat.le_of_ble_eq_true rfl) (Nat.le_of_ble_eq_true rfl) ?_
  refine vx_ret ?_
  exact W.iret (v := (-1042)) hx hb hr (fun t ht hW => ⟨⟨(-1042), (), rfl, rfl, by show s.heap.size + 0 ≤ t.heap.size; rw [ht]; exact hgr⟩, hS.F ht⟩) hS.2.2 dL_act_133
set_option maxHeartbeats 4000000 in
set_option maxRecDepth 100000 in
theorem k_act_addMilestone_t1 (l : Launch) (hl0 : l.stackTraces = false) (D : va_G) (cI cZ cJ : ClassId) (sz : Nat) (h a0 a1 a2 a3 a4 a5 a6 a7 a8 a9 a10 : Nat) (f0 f1 f2 f3 f4 f5 f6 f7 f8 f9 f10 : Nat → Int32) (v0 v1 v2 v3 : Int32) (p0 p1 : Int32) (hi : q_i p0 1 100000 = false) : vx_Met l yL_act wsL_act ({ frames := 8, cells := 1, slots := 6, locals := 132 }) (va_Pc [.ref h, .int 5, .int p0, .int p1] (zKX D cI cZ cJ sz (wQ cI cZ h a0 a1 a2 a3 a4 a5 a6 a7 a8 a9 a10 f0 f1 f2 f3 f4 f5 f6 f7 f8 f9 f10 v0 v1 v2 v3))) (va_Qi (fun (r : Int32) (_ : Unit) => r = (-1042)) (fun _ t => sz + 0 ≤ t.heap.size) (fun _ => False)) (zXC (fun _ => False)) 1 6 (fun _ => False) := by
  refine vx_ofWH (cc := cL_act) (maxL := 5) (ret := (some .int)) (hh := [(0, 121, 122, 42), (0, 121, 128, 44), (0, 121, 134, 46)]) (by decide) rfl ?_
  intro p e s m args below meth c s₁ B hml hv
  obtain ⟨rfl, hsz, hZ, hP, hK⟩ := hv
  have hx := B.exec
  have hb := B.bytes
  have hr := B.returns
  have hts := atoms_spec (ws := wsL_act) B.pre
  have htab := vx_table (x := yL_act) B (hts _ List.mem_cons_self)
  have hown : s.vm.findClass RL = some m.cls := findClass_of_methodNamed B.named
  have hlocks := B.notSynchronized
  subst hsz
  have hS : va_S (fun _ : Nat => False) s.heap s.heap [] := va_S.rf
  have hgr : s.heap.size + 0 ≤ s.heap.size := Nat.le_refl _
  have hl := lv_entry ([.ref h, .int 5, .int p0, .int p1]) (n := 5) (Nat.le_of_ble_eq_true rfl)
  rw [lg_entry_eq]
  generalize (lg_sl ([.ref h, .int 5, .int p0, .int p1]) ++ List.replicate (5 - (lg_sl ([.ref h, .int 5, .int p0, .int p1])).length) Slot.unset).toArray = ls at hl ⊢
  have hl : lv_has ls 5 [(0, .ref h), (1, .int 5), (2, .int p0), (3, .int p1)] := hl
  refine lv_iload_n hx hb dL_act_0 rfl (lv_at hl 1 rfl) ?_
  refine lv_if_ne (tgt := 13) hx hb dL_act_1 (by decide) (fun _ => ?_) (fun c9 => False.elim (by revert c9; decide))
  refine lv_iload_n hx hb dL_act_13 rfl (lv_at hl 1 rfl) ?_
  refine lv_iconst (v := 1) hx hb dL_act_14 (by decide) ?_
  refine lv_icmp_ne (tgt := 26) hx hb dL_act_15 (by decide) (fun _ => ?_) (fun c9 => False.elim (by revert c9; decide))
  refine lv_iload_n hx hb dL_act_26 rfl (lv_at hl 1 rfl) ?_
  refine lv_iconst (v := 2) hx hb dL_act_27 (by decide) ?_
  refine lv_icmp_ne (tgt := 40) hx hb dL_act_28 (by decide) (fun _ => ?_) (fun c9 => False.elim (by revert c9; decide))
  refine lv_iload_n hx hb dL_act_40 rfl (lv_at hl 1 rfl) ?_
  refine lv_iconst (v := 3) hx hb dL_act_41 (by decide) ?_
  refine lv_icmp_ne (tgt := 54) hx hb dL_act_42 (by decide) (fun _ => ?_) (fun c9 => False.elim (by revert c9; decide))
  refine lv_iload_n hx hb dL_act_54 rfl (lv_at hl 1 rfl) ?_
  refine lv_iconst (v := 4) hx hb dL_act_55 (by decide) ?_
  refine lv_icmp_ne (tgt := 67) hx hb dL_act_56 (by decide) (fun _ => ?_) (fun c9 => False.elim (by revert c9; decide))
  refine lv_iload_n hx hb dL_act_67 rfl (lv_at hl 1 rfl) ?_
  refine lv_iconst (v := 5) hx hb dL_act_68 (by decide) ?_
  refine lv_icmp_ne (tgt := 80) hx hb dL_act_69 (by decide) (fun c9 => False.elim (by revert c9; decide)) (fun _ => ?_)
  refine lv_aload_n hx hb dL_act_72 rfl (lv_at hl 0 rfl) ?_
  refine lv_iload_n hx hb dL_act_73 rfl (lv_at hl 2 rfl) ?_
  refine z_catch (vx_runV (As := [.int p0]) (rest := []) ⟨hx, hb, hml, hown, hts⟩ (c_X0_addMilestone_t1 l hl0 D cI cZ cJ h a0 a1 a2 a3 a4 a5 a6 a7 a8 a9 a10 f0 f1 f2 f3 f4 f5 f6 f7 f8 f9 f10 v0 v1 v2 v3 p0 hi) (cwV 1 hts gL_act_X0_addMilestone rfl rfl rfl (by decide +kernel) ⟨Nat.le_of_ble_eq_true rfl, Nat.le_of_ble_eq_true rfl⟩) ⟨zPX_blind, va_recv hK hP (ci := 0) (q0 := 0) rfl rfl, fun U hU hW => ⟨rfl, zX_at hZ hU hW, zP_mk hP hK hU hW⟩⟩ rfl rfl hl.1 rfl (lv_room (Nat.le_of_ble_eq_true rfl)) dL_act_74 ⟨Nat.le_of_ble_eq_true rfl, Nat.le_of_ble_eq_true rfl⟩) (fun _ h => h) hS (fun E ce q9 H1 locs hE hk9 hS hce hcv hcl => ?_)
  subst hE
  have hps : ∀ z ∈ ([⟨0, 121, 122, 42⟩] : List ExceptionTableEntry), covers z 74 = false ∨ (z.catchType ≠ 0 ∧ ∃ nm : String, (Cond.classLink RL z.catchType nm).before ([Value.ref h, Value.int 5, Value.int p0, Value.int p1] : List Value).toArray s = true ∧ va_Nc "java/lang/IllegalArgumentException" nm s) := (fun z hz => by
      simp only [List.mem_cons, List.not_mem_nil, or_false] at hz
      rcases hz with rfl
      · exact Or.inr ⟨by decide, "java/lang/IndexOutOfBoundsException", hts (.classLink RL 42 "java/lang/IndexOutOfBoundsException") (by decide +kernel), hZ.2.2.1 ("java/lang/IllegalArgumentException", "java/lang/IndexOutOfBoundsException") (by decide)⟩)
  refine vx_catch (own := RL) (name := "java/lang/IllegalArgumentException") hown [⟨0, 121, 122, 42⟩] ⟨0, 121, 128, 44⟩ [⟨0, 121, 134, 46⟩] (htab.trans rfl) hps (by decide) (by decide) (hts (.classLink RL 44 "java/lang/IllegalArgumentException") (by decide +kernel)) (va_Nw.use rfl (hZ.1 (.castable "java/lang/IllegalArgumentException" "java/lang/IllegalArgumentException") (by decide))) hce hcv hcl ?_
  have hP := hP.kept (fun k q hk => hk9 q.1 (vx_lt hP hk))
  have hgr : s.heap.size + 0 ≤ H1.size := hS.1
  refine lv_astore (lv' := [(4, .ref q9), (0, .ref h), (1, .int 5), (2, .int p0), (3, .int p1)]) hx hb dL_act_128 hl (by decide) rfl (fun ls hl => ?_)
  refine lv_sipush (v := (-1042)) hx hb dL_act_130 (by decide) ?_
  refine W.widen (k := 1) (n := 6) (Nat.le_of_ble_eq_true rfl) (Nat.le_of_ble_eq_true rfl) ?_
  refine vx_ret ?_
  exact W.iret (v := (-1042)) hx hb hr (fun t ht hW => ⟨⟨(-1042), (), rfl, rfl, by show s.heap.size + 0 ≤ t.heap.size; rw [ht]; exact hgr⟩, hS.F ht⟩) hS.2.2 dL_act_133
set_option maxHeartbeats 4000000 in
set_option maxRecDepth 100000 in
theorem k_act_prove_t1 (l : Launch) (hl0 : l.stackTraces = false) (D : va_G) (cI cZ cJ : ClassId) (sz : Nat) (h a0 a1 a2 a3 a4 a5 a6 a7 a8 a9 a10 : Nat) (f0 f1 f2 f3 f4 f5 f6 f7 f8 f9 f10 : Nat → Int32) (v0 v1 v2 v3 : Int32) (p0 p1 : Int32) (hb2 : ¬ (¬ p0 < 0 ∧ p0 < v0)) : vx_Met l yL_act wsL_act ({ frames := 7, cells := 1, slots := 6, locals := 111 }) (va_Pc [.ref h, .int 6, .int p0, .int p1] (zKX D cI cZ cJ sz (wQ cI cZ h a0 a1 a2 a3 a4 a5 a6 a7 a8 a9 a10 f0 f1 f2 f3 f4 f5 f6 f7 f8 f9 f10 v0 v1 v2 v3))) (va_Qi (fun (r : Int32) (_ : Unit) => r = (-1041)) (fun _ t => sz + 0 ≤ t.heap.size) (fun _ => False)) (zXC (fun _ => False)) 1 6 (fun _ => False) := by
  refine vx_ofWH (cc := cL_act) (maxL := 5) (ret := (some .int)) (hh := [(0, 121, 122, 42), (0, 121, 128, 44), (0, 121, 134, 46)]) (by decide) rfl ?_
  intro p e s m args below meth c s₁ B hml hv
  obtain ⟨rfl, hsz, hZ, hP, hK⟩ := hv
  have hx := B.exec
  have hb := B.bytes
  have hr := B.returns
  have hts := atoms_spec (ws := wsL_act) B.pre
  have htab := vx_table (x := yL_act) B (hts _ List.mem_cons_self)
  have hown : s.vm.findClass RL = some m.cls := findClass_of_methodNamed B.named
  have hlocks := B.notSynchronized
  subst hsz
  have hS : va_S (fun _ : Nat => False) s.heap s.heap [] := va_S.rf
  have hgr : s.heap.size + 0 ≤ s.heap.size := Nat.le_refl _
  have hl := lv_entry ([.ref h, .int 6, .int p0, .int p1]) (n := 5) (Nat.le_of_ble_eq_true rfl)
  rw [lg_entry_eq]
  generalize (lg_sl ([.ref h, .int 6, .int p0, .int p1]) ++ List.replicate (5 - (lg_sl ([.ref h, .int 6, .int p0, .int p1])).length) Slot.unset).toArray = ls at hl ⊢
  have hl : lv_has ls 5 [(0, .ref h), (1, .int 6), (2, .int p0), (3, .int p1)] := hl
  refine lv_iload_n hx hb dL_act_0 rfl (lv_at hl 1 rfl) ?_
  refine lv_if_ne (tgt := 13) hx hb dL_act_1 (by decide) (fun _ => ?_) (fun c9 => False.elim (by revert c9; decide))
  refine lv_iload_n hx hb dL_act_13 rfl (lv_at hl 1 rfl) ?_
  refine lv_iconst (v := 1) hx hb dL_act_14 (by decide) ?_
  refine lv_icmp_ne (tgt := 26) hx hb dL_act_15 (by decide) (fun _ => ?_) (fun c9 => False.elim (by revert c9; decide))
  refine lv_iload_n hx hb dL_act_26 rfl (lv_at hl 1 rfl) ?_
  refine lv_iconst (v := 2) hx hb dL_act_27 (by decide) ?_
  refine lv_icmp_ne (tgt := 40) hx hb dL_act_28 (by decide) (fun _ => ?_) (fun c9 => False.elim (by revert c9; decide))
  refine lv_iload_n hx hb dL_act_40 rfl (lv_at hl 1 rfl) ?_
  refine lv_iconst (v := 3) hx hb dL_act_41 (by decide) ?_
  refine lv_icmp_ne (tgt := 54) hx hb dL_act_42 (by decide) (fun _ => ?_) (fun c9 => False.elim (by revert c9; decide))
  refine lv_iload_n hx hb dL_act_54 rfl (lv_at hl 1 rfl) ?_
  refine lv_iconst (v := 4) hx hb dL_act_55 (by decide) ?_
  refine lv_icmp_ne (tgt := 67) hx hb dL_act_56 (by decide) (fun _ => ?_) (fun c9 => False.elim (by revert c9; decide))
  refine lv_iload_n hx hb dL_act_67 rfl (lv_at hl 1 rfl) ?_
  refine lv_iconst (v := 5) hx hb dL_act_68 (by decide) ?_
  refine lv_icmp_ne (tgt := 80) hx hb dL_act_69 (by decide) (fun _ => ?_) (fun c9 => False.elim (by revert c9; decide))
  refine lv_iload_n hx hb dL_act_80 rfl (lv_at hl 1 rfl) ?_
  refine lv_bipush (v := 6) hx hb dL_act_81 (by decide) ?_
  refine lv_icmp_ne (tgt := 102) hx hb dL_act_83 (by decide) (fun c9 => False.elim (by revert c9; decide)) (fun _ => ?_)
  refine lv_aload_n hx hb dL_act_86 rfl (lv_at hl 0 rfl) ?_
  refine lv_iload_n hx hb dL_act_87 rfl (lv_at hl 2 rfl) ?_
  refine z_catch (vx_runV (As := [.int p0]) (rest := []) ⟨hx, hb, hml, hown, hts⟩ (c_X0_prove_t1 l hl0 D cI cZ cJ h a0 a1 a2 a3 a4 a5 a6 a7 a8 a9 a10 f0 f1 f2 f3 f4 f5 f6 f7 f8 f9 f10 v0 v1 v2 v3 p0 hb2) (cwV 1 hts gL_act_X0_prove rfl rfl rfl (by decide +kernel) ⟨Nat.le_of_ble_eq_true rfl, Nat.le_of_ble_eq_true rfl⟩) ⟨zPX_blind, va_recv hK hP (ci := 0) (q0 := 0) rfl rfl, fun U hU hW => ⟨rfl, zX_at hZ hU hW, zP_mk hP hK hU hW⟩⟩ rfl rfl hl.1 rfl (lv_room (Nat.le_of_ble_eq_true rfl)) dL_act_88 ⟨Nat.le_of_ble_eq_true rfl, Nat.le_of_ble_eq_true rfl⟩) (fun _ h => h) hS (fun E ce q9 H1 locs hE hk9 hS hce hcv hcl => ?_)
  subst hE
  have hps : ∀ z ∈ ([] : List ExceptionTableEntry), covers z 88 = false ∨ (z.catchType ≠ 0 ∧ ∃ nm : String, (Cond.classLink RL z.catchType nm).before ([Value.ref h, Value.int 6, Value.int p0, Value.int p1] : List Value).toArray s = true ∧ va_Nc "java/lang/IndexOutOfBoundsException" nm s) := (fun z hz => nomatch hz)
  refine vx_catch (own := RL) (name := "java/lang/IndexOutOfBoundsException") hown [] ⟨0, 121, 122, 42⟩ [⟨0, 121, 128, 44⟩, ⟨0, 121, 134, 46⟩] (htab.trans rfl) hps (by decide) (by decide) (hts (.classLink RL 42 "java/lang/IndexOutOfBoundsException") (by decide +kernel)) (va_Nw.use rfl (hZ.1 (.castable "java/lang/IndexOutOfBoundsException" "java/lang/IndexOutOfBoundsException") (by decide))) hce hcv hcl ?_
  have hP := hP.kept (fun k q hk => hk9 q.1 (vx_lt hP hk))
  have hgr : s.heap.size + 0 ≤ H1.size := hS.1
  refine lv_astore (lv' := [(4, .ref q9), (0, .ref h), (1, .int 6), (2, .int p0), (3, .int p1)]) hx hb dL_act_122 hl (by decide) rfl (fun ls hl => ?_)
  refine lv_sipush (v := (-1041)) hx hb dL_act_124 (by decide) ?_
  refine W.widen (k := 1) (n := 6) (Nat.le_of_ble_eq_true rfl) (Nat.le_of_ble_eq_true rfl) ?_
  refine vx_ret ?_
  exact W.iret (v := (-1041)) hx hb hr (fun t ht hW => ⟨⟨(-1041), (), rfl, rfl, by show s.heap.size + 0 ≤ t.heap.size; rw [ht]; exact hgr⟩, hS.F ht⟩) hS.2.2 dL_act_127
set_option maxHeartbeats 4000000 in
set_option maxRecDepth 100000 in
theorem k_act_vote_t1 (l : Launch) (hl0 : l.stackTraces = false) (D : va_G) (cI cZ cJ : ClassId) (sz : Nat) (h a0 a1 a2 a3 a4 a5 a6 a7 a8 a9 a10 : Nat) (f0 f1 f2 f3 f4 f5 f6 f7 f8 f9 f10 : Nat → Int32) (v0 v1 v2 v3 : Int32) (p0 p1 : Int32) (hg : q_g p0 = false) : vx_Met l yL_act wsL_act ({ frames := 8, cells := 1, slots := 6, locals := 133 }) (va_Pc [.ref h, .int 7, .int p0, .int p1] (zKX D cI cZ cJ sz (wQ cI cZ h a0 a1 a2 a3 a4 a5 a6 a7 a8 a9 a10 f0 f1 f2 f3 f4 f5 f6 f7 f8 f9 f10 v0 v1 v2 v3))) (va_Qi (fun (r : Int32) (_ : Unit) => r = (-1041)) (fun _ t => sz + 0 ≤ t.heap.size) (fun _ => False)) (zXC (fun _ => False)) 1 6 (fun _ => False) := by
  refine vx_ofWH (cc := cL_act) (maxL := 5) (ret := (some .int)) (hh := [(0, 121, 122, 42), (0, 121, 128, 44), (0, 121, 134, 46)]) (by decide) rfl ?_
  intro p e s m args below meth c s₁ B hml hv
  obtain ⟨rfl, hsz, hZ, hP, hK⟩ := hv
  have hx := B.exec
  have hb := B.bytes
  have hr := B.returns
  have hts := atoms_spec (ws := wsL_act) B.pre
  have htab := vx_table (x := yL_act) B (hts _ List.mem_cons_self)
  have hown : s.vm.findClass RL = some m.cls := findClass_of_methodNamed B.named
  have hlocks := B.notSynchronized
  subst hsz
  have hS : va_S (fun _ : Nat => False) s.heap s.heap [] := va_S.rf
  have hgr : s.heap.size + 0 ≤ s.heap.size := Nat.le_refl _
  have hl := lv_entry ([.ref h, .int 7, .int p0, .int p1]) (n := 5) (Nat.le_of_ble_eq_true rfl)
  rw [lg_entry_eq]
  generalize (lg_sl ([.ref h, .int 7, .int p0, .int p1]) ++ List.replicate (5 - (lg_sl ([.ref h, .int 7, .int p0, .int p1])).length) Slot.unset).toArray = ls at hl ⊢
  have hl : lv_has ls 5 [(0, .ref h), (1, .int 7), (2, .int p0), (3, .int p1)] := hl
  refine lv_iload_n hx hb dL_act_0 rfl (lv_at hl 1 rfl) ?_
  refine lv_if_ne (tgt := 13) hx hb dL_act_1 (by decide) (fun _ => ?_) (fun c9 => False.elim (by revert c9; decide))
  refine lv_iload_n hx hb dL_act_13 rfl (lv_at hl 1 rfl) ?_
  refine lv_iconst (v := 1) hx hb dL_act_14 (by decide) ?_
  refine lv_icmp_ne (tgt := 26) hx hb dL_act_15 (by decide) (fun _ => ?_) (fun c9 => False.elim (by revert c9; decide))
  refine lv_iload_n hx hb dL_act_26 rfl (lv_at hl 1 rfl) ?_
  refine lv_iconst (v := 2) hx hb dL_act_27 (by decide) ?_
  refine lv_icmp_ne (tgt := 40) hx hb dL_act_28 (by decide) (fun _ => ?_) (fun c9 => False.elim (by revert c9; decide))
  refine lv_iload_n hx hb dL_act_40 rfl (lv_at hl 1 rfl) ?_
  refine lv_iconst (v := 3) hx hb dL_act_41 (by decide) ?_
  refine lv_icmp_ne (tgt := 54) hx hb dL_act_42 (by decide) (fun _ => ?_) (fun c9 => False.elim (by revert c9; decide))
  refine lv_iload_n hx hb dL_act_54 rfl (lv_at hl 1 rfl) ?_
  refine lv_iconst (v := 4) hx hb dL_act_55 (by decide) ?_
  refine lv_icmp_ne (tgt := 67) hx hb dL_act_56 (by decide) (fun _ => ?_) (fun c9 => False.elim (by revert c9; decide))
  refine lv_iload_n hx hb dL_act_67 rfl (lv_at hl 1 rfl) ?_
  refine lv_iconst (v := 5) hx hb dL_act_68 (by decide) ?_
  refine lv_icmp_ne (tgt := 80) hx hb dL_act_69 (by decide) (fun _ => ?_) (fun c9 => False.elim (by revert c9; decide))
  refine lv_iload_n hx hb dL_act_80 rfl (lv_at hl 1 rfl) ?_
  refine lv_bipush (v := 6) hx hb dL_act_81 (by decide) ?_
  refine lv_icmp_ne (tgt := 102) hx hb dL_act_83 (by decide) (fun _ => ?_) (fun c9 => False.elim (by revert c9; decide))
  refine lv_iload_n hx hb dL_act_102 rfl (lv_at hl 1 rfl) ?_
  refine lv_bipush (v := 7) hx hb dL_act_103 (by decide) ?_
  refine lv_icmp_ne (tgt := 117) hx hb dL_act_105 (by decide) (fun c9 => False.elim (by revert c9; decide)) (fun _ => ?_)
  refine lv_aload_n hx hb dL_act_108 rfl (lv_at hl 0 rfl) ?_
  refine lv_iload_n hx hb dL_act_109 rfl (lv_at hl 2 rfl) ?_
  refine lv_iload_n hx hb dL_act_110 rfl (lv_at hl 3 rfl) ?_
  refine z_catch (vx_runV (As := [.int p0, .int p1]) (rest := []) ⟨hx, hb, hml, hown, hts⟩ (c_X0_vote_t1 l hl0 D cI cZ cJ h a0 a1 a2 a3 a4 a5 a6 a7 a8 a9 a10 f0 f1 f2 f3 f4 f5 f6 f7 f8 f9 f10 v0 v1 v2 v3 p0 p1 hg) (cwV 2 hts gL_act_X0_vote rfl rfl rfl (by decide +kernel) ⟨Nat.le_of_ble_eq_true rfl, Nat.le_of_ble_eq_true rfl⟩) ⟨zPX_blind, va_recv hK hP (ci := 0) (q0 := 0) rfl rfl, fun U hU hW => ⟨rfl, zX_at hZ hU hW, zP_mk hP hK hU hW⟩⟩ rfl rfl hl.1 rfl (lv_room (Nat.le_of_ble_eq_true rfl)) dL_act_111 ⟨Nat.le_of_ble_eq_true rfl, Nat.le_of_ble_eq_true rfl⟩) (fun _ h => h) hS (fun E ce q9 H1 locs hE hk9 hS hce hcv hcl => ?_)
  subst hE
  have hps : ∀ z ∈ ([] : List ExceptionTableEntry), covers z 111 = false ∨ (z.catchType ≠ 0 ∧ ∃ nm : String, (Cond.classLink RL z.catchType nm).before ([Value.ref h, Value.int 7, Value.int p0, Value.int p1] : List Value).toArray s = true ∧ va_Nc "java/lang/IndexOutOfBoundsException" nm s) := (fun z hz => nomatch hz)
  refine vx_catch (own := RL) (name := "java/lang/IndexOutOfBoundsException") hown [] ⟨0, 121, 122, 42⟩ [⟨0, 121, 128, 44⟩, ⟨0, 121, 134, 46⟩] (htab.trans rfl) hps (by decide) (by decide) (hts (.classLink RL 42 "java/lang/IndexOutOfBoundsException") (by decide +kernel)) (va_Nw.use rfl (hZ.1 (.castable "java/lang/IndexOutOfBoundsException" "java/lang/IndexOutOfBoundsException") (by decide))) hce hcv hcl ?_
  have hP := hP.kept (fun k q hk => hk9 q.1 (vx_lt hP hk))
  have hgr : s.heap.size + 0 ≤ H1.size := hS.1
  refine lv_astore (lv' := [(4, .ref q9), (0, .ref h), (1, .int 7), (2, .int p0), (3, .int p1)]) hx hb dL_act_122 hl (by decide) rfl (fun ls hl => ?_)
  refine lv_sipush (v := (-1041)) hx hb dL_act_124 (by decide) ?_
  refine W.widen (k := 1) (n := 6) (Nat.le_of_ble_eq_true rfl) (Nat.le_of_ble_eq_true rfl) ?_
  refine vx_ret ?_
  exact W.iret (v := (-1041)) hx hb hr (fun t ht hW => ⟨⟨(-1041), (), rfl, rfl, by show s.heap.size + 0 ≤ t.heap.size; rw [ht]; exact hgr⟩, hS.F ht⟩) hS.2.2 dL_act_127
set_option maxHeartbeats 4000000 in
set_option maxRecDepth 100000 in
theorem k_act_vote_t2 (l : Launch) (hl0 : l.stackTraces = false) (D : va_G) (cI cZ cJ : ClassId) (sz : Nat) (h a0 a1 a2 a3 a4 a5 a6 a7 a8 a9 a10 : Nat) (f0 f1 f2 f3 f4 f5 f6 f7 f8 f9 f10 : Nat → Int32) (v0 v1 v2 v3 : Int32) (p0 p1 : Int32) (hg : q_g p0 = true) (hi : q_i p1 0 2 = false) : vx_Met l yL_act wsL_act ({ frames := 7, cells := 1, slots := 6, locals := 113 }) (va_Pc [.ref h, .int 7, .int p0, .int p1] (zKX D cI cZ cJ sz (wQ cI cZ h a0 a1 a2 a3 a4 a5 a6 a7 a8 a9 a10 f0 f1 f2 f3 f4 f5 f6 f7 f8 f9 f10 v0 v1 v2 v3))) (va_Qi (fun (r : Int32) (_ : Unit) => r = (-1042)) (fun _ t => sz + 0 ≤ t.heap.size) (fun _ => False)) (zXC (fun _ => False)) 1 6 (fun _ => False) := by
  refine vx_ofWH (cc := cL_act) (maxL := 5) (ret := (some .int)) (hh := [(0, 121, 122, 42), (0, 121, 128, 44), (0, 121, 134, 46)]) (by decide) rfl ?_
  intro p e s m args below meth c s₁ B hml hv
  obtain ⟨rfl, hsz, hZ, hP, hK⟩ := hv
  have hx := B.exec
  have hb := B.bytes
  have hr := B.returns
  have hts := atoms_spec (ws := wsL_act) B.pre
  have htab := vx_table (x := yL_act) B (hts _ List.mem_cons_self)
  have hown : s.vm.findClass RL = some m.cls := findClass_of_methodNamed B.named
  have hlocks := B.notSynchronized
  subst hsz
  have hS : va_S (fun _ : Nat => False) s.heap s.heap [] := va_S.rf
  have hgr : s.heap.size + 0 ≤ s.heap.size := Nat.le_refl _
  have hl := lv_entry ([.ref h, .int 7, .int p0, .int p1]) (n := 5) (Nat.le_of_ble_eq_true rfl)
  rw [lg_entry_eq]
  generalize (lg_sl ([.ref h, .int 7, .int p0, .int p1]) ++ List.replicate (5 - (lg_sl ([.ref h, .int 7, .int p0, .int p1])).length) Slot.unset).toArray = ls at hl ⊢
  have hl : lv_has ls 5 [(0, .ref h), (1, .int 7), (2, .int p0), (3, .int p1)] := hl
  refine lv_iload_n hx hb dL_act_0 rfl (lv_at hl 1 rfl) ?_
  refine lv_if_ne (tgt := 13) hx hb dL_act_1 (by decide) (fun _ => ?_) (fun c9 => False.elim (by revert c9; decide))
  refine lv_iload_n hx hb dL_act_13 rfl (lv_at hl 1 rfl) ?_
  refine lv_iconst (v := 1) hx hb dL_act_14 (by decide) ?_
  refine lv_icmp_ne (tgt := 26) hx hb dL_act_15 (by decide) (fun _ => ?_) (fun c9 => False.elim (by revert c9; decide))
  refine lv_iload_n hx hb dL_act_26 rfl (lv_at hl 1 rfl) ?_
  refine lv_iconst (v := 2) hx hb dL_act_27 (by decide) ?_
  refine lv_icmp_ne (tgt := 40) hx hb dL_act_28 (by decide) (fun _ => ?_) (fun c9 => False.elim (by revert c9; decide))
  refine lv_iload_n hx hb dL_act_40 rfl (lv_at hl 1 rfl) ?_
  refine lv_iconst (v := 3) hx hb dL_act_41 (by decide) ?_
  refine lv_icmp_ne (tgt := 54) hx hb dL_act_42 (by decide) (fun _ => ?_) (fun c9 => False.elim (by revert c9; decide))
  refine lv_iload_n hx hb dL_act_54 rfl (lv_at hl 1 rfl) ?_
  refine lv_iconst (v := 4) hx hb dL_act_55 (by decide) ?_
  refine lv_icmp_ne (tgt := 67) hx hb dL_act_56 (by decide) (fun _ => ?_) (fun c9 => False.elim (by revert c9; decide))
  refine lv_iload_n hx hb dL_act_67 rfl (lv_at hl 1 rfl) ?_
  refine lv_iconst (v := 5) hx hb dL_act_68 (by decide) ?_
  refine lv_icmp_ne (tgt := 80) hx hb dL_act_69 (by decide) (fun _ => ?_) (fun c9 => False.elim (by revert c9; decide))
  refine lv_iload_n hx hb dL_act_80 rfl (lv_at hl 1 rfl) ?_
  refine lv_bipush (v := 6) hx hb dL_act_81 (by decide) ?_
  refine lv_icmp_ne (tgt := 102) hx hb dL_act_83 (by decide) (fun _ => ?_) (fun c9 => False.elim (by revert c9; decide))
  refine lv_iload_n hx hb dL_act_102 rfl (lv_at hl 1 rfl) ?_
  refine lv_bipush (v := 7) hx hb dL_act_103 (by decide) ?_
  refine lv_icmp_ne (tgt := 117) hx hb dL_act_105 (by decide) (fun c9 => False.elim (by revert c9; decide)) (fun _ => ?_)
  refine lv_aload_n hx hb dL_act_108 rfl (lv_at hl 0 rfl) ?_
  refine lv_iload_n hx hb dL_act_109 rfl (lv_at hl 2 rfl) ?_
  refine lv_iload_n hx hb dL_act_110 rfl (lv_at hl 3 rfl) ?_
  refine z_catch (vx_runV (As := [.int p0, .int p1]) (rest := []) ⟨hx, hb, hml, hown, hts⟩ (c_X0_vote_t2 l hl0 D cI cZ cJ h a0 a1 a2 a3 a4 a5 a6 a7 a8 a9 a10 f0 f1 f2 f3 f4 f5 f6 f7 f8 f9 f10 v0 v1 v2 v3 p0 p1 hg hi) (cwV 2 hts gL_act_X0_vote rfl rfl rfl (by decide +kernel) ⟨Nat.le_of_ble_eq_true rfl, Nat.le_of_ble_eq_true rfl⟩) ⟨zPX_blind, va_recv hK hP (ci := 0) (q0 := 0) rfl rfl, fun U hU hW => ⟨rfl, zX_at hZ hU hW, zP_mk hP hK hU hW⟩⟩ rfl rfl hl.1 rfl (lv_room (Nat.le_of_ble_eq_true rfl)) dL_act_111 ⟨Nat.le_of_ble_eq_true rfl, Nat.le_of_ble_eq_true rfl⟩) (fun _ h => h) hS (fun E ce q9 H1 locs hE hk9 hS hce hcv hcl => ?_)
  subst hE
  have hps : ∀ z ∈ ([⟨0, 121, 122, 42⟩] : List ExceptionTableEntry), covers z 111 = false ∨ (z.catchType ≠ 0 ∧ ∃ nm : String, (Cond.classLink RL z.catchType nm).before ([Value.ref h, Value.int 7, Value.int p0, Value.int p1] : List Value).toArray s = true ∧ va_Nc "java/lang/IllegalArgumentException" nm s) := (fun z hz => by
      simp only [List.mem_cons, List.not_mem_nil, or_false] at hz
      rcases hz with rfl
      · exact Or.inr ⟨by decide, "java/lang/IndexOutOfBoundsException", hts (.classLink RL 42 "java/lang/IndexOutOfBoundsException") (by decide +kernel), hZ.2.2.1 ("java/lang/IllegalArgumentException", "java/lang/IndexOutOfBoundsException") (by decide)⟩)
  refine vx_catch (own := RL) (name := "java/lang/IllegalArgumentException") hown [⟨0, 121, 122, 42⟩] ⟨0, 121, 128, 44⟩ [⟨0, 121, 134, 46⟩] (htab.trans rfl) hps (by decide) (by decide) (hts (.classLink RL 44 "java/lang/IllegalArgumentException") (by decide +kernel)) (va_Nw.use rfl (hZ.1 (.castable "java/lang/IllegalArgumentException" "java/lang/IllegalArgumentException") (by decide))) hce hcv hcl ?_
  have hP := hP.kept (fun k q hk => hk9 q.1 (vx_lt hP hk))
  have hgr : s.heap.size + 0 ≤ H1.size := hS.1
  refine lv_astore (lv' := [(4, .ref q9), (0, .ref h), (1, .int 7), (2, .int p0), (3, .int p1)]) hx hb dL_act_128 hl (by decide) rfl (fun ls hl => ?_)
  refine lv_sipush (v := (-1042)) hx hb dL_act_130 (by decide) ?_
  refine W.widen (k := 1) (n := 6) (Nat.le_of_ble_eq_true rfl) (Nat.le_of_ble_eq_true rfl) ?_
  refine vx_ret ?_
  exact W.iret (v := (-1042)) hx hb hr (fun t ht hW => ⟨⟨(-1042), (), rfl, rfl, by show s.heap.size + 0 ≤ t.heap.size; rw [ht]; exact hgr⟩, hS.F ht⟩) hS.2.2 dL_act_133
set_option maxHeartbeats 4000000 in
set_option maxRecDepth 100000 in
theorem k_act_vote_t3 (l : Launch) (hl0 : l.stackTraces = false) (D : va_G) (cI cZ cJ : ClassId) (sz : Nat) (h a0 a1 a2 a3 a4 a5 a6 a7 a8 a9 a10 : Nat) (f0 f1 f2 f3 f4 f5 f6 f7 f8 f9 f10 : Nat → Int32) (v0 v1 v2 v3 : Int32) (p0 p1 : Int32) (hg : q_g p0 = true) (hi : q_i p1 0 2 = true) (hcu : q_cur v0 v1 = -1) : vx_Met l yL_act wsL_act ({ frames := 7, cells := 1, slots := 6, locals := 113 }) (va_Pc [.ref h, .int 7, .int p0, .int p1] (zKX D cI cZ cJ sz (wQ cI cZ h a0 a1 a2 a3 a4 a5 a6 a7 a8 a9 a10 f0 f1 f2 f3 f4 f5 f6 f7 f8 f9 f10 v0 v1 v2 v3))) (va_Qi (fun (r : Int32) (_ : Unit) => r = (-1043)) (fun _ t => sz + 0 ≤ t.heap.size) (fun _ => False)) (zXC (fun _ => False)) 1 6 (fun _ => False) := by
  refine vx_ofWH (cc := cL_act) (maxL := 5) (ret := (some .int)) (hh := [(0, 121, 122, 42), (0, 121, 128, 44), (0, 121, 134, 46)]) (by decide) rfl ?_
  intro p e s m args below meth c s₁ B hml hv
  obtain ⟨rfl, hsz, hZ, hP, hK⟩ := hv
  have hx := B.exec
  have hb := B.bytes
  have hr := B.returns
  have hts := atoms_spec (ws := wsL_act) B.pre
  have htab := vx_table (x := yL_act) B (hts _ List.mem_cons_self)
  have hown : s.vm.findClass RL = some m.cls := findClass_of_methodNamed B.named
  have hlocks := B.notSynchronized
  subst hsz
  have hS : va_S (fun _ : Nat => False) s.heap s.heap [] := va_S.rf
  have hgr : s.heap.size + 0 ≤ s.heap.size := Nat.le_refl _
  have hl := lv_entry ([.ref h, .int 7, .int p0, .int p1]) (n := 5) (Nat.le_of_ble_eq_true rfl)
  rw [lg_entry_eq]
  generalize (lg_sl ([.ref h, .int 7, .int p0, .int p1]) ++ List.replicate (5 - (lg_sl ([.ref h, .int 7, .int p0, .int p1])).length) Slot.unset).toArray = ls at hl ⊢
  have hl : lv_has ls 5 [(0, .ref h), (1, .int 7), (2, .int p0), (3, .int p1)] := hl
  refine lv_iload_n hx hb dL_act_0 rfl (lv_at hl 1 rfl) ?_
  refine lv_if_ne (tgt := 13) hx hb dL_act_1 (by decide) (fun _ => ?_) (fun c9 => False.elim (by revert c9; decide))
  refine lv_iload_n hx hb dL_act_13 rfl (lv_at hl 1 rfl) ?_
  refine lv_iconst (v := 1) hx hb dL_act_14 (by decide) ?_
  refine lv_icmp_ne (tgt := 26) hx hb dL_act_15 (by decide) (fun _ => ?_) (fun c9 => False.elim (by revert c9; decide))
  refine lv_iload_n hx hb dL_act_26 rfl (lv_at hl 1 rfl) ?_
  refine lv_iconst (v := 2) hx hb dL_act_27 (by decide) ?_
  refine lv_icmp_ne (tgt := 40) hx hb dL_act_28 (by decide) (fun _ => ?_) (fun c9 => False.elim (by revert c9; decide))
  refine lv_iload_n hx hb dL_act_40 rfl (lv_at hl 1 rfl) ?_
  refine lv_iconst (v := 3) hx hb dL_act_41 (by decide) ?_
  refine lv_icmp_ne (tgt := 54) hx hb dL_act_42 (by decide) (fun _ => ?_) (fun c9 => False.elim (by revert c9; decide))
  refine lv_iload_n hx hb dL_act_54 rfl (lv_at hl 1 rfl) ?_
  refine lv_iconst (v := 4) hx hb dL_act_55 (by decide) ?_
  refine lv_icmp_ne (tgt := 67) hx hb dL_act_56 (by decide) (fun _ => ?_) (fun c9 => False.elim (by revert c9; decide))
  refine lv_iload_n hx hb dL_act_67 rfl (lv_at hl 1 rfl) ?_
  refine lv_iconst (v := 5) hx hb dL_act_68 (by decide) ?_
  refine lv_icmp_ne (tgt := 80) hx hb dL_act_69 (by decide) (fun _ => ?_) (fun c9 => False.elim (by revert c9; decide))
  refine lv_iload_n hx hb dL_act_80 rfl (lv_at hl 1 rfl) ?_
  refine lv_bipush (v := 6) hx hb dL_act_81 (by decide) ?_
  refine lv_icmp_ne (tgt := 102) hx hb dL_act_83 (by decide) (fun _ => ?_) (fun c9 => False.elim (by revert c9; decide))
  refine lv_iload_n hx hb dL_act_102 rfl (lv_at hl 1 rfl) ?_
  refine lv_bipush (v := 7) hx hb dL_act_103 (by decide) ?_
  refine lv_icmp_ne (tgt := 117) hx hb dL_act_105 (by decide) (fun c9 => False.elim (by revert c9; decide)) (fun _ => ?_)
  refine lv_aload_n hx hb dL_act_108 rfl (lv_at hl 0 rfl) ?_
  refine lv_iload_n hx hb dL_act_109 rfl (lv_at hl 2 rfl) ?_
  refine lv_iload_n hx hb dL_act_110 rfl (lv_at hl 3 rfl) ?_
  refine z_catch (vx_runV (As := [.int p0, .int p1]) (rest := []) ⟨hx, hb, hml, hown, hts⟩ (c_X0_vote_t3 l hl0 D cI cZ cJ h a0 a1 a2 a3 a4 a5 a6 a7 a8 a9 a10 f0 f1 f2 f3 f4 f5 f6 f7 f8 f9 f10 v0 v1 v2 v3 p0 p1 hg hi hcu) (cwV 2 hts gL_act_X0_vote rfl rfl rfl (by decide +kernel) ⟨Nat.le_of_ble_eq_true rfl, Nat.le_of_ble_eq_true rfl⟩) ⟨zPX_blind, va_recv hK hP (ci := 0) (q0 := 0) rfl rfl, fun U hU hW => ⟨rfl, zX_at hZ hU hW, zP_mk hP hK hU hW⟩⟩ rfl rfl hl.1 rfl (lv_room (Nat.le_of_ble_eq_true rfl)) dL_act_111 ⟨Nat.le_of_ble_eq_true rfl, Nat.le_of_ble_eq_true rfl⟩) (fun _ h => h) hS (fun E ce q9 H1 locs hE hk9 hS hce hcv hcl => ?_)
  subst hE
  have hps : ∀ z ∈ ([⟨0, 121, 122, 42⟩, ⟨0, 121, 128, 44⟩] : List ExceptionTableEntry), covers z 111 = false ∨ (z.catchType ≠ 0 ∧ ∃ nm : String, (Cond.classLink RL z.catchType nm).before ([Value.ref h, Value.int 7, Value.int p0, Value.int p1] : List Value).toArray s = true ∧ va_Nc "java/lang/IllegalStateException" nm s) := (fun z hz => by
      simp only [List.mem_cons, List.not_mem_nil, or_false] at hz
      rcases hz with rfl | rfl
      · exact Or.inr ⟨by decide, "java/lang/IndexOutOfBoundsException", hts (.classLink RL 42 "java/lang/IndexOutOfBoundsException") (by decide +kernel), hZ.2.2.1 ("java/lang/IllegalStateException", "java/lang/IndexOutOfBoundsException") (by decide)⟩
      · exact Or.inr ⟨by decide, "java/lang/IllegalArgumentException", hts (.classLink RL 44 "java/lang/IllegalArgumentException") (by decide +kernel), hZ.2.2.1 ("java/lang/IllegalStateException", "java/lang/IllegalArgumentException") (by decide)⟩)
  refine vx_catch (own := RL) (name := "java/lang/IllegalStateException") hown [⟨0, 121, 122, 42⟩, ⟨0, 121, 128, 44⟩] ⟨0, 121, 134, 46⟩ [] (htab.trans rfl) hps (by decide) (by decide) (hts (.classLink RL 46 "java/lang/IllegalStateException") (by decide +kernel)) (va_Nw.use rfl (hZ.1 (.castable "java/lang/IllegalStateException" "java/lang/IllegalStateException") (by decide))) hce hcv hcl ?_
  have hP := hP.kept (fun k q hk => hk9 q.1 (vx_lt hP hk))
  have hgr : s.heap.size + 0 ≤ H1.size := hS.1
  refine lv_astore (lv' := [(4, .ref q9), (0, .ref h), (1, .int 7), (2, .int p0), (3, .int p1)]) hx hb dL_act_134 hl (by decide) rfl (fun ls hl => ?_)
  refine lv_sipush (v := (-1043)) hx hb dL_act_136 (by decide) ?_
  refine W.widen (k := 1) (n := 6) (Nat.le_of_ble_eq_true rfl) (Nat.le_of_ble_eq_true rfl) ?_
  refine vx_ret ?_
  exact W.iret (v := (-1043)) hx hb hr (fun t ht hW => ⟨⟨(-1043), (), rfl, rfl, by show s.heap.size + 0 ≤ t.heap.size; rw [ht]; exact hgr⟩, hS.F ht⟩) hS.2.2 dL_act_139
set_option maxHeartbeats 4000000 in
set_option maxRecDepth 100000 in
theorem k_act_release_t (l : Launch) (hl0 : l.stackTraces = false) (D : va_G) (cI cZ cJ : ClassId) (sz : Nat) (h a0 a1 a2 a3 a4 a5 a6 a7 a8 a9 a10 : Nat) (f0 f1 f2 f3 f4 f5 f6 f7 f8 f9 f10 : Nat → Int32) (v0 v1 v2 v3 : Int32) (p0 p1 : Int32) (hb3 : 0 ≤ v1.toInt ∧ v1.toInt ≤ v0.toInt ∧ v0.toInt ≤ 6) (hk : ¬ (q_cov f0 f7 v0 v1 = true ∧ ¬ f8 v1.toNatClampNeg = 0 ∧ q_sum f0 8 < 2 * q_wt f0 f4 f6 1 8)) : vx_Met l yL_act wsL_act ({ frames := 7, cells := 1, slots := 6, locals := 112 }) (va_Pc [.ref h, .int 8, .int p0, .int p1] (zKX D cI cZ cJ sz (wQ cI cZ h a0 a1 a2 a3 a4 a5 a6 a7 a8 a9 a10 f0 f1 f2 f3 f4 f5 f6 f7 f8 f9 f10 v0 v1 v2 v3))) (va_Qi (fun (r : Int32) (_ : Unit) => r = (-1043)) (fun _ t => sz + 0 ≤ t.heap.size) (fun _ => False)) (zXC (fun _ => False)) 1 6 (fun _ => False) := by
  refine vx_ofWH (cc := cL_act) (maxL := 5) (ret := (some .int)) (hh := [(0, 121, 122, 42), (0, 121, 128, 44), (0, 121, 134, 46)]) (by decide) rfl ?_
  intro p e s m args below meth c s₁ B hml hv
  obtain ⟨rfl, hsz, hZ, hP, hK⟩ := hv
  have hx := B.exec
  have hb := B.bytes
  have hr := B.returns
  have hts := atoms_spec (ws := wsL_act) B.pre
  have htab := vx_table (x := yL_act) B (hts _ List.mem_cons_self)
  have hown : s.vm.findClass RL = some m.cls := findClass_of_methodNamed B.named
  have hlocks := B.notSynchronized
  subst hsz
  have hS : va_S (fun _ : Nat => False) s.heap s.heap [] := va_S.rf
  have hgr : s.heap.size + 0 ≤ s.heap.size := Nat.le_refl _
  have hl := lv_entry ([.ref h, .int 8, .int p0, .int p1]) (n := 5) (Nat.le_of_ble_eq_true rfl)
  rw [lg_entry_eq]
  generalize (lg_sl ([.ref h, .int 8, .int p0, .int p1]) ++ List.replicate (5 - (lg_sl ([.ref h, .int 8, .int p0, .int p1])).length) Slot.unset).toArray = ls at hl ⊢
  have hl : lv_has ls 5 [(0, .ref h), (1, .int 8), (2, .int p0), (3, .int p1)] := hl
  refine lv_iload_n hx hb dL_act_0 rfl (lv_at hl 1 rfl) ?_
  refine lv_if_ne (tgt := 13) hx hb dL_act_1 (by decide) (fun _ => ?_) (fun c9 => False.elim (by revert c9; decide))
  refine lv_iload_n hx hb dL_act_13 rfl (lv_at hl 1 rfl) ?_
  refine lv_iconst (v := 1) hx hb dL_act_14 (by decide) ?_
  refine lv_icmp_ne (tgt := 26) hx hb dL_act_15 (by decide) (fun _ => ?_) (fun c9 => False.elim (by revert c9; decide))
  refine lv_iload_n hx hb dL_act_26 rfl (lv_at hl 1 rfl) ?_
  refine lv_iconst (v := 2) hx hb dL_act_27 (by decide) ?_
  refine lv_icmp_ne (tgt := 40) hx hb dL_act_28 (by decide) (fun _ => ?_) (fun c9 => False.elim (by revert c9; decide))
  refine lv_iload_n hx hb dL_act_40 rfl (lv_at hl 1 rfl) ?_
  refine lv_iconst (v := 3) hx hb dL_act_41 (by decide) ?_
  refine lv_icmp_ne (tgt := 54) hx hb dL_act_42 (by decide) (fun _ => ?_) (fun c9 => False.elim (by revert c9; decide))
  refine lv_iload_n hx hb dL_act_54 rfl (lv_at hl 1 rfl) ?_
  refine lv_iconst (v := 4) hx hb dL_act_55 (by decide) ?_
  refine lv_icmp_ne (tgt := 67) hx hb dL_act_56 (by decide) (fun _ => ?_) (fun c9 => False.elim (by revert c9; decide))
  refine lv_iload_n hx hb dL_act_67 rfl (lv_at hl 1 rfl) ?_
  refine lv_iconst (v := 5) hx hb dL_act_68 (by decide) ?_
  refine lv_icmp_ne (tgt := 80) hx hb dL_act_69 (by decide) (fun _ => ?_) (fun c9 => False.elim (by revert c9; decide))
  refine lv_iload_n hx hb dL_act_80 rfl (lv_at hl 1 rfl) ?_
  refine lv_bipush (v := 6) hx hb dL_act_81 (by decide) ?_
  refine lv_icmp_ne (tgt := 102) hx hb dL_act_83 (by decide) (fun _ => ?_) (fun c9 => False.elim (by revert c9; decide))
  refine lv_iload_n hx hb dL_act_102 rfl (lv_at hl 1 rfl) ?_
  refine lv_bipush (v := 7) hx hb dL_act_103 (by decide) ?_
  refine lv_icmp_ne (tgt := 117) hx hb dL_act_105 (by decide) (fun _ => ?_) (fun c9 => False.elim (by revert c9; decide))
  refine lv_aload_n hx hb dL_act_117 rfl (lv_at hl 0 rfl) ?_
  refine z_catch (vx_runV (As := []) (rest := []) ⟨hx, hb, hml, hown, hts⟩ (c_X0_release_t l hl0 D cI cZ cJ h a0 a1 a2 a3 a4 a5 a6 a7 a8 a9 a10 f0 f1 f2 f3 f4 f5 f6 f7 f8 f9 f10 v0 v1 v2 v3 hb3 hk) (cwV 0 hts gL_act_X0_release rfl rfl rfl (by decide +kernel) ⟨Nat.le_of_ble_eq_true rfl, Nat.le_of_ble_eq_true rfl⟩) ⟨zPX_blind, va_recv hK hP (ci := 0) (q0 := 0) rfl rfl, fun U hU hW => ⟨rfl, zX_at hZ hU hW, zP_mk hP hK hU hW⟩⟩ rfl rfl hl.1 rfl (lv_room (Nat.le_of_ble_eq_true rfl)) dL_act_118 ⟨Nat.le_of_ble_eq_true rfl, Nat.le_of_ble_eq_true rfl⟩) (fun _ h => h) hS (fun E ce q9 H1 locs hE hk9 hS hce hcv hcl => ?_)
  subst hE
  have hps : ∀ z ∈ ([⟨0, 121, 122, 42⟩, ⟨0, 121, 128, 44⟩] : List ExceptionTableEntry), covers z 118 = false ∨ (z.catchType ≠ 0 ∧ ∃ nm : String, (Cond.classLink RL z.catchType nm).before ([Value.ref h, Value.int 8, Value.int p0, Value.int p1] : List Value).toArray s = true ∧ va_Nc "java/lang/IllegalStateException" nm s) := (fun z hz => by
      simp only [List.mem_cons, List.not_mem_nil, or_false] at hz
      rcases hz with rfl | rfl
      · exact Or.inr ⟨by decide, "java/lang/IndexOutOfBoundsException", hts (.classLink RL 42 "java/lang/IndexOutOfBoundsException") (by decide +kernel), hZ.2.2.1 ("java/lang/IllegalStateException", "java/lang/IndexOutOfBoundsException") (by decide)⟩
      · exact Or.inr ⟨by decide, "java/lang/IllegalArgumentException", hts (.classLink RL 44 "java/lang/IllegalArgumentException") (by decide +kernel), hZ.2.2.1 ("java/lang/IllegalStateException", "java/lang/IllegalArgumentException") (by decide)⟩)
  refine vx_catch (own := RL) (name := "java/lang/IllegalStateException") hown [⟨0, 121, 122, 42⟩, ⟨0, 121, 128, 44⟩] ⟨0, 121, 134, 46⟩ [] (htab.trans rfl) hps (by decide) (by decide) (hts (.classLink RL 46 "java/lang/IllegalStateException") (by decide +kernel)) (va_Nw.use rfl (hZ.1 (.castable "java/lang/IllegalStateException" "java/lang/IllegalStateException") (by decide))) hce hcv hcl ?_
  have hP := hP.kept (fun k q hk => hk9 q.1 (vx_lt hP hk))
  have hgr : s.heap.size + 0 ≤ H1.size := hS.1
  refine lv_astore (lv' := [(4, .ref q9), (0, .ref h), (1, .int 8), (2, .int p0), (3, .int p1)]) hx hb dL_act_134 hl (by decide) rfl (fun ls hl => ?_)
  refine lv_sipush (v := (-1043)) hx hb dL_act_136 (by decide) ?_
  refine W.widen (k := 1) (n := 6) (Nat.le_of_ble_eq_true rfl) (Nat.le_of_ble_eq_true rfl) ?_
  refine vx_ret ?_
  exact W.iret (v := (-1043)) hx hb hr (fun t ht hW => ⟨⟨(-1043), (), rfl, rfl, by show s.heap.size + 0 ≤ t.heap.size; rw [ht]; exact hgr⟩, hS.F ht⟩) hS.2.2 dL_act_139
