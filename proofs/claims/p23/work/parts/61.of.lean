set_option maxHeartbeats 4000000 in
set_option maxRecDepth 100000 in
theorem k_of_in_t (l : Launch) (hl0 : l.stackTraces = false) (D : va_G) (cI cZ cJ : ClassId) (sz : Nat) (h a0 a1 a2 a3 a4 a5 a6 a7 a8 a9 a10 : Nat) (f0 f1 f2 f3 f4 f5 f6 f7 f8 f9 f10 : Nat → Int32) (v0 v1 v2 v3 : Int32) (p0 : Int32) (hg : q_g p0 = false) : vx_Met l yL_of wsL_of ({ frames := 8, cells := 1, slots := 6, locals := 131 }) (va_Pc [.ref h, .int 0, .int p0] (zKX D cI cZ cJ sz (wQ cI cZ h a0 a1 a2 a3 a4 a5 a6 a7 a8 a9 a10 f0 f1 f2 f3 f4 f5 f6 f7 f8 f9 f10 v0 v1 v2 v3))) (va_Qi (fun (r : Int32) (_ : Unit) => r = (-1041)) (fun _ t => sz + 0 ≤ t.heap.size) (fun _ => False)) (zXC (fun _ => False)) 1 6 (fun _ => False) := by
  refine vx_ofWH (cc := cL_of) (maxL := 4) (ret := (some .int)) (hh := [(0, 80, 81, 42), (0, 80, 86, 44), (0, 80, 91, 69)]) (by decide) rfl ?_
  intro p e s m args below meth c s₁ B hml hv
  obtain ⟨rfl, hsz, hZ, hP, hK⟩ := hv
  have hx := B.exec
  have hb := B.bytes
  have hr := B.returns
  have hts := atoms_spec (ws := wsL_of) B.pre
  have htab := vx_table (x := yL_of) B (hts _ List.mem_cons_self)
  have hown : s.vm.findClass RL = some m.cls := findClass_of_methodNamed B.named
  have hlocks := B.notSynchronized
  subst hsz
  have hS : va_S (fun _ : Nat => False) s.heap s.heap [] := va_S.rf
  have hgr : s.heap.size + 0 ≤ s.heap.size := Nat.le_refl _
  have hl := lv_entry ([.ref h, .int 0, .int p0]) (n := 4) (Nat.le_of_ble_eq_true rfl)
  rw [lg_entry_eq]
  generalize (lg_sl ([.ref h, .int 0, .int p0]) ++ List.replicate (4 - (lg_sl ([.ref h, .int 0, .int p0])).length) Slot.unset).toArray = ls at hl ⊢
  have hl : lv_has ls 4 [(0, .ref h), (1, .int 0), (2, .int p0)] := hl
  refine lv_iload_n hx hb dL_of_0 rfl (lv_at hl 1 rfl) ?_
  refine lv_if_ne (tgt := 12) hx hb dL_of_1 (by decide) (fun c9 => False.elim (by revert c9; decide)) (fun _ => ?_)
  refine lv_aload_n hx hb dL_of_4 rfl (lv_at hl 0 rfl) ?_
  refine lv_iload_n hx hb dL_of_5 rfl (lv_at hl 2 rfl) ?_
  refine z_catch (vx_runV (As := [.int p0]) (rest := []) ⟨hx, hb, hml, hown, hts⟩ (c_X0_in_t l hl0 D cI cZ cJ h a0 a1 a2 a3 a4 a5 a6 a7 a8 a9 a10 f0 f1 f2 f3 f4 f5 f6 f7 f8 f9 f10 v0 v1 v2 v3 p0 hg) (cwV 1 hts gL_of_X0_in rfl rfl rfl (by decide +kernel) ⟨Nat.le_of_ble_eq_true rfl, Nat.le_of_ble_eq_true rfl⟩) ⟨zPX_blind, va_recv hK hP (ci := 0) (q0 := 0) rfl rfl, fun U hU hW => ⟨rfl, zX_at hZ hU hW, zP_mk hP hK hU hW⟩⟩ rfl rfl hl.1 rfl (lv_room (Nat.le_of_ble_eq_true rfl)) dL_of_6 ⟨Nat.le_of_ble_eq_true rfl, Nat.le_of_ble_eq_true rfl⟩) (fun _ h => h) hS (fun E ce q9 H1 locs hE hk9 hS hce hcv hcl => ?_)
  subst hE
  have hps : ∀ z ∈ ([] : List ExceptionTableEntry), covers z 6 = false ∨ (z.catchType ≠ 0 ∧ ∃ nm : String, (Cond.classLink RL z.catchType nm).before ([Value.ref h, Value.int 0, Value.int p0] : List Value).toArray s = true ∧ va_Nc "java/lang/IndexOutOfBoundsException" nm s) := (fun z hz => nomatch hz)
  refine vx_catch (own := RL) (name := "java/lang/IndexOutOfBoundsException") hown [] ⟨0, 80, 81, 42⟩ [⟨0, 80, 86, 44⟩, ⟨0, 80, 91, 69⟩] (htab.trans rfl) hps (by decide) (by decide) (hts (.classLink RL 42 "java/lang/IndexOutOfBoundsException") (by decide +kernel)) (va_Nw.use rfl (hZ.1 (.castable "java/lang/IndexOutOfBoundsException" "java/lang/IndexOutOfBoundsException") (by decide))) hce hcv hcl ?_
  have hP := hP.kept (fun k q hk => hk9 q.1 (vx_lt hP hk))
  have hgr : s.heap.size + 0 ≤ H1.size := hS.1
  refine lv_astore_n (lv' := [(3, .ref q9), (0, .ref h), (1, .int 0), (2, .int p0)]) hx hb dL_of_81 rfl hl (by decide) rfl (fun ls hl => ?_)
  refine lv_sipush (v := (-1041)) hx hb dL_of_82 (by decide) ?_
  refine W.widen (k := 1) (n := 6) (Nat.le_of_ble_eq_true rfl) (Nat.le_of_ble_eq_true rfl) ?_
  refine vx_ret ?_
  exact W.iret (v := (-1041)) hx hb hr (fun t ht hW => ⟨⟨(-1041), (), rfl, rfl, by show s.heap.size + 0 ≤ t.heap.size; rw [ht]; exact hgr⟩, hS.F ht⟩) hS.2.2 dL_of_85
set_option maxHeartbeats 4000000 in
set_option maxRecDepth 100000 in
theorem k_of_inByBook_t (l : Launch) (hl0 : l.stackTraces = false) (D : va_G) (cI cZ cJ : ClassId) (sz : Nat) (h a0 a1 a2 a3 a4 a5 a6 a7 a8 a9 a10 : Nat) (f0 f1 f2 f3 f4 f5 f6 f7 f8 f9 f10 : Nat → Int32) (v0 v1 v2 v3 : Int32) (p0 : Int32) (hg : q_g p0 = false) : vx_Met l yL_of wsL_of ({ frames := 8, cells := 1, slots := 6, locals := 131 }) (va_Pc [.ref h, .int 1, .int p0] (zKX D cI cZ cJ sz (wQ cI cZ h a0 a1 a2 a3 a4 a5 a6 a7 a8 a9 a10 f0 f1 f2 f3 f4 f5 f6 f7 f8 f9 f10 v0 v1 v2 v3))) (va_Qi (fun (r : Int32) (_ : Unit) => r = (-1041)) (fun _ t => sz + 0 ≤ t.heap.size) (fun _ => False)) (zXC (fun _ => False)) 1 6 (fun _ => False) := by
  refine vx_ofWH (cc := cL_of) (maxL := 4) (ret := (some .int)) (hh := [(0, 80, 81, 42), (0, 80, 86, 44), (0, 80, 91, 69)]) (by decide) rfl ?_
  intro p e s m args below meth c s₁ B hml hv
  obtain ⟨rfl, hsz, hZ, hP, hK⟩ := hv
  have hx := B.exec
  have hb := B.bytes
  have hr := B.returns
  have hts := atoms_spec (ws := wsL_of) B.pre
  have htab := vx_table (x := yL_of) B (hts _ List.mem_cons_self)
  have hown : s.vm.findClass RL = some m.cls := findClass_of_methodNamed B.named
  have hlocks := B.notSynchronized
  subst hsz
  have hS : va_S (fun _ : Nat => False) s.heap s.heap [] := va_S.rf
  have hgr : s.heap.size + 0 ≤ s.heap.size := Nat.le_refl _
  have hl := lv_entry ([.ref h, .int 1, .int p0]) (n := 4) (Nat.le_of_ble_eq_true rfl)
  rw [lg_entry_eq]
  generalize (lg_sl ([.ref h, .int 1, .int p0]) ++ List.replicate (4 - (lg_sl ([.ref h, .int 1, .int p0])).length) Slot.unset).toArray = ls at hl ⊢
  have hl : lv_has ls 4 [(0, .ref h), (1, .int 1), (2, .int p0)] := hl
  refine lv_iload_n hx hb dL_of_0 rfl (lv_at hl 1 rfl) ?_
  refine lv_if_ne (tgt := 12) hx hb dL_of_1 (by decide) (fun _ => ?_) (fun c9 => False.elim (by revert c9; decide))
  refine lv_iload_n hx hb dL_of_12 rfl (lv_at hl 1 rfl) ?_
  refine lv_iconst (v := 1) hx hb dL_of_13 (by decide) ?_
  refine lv_icmp_ne (tgt := 25) hx hb dL_of_14 (by decide) (fun c9 => False.elim (by revert c9; decide)) (fun _ => ?_)
  refine lv_aload_n hx hb dL_of_17 rfl (lv_at hl 0 rfl) ?_
  refine lv_iload_n hx hb dL_of_18 rfl (lv_at hl 2 rfl) ?_
  refine z_catch (vx_runV (As := [.int p0]) (rest := []) ⟨hx, hb, hml, hown, hts⟩ (c_X0_inByBook_t l hl0 D cI cZ cJ h a0 a1 a2 a3 a4 a5 a6 a7 a8 a9 a10 f0 f1 f2 f3 f4 f5 f6 f7 f8 f9 f10 v0 v1 v2 v3 p0 hg) (cwV 1 hts gL_of_X0_inByBook rfl rfl rfl (by decide +kernel) ⟨Nat.le_of_ble_eq_true rfl, Nat.le_of_ble_eq_true rfl⟩) ⟨zPX_blind, va_recv hK hP (ci := 0) (q0 := 0) rfl rfl, fun U hU hW => ⟨rfl, zX_at hZ hU hW, zP_mk hP hK hU hW⟩⟩ rfl rfl hl.1 rfl (lv_room (Nat.le_of_ble_eq_true rfl)) dL_of_19 ⟨Nat.le_of_ble_eq_true rfl, Nat.le_of_ble_eq_true rfl⟩) (fun _ h => h) hS (fun E ce q9 H1 locs hE hk9 hS hce hcv hcl => ?_)
  subst hE
  have hps : ∀ z ∈ ([] : List ExceptionTableEntry), covers z 19 = false ∨ (z.catchType ≠ 0 ∧ ∃ nm : String, (Cond.classLink RL z.catchType nm).before ([Value.ref h, Value.int 1, Value.int p0] : List Value).toArray s = true ∧ va_Nc "java/lang/IndexOutOfBoundsException" nm s) := (fun z hz => nomatch hz)
  refine vx_catch (own := RL) (name := "java/lang/IndexOutOfBoundsException") hown [] ⟨0, 80, 81, 42⟩ [⟨0, 80, 86, 44⟩, ⟨0, 80, 91, 69⟩] (htab.trans rfl) hps (by decide) (by decide) (hts (.classLink RL 42 "java/lang/IndexOutOfBoundsException") (by decide +kernel)) (va_Nw.use rfl (hZ.1 (.castable "java/lang/IndexOutOfBoundsException" "java/lang/IndexOutOfBoundsException") (by decide))) hce hcv hcl ?_
  have hP := hP.kept (fun k q hk => hk9 q.1 (vx_lt hP hk))
  have hgr : s.heap.size + 0 ≤ H1.size := hS.1
  refine lv_astore_n (lv' := [(3, .ref q9), (0, .ref h), (1, .int 1), (2, .int p0)]) hx hb dL_of_81 rfl hl (by decide) rfl (fun ls hl => ?_)
  refine lv_sipush (v := (-1041)) hx hb dL_of_82 (by decide) ?_
  refine W.widen (k := 1) (n := 6) (Nat.le_of_ble_eq_true rfl) (Nat.le_of_ble_eq_true rfl) ?_
  refine vx_ret ?_
  exact W.iret (v := (-1041)) hx hb hr (fun t ht hW => ⟨⟨(-1041), (), rfl, rfl, by show s.heap.size + 0 ≤ t.heap.size; rw [ht]; exact hgr⟩, hS.F ht⟩) hS.2.2 dL_of_85
set_option maxHeartbeats 4000000 in
set_option maxRecDepth 100000 in
theorem k_of_speaker_t (l : Launch) (hl0 : l.stackTraces = false) (D : va_G) (cI cZ cJ : ClassId) (sz : Nat) (h a0 a1 a2 a3 a4 a5 a6 a7 a8 a9 a10 : Nat) (f0 f1 f2 f3 f4 f5 f6 f7 f8 f9 f10 : Nat → Int32) (v0 v1 v2 v3 : Int32) (p0 : Int32) (hg : q_g p0 = false) : vx_Met l yL_of wsL_of ({ frames := 8, cells := 1, slots := 6, locals := 131 }) (va_Pc [.ref h, .int 2, .int p0] (zKX D cI cZ cJ sz (wQ cI cZ h a0 a1 a2 a3 a4 a5 a6 a7 a8 a9 a10 f0 f1 f2 f3 f4 f5 f6 f7 f8 f9 f10 v0 v1 v2 v3))) (va_Qi (fun (r : Int32) (_ : Unit) => r = (-1041)) (fun _ t => sz + 0 ≤ t.heap.size) (fun _ => False)) (zXC (fun _ => False)) 1 6 (fun _ => False) := by
  refine vx_ofWH (cc := cL_of) (maxL := 4) (ret := (some .int)) (hh := [(0, 80, 81, 42), (0, 80, 86, 44), (0, 80, 91, 69)]) (by decide) rfl ?_
  intro p e s m args below meth c s₁ B hml hv
  obtain ⟨rfl, hsz, hZ, hP, hK⟩ := hv
  have hx := B.exec
  have hb := B.bytes
  have hr := B.returns
  have hts := atoms_spec (ws := wsL_of) B.pre
  have htab := vx_table (x := yL_of) B (hts _ List.mem_cons_self)
  have hown : s.vm.findClass RL = some m.cls := findClass_of_methodNamed B.named
  have hlocks := B.notSynchronized
  subst hsz
  have hS : va_S (fun _ : Nat => False) s.heap s.heap [] := va_S.rf
  have hgr : s.heap.size + 0 ≤ s.heap.size := Nat.le_refl _
  have hl := lv_entry ([.ref h, .int 2, .int p0]) (n := 4) (Nat.le_of_ble_eq_true rfl)
  rw [lg_entry_eq]
  generalize (lg_sl ([.ref h, .int 2, .int p0]) ++ List.replicate (4 - (lg_sl ([.ref h, .int 2, .int p0])).length) Slot.unset).toArray = ls at hl ⊢
  have hl : lv_has ls 4 [(0, .ref h), (1, .int 2), (2, .int p0)] := hl
  refine lv_iload_n hx hb dL_of_0 rfl (lv_at hl 1 rfl) ?_
  refine lv_if_ne (tgt := 12) hx hb dL_of_1 (by decide) (fun _ => ?_) (fun c9 => False.elim (by revert c9; decide))
  refine lv_iload_n hx hb dL_of_12 rfl (lv_at hl 1 rfl) ?_
  refine lv_iconst (v := 1) hx hb dL_of_13 (by decide) ?_
  refine lv_icmp_ne (tgt := 25) hx hb dL_of_14 (by decide) (fun _ => ?_) (fun c9 => False.elim (by revert c9; decide))
  refine lv_iload_n hx hb dL_of_25 rfl (lv_at hl 1 rfl) ?_
  refine lv_iconst (v := 2) hx hb dL_of_26 (by decide) ?_
  refine lv_icmp_ne (tgt := 38) hx hb dL_of_27 (by decide) (fun c9 => False.elim (by revert c9; decide)) (fun _ => ?_)
  refine lv_aload_n hx hb dL_of_30 rfl (lv_at hl 0 rfl) ?_
  refine lv_iload_n hx hb dL_of_31 rfl (lv_at hl 2 rfl) ?_
  refine z_catch (vx_runV (As := [.int p0]) (rest := []) ⟨hx, hb, hml, hown, hts⟩ (c_X0_speaker_t l hl0 D cI cZ cJ h a0 a1 a2 a3 a4 a5 a6 a7 a8 a9 a10 f0 f1 f2 f3 f4 f5 f6 f7 f8 f9 f10 v0 v1 v2 v3 p0 hg) (cwV 1 hts gL_of_X0_speaker rfl rfl rfl (by decide +kernel) ⟨Nat.le_of_ble_eq_true rfl, Nat.le_of_ble_eq_true rfl⟩) ⟨zPX_blind, va_recv hK hP (ci := 0) (q0 := 0) rfl rfl, fun U hU hW => ⟨rfl, zX_at hZ hU hW, zP_mk hP hK hU hW⟩⟩ rfl rfl hl.1 rfl (lv_room (Nat.le_of_ble_eq_true rfl)) dL_of_32 ⟨Nat.le_of_ble_eq_true rfl, Nat.le_of_ble_eq_true rfl⟩) (fun _ h => h) hS (fun E ce q9 H1 locs hE hk9 hS hce hcv hcl => ?_)
  subst hE
  have hps : ∀ z ∈ ([] : List ExceptionTableEntry), covers z 32 = false ∨ (z.catchType ≠ 0 ∧ ∃ nm : String, (Cond.classLink RL z.catchType nm).before ([Value.ref h, Value.int 2, Value.int p0] : List Value).toArray s = true ∧ va_Nc "java/lang/IndexOutOfBoundsException" nm s) := (fun z hz => nomatch hz)
  refine vx_catch (own := RL) (name := "java/lang/IndexOutOfBoundsException") hown [] ⟨0, 80, 81, 42⟩ [⟨0, 80, 86, 44⟩, ⟨0, 80, 91, 69⟩] (htab.trans rfl) hps (by decide) (by decide) (hts (.classLink RL 42 "java/lang/IndexOutOfBoundsException") (by decide +kernel)) (va_Nw.use rfl (hZ.1 (.castable "java/lang/IndexOutOfBoundsException" "java/lang/IndexOutOfBoundsException") (by decide))) hce hcv hcl ?_
  have hP := hP.kept (fun k q hk => hk9 q.1 (vx_lt hP hk))
  have hgr : s.heap.size + 0 ≤ H1.size := hS.1
  refine lv_astore_n (lv' := [(3, .ref q9), (0, .ref h), (1, .int 2), (2, .int p0)]) hx hb dL_of_81 rfl hl (by decide) rfl (fun ls hl => ?_)
  refine lv_sipush (v := (-1041)) hx hb dL_of_82 (by decide) ?_
  refine W.widen (k := 1) (n := 6) (Nat.le_of_ble_eq_true rfl) (Nat.le_of_ble_eq_true rfl) ?_
  refine vx_ret ?_
  exact W.iret (v := (-1041)) hx hb hr (fun t ht hW => ⟨⟨(-1041), (), rfl, rfl, by show s.heap.size + 0 ≤ t.heap.size; rw [ht]; exact hgr⟩, hS.F ht⟩) hS.2.2 dL_of_85
set_option maxHeartbeats 4000000 in
set_option maxRecDepth 100000 in
theorem k_of_weight_t (l : Launch) (hl0 : l.stackTraces = false) (D : va_G) (cI cZ cJ : ClassId) (sz : Nat) (h a0 a1 a2 a3 a4 a5 a6 a7 a8 a9 a10 : Nat) (f0 f1 f2 f3 f4 f5 f6 f7 f8 f9 f10 : Nat → Int32) (v0 v1 v2 v3 : Int32) (p0 : Int32) (hw : q_i p0 1 2 = false) : vx_Met l yL_of wsL_of ({ frames := 7, cells := 1, slots := 6, locals := 113 }) (va_Pc [.ref h, .int 3, .int p0] (zKX D cI cZ cJ sz (wQ cI cZ h a0 a1 a2 a3 a4 a5 a6 a7 a8 a9 a10 f0 f1 f2 f3 f4 f5 f6 f7 f8 f9 f10 v0 v1 v2 v3))) (va_Qi (fun (r : Int32) (_ : Unit) => r = (-1042)) (fun _ t => sz + 0 ≤ t.heap.size) (fun _ => False)) (zXC (fun _ => False)) 1 6 (fun _ => False) := by
  refine vx_ofWH (cc := cL_of) (maxL := 4) (ret := (some .int)) (hh := [(0, 80, 81, 42), (0, 80, 86, 44), (0, 80, 91, 69)]) (by decide) rfl ?_
  intro p e s m args below meth c s₁ B hml hv
  obtain ⟨rfl, hsz, hZ, hP, hK⟩ := hv
  have hx := B.exec
  have hb := B.bytes
  have hr := B.returns
  have hts := atoms_spec (ws := wsL_of) B.pre
  have htab := vx_table (x := yL_of) B (hts _ List.mem_cons_self)
  have hown : s.vm.findClass RL = some m.cls := findClass_of_methodNamed B.named
  have hlocks := B.notSynchronized
  subst hsz
  have hS : va_S (fun _ : Nat => False) s.heap s.heap [] := va_S.rf
  have hgr : s.heap.size + 0 ≤ s.heap.size := Nat.le_refl _
  have hl := lv_entry ([.ref h, .int 3, .int p0]) (n := 4) (Nat.le_of_ble_eq_true rfl)
  rw [lg_entry_eq]
  generalize (lg_sl ([.ref h, .int 3, .int p0]) ++ List.replicate (4 - (lg_sl ([.ref h, .int 3, .int p0])).length) Slot.unset).toArray = ls at hl ⊢
  have hl : lv_has ls 4 [(0, .ref h), (1, .int 3), (2, .int p0)] := hl
  refine lv_iload_n hx hb dL_of_0 rfl (lv_at hl 1 rfl) ?_
  refine lv_if_ne (tgt := 12) hx hb dL_of_1 (by decide) (fun _ => ?_) (fun c9 => False.elim (by revert c9; decide))
  refine lv_iload_n hx hb dL_of_12 rfl (lv_at hl 1 rfl) ?_
  refine lv_iconst (v := 1) hx hb dL_of_13 (by decide) ?_
  refine lv_icmp_ne (tgt := 25) hx hb dL_of_14 (by decide) (fun _ => ?_) (fun c9 => False.elim (by revert c9; decide))
  refine lv_iload_n hx hb dL_of_25 rfl (lv_at hl 1 rfl) ?_
  refine lv_iconst (v := 2) hx hb dL_of_26 (by decide) ?_
  refine lv_icmp_ne (tgt := 38) hx hb dL_of_27 (by decide) (fun _ => ?_) (fun c9 => False.elim (by revert c9; decide))
  refine lv_iload_n hx hb dL_of_38 rfl (lv_at hl 1 rfl) ?_
  refine lv_iconst (v := 3) hx hb dL_of_39 (by decide) ?_
  refine lv_icmp_ne (tgt := 51) hx hb dL_of_40 (by decide) (fun c9 => False.elim (by revert c9; decide)) (fun _ => ?_)
  refine lv_aload_n hx hb dL_of_43 rfl (lv_at hl 0 rfl) ?_
  refine lv_iload_n hx hb dL_of_44 rfl (lv_at hl 2 rfl) ?_
  refine z_catch (vx_runV (As := [.int p0]) (rest := []) ⟨hx, hb, hml, hown, hts⟩ (c_X0_weight_t l hl0 D cI cZ cJ h a0 a1 a2 a3 a4 a5 a6 a7 a8 a9 a10 f0 f1 f2 f3 f4 f5 f6 f7 f8 f9 f10 v0 v1 v2 v3 p0 hw) (cwV 1 hts gL_of_X0_weight rfl rfl rfl (by decide +kernel) ⟨Nat.le_of_ble_eq_true rfl, Nat.le_of_ble_eq_true rfl⟩) ⟨zPX_blind, va_recv hK hP (ci := 0) (q0 := 0) rfl rfl, fun U hU hW => ⟨rfl, zX_at hZ hU hW, zP_mk hP hK hU hW⟩⟩ rfl rfl hl.1 rfl (lv_room (Nat.le_of_ble_eq_true rfl)) dL_of_45 ⟨Nat.le_of_ble_eq_true rfl, Nat.le_of_ble_eq_true rfl⟩) (fun _ h => h) hS (fun E ce q9 H1 locs hE hk9 hS hce hcv hcl => ?_)
  subst hE
  have hps : ∀ z ∈ ([⟨0, 80, 81, 42⟩] : List ExceptionTableEntry), covers z 45 = false ∨ (z.catchType ≠ 0 ∧ ∃ nm : String, (Cond.classLink RL z.catchType nm).before ([Value.ref h, Value.int 3, Value.int p0] : List Value).toArray s = true ∧ va_Nc "java/lang/IllegalArgumentException" nm s) := (fun z hz => by
      simp only [List.mem_cons, List.not_mem_nil, or_false] at hz
      rcases hz with rfl
      · exact Or.inr ⟨by decide, "java/lang/IndexOutOfBoundsException", hts (.classLink RL 42 "java/lang/IndexOutOfBoundsException") (by decide +kernel), hZ.2.2.1 ("java/lang/IllegalArgumentException", "java/lang/IndexOutOfBoundsException") (by decide)⟩)
  refine vx_catch (own := RL) (name := "java/lang/IllegalArgumentException") hown [⟨0, 80, 81, 42⟩] ⟨0, 80, 86, 44⟩ [⟨0, 80, 91, 69⟩] (htab.trans rfl) hps (by decide) (by decide) (hts (.classLink RL 44 "java/lang/IllegalArgumentException") (by decide +kernel)) (va_Nw.use rfl (hZ.1 (.castable "java/lang/IllegalArgumentException" "java/lang/IllegalArgumentException") (by decide))) hce hcv hcl ?_
  have hP := hP.kept (fun k q hk => hk9 q.1 (vx_lt hP hk))
  have hgr : s.heap.size + 0 ≤ H1.size := hS.1
  refine lv_astore_n (lv' := [(3, .ref q9), (0, .ref h), (1, .int 3), (2, .int p0)]) hx hb dL_of_86 rfl hl (by decide) rfl (fun ls hl => ?_)
  refine lv_sipush (v := (-1042)) hx hb dL_of_87 (by decide) ?_
  refine W.widen (k := 1) (n := 6) (Nat.le_of_ble_eq_true rfl) (Nat.le_of_ble_eq_true rfl) ?_
  refine vx_ret ?_
  exact W.iret (v := (-1042)) hx hb hr (fun t ht hW => ⟨⟨(-1042), (), rfl, rfl, by show s.heap.size + 0 ≤ t.heap.size; rw [ht]; exact hgr⟩, hS.F ht⟩) hS.2.2 dL_of_90
set_option maxHeartbeats 4000000 in
set_option maxRecDepth 100000 in
theorem k_of_share_t1 (l : Launch) (hl0 : l.stackTraces = false) (D : va_G) (cI cZ cJ : ClassId) (sz : Nat) (h a0 a1 a2 a3 a4 a5 a6 a7 a8 a9 a10 : Nat) (f0 f1 f2 f3 f4 f5 f6 f7 f8 f9 f10 : Nat → Int32) (v0 v1 v2 v3 : Int32) (p0 : Int32) (hg : q_g p0 = false) : vx_Met l yL_of wsL_of ({ frames := 8, cells := 1, slots := 6, locals := 131 }) (va_Pc [.ref h, .int 4, .int p0] (zKX D cI cZ cJ sz (wQ cI cZ h a0 a1 a2 a3 a4 a5 a6 a7 a8 a9 a10 f0 f1 f2 f3 f4 f5 f6 f7 f8 f9 f10 v0 v1 v2 v3))) (va_Qi (fun (r : Int32) (_ : Unit) => r = (-1041)) (fun _ t => sz + 0 ≤ t.heap.size) (fun _ => False)) (zXC (fun _ => False)) 1 6 (fun _ => False) := by
  refine vx_ofWH (cc := cL_of) (maxL := 4) (ret := (some .int)) (hh := [(0, 80, 81, 42), (0, 80, 86, 44), (0, 80, 91, 69)]) (by decide) rfl ?_
  intro p e s m args below meth c s₁ B hml hv
  obtain ⟨rfl, hsz, hZ, hP, hK⟩ := hv
  have hx := B.exec
  have hb := B.bytes
  have hr := B.returns
  have hts := atoms_spec (ws := wsL_of) B.pre
  have htab := vx_table (x := yL_of) B (hts _ List.mem_cons_self)
  have hown : s.vm.findClass RL = some m.cls := findClass_of_methodNamed B.named
  have hlocks := B.notSynchronized
  subst hsz
  have hS : va_S (fun _ : Nat => False) s.heap s.heap [] := va_S.rf
  have hgr : s.heap.size + 0 ≤ s.heap.size := Nat.le_refl _
  have hl := lv_entry ([.ref h, .int 4, .int p0]) (n := 4) (Nat.le_of_ble_eq_true rfl)
  rw [lg_entry_eq]
  generalize (lg_sl ([.ref h, .int 4, .int p0]) ++ List.replicate (4 - (lg_sl ([.ref h, .int 4, .int p0])).length) Slot.unset).toArray = ls at hl ⊢
  have hl : lv_has ls 4 [(0, .ref h), (1, .int 4), (2, .int p0)] := hl
  refine lv_iload_n hx hb dL_of_0 rfl (lv_at hl 1 rfl) ?_
  refine lv_if_ne (tgt := 12) hx hb dL_of_1 (by decide) (fun _ => ?_) (fun c9 => False.elim (by revert c9; decide))
  refine lv_iload_n hx hb dL_of_12 rfl (lv_at hl 1 rfl) ?_
  refine lv_iconst (v := 1) hx hb dL_of_13 (by decide) ?_
  refine lv_icmp_ne (tgt := 25) hx hb dL_of_14 (by decide) (fun _ => ?_) (fun c9 => False.elim (by revert c9; decide))
  refine lv_iload_n hx hb dL_of_25 rfl (lv_at hl 1 rfl) ?_
  refine lv_iconst (v := 2) hx hb dL_of_26 (by decide) ?_
  refine lv_icmp_ne (tgt := 38) hx hb dL_of_27 (by decide) (fun _ => ?_) (fun c9 => False.elim (by revert c9; decide))
  refine lv_iload_n hx hb dL_of_38 rfl (lv_at hl 1 rfl) ?_
  refine lv_iconst (v := 3) hx hb dL_of_39 (by decide) ?_
  refine lv_icmp_ne (tgt := 51) hx hb dL_of_40 (by decide) (fun _ => ?_) (fun c9 => False.elim (by revert c9; decide))
  refine lv_iload_n hx hb dL_of_51 rfl (lv_at hl 1 rfl) ?_
  refine lv_iconst (v := 4) hx hb dL_of_52 (by decide) ?_
  refine lv_icmp_ne (tgt := 64) hx hb dL_of_53 (by decide) (fun c9 => False.elim (by revert c9; decide)) (fun _ => ?_)
  refine lv_aload_n hx hb dL_of_56 rfl (lv_at hl 0 rfl) ?_
  refine lv_iload_n hx hb dL_of_57 rfl (lv_at hl 2 rfl) ?_
  refine z_catch (vx_runV (As := [.int p0]) (rest := []) ⟨hx, hb, hml, hown, hts⟩ (c_X0_share_t1 l hl0 D cI cZ cJ h a0 a1 a2 a3 a4 a5 a6 a7 a8 a9 a10 f0 f1 f2 f3 f4 f5 f6 f7 f8 f9 f10 v0 v1 v2 v3 p0 hg) (cwV 1 hts gL_of_X0_share rfl rfl rfl (by decide +kernel) ⟨Nat.le_of_ble_eq_true rfl, Nat.le_of_ble_eq_true rfl⟩) ⟨zPX_blind, va_recv hK hP (ci := 0) (q0 := 0) rfl rfl, fun U hU hW => ⟨rfl, zX_at hZ hU hW, zP_mk hP hK hU hW⟩⟩ rfl rfl hl.1 rfl (lv_room (Nat.le_of_ble_eq_true rfl)) dL_of_58 ⟨Nat.le_of_ble_eq_true rfl, Nat.le_of_ble_eq_true rfl⟩) (fun _ h => h) hS (fun E ce q9 H1 locs hE hk9 hS hce hcv hcl => ?_)
  subst hE
  have hps : ∀ z ∈ ([] : List ExceptionTableEntry), covers z 58 = false ∨ (z.catchType ≠ 0 ∧ ∃ nm : String, (Cond.classLink RL z.catchType nm).before ([Value.ref h, Value.int 4, Value.int p0] : List Value).toArray s = true ∧ va_Nc "java/lang/IndexOutOfBoundsException" nm s) := (fun z hz => nomatch hz)
  refine vx_catch (own := RL) (name := "java/lang/IndexOutOfBoundsException") hown [] ⟨0, 80, 81, 42⟩ [⟨0, 80, 86, 44⟩, ⟨0, 80, 91, 69⟩] (htab.trans rfl) hps (by decide) (by decide) (hts (.classLink RL 42 "java/lang/IndexOutOfBoundsException") (by decide +kernel)) (va_Nw.use rfl (hZ.1 (.castable "java/lang/IndexOutOfBoundsException" "java/lang/IndexOutOfBoundsException") (by decide))) hce hcv hcl ?_
  have hP := hP.kept (fun k q hk => hk9 q.1 (vx_lt hP hk))
  have hgr : s.heap.size + 0 ≤ H1.size := hS.1
  refine lv_astore_n (lv' := [(3, .ref q9), (0, .ref h), (1, .int 4), (2, .int p0)]) hx hb dL_of_81 rfl hl (by decide) rfl (fun ls hl => ?_)
  refine lv_sipush (v := (-1041)) hx hb dL_of_82 (by decide) ?_
  refine W.widen (k := 1) (n := 6) (Nat.le_of_ble_eq_true rfl) (Nat.le_of_ble_eq_true rfl) ?_
  refine vx_ret ?_
  exact W.iret (v := (-1041)) hx hb hr (fun t ht hW => ⟨⟨(-1041), (), rfl, rfl, by show s.heap.size + 0 ≤ t.heap.size; rw [ht]; exact hgr⟩, hS.F ht⟩) hS.2.2 dL_of_85
set_option maxHeartbeats 4000000 in
set_option maxRecDepth 100000 in
theorem k_of_share_t2 (l : Launch) (hl0 : l.stackTraces = false) (D : va_G) (cI cZ cJ : ClassId) (sz : Nat) (h a0 a1 a2 a3 a4 a5 a6 a7 a8 a9 a10 : Nat) (f0 f1 f2 f3 f4 f5 f6 f7 f8 f9 f10 : Nat → Int32) (v0 v1 v2 v3 : Int32) (p0 : Int32) (hg : q_g p0 = true) (hb3 : 0 ≤ v1.toInt ∧ v1.toInt ≤ v0.toInt ∧ v0.toInt ≤ 6) (hc : q_cov f0 f7 v0 v1 = false) : vx_Met l yL_of wsL_of ({ frames := 8, cells := 1, slots := 6, locals := 131 }) (va_Pc [.ref h, .int 4, .int p0] (zKX D cI cZ cJ sz (wQ cI cZ h a0 a1 a2 a3 a4 a5 a6 a7 a8 a9 a10 f0 f1 f2 f3 f4 f5 f6 f7 f8 f9 f10 v0 v1 v2 v3))) (va_Qi (fun (r : Int32) (_ : Unit) => r = (-1044)) (fun _ t => sz + 0 ≤ t.heap.size) (fun _ => False)) (zXC (fun _ => False)) 1 6 (fun _ => False) := by
  refine vx_ofWH (cc := cL_of) (maxL := 4) (ret := (some .int)) (hh := [(0, 80, 81, 42), (0, 80, 86, 44), (0, 80, 91, 69)]) (by decide) rfl ?_
  intro p e s m args below meth c s₁ B hml hv
  obtain ⟨rfl, hsz, hZ, hP, hK⟩ := hv
  have hx := B.exec
  have hb := B.bytes
  have hr := B.returns
  have hts := atoms_spec (ws := wsL_of) B.pre
  have htab := vx_table (x := yL_of) B (hts _ List.mem_cons_self)
  have hown : s.vm.findClass RL = some m.cls := findClass_of_methodNamed B.named
  have hlocks := B.notSynchronized
  subst hsz
  have hS : va_S (fun _ : Nat => False) s.heap s.heap [] := va_S.rf
  have hgr : s.heap.size + 0 ≤ s.heap.size := Nat.le_refl _
  have hl := lv_entry ([.ref h, .int 4, .int p0]) (n := 4) (Nat.le_of_ble_eq_true rfl)
  rw [lg_entry_eq]
  generalize (lg_sl ([.ref h, .int 4, .int p0]) ++ List.replicate (4 - (lg_sl ([.ref h, .int 4, .int p0])).length) Slot.unset).toArray = ls at hl ⊢
  have hl : lv_has ls 4 [(0, .ref h), (1, .int 4), (2, .int p0)] := hl
  refine lv_iload_n hx hb dL_of_0 rfl (lv_at hl 1 rfl) ?_
  refine lv_if_ne (tgt := 12) hx hb dL_of_1 (by decide) (fun _ => ?_) (fun c9 => False.elim (by revert c9; decide))
  refine lv_iload_n hx hb dL_of_12 rfl (lv_at hl 1 rfl) ?_
  refine lv_iconst (v := 1) hx hb dL_of_13 (by decide) ?_
  refine lv_icmp_ne (tgt := 25) hx hb dL_of_14 (by decide) (fun _ => ?_) (fun c9 => False.elim (by revert c9; decide))
  refine lv_iload_n hx hb dL_of_25 rfl (lv_at hl 1 rfl) ?_
  refine lv_iconst (v := 2) hx hb dL_of_26 (by decide) ?_
  refine lv_icmp_ne (tgt := 38) hx hb dL_of_27 (by decide) (fun _ => ?_) (fun c9 => False.elim (by revert c9; decide))
  refine lv_iload_n hx hb dL_of_38 rfl (lv_at hl 1 rfl) ?_
  refine lv_iconst (v := 3) hx hb dL_of_39 (by decide) ?_
  refine lv_icmp_ne (tgt := 51) hx hb dL_of_40 (by decide) (fun _ => ?_) (fun c9 => False.elim (by revert c9; decide))
  refine lv_iload_n hx hb dL_of_51 rfl (lv_at hl 1 rfl) ?_
  refine lv_iconst (v := 4) hx hb dL_of_52 (by decide) ?_
  refine lv_icmp_ne (tgt := 64) hx hb dL_of_53 (by decide) (fun c9 => False.elim (by revert c9; decide)) (fun _ => ?_)
  refine lv_aload_n hx hb dL_of_56 rfl (lv_at hl 0 rfl) ?_
  refine lv_iload_n hx hb dL_of_57 rfl (lv_at hl 2 rfl) ?_
  refine z_catch (vx_runV (As := [.int p0]) (rest := []) ⟨hx, hb, hml, hown, hts⟩ (c_X0_share_t2 l hl0 D cI cZ cJ h a0 a1 a2 a3 a4 a5 a6 a7 a8 a9 a10 f0 f1 f2 f3 f4 f5 f6 f7 f8 f9 f10 v0 v1 v2 v3 p0 hg hb3 hc) (cwV 1 hts gL_of_X0_share rfl rfl rfl (by decide +kernel) ⟨Nat.le_of_ble_eq_true rfl, Nat.le_of_ble_eq_true rfl⟩) ⟨zPX_blind, va_recv hK hP (ci := 0) (q0 := 0) rfl rfl, fun U hU hW => ⟨rfl, zX_at hZ hU hW, zP_mk hP hK hU hW⟩⟩ rfl rfl hl.1 rfl (lv_room (Nat.le_of_ble_eq_true rfl)) dL_of_58 ⟨Nat.le_of_ble_eq_true rfl, Nat.le_of_ble_eq_true rfl⟩) (fun _ h => h) hS (fun E ce q9 H1 locs hE hk9 hS hce hcv hcl => ?_)
  subst hE
  have hps : ∀ z ∈ ([⟨0, 80, 81, 42⟩, ⟨0, 80, 86, 44⟩] : List ExceptionTableEntry), covers z 58 = false ∨ (z.catchType ≠ 0 ∧ ∃ nm : String, (Cond.classLink RL z.catchType nm).before ([Value.ref h, Value.int 4, Value.int p0] : List Value).toArray s = true ∧ va_Nc "java/util/NoSuchElementException" nm s) := (fun z hz => by
      simp only [List.mem_cons, List.not_mem_nil, or_false] at hz
      rcases hz with rfl | rfl
      · exact Or.inr ⟨by decide, "java/lang/IndexOutOfBoundsException", hts (.classLink RL 42 "java/lang/IndexOutOfBoundsException") (by decide +kernel), hZ.2.2.1 ("java/util/NoSuchElementException", "java/lang/IndexOutOfBoundsException") (by decide)⟩
      · exact Or.inr ⟨by decide, "java/lang/IllegalArgumentException", hts (.classLink RL 44 "java/lang/IllegalArgumentException") (by decide +kernel), hZ.2.2.1 ("java/util/NoSuchElementException", "java/lang/IllegalArgumentException") (by decide)⟩)
  refine vx_catch (own := RL) (name := "java/util/NoSuchElementException") hown [⟨0, 80, 81, 42⟩, ⟨0, 80, 86, 44⟩] ⟨0, 80, 91, 69⟩ [] (htab.trans rfl) hps (by decide) (by decide) (hts (.classLink RL 69 "java/util/NoSuchElementException") (by decide +kernel)) (va_Nw.use rfl (hZ.1 (.castable "java/util/NoSuchElementException" "java/util/NoSuchElementException") (by decide))) hce hcv hcl ?_
  have hP := hP.kept (fun k q hk => hk9 q.1 (vx_lt hP hk))
  have hgr : s.heap.size + 0 ≤ H1.size := hS.1
  refine lv_astore_n (lv' := [(3, .ref q9), (0, .ref h), (1, .int 4), (2, .int p0)]) hx hb dL_of_91 rfl hl (by decide) rfl (fun ls hl => ?_)
  refine lv_sipush (v := (-1044)) hx hb dL_of_92 (by decide) ?_
  refine W.widen (k := 1) (n := 6) (Nat.le_of_ble_eq_true rfl) (Nat.le_of_ble_eq_true rfl) ?_
  refine vx_ret ?_
  exact W.iret (v := (-1044)) hx hb hr (fun t ht hW => ⟨⟨(-1044), (), rfl, rfl, by show s.heap.size + 0 ≤ t.heap.size; rw [ht]; exact hgr⟩, hS.F ht⟩) hS.2.2 dL_of_95
set_option maxHeartbeats 4000000 in
set_option maxRecDepth 100000 in
theorem k_of_match_t (l : Launch) (hl0 : l.stackTraces = false) (D : va_G) (cI cZ cJ : ClassId) (sz : Nat) (h a0 a1 a2 a3 a4 a5 a6 a7 a8 a9 a10 : Nat) (f0 f1 f2 f3 f4 f5 f6 f7 f8 f9 f10 : Nat → Int32) (v0 v1 v2 v3 : Int32) (p0 : Int32) (hb3 : 0 ≤ v1.toInt ∧ v1.toInt ≤ v0.toInt ∧ v0.toInt ≤ 6) (hc : q_cov f0 f7 v0 v1 = false) : vx_Met l yL_of wsL_of ({ frames := 8, cells := 1, slots := 6, locals := 130 }) (va_Pc [.ref h, .int 5, .int p0] (zKX D cI cZ cJ sz (wQ cI cZ h a0 a1 a2 a3 a4 a5 a6 a7 a8 a9 a10 f0 f1 f2 f3 f4 f5 f6 f7 f8 f9 f10 v0 v1 v2 v3))) (va_Qi (fun (r : Int32) (_ : Unit) => r = (-1044)) (fun _ t => sz + 1 ≤ t.heap.size) (fun _ => False)) (zXC (fun _ => False)) 1 6 (fun _ => False) := by
  refine vx_ofWH (cc := cL_of) (maxL := 4) (ret := (some .int)) (hh := [(0, 80, 81, 42), (0, 80, 86, 44), (0, 80, 91, 69)]) (by decide) rfl ?_
  intro p e s m args below meth c s₁ B hml hv
  obtain ⟨rfl, hsz, hZ, hP, hK⟩ := hv
  have hx := B.exec
  have hb := B.bytes
  have hr := B.returns
  have hts := atoms_spec (ws := wsL_of) B.pre
  have htab := vx_table (x := yL_of) B (hts _ List.mem_cons_self)
  have hown : s.vm.findClass RL = some m.cls := findClass_of_methodNamed B.named
  have hlocks := B.notSynchronized
  subst hsz
  have hS : va_S (fun _ : Nat => False) s.heap s.heap [] := va_S.rf
  have hgr : s.heap.size + 0 ≤ s.heap.size := Nat.le_refl _
  have hl := lv_entry ([.ref h, .int 5, .int p0]) (n := 4) (Nat.le_of_ble_eq_true rfl)
  rw [lg_entry_eq]
  generalize (lg_sl ([.ref h, .int 5, .int p0]) ++ List.replicate (4 - (lg_sl ([.ref h, .int 5, .int p0])).length) Slot.unset).toArray = ls at hl ⊢
  have hl : lv_has ls 4 [(0, .ref h), (1, .int 5), (2, .int p0)] := hl
  refine lv_iload_n hx hb dL_of_0 rfl (lv_at hl 1 rfl) ?_
  refine lv_if_ne (tgt := 12) hx hb dL_of_1 (by decide) (fun _ => ?_) (fun c9 => False.elim (by revert c9; decide))
  refine lv_iload_n hx hb dL_of_12 rfl (lv_at hl 1 rfl) ?_
  refine lv_iconst (v := 1) hx hb dL_of_13 (by decide) ?_
  refine lv_icmp_ne (tgt := 25) hx hb dL_of_14 (by decide) (fun _ => ?_) (fun c9 => False.elim (by revert c9; decide))
  refine lv_iload_n hx hb dL_of_25 rfl (lv_at hl 1 rfl) ?_
  refine lv_iconst (v := 2) hx hb dL_of_26 (by decide) ?_
  refine lv_icmp_ne (tgt := 38) hx hb dL_of_27 (by decide) (fun _ => ?_) (fun c9 => False.elim (by revert c9; decide))
  refine lv_iload_n hx hb dL_of_38 rfl (lv_at hl 1 rfl) ?_
  refine lv_iconst (v := 3) hx hb dL_of_39 (by decide) ?_
  refine lv_icmp_ne (tgt := 51) hx hb dL_of_40 (by decide) (fun _ => ?_) (fun c9 => False.elim (by revert c9; decide))
  refine lv_iload_n hx hb dL_of_51 rfl (lv_at hl 1 rfl) ?_
  refine lv_iconst (v := 4) hx hb dL_of_52 (by decide) ?_
  refine lv_icmp_ne (tgt := 64) hx hb dL_of_53 (by decide) (fun _ => ?_) (fun c9 => False.elim (by revert c9; decide))
  refine lv_iload_n hx hb dL_of_64 rfl (lv_at hl 1 rfl) ?_
  refine lv_iconst (v := 5) hx hb dL_of_65 (by decide) ?_
  refine lv_icmp_ne (tgt := 76) hx hb dL_of_66 (by decide) (fun c9 => False.elim (by revert c9; decide)) (fun _ => ?_)
  refine lv_aload_n hx hb dL_of_69 rfl (lv_at hl 0 rfl) ?_
  refine z_catchG (vx_runV (As := []) (rest := []) ⟨hx, hb, hml, hown, hts⟩ (c_X0_match_g l hl0 D cI cZ cJ s.heap.size h a0 a1 a2 a3 a4 a5 a6 a7 a8 a9 a10 f0 f1 f2 f3 f4 f5 f6 f7 f8 f9 f10 v0 v1 v2 v3 hb3 hc) (cwV 0 hts gL_of_X0_match rfl rfl rfl (by decide +kernel) ⟨Nat.le_of_ble_eq_true rfl, Nat.le_of_ble_eq_true rfl⟩) ⟨zKX_blind, va_recv hK hP (ci := 0) (q0 := 0) rfl rfl, fun U hU hW => ⟨rfl, by rw [hU], zX_at hZ hU hW, zP_mk hP hK hU hW⟩⟩ rfl rfl hl.1 rfl (lv_room (Nat.le_of_ble_eq_true rfl)) dL_of_70 ⟨Nat.le_of_ble_eq_true rfl, Nat.le_of_ble_eq_true rfl⟩) (fun _ h => h) hS (fun E ce q9 H1 locs hE hbig hk9 hS hce hcv hcl => ?_)
  subst hE
  have hps : ∀ z ∈ ([⟨0, 80, 81, 42⟩, ⟨0, 80, 86, 44⟩] : List ExceptionTableEntry), covers z 70 = false ∨ (z.catchType ≠ 0 ∧ ∃ nm : String, (Cond.classLink RL z.catchType nm).before ([Value.ref h, Value.int 5, Value.int p0] : List Value).toArray s = true ∧ va_Nc "java/util/NoSuchElementException" nm s) := (fun z hz => by
      simp only [List.mem_cons, List.not_mem_nil, or_false] at hz
      rcases hz with rfl | rfl
      · exact Or.inr ⟨by decide, "java/lang/IndexOutOfBoundsException", hts (.classLink RL 42 "java/lang/IndexOutOfBoundsException") (by decide +kernel), hZ.2.2.1 ("java/util/NoSuchElementException", "java/lang/IndexOutOfBoundsException") (by decide)⟩
      · exact Or.inr ⟨by decide, "java/lang/IllegalArgumentException", hts (.classLink RL 44 "java/lang/IllegalArgumentException") (by decide +kernel), hZ.2.2.1 ("java/util/NoSuchElementException", "java/lang/IllegalArgumentException") (by decide)⟩)
  refine vx_catch (own := RL) (name := "java/util/NoSuchElementException") hown [⟨0, 80, 81, 42⟩, ⟨0, 80, 86, 44⟩] ⟨0, 80, 91, 69⟩ [] (htab.trans rfl) hps (by decide) (by decide) (hts (.classLink RL 69 "java/util/NoSuchElementException") (by decide +kernel)) (va_Nw.use rfl (hZ.1 (.castable "java/util/NoSuchElementException" "java/util/NoSuchElementException") (by decide))) hce hcv hcl ?_
  have hP := hP.kept (fun k q hk => hk9 q.1 (vx_lt hP hk))
  have hgr : s.heap.size + 1 ≤ H1.size := hbig
  refine lv_astore_n (lv' := [(3, .ref q9), (0, .ref h), (1, .int 5), (2, .int p0)]) hx hb dL_of_91 rfl hl (by decide) rfl (fun ls hl => ?_)
  refine lv_sipush (v := (-1044)) hx hb dL_of_92 (by decide) ?_
  refine W.widen (k := 1) (n := 6) (Nat.le_of_ble_eq_true rfl) (Nat.le_of_ble_eq_true rfl) ?_
  refine vx_ret ?_
  exact W.iret (v := (-1044)) hx hb hr (fun t ht hW => ⟨⟨(-1044), (), rfl, rfl, by show s.heap.size + 1 ≤ t.heap.size; rw [ht]; exact hgr⟩, hS.F ht⟩) hS.2.2 dL_of_95
set_option maxHeartbeats 4000000 in
set_option maxRecDepth 100000 in
theorem k_of_matchByPairs_t (l : Launch) (hl0 : l.stackTraces = false) (D : va_G) (cI cZ cJ : ClassId) (sz : Nat) (h a0 a1 a2 a3 a4 a5 a6 a7 a8 a9 a10 : Nat) (f0 f1 f2 f3 f4 f5 f6 f7 f8 f9 f10 : Nat → Int32) (v0 v1 v2 v3 : Int32) (p0 : Int32) (hb3 : 0 ≤ v1.toInt ∧ v1.toInt ≤ v0.toInt ∧ v0.toInt ≤ 6) (hc : q_cov f0 f7 v0 v1 = false) : vx_Met l yL_of wsL_of ({ frames := 8, cells := 1, slots := 6, locals := 131 }) (va_Pc [.ref h, .int 6, .int p0] (zKX D cI cZ cJ sz (wQ cI cZ h a0 a1 a2 a3 a4 a5 a6 a7 a8 a9 a10 f0 f1 f2 f3 f4 f5 f6 f7 f8 f9 f10 v0 v1 v2 v3))) (va_Qi (fun (r : Int32) (_ : Unit) => r = (-1044)) (fun _ t => sz + 1 ≤ t.heap.size) (fun _ => False)) (zXC (fun _ => False)) 1 6 (fun _ => False) := by
  refine vx_ofWH (cc := cL_of) (maxL := 4) (ret := (some .int)) (hh := [(0, 80, 81, 42), (0, 80, 86, 44), (0, 80, 91, 69)]) (by decide) rfl ?_
  intro p e s m args below meth c s₁ B hml hv
  obtain ⟨rfl, hsz, hZ, hP, hK⟩ := hv
  have hx := B.exec
  have hb := B.bytes
  have hr := B.returns
  have hts := atoms_spec (ws := wsL_of) B.pre
  have htab := vx_table (x := yL_of) B (hts _ List.mem_cons_self)
  have hown : s.vm.findClass RL = some m.cls := findClass_of_methodNamed B.named
  have hlocks := B.notSynchronized
  subst hsz
  have hS : va_S (fun _ : Nat => False) s.heap s.heap [] := va_S.rf
  have hgr : s.heap.size + 0 ≤ s.heap.size := Nat.le_refl _
  have hl := lv_entry ([.ref h, .int 6, .int p0]) (n := 4) (Nat.le_of_ble_eq_true rfl)
  rw [lg_entry_eq]
  generalize (lg_sl ([.ref h, .int 6, .int p0]) ++ List.replicate (4 - (lg_sl ([.ref h, .int 6, .int p0])).length) Slot.unset).toArray = ls at hl ⊢
  have hl : lv_has ls 4 [(0, .ref h), (1, .int 6), (2, .int p0)] := hl
  refine lv_iload_n hx hb dL_of_0 rfl (lv_at hl 1 rfl) ?_
  refine lv_if_ne (tgt := 12) hx hb dL_of_1 (by decide) (fun _ => ?_) (fun c9 => False.elim (by revert c9; decide))
  refine lv_iload_n hx hb dL_of_12 rfl (lv_at hl 1 rfl) ?_
  refine lv_iconst (v := 1) hx hb dL_of_13 (by decide) ?_
  refine lv_icmp_ne (tgt := 25) hx hb dL_of_14 (by decide) (fun _ => ?_) (fun c9 => False.elim (by revert c9; decide))
  refine lv_iload_n hx hb dL_of_25 rfl (lv_at hl 1 rfl) ?_
  refine lv_iconst (v := 2) hx hb dL_of_26 (by decide) ?_
  refine lv_icmp_ne (tgt := 38) hx hb dL_of_27 (by decide) (fun _ => ?_) (fun c9 => False.elim (by revert c9; decide))
  refine lv_iload_n hx hb dL_of_38 rfl (lv_at hl 1 rfl) ?_
  refine lv_iconst (v := 3) hx hb dL_of_39 (by decide) ?_
  refine lv_icmp_ne (tgt := 51) hx hb dL_of_40 (by decide) (fun _ => ?_) (fun c9 => False.elim (by revert c9; decide))
  refine lv_iload_n hx hb dL_of_51 rfl (lv_at hl 1 rfl) ?_
  refine lv_iconst (v := 4) hx hb dL_of_52 (by decide) ?_
  refine lv_icmp_ne (tgt := 64) hx hb dL_of_53 (by decide) (fun _ => ?_) (fun c9 => False.elim (by revert c9; decide))
  refine lv_iload_n hx hb dL_of_64 rfl (lv_at hl 1 rfl) ?_
  refine lv_iconst (v := 5) hx hb dL_of_65 (by decide) ?_
  refine lv_icmp_ne (tgt := 76) hx hb dL_of_66 (by decide) (fun _ => ?_) (fun c9 => False.elim (by revert c9; decide))
  refine lv_aload_n hx hb dL_of_76 rfl (lv_at hl 0 rfl) ?_
  refine z_catchG (vx_runV (As := []) (rest := []) ⟨hx, hb, hml, hown, hts⟩ (c_X0_matchByPairs_g l hl0 D cI cZ cJ s.heap.size h a0 a1 a2 a3 a4 a5 a6 a7 a8 a9 a10 f0 f1 f2 f3 f4 f5 f6 f7 f8 f9 f10 v0 v1 v2 v3 hb3 hc) (cwV 0 hts gL_of_X0_matchByPairs rfl rfl rfl (by decide +kernel) ⟨Nat.le_of_ble_eq_true rfl, Nat.le_of_ble_eq_true rfl⟩) ⟨zKX_blind, va_recv hK hP (ci := 0) (q0 := 0) rfl rfl, fun U hU hW => ⟨rfl, by rw [hU], zX_at hZ hU hW, zP_mk hP hK hU hW⟩⟩ rfl rfl hl.1 rfl (lv_room (Nat.le_of_ble_eq_true rfl)) dL_of_77 ⟨Nat.le_of_ble_eq_true rfl, Nat.le_of_ble_eq_true rfl⟩) (fun _ h => h) hS (fun E ce q9 H1 locs hE hbig hk9 hS hce hcv hcl => ?_)
  subst hE
  have hps : ∀ z ∈ ([⟨0, 80, 81, 42⟩, ⟨0, 80, 86, 44⟩] : List ExceptionTableEntry), covers z 77 = false ∨ (z.catchType ≠ 0 ∧ ∃ nm : String, (Cond.classLink RL z.catchType nm).before ([Value.ref h, Value.int 6, Value.int p0] : List Value).toArray s = true ∧ va_Nc "java/util/NoSuchElementException" nm s) := (fun z hz => by
      simp only [List.mem_cons, List.not_mem_nil, or_false] at hz
      rcases hz with rfl | rfl
      · exact Or.inr ⟨by decide, "java/lang/IndexOutOfBoundsException", hts (.classLink RL 42 "java/lang/IndexOutOfBoundsException") (by decide +kernel), hZ.2.2.1 ("java/util/NoSuchElementException", "java/lang/IndexOutOfBoundsException") (by decide)⟩
      · exact Or.inr ⟨by decide, "java/lang/IllegalArgumentException", hts (.classLink RL 44 "java/lang/IllegalArgumentException") (by decide +kernel), hZ.2.2.1 ("java/util/NoSuchElementException", "java/lang/IllegalArgumentException") (by decide)⟩)
  refine vx_catch (own := RL) (name := "java/util/NoSuchElementException") hown [⟨0, 80, 81, 42⟩, ⟨0, 80, 86, 44⟩] ⟨0, 80, 91, 69⟩ [] (htab.trans rfl) hps (by decide) (by decide) (hts (.classLink RL 69 "java/util/NoSuchElementException") (by decide +kernel)) (va_Nw.use rfl (hZ.1 (.castable "java/util/NoSuchElementException" "java/util/NoSuchElementException") (by decide))) hce hcv hcl ?_
  have hP := hP.kept (fun k q hk => hk9 q.1 (vx_lt hP hk))
  have hgr : s.heap.size + 1 ≤ H1.size := hbig
  refine lv_astore_n (lv' := [(3, .ref q9), (0, .ref h), (1, .int 6), (2, .int p0)]) hx hb dL_of_91 rfl hl (by decide) rfl (fun ls hl => ?_)
  refine lv_sipush (v := (-1044)) hx hb dL_of_92 (by decide) ?_
  refine W.widen (k := 1) (n := 6) (Nat.le_of_ble_eq_true rfl) (Nat.le_of_ble_eq_true rfl) ?_
  refine vx_ret ?_
  exact W.iret (v := (-1044)) hx hb hr (fun t ht hW => ⟨⟨(-1044), (), rfl, rfl, by show s.heap.size + 1 ≤ t.heap.size; rw [ht]; exact hgr⟩, hS.F ht⟩) hS.2.2 dL_of_95
