theorem z_bad_in : ∀ w ∈ zBad, w ∈ lw_tbl := by decide +kernel
theorem z_str_in : ∀ q ∈ zStr, Cond.stringRef "Quorumfund" q.1 q.2 ∈ lw_tbl := by decide +kernel
theorem z_str_ex : ∀ q ∈ zStr, Cond.exactly (.string "Quorumfund" q.1) "java/lang/String" ∈ flatC (Jvm.Cond.and given_1 narrow_1) := by decide +kernel
theorem z_nc_in : ∀ q ∈ zNcs, Cond.not (.castable q.1 q.2) ∈ flatC (Jvm.Cond.and given_1 narrow_1) := by decide +kernel
theorem z_un_in : Cond.isRef (.static Bundle.tN "UNASSIGNED_STACK" Bundle.steD) ∈ flatC (Jvm.Cond.and given_1 narrow_1) := by decide +kernel
theorem z_su_in : Cond.isRef (.static Bundle.tN "SUPPRESSED_SENTINEL" Bundle.listD) ∈ flatC (Jvm.Cond.and given_1 narrow_1) := by decide +kernel
theorem z_start {args : Array Value} {s : State} (hts : ∀ w ∈ lw_tbl, w.before args s = true) (hg : (Jvm.Cond.and given_1 narrow_1).before args s = true) : zX s := by
  have hs := flat_of_before _ hg
  refine ⟨fun w hw => va_Nw.of (zBad_ot w hw) (hts w (z_bad_in w hw)), fun q hq => ?_, fun q hq => va_Nc.of (hs _ (z_nc_in q hq)), vx_Zqof (hts _ (by decide +kernel)) (hts (.initialized Bundle.tN) (by decide +kernel)) (hs _ z_un_in) (fun _ _ z => z), vx_Zqof (hts _ (by decide +kernel)) (hts (.initialized Bundle.tN) (by decide +kernel)) (hs _ z_su_in) (fun _ _ z => z)⟩
  obtain ⟨a, -, -, -, h1, -⟩ := Cond.exactly_spec (hs _ (z_str_ex q hq))
  exact ⟨a, vk_R.of (hts _ (z_str_in q hq)) h1⟩
set_option maxHeartbeats 4000000 in
set_option maxRecDepth 100000 in
theorem z_K {args : Array Value} {s : State} (hts : ∀ w ∈ lw_tbl, w.before args s = true) : ∃ (D : va_G) (cI cZ cJ : ClassId), va_K D vwCl (zT cI cZ cJ) s := by
  obtain ⟨c0, iS0, hKn0⟩ := u_known (C := RX0) (T := TX0) (N := 15) (n := 15) hts inX0 (hts (.instantiable RX0 15) (by decide +kernel))
  obtain ⟨cI, kI, mI, hI1, hI2, hI3⟩ := Cond.arrayClass_spec (hts (.arrayClass .int) (by decide +kernel))
  obtain ⟨cZ, kZ, mZ, hZ1, hZ2, hZ3⟩ := Cond.arrayClass_spec (hts (.arrayClass .boolean) (by decide +kernel))
  refine ⟨(fun _ => c0, fun _ => iS0), cI, cZ, cI, fun k q hq => ?_, fun k q hq => ?_⟩
  · match k, hq with
    | 0, hq => cases hq; exact hKn0
    | k + 1, hq => simp [vwCl] at hq
  · match k, hq with
    | 0, hq => cases hq; exact ⟨fun n z => ⟨fun k h => (by cases h), kI, hI2, mI, hI3⟩, hI1⟩
    | 1, hq => cases hq; exact ⟨fun n z => ⟨fun k h => (by cases h), kZ, hZ2, mZ, hZ3⟩, hZ1⟩
    | k + 2, hq => simp at hq
def R_law : String := "QuorumfundLaw"
/-- what the law leaves on such a script: it returns 1, and the heap has at least 204 cells more -/
def r_Q (_ : Array Value) (s : State) (o : Outcome) (t : State) : Prop := o = .returned (some (.int 1)) ∧ s.heap.size + 204 ≤ t.heap.size
def r_Z (below : List Frame) (a : Array Value) (s : State) : State → Prop := fun t => ∃ o, t.status = .running ∧ Ended t below o ∧ r_Q a s o t
theorem r_ret {p : Program} {l : Launch} {e : Env} {s : State} {m : MethodId} {below : List Frame} {meth : Method} {c : Code} {b : Nat} (hx : p.tables.exec = Jvm.exec) (hb : c.code = code) (hr : meth.sig.returnType = ret) (hlocks : meth.locks = false) {pc : Nat} {H : Heap} {locs : List Loc} {cl sl : Nat} {ls : Array Slot} (hH : s.heap.size + 204 ≤ H.size) (hdg : decode code pc = .ok (.ireturn, 1)) : W p l e r_room s m #[Value.ref b] below meth c H locs cl sl (r_Z below #[Value.ref b] s) (F0 m pc ls [.int 1]) := by
  intro T hT X
  obtain ⟨fs, hret, hrun, hended, hW, hframe⟩ := X.leave (v := some (.int 1)) (hlocks := hlocks) (fun h => by rw [hr] at h; cases h)
  have hmeth' : T.vm.method? m = some meth := X.method'
  refine ⟨T.setFrames fs, ?_, .returned (some (.int 1)), hrun, hended, rfl, by show s.heap.size + 204 ≤ T.heap.size; rw [hT]; exact hH⟩
  jvm_step X.here [X.here.top, hx, hb, hdg, hmeth', hr, ret, narrow_b1]
  (try refine ⟨rfl, ?_⟩); (try refine ⟨rfl, ?_⟩)
  first | (intro acts; rw [hret _ acts rfl rfl rfl]) | rw [hret _ _ rfl rfl rfl]
  exact Steps.refl _
/-- what holds at the law's entry: the machine, the code, the tables' words (any of lw_tbl by 'hts w (by decide +kernel)'), the script of L ints xs at the cell b, what the Statement gives of the start (any of its parts by flat_of_before) -/
def lw_At (p : Program) (s : State) (m : MethodId) (meth : Method) (c : Code) (b L : Nat) (xs : Nat → Int32) : Prop :=
  p.tables.exec = Jvm.exec ∧ c.code = code ∧ meth.sig.returnType = ret ∧ c.maxLocals = 16 ∧ s.vm.findClass R_law = some m.cls ∧ (∀ w ∈ lw_tbl, w.before #[Value.ref b] s = true) ∧ va_X b L xs s s.heap ∧ b < s.heap.size ∧ meth.locks = false ∧ (Jvm.Cond.and given_1 narrow_1).before #[Value.ref b] s = true
set_option maxHeartbeats 4000000 in
set_option maxRecDepth 100000 in
theorem r_start {p : Program} {e : Env} {s : State} {m : MethodId} {below : List Frame} {meth : Method} {c : Code} (l : Launch) (hflags : l.flags = flags0) {b L : Nat} {xs : Nat → Int32} (hL : 130 ≤ L ∧ L ≤ 260) (hxs : ∀ j, j < L → xs j = 30) (C0 : lw_At p s m meth c b L xs) : W p l e r_room s m #[Value.ref b] below meth c s.heap [] 0 0 (r_Z below #[Value.ref b] s) (entryFrame m ([Value.ref b] : List Value).toArray 16) := by
  obtain ⟨hx, hb, hr, hml, hown, hts0, hX, hbl, hlocks, hgv⟩ := id C0
  have hl0 : l.stackTraces = false := by unfold Launch.stackTraces; rw [hflags]; decide +kernel
  have hown : s.vm.findClass RL = some m.cls := hown
  have hts := fun w h => hts0 w (wsL_law_in w h)
  have hZ : zX s := z_start hts0 hgv
  obtain ⟨D, cI, cZ, cJ, hK⟩ := z_K hts0
  have hA : ∀ q : Nat, s.heap.size ≤ q → (fun q : Nat => s.heap.size ≤ q) q := fun _ h => h
  have hS : va_S (fun q : Nat => s.heap.size ≤ q) s.heap s.heap [] := va_S.rf
  have hP : va_P D vwCl [] s.heap := fun k q h => by simp at h
  have hD : va_D (fun q : Nat => s.heap.size ≤ q) [] := ⟨fun i j p q h => by simp at h, fun k q h => by simp at h⟩
  have hl := lv_entry ([.ref b]) (n := 16) (Nat.le_of_ble_eq_true rfl)
  rw [lg_entry_eq]
  generalize (lg_sl ([.ref b]) ++ List.replicate (16 - (lg_sl ([.ref b])).length) Slot.unset).toArray = ls at hl ⊢
  have hl : lv_has ls 16 [(0, .ref b)] := hl
  refine va_new (ci := 0) (fs := [.null, .null, .null, .null, .null, .null, .null, .null, .null, .int 0, .int 0, .int 0, .int 0, .null, .null]) (C := RX0) (T := TX0) (N := 15) hx hb hts0 inX0 tyX0 tyX0_ok hown (hts0 (.classLink RL 10 RX0) (by decide +kernel)) (hts0 (.instantiable RX0 15) (by decide +kernel)) (hts0 (.initialized RX0) (by decide +kernel)) hK hP hD hS hA rfl (fun j hj => by rcases (show j = 0 ∨ j = 1 ∨ j = 2 ∨ j = 3 ∨ j = 4 ∨ j = 5 ∨ j = 6 ∨ j = 7 ∨ j = 8 ∨ j = 9 ∨ j = 10 ∨ j = 11 ∨ j = 12 ∨ j = 13 ∨ j = 14 by omega) with rfl | rfl | rfl | rfl | rfl | rfl | rfl | rfl | rfl | rfl | rfl | rfl | rfl | rfl | rfl <;> rfl) (Nat.le_of_ble_eq_true rfl) (Nat.le_of_ble_eq_true rfl) dL_law_0 (fun h H hP hD hS => ?_)
  have hP : va_P D vwCl [(h, .inr (0, [.null, .null, .null, .null, .null, .null, .null, .null, .null, .int 0, .int 0, .int 0, .int 0, .null, .null]))] H := hP
  have hD : va_D (fun q : Nat => s.heap.size ≤ q) [(h, .inr (0, [.null, .null, .null, .null, .null, .null, .null, .null, .null, .int 0, .int 0, .int 0, .int 0, .null, .null]))] := hD
  refine W.widen (k := 1) (n := 15) (by omega) (by omega) ?_
  refine lv_dup hx hb dL_law_3 rfl ?_
  have hFc := va_free (wc := [(h, .inr (0, [.null, .null, .null, .null, .null, .null, .null, .null, .null, .int 0, .int 0, .int 0, .int 0, .null, .null]))]) hD hS hA [0] rfl
  refine va_callv (va_runI (As := []) (rest := [.ref h]) ⟨hx, hb, hml, hown, hts⟩ (c_X0_init l D cI cZ cJ H.size h) (cwI 0 hts gL_law_X0_init rfl rfl rfl (hts (.initialized RX0) (by decide +kernel)) (hts (.methodLink RL 116 yX0_init) (by decide +kernel)) (hts (.instanceMethod yX0_init) (by decide +kernel)) rfl (by decide +kernel) ⟨Nat.le_of_ble_eq_true rfl, Nat.le_of_ble_eq_true rfl⟩) ⟨zD_blind, fun U hU hW => ⟨rfl, zD_mk hP hK hD hU hW⟩⟩ rfl rfl hl.1 rfl (lv_room (Nat.le_of_ble_eq_true rfl)) dL_law_4 ⟨Nat.le_of_ble_eq_true rfl, Nat.le_of_ble_eq_true rfl⟩) hS (fun q _ h => hFc q h) hFc (fun u t H1 locs ht hvm hw hB hz1 hk1 hS => ?_)
  obtain ⟨a0, a1, a2, a3, a4, a5, a6, a7, a8, a9, a10⟩ := u
  obtain ⟨hP1, hK1, hD1⟩ := hB
  rw [ht] at hP1
  have hD2 := hD1.weaken (fun _ _ _ h => hFc _ h)
  generalize H1 = H at hP1 hS ⊢
  have hP : va_P D vwCl (w0 cI cZ h a0 a1 a2 a3 a4 a5 a6 a7 a8 a9 a10) H := hP1
  have hD : va_D (fun q : Nat => s.heap.size ≤ q) (w0 cI cZ h a0 a1 a2 a3 a4 a5 a6 a7 a8 a9 a10) := hD2
  refine W.widen (k := 12) (n := 99) (by omega) (by omega) ?_
  refine lv_astore_n (lv' := [(1, .ref h), (0, .ref b)]) hx hb dL_law_7 rfl hl (by decide) rfl (fun ls hl => ?_)
  refine lv_bipush (v := 24) hx hb dL_law_8 (by decide) ?_
  refine va_newa (atype := .int) (ty := .int) (a0 := (24, .inl (fun _ => 0))) (N' := 24) hx hb (hts0 (.arrayClass .int) (by decide +kernel)) rfl hK hP hD hS hA (fun _ => rfl) (by decide) rfl (Nat.le_of_ble_eq_true rfl) (Nat.le_of_ble_eq_true rfl) (Nat.le_of_ble_eq_true rfl) dL_law_10 (fun ga cA H hK9 hP hD hS => ?_)
  have e9 := (z_sameI hK9).symm
  subst e9
  refine W.widen (k := 13) (n := 123) (Nat.le_of_ble_eq_true rfl) (Nat.le_of_ble_eq_true rfl) ?_
  refine lv_astore_n (lv' := [(2, .ref ga), (1, .ref h), (0, .ref b)]) hx hb dL_law_12 rfl hl (by decide) rfl (fun ls hl => ?_)
  refine lv_bipush (v := 12) hx hb dL_law_13 (by decide) ?_
  refine va_newa (atype := .int) (ty := .int) (a0 := (12, .inl (fun _ => 0))) (N' := 12) hx hb (hts0 (.arrayClass .int) (by decide +kernel)) rfl hK hP hD hS hA (fun _ => rfl) (by decide) rfl (Nat.le_of_ble_eq_true rfl) (Nat.le_of_ble_eq_true rfl) (Nat.le_of_ble_eq_true rfl) dL_law_15 (fun aa cA H hK9 hP hD hS => ?_)
  have e9 := (z_sameI hK9).symm
  subst e9
  refine W.widen (k := 14) (n := 135) (Nat.le_of_ble_eq_true rfl) (Nat.le_of_ble_eq_true rfl) ?_
  refine lv_astore_n (lv' := [(3, .ref aa), (2, .ref ga), (1, .ref h), (0, .ref b)]) hx hb dL_law_17 rfl hl (by decide) rfl (fun ls hl => ?_)
  refine lv_bipush (v := 16) hx hb dL_law_18 (by decide) ?_
  refine va_newa (atype := .int) (ty := .int) (a0 := (16, .inl (fun _ => 0))) (N' := 16) hx hb (hts0 (.arrayClass .int) (by decide +kernel)) rfl hK hP hD hS hA (fun _ => rfl) (by decide) rfl (Nat.le_of_ble_eq_true rfl) (Nat.le_of_ble_eq_true rfl) (Nat.le_of_ble_eq_true rfl) dL_law_20 (fun ha cA H hK9 hP hD hS => ?_)
  have e9 := (z_sameI hK9).symm
  subst e9
  refine W.widen (k := 15) (n := 151) (Nat.le_of_ble_eq_true rfl) (Nat.le_of_ble_eq_true rfl) ?_
  refine lv_astore (lv' := [(4, .ref ha), (3, .ref aa), (2, .ref ga), (1, .ref h), (0, .ref b)]) hx hb dL_law_22 hl (by decide) rfl (fun ls hl => ?_)
  refine lv_iconst (v := 4) hx hb dL_law_24 (by decide) ?_
  refine va_newa (atype := .int) (ty := .int) (a0 := (4, .inl (fun _ => 0))) (N' := 4) hx hb (hts0 (.arrayClass .int) (by decide +kernel)) rfl hK hP hD hS hA (fun _ => rfl) (by decide) rfl (Nat.le_of_ble_eq_true rfl) (Nat.le_of_ble_eq_true rfl) (Nat.le_of_ble_eq_true rfl) dL_law_25 (fun ma cA H hK9 hP hD hS => ?_)
  have e9 := (z_sameI hK9).symm
  subst e9
  refine W.widen (k := 16) (n := 155) (Nat.le_of_ble_eq_true rfl) (Nat.le_of_ble_eq_true rfl) ?_
  refine lv_astore (lv' := [(5, .ref ma), (4, .ref ha), (3, .ref aa), (2, .ref ga), (1, .ref h), (0, .ref b)]) hx hb dL_law_27 hl (by decide) rfl (fun ls hl => ?_)
  have hP : va_P D vwCl (w0 cI cZ h a0 a1 a2 a3 a4 a5 a6 a7 a8 a9 a10 ++ [(ga, .inl (cI, 24, .inl z0)), (aa, .inl (cI, 12, .inl z0)), (ha, .inl (cI, 16, .inl z0)), (ma, .inl (cI, 4, .inl z0))]) H := hP
  have hD : va_D (fun q : Nat => s.heap.size ≤ q) (w0 cI cZ h a0 a1 a2 a3 a4 a5 a6 a7 a8 a9 a10 ++ [(ga, .inl (cI, 24, .inl z0)), (aa, .inl (cI, 12, .inl z0)), (ha, .inl (cI, 16, .inl z0)), (ma, .inl (cI, 4, .inl z0))]) := hD
  have hgr : s.heap.size + (0 + 0) ≤ H.size := by have := hS.1; omega
  refine lv_iconst (v := 0) hx hb dL_law_29 (by decide) ?_
  refine lv_istore (lv' := [(6, .int 0), (5, .ref ma), (4, .ref ha), (3, .ref aa), (2, .ref ga), (1, .ref h), (0, .ref b)]) hx hb dL_law_30 hl (by decide) rfl (fun ls hl => ?_)
  refine lv_iload hx hb dL_law_32 (lv_at hl 0 rfl) ?_
  refine lv_bipush (v := 8) hx hb dL_law_34 (by decide) ?_
  refine lv_icmp_ge (tgt := 59) hx hb dL_law_36 (by decide) (fun c9 => False.elim (by revert c9; decide)) (fun _ => ?_)
  refine lv_aload_n hx hb dL_law_39 rfl (lv_at hl 4 rfl) ?_
  refine lv_iload hx hb dL_law_40 (lv_at hl 0 rfl) ?_
  refine lv_iconst (v := (-1)) hx hb dL_law_42 (by decide) ?_
  refine va_iast (D := D) hx hb hK hP hD hS 12 0 rfl rfl (vp_in_iff.mpr (by decide +kernel)) dL_law_43 (fun H locs hP hD hS => ?_)
  have hP : va_P D vwCl (w0 cI cZ h a0 a1 a2 a3 a4 a5 a6 a7 a8 a9 a10 ++ [(ga, .inl (cI, 24, .inl (upd z0 (0 : Int32).toNatClampNeg (-1)))), (aa, .inl (cI, 12, .inl z0)), (ha, .inl (cI, 16, .inl z0)), (ma, .inl (cI, 4, .inl z0))]) H := hP
  have hD : va_D (fun q : Nat => s.heap.size ≤ q) (w0 cI cZ h a0 a1 a2 a3 a4 a5 a6 a7 a8 a9 a10 ++ [(ga, .inl (cI, 24, .inl (upd z0 (0 : Int32).toNatClampNeg (-1)))), (aa, .inl (cI, 12, .inl z0)), (ha, .inl (cI, 16, .inl z0)), (ma, .inl (cI, 4, .inl z0))]) := hD
  refine lv_aload_n hx hb dL_law_44 rfl (lv_at hl 4 rfl) ?_
  refine lv_bipush (v := 8) hx hb dL_law_45 (by decide) ?_
  refine lv_iload hx hb dL_law_47 (lv_at hl 0 rfl) ?_
  refine lv_iadd hx hb dL_law_49 ?_
  refine lv_topi (fun y2 hy2 => ?_)
  have hy2 : y2 = 8 := hy2.trans (by decide +kernel)
  subst hy2
  refine lv_iload hx hb dL_law_50 (lv_at hl 0 rfl) ?_
  refine va_iast (D := D) hx hb hK hP hD hS 12 0 rfl rfl (vp_in_iff.mpr (by decide +kernel)) dL_law_52 (fun H locs hP hD hS => ?_)
  have hP : va_P D vwCl (w0 cI cZ h a0 a1 a2 a3 a4 a5 a6 a7 a8 a9 a10 ++ [(ga, .inl (cI, 24, .inl (upd (upd z0 (0 : Int32).toNatClampNeg (-1)) (8 : Int32).toNatClampNeg 0))), (aa, .inl (cI, 12, .inl z0)), (ha, .inl (cI, 16, .inl z0)), (ma, .inl (cI, 4, .inl z0))]) H := hP
  have hD : va_D (fun q : Nat => s.heap.size ≤ q) (w0 cI cZ h a0 a1 a2 a3 a4 a5 a6 a7 a8 a9 a10 ++ [(ga, .inl (cI, 24, .inl (upd (upd z0 (0 : Int32).toNatClampNeg (-1)) (8 : Int32).toNatClampNeg 0))), (aa, .inl (cI, 12, .inl z0)), (ha, .inl (cI, 16, .inl z0)), (ma, .inl (cI, 4, .inl z0))]) := hD
  refine lv_iinc (v := 1) (lv' := [(6, .int 1), (5, .ref ma), (4, .ref ha), (3, .ref aa), (2, .ref ga), (1, .ref h), (0, .ref b)]) hx hb dL_law_53 hl (k := 0) rfl (by decide) (by decide) rfl (fun ls hl => ?_)
  refine lv_goto (tgt := 32) hx hb dL_law_56 (by decide) ?_
  refine lv_iload hx hb dL_law_32 (lv_at hl 0 rfl) ?_
  refine lv_bipush (v := 8) hx hb dL_law_34 (by decide) ?_
  refine lv_icmp_ge (tgt := 59) hx hb dL_law_36 (by decide) (fun c9 => False.elim (by revert c9; decide)) (fun _ => ?_)
  refine lv_aload_n hx hb dL_law_39 rfl (lv_at hl 4 rfl) ?_
  refine lv_iload hx hb dL_law_40 (lv_at hl 0 rfl) ?_
  refine lv_iconst (v := (-1)) hx hb dL_law_42 (by decide) ?_
  refine va_iast (D := D) hx hb hK hP hD hS 12 0 rfl rfl (vp_in_iff.mpr (by decide +kernel)) dL_law_43 (fun H locs hP hD hS => ?_)
  have hP : va_P D vwCl (w0 cI cZ h a0 a1 a2 a3 a4 a5 a6 a7 a8 a9 a10 ++ [(ga, .inl (cI, 24, .inl (upd (upd (upd z0 (0 : Int32).toNatClampNeg (-1)) (8 : Int32).toNatClampNeg 0) (1 : Int32).toNatClampNeg (-1)))), (aa, .inl (cI, 12, .inl z0)), (ha, .inl (cI, 16, .inl z0)), (ma, .inl (cI, 4, .inl z0))]) H := hP
  have hD : va_D (fun q : Nat => s.heap.size ≤ q) (w0 cI cZ h a0 a1 a2 a3 a4 a5 a6 a7 a8 a9 a10 ++ [(ga, .inl (cI, 24, .inl (upd (upd (upd z0 (0 : Int32).toNatClampNeg (-1)) (8 : Int32).toNatClampNeg 0) (1 : Int32).toNatClampNeg (-1)))), (aa, .inl (cI, 12, .inl z0)), (ha, .inl (cI, 16, .inl z0)), (ma, .inl (cI, 4, .inl z0))]) := hD
  refine lv_aload_n hx hb dL_law_44 rfl (lv_at hl 4 rfl) ?_
  refine lv_bipush (v := 8) hx hb dL_law_45 (by decide) ?_
  refine lv_iload hx hb dL_law_47 (lv_at hl 0 rfl) ?_
  refine lv_iadd hx hb dL_law_49 ?_
  refine lv_topi (fun y4 hy4 => ?_)
  have hy4 : y4 = 9 := hy4.trans (by decide +kernel)
  subst hy4
  refine lv_iload hx hb dL_law_50 (lv_at hl 0 rfl) ?_
  refine va_iast (D := D) hx hb hK hP hD hS 12 0 rfl rfl (vp_in_iff.mpr (by decide +kernel)) dL_law_52 (fun H locs hP hD hS => ?_)
  have hP : va_P D vwCl (w0 cI cZ h a0 a1 a2 a3 a4 a5 a6 a7 a8 a9 a10 ++ [(ga, .inl (cI, 24, .inl (upd (upd (upd (upd z0 (0 : Int32).toNatClampNeg (-1)) (8 : Int32).toNatClampNeg 0) (1 : Int32).toNatClampNeg (-1)) (9 : Int32).toNatClampNeg 1))), (aa, .inl (cI, 12, .inl z0)), (ha, .inl (cI, 16, .inl z0)), (ma, .inl (cI, 4, .inl z0))]) H := hP
  have hD : va_D (fun q : Nat => s.heap.size ≤ q) (w0 cI cZ h a0 a1 a2 a3 a4 a5 a6 a7 a8 a9 a10 ++ [(ga, .inl (cI, 24, .inl (upd (upd (upd (upd z0 (0 : Int32).toNatClampNeg (-1)) (8 : Int32).toNatClampNeg 0) (1 : Int32).toNatClampNeg (-1)) (9 : Int32).toNatClampNeg 1))), (aa, .inl (cI, 12, .inl z0)), (ha, .inl (cI, 16, .inl z0)), (ma, .inl (cI, 4, .inl z0))]) := hD
  refine lv_iinc (v := 2) (lv' := [(6, .int 2), (5, .ref ma), (4, .ref ha), (3, .ref aa), (2, .ref ga), (1, .ref h), (0, .ref b)]) hx hb dL_law_53 hl (k := 0) rfl (by decide) (by decide) rfl (fun ls hl => ?_)
  refine lv_goto (tgt := 32) hx hb dL_law_56 (by decide) ?_
  refine lv_iload hx hb dL_law_32 (lv_at hl 0 rfl) ?_
  refine lv_bipush (v := 8) hx hb dL_law_34 (by decide) ?_
  refine lv_icmp_ge (tgt := 59) hx hb dL_law_36 (by decide) (fun c9 => False.elim (by revert c9; decide)) (fun _ => ?_)
  refine lv_aload_n hx hb dL_law_39 rfl (lv_at hl 4 rfl) ?_
  refine lv_iload hx hb dL_law_40 (lv_at hl 0 rfl) ?_
  refine lv_iconst (v := (-1)) hx hb dL_law_42 (by decide) ?_
  refine va_iast (D := D) hx hb hK hP hD hS 12 0 rfl rfl (vp_in_iff.mpr (by decide +kernel)) dL_law_43 (fun H locs hP hD hS => ?_)
  have hP : va_P D vwCl (w0 cI cZ h a0 a1 a2 a3 a4 a5 a6 a7 a8 a9 a10 ++ [(ga, .inl (cI, 24, .inl (upd (upd (upd (upd (upd z0 (0 : Int32).toNatClampNeg (-1)) (8 : Int32).toNatClampNeg 0) (1 : Int32).toNatClampNeg (-1)) (9 : Int32).toNatClampNeg 1) (2 : Int32).toNatClampNeg (-1)))), (aa, .inl (cI, 12, .inl z0)), (ha, .inl (cI, 16, .inl z0)), (ma, .inl (cI, 4, .inl z0))]) H := hP
  have hD : va_D (fun q : Nat => s.heap.size ≤ q) (w0 cI cZ h a0 a1 a2 a3 a4 a5 a6 a7 a8 a9 a10 ++ [(ga, .inl (cI, 24, .inl (upd (upd (upd (upd (upd z0 (0 : Int32).toNatClampNeg (-1)) (8 : Int32).toNatClampNeg 0) (1 : Int32).toNatClampNeg (-1)) (9 : Int32).toNatClampNeg 1) (2 : Int32).toNatClampNeg (-1)))), (aa, .inl (cI, 12, .inl z0)), (ha, .inl (cI, 16, .inl z0)), (ma, .inl (cI, 4, .inl z0))]) := hD
  refine lv_aload_n hx hb dL_law_44 rfl (lv_at hl 4 rfl) ?_
  refine lv_bipush (v := 8) hx hb dL_law_45 (by decide) ?_
  refine lv_iload hx hb dL_law_47 (lv_at hl 0 rfl) ?_
  refine lv_iadd hx hb dL_law_49 ?_
  refine lv_topi (fun y6 hy6 => ?_)
  have hy6 : y6 = 10 := hy6.trans (by decide +kernel)
  subst hy6
  refine lv_iload hx hb dL_law_50 (lv_at hl 0 rfl) ?_
  refine va_iast (D := D) hx hb hK hP hD hS 12 0 rfl rfl (vp_in_iff.mpr (by decide +kernel)) dL_law_52 (fun H locs hP hD hS => ?_)
  have hP : va_P D vwCl (w0 cI cZ h a0 a1 a2 a3 a4 a5 a6 a7 a8 a9 a10 ++ [(ga, .inl (cI, 24, .inl (upd (upd (upd (upd (upd (upd z0 (0 : Int32).toNatClampNeg (-1)) (8 : Int32).toNatClampNeg 0) (1 : Int32).toNatClampNeg (-1)) (9 : Int32).toNatClampNeg 1) (2 : Int32).toNatClampNeg (-1)) (10 : Int32).toNatClampNeg 2))), (aa, .inl (cI, 12, .inl z0)), (ha, .inl (cI, 16, .inl z0)), (ma, .inl (cI, 4, .inl z0))]) H := hP
  have hD : va_D (fun q : Nat => s.heap.size ≤ q) (w0 cI cZ h a0 a1 a2 a3 a4 a5 a6 a7 a8 a9 a10 ++ [(ga, .inl (cI, 24, .inl (upd (upd (upd (upd (upd (upd z0 (0 : Int32).toNatClampNeg (-1)) (8 : Int32).toNatClampNeg 0) (1 : Int32).toNatClampNeg (-1)) (9 : Int32).toNatClampNeg 1) (2 : Int32).toNatClampNeg (-1)) (10 : Int32).toNatClampNeg 2))), (aa, .inl (cI, 12, .inl z0)), (ha, .inl (cI, 16, .inl z0)), (ma, .inl (cI, 4, .inl z0))]) := hD
  refine lv_iinc (v := 3) (lv' := [(6, .int 3), (5, .ref ma), (4, .ref ha), (3, .ref aa), (2, .ref ga), (1, .ref h), (0, .ref b)]) hx hb dL_law_53 hl (k := 0) rfl (by decide) (by decide) rfl (fun ls hl => ?_)
  refine lv_goto (tgt := 32) hx hb dL_law_56 (by decide) ?_
  refine lv_iload hx hb dL_law_32 (lv_at hl 0 rfl) ?_
  refine lv_bipush (v := 8) hx hb dL_law_34 (by decide) ?_
  refine lv_icmp_ge (tgt := 59) hx hb dL_law_36 (by decide) (fun c9 => False.elim (by revert c9; decide)) (fun _ => ?_)
  refine lv_aload_n hx hb dL_law_39 rfl (lv_at hl 4 rfl) ?_
  refine lv_iload hx hb dL_law_40 (lv_at hl 0 rfl) ?_
  refine lv_iconst (v := (-1)) hx hb dL_law_42 (by decide) ?_
  refine va_iast (D := D) hx hb hK hP hD hS 12 0 rfl rfl (vp_in_iff.mpr (by decide +kernel)) dL_law_43 (fun H locs hP hD hS => ?_)
  have hP : va_P D vwCl (w0 cI cZ h a0 a1 a2 a3 a4 a5 a6 a7 a8 a9 a10 ++ [(ga, .inl (cI, 24, .inl (upd (upd (upd (upd (upd (upd (upd z0 (0 : Int32).toNatClampNeg (-1)) (8 : Int32).toNatClampNeg 0) (1 : Int32).toNatClampNeg (-1)) (9 : Int32).toNatClampNeg 1) (2 : Int32).toNatClampNeg (-1)) (10 : Int32).toNatClampNeg 2) (3 : Int32).toNatClampNeg (-1)))), (aa, .inl (cI, 12, .inl z0)), (ha, .inl (cI, 16, .inl z0)), (ma, .inl (cI, 4, .inl z0))]) H := hP
  have hD : va_D (fun q : Nat => s.heap.size ≤ q) (w0 cI cZ h a0 a1 a2 a3 a4 a5 a6 a7 a8 a9 a10 ++ [(ga, .inl (cI, 24, .inl (upd (upd (upd (upd (upd (upd (upd z0 (0 : Int32).toNatClampNeg (-1)) (8 : Int32).toNatClampNeg 0) (1 : Int32).toNatClampNeg (-1)) (9 : Int32).toNatClampNeg 1) (2 : Int32).toNatClampNeg (-1)) (10 : Int32).toNatClampNeg 2) (3 : Int32).toNatClampNeg (-1)))), (aa, .inl (cI, 12, .inl z0)), (ha, .inl (cI, 16, .inl z0)), (ma, .inl (cI, 4, .inl z0))]) := hD
  refine lv_aload_n hx hb dL_law_44 rfl (lv_at hl 4 rfl) ?_
  refine lv_bipush (v := 8) hx hb dL_law_45 (by decide) ?_
  refine lv_iload hx hb dL_law_47 (lv_at hl 0 rfl) ?_
  refine lv_iadd hx hb dL_law_49 ?_
  refine lv_topi (fun y8 hy8 => ?_)
  have hy8 : y8 = 11 := hy8.trans (by decide +kernel)
  subst hy8
  refine lv_iload hx hb dL_law_50 (lv_at hl 0 rfl) ?_
  refine va_iast (D := D) hx hb hK hP hD hS 12 0 rfl rfl (vp_in_iff.mpr (by decide +kernel)) dL_law_52 (fun H locs hP hD hS => ?_)
  have hP : va_P D vwCl (w0 cI cZ h a0 a1 a2 a3 a4 a5 a6 a7 a8 a9 a10 ++ [(ga, .inl (cI, 24, .inl (upd (upd (upd (upd (upd (upd (upd (upd z0 (0 : Int32).toNatClampNeg (-1)) (8 : Int32).toNatClampNeg 0) (1 : Int32).toNatClampNeg (-1)) (9 : Int32).toNatClampNeg 1) (2 : Int32).toNatClampNeg (-1)) (10 : Int32).toNatClampNeg 2) (3 : Int32).toNatClampNeg (-1)) (11 : Int32).toNatClampNeg 3))), (aa, .inl (cI, 12, .inl z0)), (ha, .inl (cI, 16, .inl z0)), (ma, .inl (cI, 4, .inl z0))]) H := hP
  have hD : va_D (fun q : Nat => s.heap.size ≤ q) (w0 cI cZ h a0 a1 a2 a3 a4 a5 a6 a7 a8 a9 a10 ++ [(ga, .inl (cI, 24, .inl (upd (upd (upd (upd (upd (upd (upd (upd z0 (0 : Int32).toNatClampNeg (-1)) (8 : Int32).toNatClampNeg 0) (1 : Int32).toNatClampNeg (-1)) (9 : Int32).toNatClampNeg 1) (2 : Int32).toNatClampNeg (-1)) (10 : Int32).toNatClampNeg 2) (3 : Int32).toNatClampNeg (-1)) (11 : Int32).toNatClampNeg 3))), (aa, .inl (cI, 12, .inl z0)), (ha, .inl (cI, 16, .inl z0)), (ma, .inl (cI, 4, .inl z0))]) := hD
  refine lv_iinc (v := 4) (lv' := [(6, .int 4), (5, .ref ma), (4, .ref ha), (3, .ref aa), (2, .ref ga), (1, .ref h), (0, .ref b)]) hx hb dL_law_53 hl (k := 0) rfl (by decide) (by decide) rfl (fun ls hl => ?_)
  refine lv_goto (tgt := 32) hx hb dL_law_56 (by decide) ?_
  refine lv_iload hx hb dL_law_32 (lv_at hl 0 rfl) ?_
  refine lv_bipush (v := 8) hx hb dL_law_34 (by decide) ?_
  refine lv_icmp_ge (tgt := 59) hx hb dL_law_36 (by decide) (fun c9 => False.elim (by revert c9; decide)) (fun _ => ?_)
  refine lv_aload_n hx hb dL_law_39 rfl (lv_at hl 4 rfl) ?_
  refine lv_iload hx hb dL_law_40 (lv_at hl 0 rfl) ?_
  refine lv_iconst (v := (-1)) hx hb dL_law_42 (by decide) ?_
  refine va_iast (D := D) hx hb hK hP hD hS 12 0 rfl rfl (vp_in_iff.mpr (by decide +kernel)) dL_law_43 (fun H locs hP hD hS => ?_)
  have hP : va_P D vwCl (w0 cI cZ h a0 a1 a2 a3 a4 a5 a6 a7 a8 a9 a10 ++ [(ga, .inl (cI, 24, .inl (upd (upd (upd (upd (upd (upd (upd (upd (upd z0 (0 : Int32).toNatClampNeg (-1)) (8 : Int32).toNatClampNeg 0) (1 : Int32).toNatClampNeg (-1)) (9 : Int32).toNatClampNeg 1) (2 : Int32).toNatClampNeg (-1)) (10 : Int32).toNatClampNeg 2) (3 : Int32).toNatClampNeg (-1)) (11 : Int32).toNatClampNeg 3) (4 : Int32).toNatClampNeg (-1)))), (aa, .inl (cI, 12, .inl z0)), (ha, .inl (cI, 16, .inl z0)), (ma, .inl (cI, 4, .inl z0))]) H := hP
  have hD : va_D (fun q : Nat => s.heap.size ≤ q) (w0 cI cZ h a0 a1 a2 a3 a4 a5 a6 a7 a8 a9 a10 ++ [(ga, .inl (cI, 24, .inl (upd (upd (upd (upd (upd (upd (upd (upd (upd z0 (0 : Int32).toNatClampNeg (-1)) (8 : Int32).toNatClampNeg 0) (1 : Int32).toNatClampNeg (-1)) (9 : Int32).toNatClampNeg 1) (2 : Int32).toNatClampNeg (-1)) (10 : Int32).toNatClampNeg 2) (3 : Int32).toNatClampNeg (-1)) (11 : Int32).toNatClampNeg 3) (4 : Int32).toNatClampNeg (-1)))), (aa, .inl (cI, 12, .inl z0)), (ha, .inl (cI, 16, .inl z0)), (ma, .inl (cI, 4, .inl z0))]) := hD
  refine lv_aload_n hx hb dL_law_44 rfl (lv_at hl 4 rfl) ?_
  refine lv_bipush (v := 8) hx hb dL_law_45 (by decide) ?_
  refine lv_iload hx hb dL_law_47 (lv_at hl 0 rfl) ?_
  refine lv_iadd hx hb dL_law_49 ?_
  refine lv_topi (fun y10 hy10 => ?_)
  have hy10 : y10 = 12 := hy10.trans (by decide +kernel)
  subst hy10
  refine lv_iload hx hb dL_law_50 (lv_at hl 0 rfl) ?_
  refine va_iast (D := D) hx hb hK hP hD hS 12 0 rfl rfl (vp_in_iff.mpr (by decide +kernel)) dL_law_52 (fun H locs hP hD hS => ?_)
  have hP : va_P D vwCl (w0 cI cZ h a0 a1 a2 a3 a4 a5 a6 a7 a8 a9 a10 ++ [(ga, .inl (cI, 24, .inl (upd (upd (upd (upd (upd (upd (upd (upd (upd (upd z0 (0 : Int32).toNatClampNeg (-1)) (8 : Int32).toNatClampNeg 0) (1 : Int32).toNatClampNeg (-1)) (9 : Int32).toNatClampNeg 1) (2 : Int32).toNatClampNeg (-1)) (10 : Int32).toNatClampNeg 2) (3 : Int32).toNatClampNeg (-1)) (11 : Int32).toNatClampNeg 3) (4 : Int32).toNatClampNeg (-1)) (12 : Int32).toNatClampNeg 4))), (aa, .inl (cI, 12, .inl z0)), (ha, .inl (cI, 16, .inl z0)), (ma, .inl (cI, 4, .inl z0))]) H := hP
  have hD : va_D (fun q : Nat => s.heap.size ≤ q) (w0 cI cZ h a0 a1 a2 a3 a4 a5 a6 a7 a8 a9 a10 ++ [(ga, .inl (cI, 24, .inl (upd (upd (upd (upd (upd (upd (upd (upd (upd (upd z0 (0 : Int32).toNatClampNeg (-1)) (8 : Int32).toNatClampNeg 0) (1 : Int32).toNatClampNeg (-1)) (9 : Int32).toNatClampNeg 1) (2 : Int32).toNatClampNeg (-1)) (10 : Int32).toNatClampNeg 2) (3 : Int32).toNatClampNeg (-1)) (11 : Int32).toNatClampNeg 3) (4 : Int32).toNatClampNeg (-1)) (12 : Int32).toNatClampNeg 4))), (aa, .inl (cI, 12, .inl z0)), (ha, .inl (cI, 16, .inl z0)), (ma, .inl (cI, 4, .inl z0))]) := hD
  refine lv_iinc (v := 5) (lv' := [(6, .int 5), (5, .ref ma), (4, .ref ha), (3, .ref aa), (2, .ref ga), (1, .ref h), (0, .ref b)]) hx hb dL_law_53 hl (k := 0) rfl (by decide) (by decide) rfl (fun ls hl => ?_)
  refine lv_goto (tgt := 32) hx hb dL_law_56 (by decide) ?_
  refine lv_iload hx hb dL_law_32 (lv_at hl 0 rfl) ?_
  refine lv_bipush (v := 8) hx hb dL_law_34 (by decide) ?_
  refine lv_icmp_ge (tgt := 59) hx hb dL_law_36 (by decide) (fun c9 => False.elim (by revert c9; decide)) (fun _ => ?_)
  refine lv_aload_n hx hb dL_law_39 rfl (lv_at hl 4 rfl) ?_
  refine lv_iload hx hb dL_law_40 (lv_at hl 0 rfl) ?_
  refine lv_iconst (v := (-1)) hx hb dL_law_42 (by decide) ?_
  refine va_iast (D := D) hx hb hK hP hD hS 12 0 rfl rfl (vp_in_iff.mpr (by decide +kernel)) dL_law_43 (fun H locs hP hD hS => ?_)
  have hP : va_P D vwCl (w0 cI cZ h a0 a1 a2 a3 a4 a5 a6 a7 a8 a9 a10 ++ [(ga, .inl (cI, 24, .inl (upd (upd (upd (upd (upd (upd (upd (upd (upd (upd (upd z0 (0 : Int32).toNatClampNeg (-1)) (8 : Int32).toNatClampNeg 0) (1 : Int32).toNatClampNeg (-1)) (9 : Int32).toNatClampNeg 1) (2 : Int32).toNatClampNeg (-1)) (10 : Int32).toNatClampNeg 2) (3 : Int32).toNatClampNeg (-1)) (11 : Int32).toNatClampNeg 3) (4 : Int32).toNatClampNeg (-1)) (12 : Int32).toNatClampNeg 4) (5 : Int32).toNatClampNeg (-1)))), (aa, .inl (cI, 12, .inl z0)), (ha, .inl (cI, 16, .inl z0)), (ma, .inl (cI, 4, .inl z0))]) H := hP
  have hD : va_D (fun q : Nat => s.heap.size ≤ q) (w0 cI cZ h a0 a1 a2 a3 a4 a5 a6 a7 a8 a9 a10 ++ [(ga, .inl (cI, 24, .inl (upd (upd (upd (upd (upd (upd (upd (upd (upd (upd (upd z0 (0 : Int32).toNatClampNeg (-1)) (8 : Int32).toNatClampNeg 0) (1 : Int32).toNatClampNeg (-1)) (9 : Int32).toNatClampNeg 1) (2 : Int32).toNatClampNeg (-1)) (10 : Int32).toNatClampNeg 2) (3 : Int32).toNatClampNeg (-1)) (11 : Int32).toNatClampNeg 3) (4 : Int32).toNatClampNeg (-1)) (12 : Int32).toNatClampNeg 4) (5 : Int32).toNatClampNeg (-1)))), (aa, .inl (cI, 12, .inl z0)), (ha, .inl (cI, 16, .inl z0)), (ma, .inl (cI, 4, .inl z0))]) := hD
  refine lv_aload_n hx hb dL_law_44 rfl (lv_at hl 4 rfl) ?_
  refine lv_bipush (v := 8) hx hb dL_law_45 (by decide) ?_
  refine lv_iload hx hb dL_law_47 (lv_at hl 0 rfl) ?_
  refine lv_iadd hx hb dL_law_49 ?_
  refine lv_topi (fun y12 hy12 => ?_)
  have hy12 : y12 = 13 := hy12.trans (by decide +kernel)
  subst hy12
  refine lv_iload hx hb dL_law_50 (lv_at hl 0 rfl) ?_
  refine va_iast (D := D) hx hb hK hP hD hS 12 0 rfl rfl (vp_in_iff.mpr (by decide +kernel)) dL_law_52 (fun H locs hP hD hS => ?_)
  have hP : va_P D vwCl (w0 cI cZ h a0 a1 a2 a3 a4 a5 a6 a7 a8 a9 a10 ++ [(ga, .inl (cI, 24, .inl (upd (upd (upd (upd (upd (upd (upd (upd (upd (upd (upd (upd z0 (0 : Int32).toNatClampNeg (-1)) (8 : Int32).toNatClampNeg 0) (1 : Int32).toNatClampNeg (-1)) (9 : Int32).toNatClampNeg 1) (2 : Int32).toNatClampNeg (-1)) (10 : Int32).toNatClampNeg 2) (3 : Int32).toNatClampNeg (-1)) (11 : Int32).toNatClampNeg 3) (4 : Int32).toNatClampNeg (-1)) (12 : Int32).toNatClampNeg 4) (5 : Int32).toNatClampNeg (-1)) (13 : Int32).toNatClampNeg 5))), (aa, .inl (cI, 12, .inl z0)), (ha, .inl (cI, 16, .inl z0)), (ma, .inl (cI, 4, .inl z0))]) H := hP
  have hD : va_D (fun q : Nat => s.heap.size ≤ q) (w0 cI cZ h a0 a1 a2 a3 a4 a5 a6 a7 a8 a9 a10 ++ [(ga, .inl (cI, 24, .inl (upd (upd (upd (upd (upd (upd (upd (upd (upd (upd (upd (upd z0 (0 : Int32).toNatClampNeg (-1)) (8 : Int32).toNatClampNeg 0) (1 : Int32).toNatClampNeg (-1)) (9 : Int32).toNatClampNeg 1) (2 : Int32).toNatClampNeg (-1)) (10 : Int32).toNatClampNeg 2) (3 : Int32).toNatClampNeg (-1)) (11 : Int32).toNatClampNeg 3) (4 : Int32).toNatClampNeg (-1)) (12 : Int32).toNatClampNeg 4) (5 : Int32).toNatClampNeg (-1)) (13 : Int32).toNatClampNeg 5))), (aa, .inl (cI, 12, .inl z0)), (ha, .inl (cI, 16, .inl z0)), (ma, .inl (cI, 4, .inl z0))]) := hD
  refine lv_iinc (v := 6) (lv' := [(6, .int 6), (5, .ref ma), (4, .ref ha), (3, .ref aa), (2, .ref ga), (1, .ref h), (0, .ref b)]) hx hb dL_law_53 hl (k := 0) rfl (by decide) (by decide) rfl (fun ls hl => ?_)
  refine lv_goto (tgt := 32) hx hb dL_law_56 (by decide) ?_
  refine lv_iload hx hb dL_law_32 (lv_at hl 0 rfl) ?_
  refine lv_bipush (v := 8) hx hb dL_law_34 (by decide) ?_
  refine lv_icmp_ge (tgt := 59) hx hb dL_law_36 (by decide) (fun c9 => False.elim (by revert c9; decide)) (fun _ => ?_)
  refine lv_aload_n hx hb dL_law_39 rfl (lv_at hl 4 rfl) ?_
  refine lv_iload hx hb dL_law_40 (lv_at hl 0 rfl) ?_
  refine lv_iconst (v := (-1)) hx hb dL_law_42 (by decide) ?_
  refine va_iast (D := D) hx hb hK hP hD hS 12 0 rfl rfl (vp_in_iff.mpr (by decide +kernel)) dL_law_43 (fun H locs hP hD hS => ?_)
  have hP : va_P D vwCl (w0 cI cZ h a0 a1 a2 a3 a4 a5 a6 a7 a8 a9 a10 ++ [(ga, .inl (cI, 24, .inl (upd (upd (upd (upd (upd (upd (upd (upd (upd (upd (upd (upd (upd z0 (0 : Int32).toNatClampNeg (-1)) (8 : Int32).toNatClampNeg 0) (1 : Int32).toNatClampNeg (-1)) (9 : Int32).toNatClampNeg 1) (2 : Int32).toNatClampNeg (-1)) (10 : Int32).toNatClampNeg 2) (3 : Int32).toNatClampNeg (-1)) (11 : Int32).toNatClampNeg 3) (4 : Int32).toNatClampNeg (-1)) (12 : Int32).toNatClampNeg 4) (5 : Int32).toNatClampNeg (-1)) (13 : Int32).toNatClampNeg 5) (6 : Int32).toNatClampNeg (-1)))), (aa, .inl (cI, 12, .inl z0)), (ha, .inl (cI, 16, .inl z0)), (ma, .inl (cI, 4, .inl z0))]) H := hP
  have hD : va_D (fun q : Nat => s.heap.size ≤ q) (w0 cI cZ h a0 a1 a2 a3 a4 a5 a6 a7 a8 a9 a10 ++ [(ga, .inl (cI, 24, .inl (upd (upd (upd (upd (upd (upd (upd (upd (upd (upd (upd (upd (upd z0 (0 : Int32).toNatClampNeg (-1)) (8 : Int32).toNatClampNeg 0) (1 : Int32).toNatClampNeg (-1)) (9 : Int32).toNatClampNeg 1) (2 : Int32).toNatClampNeg (-1)) (10 : Int32).toNatClampNeg 2) (3 : Int32).toNatClampNeg (-1)) (11 : Int32).toNatClampNeg 3) (4 : Int32).toNatClampNeg (-1)) (12 : Int32).toNatClampNeg 4) (5 : Int32).toNatClampNeg (-1)) (13 : Int32).toNatClampNeg 5) (6 : Int32).toNatClampNeg (-1)))), (aa, .inl (cI, 12, .inl z0)), (ha, .inl (cI, 16, .inl z0)), (ma, .inl (cI, 4, .inl z0))]) := hD
  refine lv_aload_n hx hb dL_law_44 rfl (lv_at hl 4 rfl) ?_
  refine lv_bipush (v := 8) hx hb dL_law_45 (by decide) ?_
  refine lv_iload hx hb dL_law_47 (lv_at hl 0 rfl) ?_
  refine lv_iadd hx hb dL_law_49 ?_
  refine lv_topi (fun y14 hy14 => ?_)
  have hy14 : y14 = 14 := hy14.trans (by decide +kernel)
  subst hy14
  refine lv_iload hx hb dL_law_50 (lv_at hl 0 rfl) ?_
  refine va_iast (D := D) hx hb hK hP hD hS 12 0 rfl rfl (vp_in_iff.mpr (by decide +kernel)) dL_law_52 (fun H locs hP hD hS => ?_)
  have hP : va_P D vwCl (w0 cI cZ h a0 a1 a2 a3 a4 a5 a6 a7 a8 a9 a10 ++ [(ga, .inl (cI, 24, .inl (upd (upd (upd (upd (upd (upd (upd (upd (upd (upd (upd (upd (upd (upd z0 (0 : Int32).toNatClampNeg (-1)) (8 : Int32).toNatClampNeg 0) (1 : Int32).toNatClampNeg (-1)) (9 : Int32).toNatClampNeg 1) (2 : Int32).toNatClampNeg (-1)) (10 : Int32).toNatClampNeg 2) (3 : Int32).toNatClampNeg (-1)) (11 : Int32).toNatClampNeg 3) (4 : Int32).toNatClampNeg (-1)) (12 : Int32).toNatClampNeg 4) (5 : Int32).toNatClampNeg (-1)) (13 : Int32).toNatClampNeg 5) (6 : Int32).toNatClampNeg (-1)) (14 : Int32).toNatClampNeg 6))), (aa, .inl (cI, 12, .inl z0)), (ha, .inl (cI, 16, .inl z0)), (ma, .inl (cI, 4, .inl z0))]) H := hP
  have hD : va_D (fun q : Nat => s.heap.size ≤ q) (w0 cI cZ h a0 a1 a2 a3 a4 a5 a6 a7 a8 a9 a10 ++ [(ga, .inl (cI, 24, .inl (upd (upd (upd (upd (upd (upd (upd (upd (upd (upd (upd (upd (upd (upd z0 (0 : Int32).toNatClampNeg (-1)) (8 : Int32).toNatClampNeg 0) (1 : Int32).toNatClampNeg (-1)) (9 : Int32).toNatClampNeg 1) (2 : Int32).toNatClampNeg (-1)) (10 : Int32).toNatClampNeg 2) (3 : Int32).toNatClampNeg (-1)) (11 : Int32).toNatClampNeg 3) (4 : Int32).toNatClampNeg (-1)) (12 : Int32).toNatClampNeg 4) (5 : Int32).toNatClampNeg (-1)) (13 : Int32).toNatClampNeg 5) (6 : Int32).toNatClampNeg (-1)) (14 : Int32).toNatClampNeg 6))), (aa, .inl (cI, 12, .inl z0)), (ha, .inl (cI, 16, .inl z0)), (ma, .inl (cI, 4, .inl z0))]) := hD
  refine lv_iinc (v := 7) (lv' := [(6, .int 7), (5, .ref ma), (4, .ref ha), (3, .ref aa), (2, .ref ga), (1, .ref h), (0, .ref b)]) hx hb dL_law_53 hl (k := 0) rfl (by decide) (by decide) rfl (fun ls hl => ?_)
  refine lv_goto (tgt := 32) hx hb dL_law_56 (by decide) ?_
  refine lv_iload hx hb dL_law_32 (lv_at hl 0 rfl) ?_
  refine lv_bipush (v := 8) hx hb dL_law_34 (by decide) ?_
  refine lv_icmp_ge (tgt := 59) hx hb dL_law_36 (by decide) (fun c9 => False.elim (by revert c9; decide)) (fun _ => ?_)
  refine lv_aload_n hx hb dL_law_39 rfl (lv_at hl 4 rfl) ?_
  refine lv_iload hx hb dL_law_40 (lv_at hl 0 rfl) ?_
  refine lv_iconst (v := (-1)) hx hb dL_law_42 (by decide) ?_
  refine va_iast (D := D) hx hb hK hP hD hS 12 0 rfl rfl (vp_in_iff.mpr (by decide +kernel)) dL_law_43 (fun H locs hP hD hS => ?_)
  have hP : va_P D vwCl (w0 cI cZ h a0 a1 a2 a3 a4 a5 a6 a7 a8 a9 a10 ++ [(ga, .inl (cI, 24, .inl (upd (upd (upd (upd (upd (upd (upd (upd (upd (upd (upd (upd (upd (upd (upd z0 (0 : Int32).toNatClampNeg (-1)) (8 : Int32).toNatClampNeg 0) (1 : Int32).toNatClampNeg (-1)) (9 : Int32).toNatClampNeg 1) (2 : Int32).toNatClampNeg (-1)) (10 : Int32).toNatClampNeg 2) (3 : Int32).toNatClampNeg (-1)) (11 : Int32).toNatClampNeg 3) (4 : Int32).toNatClampNeg (-1)) (12 : Int32).toNatClampNeg 4) (5 : Int32).toNatClampNeg (-1)) (13 : Int32).toNatClampNeg 5) (6 : Int32).toNatClampNeg (-1)) (14 : Int32).toNatClampNeg 6) (7 : Int32).toNatClampNeg (-1)))), (aa, .inl (cI, 12, .inl z0)), (ha, .inl (cI, 16, .inl z0)), (ma, .inl (cI, 4, .inl z0))]) H := hP
  have hD : va_D (fun q : Nat => s.heap.size ≤ q) (w0 cI cZ h a0 a1 a2 a3 a4 a5 a6 a7 a8 a9 a10 ++ [(ga, .inl (cI, 24, .inl (upd (upd (upd (upd (upd (upd (upd (upd (upd (upd (upd (upd (upd (upd (upd z0 (0 : Int32).toNatClampNeg (-1)) (8 : Int32).toNatClampNeg 0) (1 : Int32).toNatClampNeg (-1)) (9 : Int32).toNatClampNeg 1) (2 : Int32).toNatClampNeg (-1)) (10 : Int32).toNatClampNeg 2) (3 : Int32).toNatClampNeg (-1)) (11 : Int32).toNatClampNeg 3) (4 : Int32).toNatClampNeg (-1)) (12 : Int32).toNatClampNeg 4) (5 : Int32).toNatClampNeg (-1)) (13 : Int32).toNatClampNeg 5) (6 : Int32).toNatClampNeg (-1)) (14 : Int32).toNatClampNeg 6) (7 : Int32).toNatClampNeg (-1)))), (aa, .inl (cI, 12, .inl z0)), (ha, .inl (cI, 16, .inl z0)), (ma, .inl (cI, 4, .inl z0))]) := hD
  refine lv_aload_n hx hb dL_law_44 rfl (lv_at hl 4 rfl) ?_
  refine lv_bipush (v := 8) hx hb dL_law_45 (by decide) ?_
  refine lv_iload hx hb dL_law_47 (lv_at hl 0 rfl) ?_
  refine lv_iadd hx hb dL_law_49 ?_
  refine lv_topi (fun y16 hy16 => ?_)
  have hy16 : y16 = 15 := hy16.trans (by decide +kernel)
  subst hy16
  refine lv_iload hx hb dL_law_50 (lv_at hl 0 rfl) ?_
  refine va_iast (D := D) hx hb hK hP hD hS 12 0 rfl rfl (vp_in_iff.mpr (by decide +kernel)) dL_law_52 (fun H locs hP hD hS => ?_)
  have hP : va_P D vwCl (w0 cI cZ h a0 a1 a2 a3 a4 a5 a6 a7 a8 a9 a10 ++ [(ga, .inl (cI, 24, .inl (upd (upd (upd (upd (upd (upd (upd (upd (upd (upd (upd (upd (upd (upd (upd (upd z0 (0 : Int32).toNatClampNeg (-1)) (8 : Int32).toNatClampNeg 0) (1 : Int32).toNatClampNeg (-1)) (9 : Int32).toNatClampNeg 1) (2 : Int32).toNatClampNeg (-1)) (10 : Int32).toNatClampNeg 2) (3 : Int32).toNatClampNeg (-1)) (11 : Int32).toNatClampNeg 3) (4 : Int32).toNatClampNeg (-1)) (12 : Int32).toNatClampNeg 4) (5 : Int32).toNatClampNeg (-1)) (13 : Int32).toNatClampNeg 5) (6 : Int32).toNatClampNeg (-1)) (14 : Int32).toNatClampNeg 6) (7 : Int32).toNatClampNeg (-1)) (15 : Int32).toNatClampNeg 7))), (aa, .inl (cI, 12, .inl z0)), (ha, .inl (cI, 16, .inl z0)), (ma, .inl (cI, 4, .inl z0))]) H := hP
  have hD : va_D (fun q : Nat => s.heap.size ≤ q) (w0 cI cZ h a0 a1 a2 a3 a4 a5 a6 a7 a8 a9 a10 ++ [(ga, .inl (cI, 24, .inl (upd (upd (upd (upd (upd (upd (upd (upd (upd (upd (upd (upd (upd (upd (upd (upd z0 (0 : Int32).toNatClampNeg (-1)) (8 : Int32).toNatClampNeg 0) (1 : Int32).toNatClampNeg (-1)) (9 : Int32).toNatClampNeg 1) (2 : Int32).toNatClampNeg (-1)) (10 : Int32).toNatClampNeg 2) (3 : Int32).toNatClampNeg (-1)) (11 : Int32).toNatClampNeg 3) (4 : Int32).toNatClampNeg (-1)) (12 : Int32).toNatClampNeg 4) (5 : Int32).toNatClampNeg (-1)) (13 : Int32).toNatClampNeg 5) (6 : Int32).toNatClampNeg (-1)) (14 : Int32).toNatClampNeg 6) (7 : Int32).toNatClampNeg (-1)) (15 : Int32).toNatClampNeg 7))), (aa, .inl (cI, 12, .inl z0)), (ha, .inl (cI, 16, .inl z0)), (ma, .inl (cI, 4, .inl z0))]) := hD
  refine lv_iinc (v := 8) (lv' := [(6, .int 8), (5, .ref ma), (4, .ref ha), (3, .ref aa), (2, .ref ga), (1, .ref h), (0, .ref b)]) hx hb dL_law_53 hl (k := 0) rfl (by decide) (by decide) rfl (fun ls hl => ?_)
  refine lv_goto (tgt := 32) hx hb dL_law_56 (by decide) ?_
  refine lv_iload hx hb dL_law_32 (lv_at hl 0 rfl) ?_
  refine lv_bipush (v := 8) hx hb dL_law_34 (by decide) ?_
  refine lv_icmp_ge (tgt := 59) hx hb dL_law_36 (by decide) (fun _ => ?_) (fun c9 => False.elim (by revert c9; decide))
  have hP : va_P D vwCl (w0 cI cZ h a0 a1 a2 a3 a4 a5 a6 a7 a8 a9 a10 ++ [(ga, .inl (cI, 24, .inl zg)), (aa, .inl (cI, 12, .inl z0)), (ha, .inl (cI, 16, .inl z0)), (ma, .inl (cI, 4, .inl z0))]) H := hP
  have hgr : s.heap.size + (0 + 0) ≤ H.size := by have := hS.1; omega
  refine lv_aload_n hx hb dL_law_59 rfl (lv_at hl 5 rfl) ?_
  refine lv_aload hx hb dL_law_60 (lv_at hl 1 rfl) ?_
  refine lv_iconst (v := 0) hx hb dL_law_62 (by decide) ?_
  refine vx_calli (vx_runS (As := [.ref h, .ref ma, .int 0]) (rest := []) ⟨hx, hb, hml, hown, hts⟩ (k_isRefused_0 l hl0 D cI cZ cJ H.size h a0 a1 a2 a3 a4 a5 a6 a7 a8 a9 a10 ma) (va_cwS 3 hts gL_law_L_isRefused rfl rfl rfl (by decide +kernel) ⟨Nat.le_of_ble_eq_true rfl, Nat.le_of_ble_eq_true rfl⟩) ⟨zKX_blind, fun U hU hW => ⟨rfl, by rw [hU], zX_on hZ hS (fun _ h => h) hU hW, zP_mk (hP.sub (ws' := w0 cI cZ h a0 a1 a2 a3 a4 a5 a6 a7 a8 a9 a10 ++ [(ma, .inl (cI, 4, .inl z0))]) [0, 1, 2, 3, 4, 5, 6, 7, 8, 9, 10, 11, 15] rfl) hK hU hW⟩⟩ rfl rfl hl.1 rfl (lv_room (Nat.le_of_ble_eq_true rfl)) dL_law_63 ⟨by show 16 + 0 + 38 ≤ 6500; omega, by show 155 + 0 + 228 ≤ 40000; omega⟩) hS (fun _ _ z => z.elim) (fun _ z => z.elim) (fun _ _ z => z.elim) (fun E ce q9 u t H1 locs1 _ _ _ hE _ _ _ _ _ _ => hE.elim) (fun r18 u18 t18 H18 locs ht hvm w18 hB hz1 hk1 hS => ?_)
  have w18 : r18 = 1 := w18
  subst w18
  have hB9 : H.size + 2 ≤ H18.size := by rw [← ht]; exact hB
  have hP := hP.kept (fun k q hk => hk1 q.1 (vx_lt hP hk) (fun z => z))
  have hgr : s.heap.size + (0 + 2) ≤ H18.size := by omega
  clear hk1 hz1 hvm ht hB hB9 t18 u18
  refine W.widen (k := 16 + 38) (n := 155 + 228) (by omega) (by omega) ?_
  refine lv_if_eq (tgt := 83) hx hb dL_law_66 (by decide) (fun c9 => False.elim (by revert c9; decide)) (fun _ => ?_)
  refine lv_aload_n hx hb dL_law_69 rfl (lv_at hl 5 rfl) ?_
  refine lv_aload hx hb dL_law_70 (lv_at hl 1 rfl) ?_
  refine lv_iconst (v := 1) hx hb dL_law_72 (by decide) ?_
  refine vx_calli (vx_runS (As := [.ref h, .ref ma, .int 1]) (rest := []) ⟨hx, hb, hml, hown, hts⟩ (k_isRefused_1 l hl0 D cI cZ cJ H18.size h a0 a1 a2 a3 a4 a5 a6 a7 a8 a9 a10 ma) (va_cwS 3 hts gL_law_L_isRefused rfl rfl rfl (by decide +kernel) ⟨Nat.le_of_ble_eq_true rfl, Nat.le_of_ble_eq_true rfl⟩) ⟨zKX_blind, fun U hU hW => ⟨rfl, by rw [hU], zX_on hZ hS (fun _ h => h) hU hW, zP_mk (hP.sub (ws' := w0 cI cZ h a0 a1 a2 a3 a4 a5 a6 a7 a8 a9 a10 ++ [(ma, .inl (cI, 4, .inl z0))]) [0, 1, 2, 3, 4, 5, 6, 7, 8, 9, 10, 11, 15] rfl) hK hU hW⟩⟩ rfl rfl hl.1 rfl (lv_room (Nat.le_of_ble_eq_true rfl)) dL_law_73 ⟨by show 16 + 38 + 38 ≤ 6500; omega, by show 155 + 228 + 228 ≤ 40000; omega⟩) hS (fun _ _ z => z.elim) (fun _ z => z.elim) (fun _ _ z => z.elim) (fun E ce q9 u t H1 locs1 _ _ _ hE _ _ _ _ _ _ => hE.elim) (fun r20 u20 t20 H20 locs ht hvm w20 hB hz1 hk1 hS => ?_)
  have w20 : r20 = 1 := w20
  subst w20
  have hB9 : H18.size + 2 ≤ H20.size := by rw [← ht]; exact hB
  have hP := hP.kept (fun k q hk => hk1 q.1 (vx_lt hP hk) (fun z => z))
  have hgr : s.heap.size + (0 + 4) ≤ H20.size := by omega
  clear hk1 hz1 hvm ht hB hB9 t20 u20
  refine W.widen (k := 16 + 76) (n := 155 + 456) (by omega) (by omega) ?_
  refine lv_if_eq (tgt := 83) hx hb dL_law_76 (by decide) (fun c9 => False.elim (by revert c9; decide)) (fun _ => ?_)
  refine lv_iconst (v := 1) hx hb dL_law_79 (by decide) ?_
  refine lv_goto (tgt := 84) hx hb dL_law_80 (by decide) ?_
  refine lv_istore (lv' := [(6, .int 1), (5, .ref ma), (4, .ref ha), (3, .ref aa), (2, .ref ga), (1, .ref h), (0, .ref b)]) hx hb dL_law_84 hl (by decide) rfl (fun ls hl => ?_)
  refine lv_iconst (v := 0) hx hb dL_law_86 (by decide) ?_
  refine lv_istore (lv' := [(7, .int 0), (6, .int 1), (5, .ref ma), (4, .ref ha), (3, .ref aa), (2, .ref ga), (1, .ref h), (0, .ref b)]) hx hb dL_law_87 hl (by decide) rfl (fun ls hl => ?_)
  refine r_loop (D := D) (cI := cI) (cZ := cZ) (cJ := cJ) (h := h) (a0 := a0) (a1 := a1) (a2 := a2) (a3 := a3) (a4 := a4) (a5 := a5) (a6 := a6) (a7 := a7) (a8 := a8) (a9 := a9) (a10 := a10) (ga := ga) (aa := aa) (ha := ha) (ma := ma) hl0 ⟨hx, hb, hml, hown, hts0, hX, hbl⟩ hZ hK hL hxs (fun H locs cl sl ls hS hH hc hs hl => ?_) 130 0 (16 + 76) (155 + 456) H20 locs ls (by omega) (by omega) (by omega) (by omega) hP hS (lv_sub hl [7, 6, 5, 4, 3, 2, 1, 0] rfl)
  refine lv_iload hx hb dL_law_958 (lv_at hl 0 rfl) ?_
  exact r_ret hx hb hr hlocks hH dL_law_960
