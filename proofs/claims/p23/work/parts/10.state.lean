/-! WORLDS. The class's object at h with its eleven arrays; the reference's object with its seven; the law's own array of one long. Contents are functions of the place; scalars are Int32. -/
abbrev zT (cI cZ cJ : ClassId) : List (ClassId × FieldType) := [(cI, .int), (cZ, .boolean)]
abbrev wQ (cI cZ : ClassId) (h a0 a1 a2 a3 a4 a5 a6 a7 a8 a9 a10 : Nat) (f0 f1 f2 f3 f4 f5 f6 f7 f8 f9 f10 : Nat → Int32) (v0 v1 v2 v3 : Int32) : va_W :=
  [(h, .inr (0, [.ref a0, .ref a1, .ref a2, .ref a3, .ref a4, .ref a5, .ref a6, .ref a7, .ref a8, .int v0, .int v1, .int v2, .int v3, .ref a9, .ref a10])), (a0, .inl (cI, 8, .inl f0)), (a1, .inl (cI, 8, .inl f1)), (a2, .inl (cI, 8, .inl f2)), (a3, .inl (cI, 8, .inl f3)), (a4, .inl (cI, 8, .inl f4)), (a5, .inl (cI, 8, .inl f5)), (a6, .inl (cI, 8, .inl f6)), (a7, .inl (cI, 6, .inl f7)), (a8, .inl (cZ, 6, .inl f8)), (a9, .inl (cI, 8, .inl f9)), (a10, .inl (cI, 8, .inl f10))]
/-- what a method that only reads is given: its world lies in the heap -/
def zP (D : va_G) (cI cZ cJ : ClassId) (w : va_W) (U : State) : Prop := va_P D vwCl w U.heap ∧ va_K D vwCl (zT cI cZ cJ) U
theorem zP_mk {D : va_G} {cI cZ cJ : ClassId} {w : va_W} {s U : State} {H : Heap} (hP : va_P D vwCl w H) (hK : va_K D vwCl (zT cI cZ cJ) s) (hU : U.heap = H) (hW : s.WarmedH U.vm) : zP D cI cZ cJ w U := ⟨by rw [hU]; exact hP, va_K.moved hW.alike hK⟩
theorem zP_blind {av : List Value} {D : va_G} {cI cZ cJ : ClassId} {w : va_W} : FrameBlind (va_Pc av (zP D cI cZ cJ w)) := fun a U g mk q => ⟨q.1, q.2.1, va_K.moved (u := U) (U := U.calling g mk a) (Vm.Alike.refl U.vm) q.2.2⟩
/-- what a method that writes is given: the cells are apart, the heap has sz cells -/
def zD (D : va_G) (cI cZ cJ : ClassId) (sz : Nat) (w : va_W) (U : State) : Prop := U.heap.size = sz ∧ va_P D vwCl w U.heap ∧ va_K D vwCl (zT cI cZ cJ) U ∧ va_D (fun _ => True) w
theorem zD_mk {D : va_G} {cI cZ cJ : ClassId} {w : va_W} {s U : State} {H : Heap} {A : Nat → Prop} (hP : va_P D vwCl w H) (hK : va_K D vwCl (zT cI cZ cJ) s) (hD : va_D A w) (hU : U.heap = H) (hW : s.WarmedH U.vm) : zD D cI cZ cJ H.size w U := ⟨by rw [hU], by rw [hU]; exact hP, va_K.moved hW.alike hK, hD.weaken (fun _ _ _ _ => trivial)⟩
theorem zD_blind {av : List Value} {D : va_G} {cI cZ cJ : ClassId} {sz : Nat} {w : va_W} : FrameBlind (va_Pc av (zD D cI cZ cJ sz w)) := fun a U g mk q => ⟨q.1, q.2.1, q.2.2.1, va_K.moved (u := U) (U := U.calling g mk a) (Vm.Alike.refl U.vm) q.2.2.2.1, q.2.2.2.2⟩
/-- and what it leaves -/
def zB (D : va_G) (cI cZ cJ : ClassId) (A : Nat → Prop) (w : va_W) (t : State) : Prop := va_P D vwCl w t.heap ∧ va_K D vwCl (zT cI cZ cJ) t ∧ va_D A w
/-- the texts of the class's exceptions, the pool's two statics, and who isn't castable to whom -/
def zStr : List (Nat × String) := [(55, "the giver would have too much in"), (64, "the giver would trust itself"), (68, "no such person"), (76, "there would be too much in the pot"), (81, "there are as many milestones as there may be"), (83, "no such milestone"), (88, "the milestone is released"), (92, "no such vote"), (99, "no current milestone"), (105, "neither yes nor no"), (132, "no current milestone, or not proved, or not enough in"), (140, "not enough votes for yes"), (155, "no such giver"), (157, "the amount is out of range"), (161, "no current milestone, or not enough in")]
def zNcs : List (String × String) := [("java/lang/IllegalArgumentException", "java/lang/IndexOutOfBoundsException"), ("java/lang/IllegalStateException", "java/lang/IndexOutOfBoundsException"), ("java/lang/IllegalStateException", "java/lang/IllegalArgumentException"), ("java/util/NoSuchElementException", "java/lang/IndexOutOfBoundsException"), ("java/util/NoSuchElementException", "java/lang/IllegalArgumentException")]
/-- words of a throw that a warming doesn't keep by their form: found in the tables all the same -/
def zBad : List Cond := [.declares (Bundle.initS "java/lang/Throwable"), .declares (Bundle.initS "java/lang/Exception"), .declares (Bundle.initS "java/lang/RuntimeException"), .castable "java/lang/IndexOutOfBoundsException" "java/lang/IndexOutOfBoundsException", .castable "java/lang/IllegalArgumentException" "java/lang/IllegalArgumentException", .castable "java/lang/IllegalStateException" "java/lang/IllegalStateException", .castable "java/util/NoSuchElementException" "java/util/NoSuchElementException"]
theorem zBad_ot : ∀ w ∈ zBad, w.onTables = true := by decide +kernel
theorem zBad_moved {u U : State} (hvm : u.vm.Alike U.vm) {w : Cond} (hw : w ∈ zBad) (h : va_Nw w u) : va_Nw w U := by
  have tr : w.before #[] (u.setVm U.vm) = true → va_Nw w U := by
    intro h
    have e := Cond.onTables_vm (A := #[]) (A' := #[]) (U := u) (U' := U) U.vm w (zBad_ot w hw)
    have hU : U.setVm U.vm = U := rfl
    rw [hU] at e
    show w.before #[] U = true
    rw [← e]
    exact h
  refine tr ?_
  simp only [zBad, List.mem_cons, List.not_mem_nil, or_false] at hw
  rcases hw with rfl | rfl | rfl | rfl | rfl | rfl | rfl
  · rw [Cond.declares_setVm hvm]; exact h
  · rw [Cond.declares_setVm hvm]; exact h
  · rw [Cond.declares_setVm hvm]; exact h
  · rw [Cond.castable_setVm hvm]; exact h
  · rw [Cond.castable_setVm hvm]; exact h
  · rw [Cond.castable_setVm hvm]; exact h
  · rw [Cond.castable_setVm hvm]; exact h
def zX (U : State) : Prop := (∀ w ∈ zBad, va_Nw w U) ∧ (∀ q ∈ zStr, ∃ sa, vk_R "Quorumfund" q.1 q.2 sa U) ∧ (∀ q ∈ zNcs, va_Nc q.1 q.2 U) ∧ vx_Zq Bundle.tN "UNASSIGNED_STACK" Bundle.steD (fun _ => False) U U.heap ∧ vx_Zq Bundle.tN "SUPPRESSED_SENTINEL" Bundle.listD (fun _ => False) U U.heap
theorem zX_same {u U : State} (hv : U.vm = u.vm) (hh : U.heap = u.heap) (h : zX u) : zX U := by
  have ha : u.vm.Alike U.vm := by rw [hv]; exact Vm.Alike.refl _
  refine ⟨fun w hw => zBad_moved ha hw (h.1 w hw), fun q hq => ?_, fun q hq => va_Nc.moved ha (h.2.2.1 q hq), ?_, ?_⟩
  · obtain ⟨sa, z⟩ := h.2.1 q hq
    exact ⟨sa, vk_R.same hv z⟩
  · rw [hh]; exact vx_Zq.moved ha h.2.2.2.1
  · rw [hh]; exact vx_Zq.moved ha h.2.2.2.2
theorem zX_at {s U : State} (h : zX s) (hU : U.heap = s.heap) (hW : s.WarmedH U.vm) : zX U := by
  refine ⟨fun w hw => zBad_moved hW.alike hw (h.1 w hw), fun q hq => ?_, fun q hq => va_Nc.moved hW.alike (h.2.2.1 q hq), ?_, ?_⟩
  · obtain ⟨sa, z⟩ := h.2.1 q hq
    exact ⟨sa, vk_R.warm hW z⟩
  · rw [hU]; exact vx_Zq.moved hW.alike h.2.2.2.1
  · rw [hU]; exact vx_Zq.moved hW.alike h.2.2.2.2
/-- the same, seen from a state whose heap has grown outside of A -/
theorem zX_on {s U : State} {H : Heap} {locs : List Loc} {A : Nat → Prop} (h : zX s) (hS : va_S A s.heap H locs) (hA : ∀ q, A q → s.heap.size ≤ q) (hU : U.heap = H) (hW : s.WarmedH U.vm) : zX U := by
  have k : ∀ a : Nat, a < s.heap.size → ¬ (fun _ : Nat => False) a → H[a]? = s.heap[a]? := fun a ha _ => hS.2.1 a ha (fun z => Nat.lt_irrefl _ (Nat.lt_of_lt_of_le ha (hA a z)))
  refine ⟨fun w hw => zBad_moved hW.alike hw (h.1 w hw), fun q hq => ?_, fun q hq => va_Nc.moved hW.alike (h.2.2.1 q hq), ?_, ?_⟩
  · obtain ⟨sa, z⟩ := h.2.1 q hq
    exact ⟨sa, vk_R.warm hW z⟩
  · rw [hU]; exact vx_Zq.moved hW.alike (h.2.2.2.1.kept k)
  · rw [hU]; exact vx_Zq.moved hW.alike (h.2.2.2.2.kept k)
def zPX (D : va_G) (cI cZ cJ : ClassId) (w : va_W) (U : State) : Prop := zX U ∧ zP D cI cZ cJ w U
theorem zPX_blind {av : List Value} {D : va_G} {cI cZ cJ : ClassId} {w : va_W} : FrameBlind (va_Pc av (zPX D cI cZ cJ w)) := fun a U g mk q => ⟨q.1, zX_same (u := U) rfl rfl q.2.1, (zP_blind a U g mk ⟨q.1, q.2.2⟩).2⟩
def zDX (D : va_G) (cI cZ cJ : ClassId) (sz : Nat) (w : va_W) (U : State) : Prop := zX U ∧ zD D cI cZ cJ sz w U
theorem zDX_blind {av : List Value} {D : va_G} {cI cZ cJ : ClassId} {sz : Nat} {w : va_W} : FrameBlind (va_Pc av (zDX D cI cZ cJ sz w)) := fun a U g mk q => ⟨q.1, zX_same (u := U) rfl rfl q.2.1, (zD_blind a U g mk ⟨q.1, q.2.2⟩).2⟩
/-- a call that throws: it never comes back, what is thrown is of a class E with cx, nothing old has changed -/
def zNo : Array Value → State → Outcome → State → Prop := fun _ _ _ _ => False
abbrev zXC (cx : String → Prop) : String → State → State → Prop := vx_X (fun _ : Unit => True) (fun E _ _ => cx E) (fun _ => False)
section ZT
variable {p : Program} {l : Launch} {e : Env} {R : Room} {s : State} {m : MethodId} {args : Array Value} {below : List Frame} {meth : Method} {c : Code} {H : Heap} {locs : List Loc} {cells slots : Nat} {Q : State → Prop}
variable {Qc : Array Value → State → Outcome → State → Prop} {pc : Nat} {ls : Array Slot} {st0 rest : List Value} {a : Array Value} {cx cy : String → Prop}
theorem z_thru {free : Addr → Prop} (hr : vx_Run p l e R s m args below meth c s.heap [] 0 0 1 6 (F0 m pc ls st0) rest (zNo a) (zXC cx) free) (hf : ∀ q, free q → False) (hout : ∀ x ∈ c.exceptionTable.toList, False) (hlocks : meth.locks = false) (hc : ∀ E, cx E → cy E) :
    W p l e R s m args below meth c s.heap [] 0 0 (vx_MQ below Qc (zXC cy) args s 1 6 (fun _ => False)) (F0 m pc ls st0) := by
  intro T hT X
  rcases hr T hT X with ⟨v, st₀, t, T', L, h0, X', hL, e1, e2, hn, st⟩ | ⟨q, st₀, t, T', L, E, ce, h0, X', hL, e1, e2, ⟨u, hp, hb, hF⟩, hce, hcv, hcl, st⟩
  · exact hn.elim
  · obtain ⟨t2, a1, b1⟩ := vx_out (p := p) (l := l) (e := e) (R := R) (s := s) (m := m) (args := args) (below := below) (meth := meth) (c := c) (H := T'.heap) (Qc := Qc) (XC := zXC cy) (free := fun _ => False) (ls := ls) (rest := rest) (pc := pc) (E := E) (q := q) (ce := ce) (locs := [] ++ L) (cells := 0 + 1) (slots := 0 + 6) (mc := 1) (ms := 6)
      (fun x hx => (hout x hx).elim) hlocks (by rw [e1]; exact hce) hcv hcl (fun t9 ht9 _ => ⟨(), trivial, hc E hb, by rw [ht9, e1, ← h0]; exact hF.1, fun q9 h9 z9 => by rw [ht9, e1, ← h0]; exact hF.2 q9 (by rw [h0]; exact h9) z9⟩)
      (fun z hz => hf _ (hL z (by simpa using hz))) (by omega) (by omega) T' rfl X'
    exact ⟨t2, st.trans a1, b1⟩
theorem z_catch {A0 : Nat → Prop} {H0 : Heap} {free : Addr → Prop} (hr : vx_Run p l e R s m args below meth c H locs cells slots 1 6 (F0 m pc ls st0) rest (zNo a) (zXC cx) free) (hf : ∀ q, free q → False) (hS : va_S A0 H0 H locs)
    (kx : ∀ (E : String) (ce : Cell) (q9 : Addr) (H1 : Heap) (locs1 : List Loc), cx E → (∀ q : Nat, q < H.size → H1[q]? = H[q]?) → va_S A0 H0 H1 locs1 → H1[q9]? = some ce → ce.vm = .none → s.vm.findClass E = some ce.cls → vx_W p l e R s m args below meth c H1 locs1 (cells + 1) (slots + 6) Q (F0 m pc ls rest) q9) :
    W p l e R s m args below meth c H locs cells slots Q (F0 m pc ls st0) := by
  intro T hT X
  rcases hr T hT X with ⟨v, st₀, t, T', L, h0, X', hL, e1, e2, hn, st⟩ | ⟨q, st₀, t, T', L, E, ce, h0, X', hL, e1, e2, ⟨u, hp, hb, hF⟩, hce, hcv, hcl, st⟩
  · exact hn.elim
  · obtain ⟨k1, k2, k3⟩ := vx_keep h0 e1 hS (fun _ _ z => z.elim) (fun q z => (hf q z).elim) hL hF
    obtain ⟨t2, a1, b1⟩ := kx E ce q T'.heap (locs ++ L) hb (fun q h1 => k2 q h1 (fun z => z)) k3 (by rw [e1]; exact hce) hcv hcl T' rfl X'
    exact ⟨t2, st.trans a1, b1⟩
end ZT
theorem z_sameI {D : va_G} {cl : List vw_C} {cI cZ cJ cA : ClassId} {s : State} (h : va_K D cl (zT cI cZ cJ ++ [(cA, .int)]) s) : cA = cI := by
  have h0 := (h.2 0 _ rfl).2
  have h3 := (h.2 2 _ rfl).2
  exact Option.some.inj (h3.symm.trans h0)
theorem z_sameZ {D : va_G} {cl : List vw_C} {cI cZ cJ cA : ClassId} {s : State} (h : va_K D cl (zT cI cZ cJ ++ [(cA, .boolean)]) s) : cA = cZ := by
  have h0 := (h.2 1 _ rfl).2
  have h3 := (h.2 2 _ rfl).2
  exact Option.some.inj (h3.symm.trans h0)
theorem zN_blind {av : List Value} : FrameBlind (va_Pc av (fun _ => True)) := fun _ _ _ _ q => ⟨q.1, trivial⟩
theorem zXs_blind {av : List Value} : FrameBlind (va_Pc av zX) := fun a U g mk q => ⟨q.1, zX_same (u := U) rfl rfl q.2⟩
/-- 'throw new E(text)' in a method that has changed nothing yet -/
theorem z_throw {p : Program} {l : Launch} {e : Env} {R : Room} {s : State} {m : MethodId} {args : Array Value} {below : List Frame} {meth : Method} {c : Code} {cc : ByteArray} {pc n : Nat} {ls : Array Slot} {rest : List Value} {Qc : Array Value → State → Outcome → State → Prop} {own cls text : String} {ik is ic sa : Nat} {Ts : List Cond}
    (hx : p.tables.exec = Jvm.exec) (hb : c.code = cc) (hl0 : l.stackTraces = false) (hown : s.vm.findClass own = some m.cls) (hcls : Bundle.fit cls = true)
    (hk : (Cond.classLink own ik cls).before args s = true) (hini : (Cond.initialized cls).before args s = true) (hstr : vk_R own is text sa s) (hts : ∀ w ∈ Ts, w.before args s = true)
    (hin : ∀ w ∈ (vx_atS own ic cls ["java/lang/RuntimeException", "java/lang/Exception"]).filter goodWord, w ∈ Ts) (hbad : (∀ w ∈ (vx_atS own ic cls ["java/lang/RuntimeException", "java/lang/Exception"]).filter (fun w => !goodWord w), w ∈ zBad) ∧ (vx_atS own ic cls ["java/lang/RuntimeException", "java/lang/Exception"]).all vx_ot = true) (hZ : ∀ w ∈ zBad, va_Nw w s)
    (hU : vx_Zq Bundle.tN "UNASSIGNED_STACK" Bundle.steD (fun _ => False) s s.heap) (hN : vx_Zq Bundle.tN "SUPPRESSED_SENTINEL" Bundle.listD (fun _ => False) s s.heap) (hsize : ls.size = n) (hml : c.maxLocals = n)
    (d0 : decode cc pc = .ok (.new ik, 3)) (d3 : decode cc (pc + 3) = .ok (.dup, 1)) (d4 : decode cc (pc + 4) = .ok (.ldc is, 2)) (d6 : decode cc (pc + 6) = .ok (.invokespecial ic, 3)) (d9 : decode cc (pc + 9) = .ok (.athrow, 1))
    (hout : ∀ x ∈ c.exceptionTable.toList, covers x (pc + 9) = false) (hRf : 6 ≤ R.frames) (hRl : (rest.map fun v => v.category).sum + 82 ≤ R.locals) (hRc : 1 ≤ R.cells) (hRs : 6 ≤ R.slots) (hlocks : meth.locks = false) :
    W p l e R s m args below meth c s.heap [] 0 0 (vx_MQ below Qc (zXC (fun E => E = cls)) args s 1 6 (fun _ => False)) (F0 m pc ls rest) := by
  refine vx_throwS (own := own) (cls := cls) (text := text) (names := ["java/lang/RuntimeException", "java/lang/Exception"]) (ik := ik) (is := is) (ic := ic) (sa := sa) (A := fun _ => False) hx hb hl0 hown hcls (by decide +kernel) hk hini hstr
    (vx_hat (B := zBad) (fun w hw => hts w (hin w hw)) hbad.1 (fun w hw => va_Nw.use (zBad_ot w hw) (hZ w hw))) (fun w hw => ?_) hU hN va_S.rf (hsize.trans hml.symm) d0 d3 d4 d6 d9 hout hRf hRl (by omega) (by omega) hlocks
    (fun t _ h1 h2 => ⟨(), trivial, rfl, h1, fun q hq _ => h2 q hq⟩) (fun z hz => nomatch hz) (by omega) (by omega)
  rcases List.mem_cons.mp hw with rfl | hw
  · rfl
  · rcases List.mem_cons.mp hw with rfl | hw
    · rfl
    · exact List.all_eq_true.mp hbad.2 w hw
