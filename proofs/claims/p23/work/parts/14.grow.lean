/-! GROWTH: the same throws, with a word that the heap has more cells behind them than before; the object as it was made -/
def zXG (sz : Nat) : String → State → State → Prop := vx_X (fun _ : Unit => True) (fun E _ t => E = "java/util/NoSuchElementException" ∧ sz < t.heap.size) (fun _ => False)
def zKX (D : va_G) (cI cZ cJ : ClassId) (sz : Nat) (w : va_W) (U : State) : Prop := U.heap.size = sz ∧ zPX D cI cZ cJ w U
theorem zKX_blind {av : List Value} {D : va_G} {cI cZ cJ : ClassId} {sz : Nat} {w : va_W} : FrameBlind (va_Pc av (zKX D cI cZ cJ sz w)) := fun a U g mk q => ⟨q.1, q.2.1, (zPX_blind a U g mk ⟨q.1, q.2.2⟩).2⟩
abbrev z0 : Nat → Int32 := fun _ => 0
abbrev zf4 : Nat → Int32 := q_fill (fun _ => -1) (fun _ => 0) 8
abbrev zf5 : Nat → Int32 := q_fill nI (fun _ => 0) 8
abbrev w0 (cI cZ : ClassId) (h a0 a1 a2 a3 a4 a5 a6 a7 a8 a9 a10 : Nat) : va_W := wQ cI cZ h a0 a1 a2 a3 a4 a5 a6 a7 a8 a9 a10 z0 z0 z0 z0 zf4 zf5 z0 z0 z0 z0 z0 0 0 0 0
section ZG
variable {p : Program} {l : Launch} {e : Env} {R : Room} {s : State} {m : MethodId} {args : Array Value} {below : List Frame} {meth : Method} {c : Code} {H : Heap} {locs : List Loc} {cells slots : Nat} {Q : State → Prop}
variable {Qc : Array Value → State → Outcome → State → Prop} {pc : Nat} {ls : Array Slot} {st0 rest : List Value} {a : Array Value}
set_option maxHeartbeats 4000000 in
theorem zn_throwG {cc : ByteArray} {pc n : Nat} {ls : Array Slot} {rest : List Value} {Qc : Array Value → State → Outcome → State → Prop} {own text : String} {ik is ic sa : Nat} {Ts : List Cond}
    (hx : p.tables.exec = Jvm.exec) (hb : c.code = cc) (hl0 : l.stackTraces = false) (hown : s.vm.findClass own = some m.cls)
    (hk : (Cond.classLink own ik zn_X).before args s = true) (hini : (Cond.initialized zn_X).before args s = true) (hstr : vk_R own is text sa s) (hts : ∀ w ∈ Ts, w.before args s = true)
    (hin : (∀ w ∈ ((zn_ats own ic).filter vx_no).filter goodWord, w ∈ Ts) ∧ (∀ w ∈ ((zn_ats own ic).filter vx_no).filter (fun w => !goodWord w), w ∈ zBad) ∧ ((zn_ats own ic).filter vx_no).all vx_ot = true) (hZ : ∀ w ∈ zBad, va_Nw w s)
    (hU : vx_Zq Bundle.tN "UNASSIGNED_STACK" Bundle.steD (fun _ => False) s s.heap) (hN : vx_Zq Bundle.tN "SUPPRESSED_SENTINEL" Bundle.listD (fun _ => False) s s.heap) (hsize : ls.size = n) (hml : c.maxLocals = n)
    (d0 : decode cc pc = .ok (.new ik, 3)) (d3 : decode cc (pc + 3) = .ok (.dup, 1)) (d4 : decode cc (pc + 4) = .ok (.ldc is, 2)) (d6 : decode cc (pc + 6) = .ok (.invokespecial ic, 3)) (d9 : decode cc (pc + 9) = .ok (.athrow, 1))
    (hout : ∀ x ∈ c.exceptionTable.toList, covers x (pc + 9) = false) (hRf : 6 ≤ R.frames) (hRl : (rest.map fun v => v.category).sum + 82 ≤ R.locals) (hRc : 1 ≤ R.cells) (hRs : 6 ≤ R.slots) (hlocks : meth.locks = false) :
    W p l e R s m args below meth c s.heap [] 0 0 (vx_MQ below Qc (zXG s.heap.size) args s 1 6 (fun _ => False)) (F0 m pc ls rest) := by
  intro T hT X
  have htr : e.platform.stackTraces = false := (show e.platform.stackTraces = l.stackTraces by rw [X.admits.platform]).trans hl0
  have Y := vx_rebase X (R' := { frames := R.frames, locals := R.locals, cells := 1, slots := 6 }) (Nat.le_refl _) (Nat.le_refl _) (by show 0 + 1 ≤ R.cells; omega) (by show 0 + 6 ≤ R.slots; omega)
  obtain ⟨s', hA⟩ : ∃ z, z = (T.setVm s.vm).setFrames (.invoking m args :: below) := ⟨_, rfl⟩
  rw [← hA] at Y
  have hvm : s'.vm = s.vm := by rw [hA]; rfl
  have hhp : s'.heap = s.heap := by rw [hA]; exact hT
  have hW0 : s.WarmedH s'.vm := by rw [hvm]; exact State.WarmedH.refl s
  have hat : ∀ w ∈ (zn_ats own ic).filter vx_no, w.before args s = true := vx_hat (B := zBad) (fun w hw => hts w (hin.1 w hw)) hin.2.1 (fun w hw => va_Nw.use (zBad_ot w hw) (hZ w hw))
  have hat' : ∀ w ∈ (zn_ats own ic).filter vx_no, w.before args s' = true := fun w hw => vx_ot_at hW0 hvm.symm (List.all_eq_true.mp hin.2.2 w hw) (hat w hw)
  have hk' : (Cond.classLink own ik zn_X).before args s' = true := vx_ot_at hW0 hvm.symm rfl hk
  have hini' : (Cond.initialized zn_X).before args s' = true := vx_ot_at hW0 hvm.symm rfl hini
  have hU' : vx_Zq Bundle.tN "UNASSIGNED_STACK" Bundle.steD (fun _ => False) s' s'.heap := by rw [hhp]; exact vx_Zq.moved hW0.alike hU
  have hN' : vx_Zq Bundle.tN "SUPPRESSED_SENTINEL" Bundle.listD (fun _ => False) s' s'.heap := by rw [hhp]; exact vx_Zq.moved hW0.alike hN
  have h : ∀ w ∈ zn_ats own ic, w.before args s' = true := vx_own hat' (vx_isRefq hU'.1) (vx_isRefq hN'.1) hU'.2.word hN'.2.word
  have hown' : s'.vm.findClass own = some m.cls := by rw [hvm]; exact hown
  have hins : (Cond.instantiable zn_X 6).before args s' = true := h _ (by simp [zn_ats])
  obtain ⟨vm₁, cX, kX, hfX, hkX, -, -, X₁, st1⟩ := Y.newCold hx (own := own) (C := zn_X) (index := ik) (n := 6) hown' hk' hins hini'
    (g := F0 m pc ls rest) rfl (by rw [hb]; exact d0) (Nat.le_refl _) (Nat.le_refl _)
  generalize hT1 : (T.setVm vm₁).pushCell { cls := cX, slots := kX.instanceTypes.map defaultValue, vm := .none } = T1 at X₁ st1
  have hcat : (Value.ref T.heap.size).category = 1 := rfl
  have hcellA : T1.heap[T.heap.size]? = some (freshCell cX kX) := by rw [← hT1]; exact State.heap_pushCell_size _ _
  have d3' : decode c.code (pc + 3) = .ok (.dup, 1) := by rw [hb]; exact d3
  have d4' : decode c.code (pc + 4) = .ok (.ldc is, 2) := by rw [hb]; exact d4
  have hstr' : vk_R own is text sa s' := vk_R.warm hW0 hstr
  obtain ⟨U, hsteps, hrun, hend, hW, hsame, ce, hce, hceC, hceV⟩ := zn_ctor X₁ hx htr (own := own) (ic := ic) hown' h (fun x hx => nomatch hx) hfX hkX hcellA (by rw [hhp, hT]; exact Nat.le_refl _) (msg := .ref sa) rfl
    (g := { method := m, pc := pc + 6, locals := ls, stack := .ref sa :: .ref T.heap.size :: .ref T.heap.size :: rest, locked := none }) rfl (hsize.trans hml.symm) rfl rfl (rest := rest) rfl
    (by rw [hb]; exact d6) (by rw [hb]; exact d9) hout hRf (by simp only [List.map_cons, List.sum_cons, hcat]; show 2 * 0 + (1 + _) + 81 ≤ R.locals; omega) hlocks
  have hbig : s.heap.size < U.heap.size := by rw [← hT]; exact (Array.getElem?_eq_some_iff.mp hce).1
  obtain ⟨f1, f2⟩ := vx_frame hsame
  rw [hhp] at f1 f2
  have hWs : s.WarmedH U.vm := State.WarmedH.trans hW0 hW
  have hcl : s.vm.findClass "java/util/NoSuchElementException" = some ce.cls := by
    rw [hvm] at hfX
    rw [hceC]; exact hfX
  have hall : s.sameButNew ({ U with vm := s.vm } : State) [] 1 6 := by
    subst hA
    obtain ⟨e1, e2⟩ := hsame
    rw [State.setFrames_setFrames] at e1
    have h2 : (T.setVm s.vm).sameButNew ({ U with vm := s.vm } : State) [] (0 + 1) (0 + 6) := ⟨e1, e2⟩
    have h3 := X.same.trans h2
    rw [List.append_nil] at h3
    exact h3.mono (by omega) (by omega)
  refine ⟨U, ?_, .threw T.heap.size, hrun, hend, Or.inr ⟨T.heap.size, rfl, "java/util/NoSuchElementException", ce, [], ⟨(), trivial, ⟨rfl, hbig⟩, f1, fun q hq _ => f2 q hq (fun z hz => nomatch hz)⟩, hce, hceV, hcl, hWs, hall, fun z hz => nomatch hz⟩⟩
  refine st1 _ ?_
  show Steps p.tables e below (T1.setTop { method := m, pc := pc + 3, locals := ls, stack := .ref T.heap.size :: rest, locked := none }) _
  jvm_step X₁.here [X₁.here.top, hx, d3', Value.category]
  exact X₁.ldcString hx (own := own) (text := text) (index := is) (a := sa) hown' hstr'.1 hstr'.2
    (g := { method := m, pc := pc + 4, locals := ls, stack := .ref T.heap.size :: .ref T.heap.size :: rest, locked := none }) rfl d4' _ hsteps
theorem z_thruG {free : Addr → Prop} (hr : vx_Run p l e R s m args below meth c s.heap [] 0 0 1 6 (F0 m pc ls st0) rest (zNo a) (zXG s.heap.size) free) (hf : ∀ q, free q → False) (hout : ∀ x ∈ c.exceptionTable.toList, False) (hlocks : meth.locks = false) :
    W p l e R s m args below meth c s.heap [] 0 0 (vx_MQ below Qc (zXG s.heap.size) args s 1 6 (fun _ => False)) (F0 m pc ls st0) := by
  intro T hT X
  rcases hr T hT X with ⟨v, st₀, t, T', L, h0, X', hL, e1, e2, hn, st⟩ | ⟨q, st₀, t, T', L, E, ce, h0, X', hL, e1, e2, ⟨u, hp, hb, hF⟩, hce, hcv, hcl, st⟩
  · exact hn.elim
  · obtain ⟨t2, a1, b1⟩ := vx_out (p := p) (l := l) (e := e) (R := R) (s := s) (m := m) (args := args) (below := below) (meth := meth) (c := c) (H := T'.heap) (Qc := Qc) (XC := zXG s.heap.size) (free := fun _ => False) (ls := ls) (rest := rest) (pc := pc) (E := E) (q := q) (ce := ce) (locs := [] ++ L) (cells := 0 + 1) (slots := 0 + 6) (mc := 1) (ms := 6)
      (fun x hx => (hout x hx).elim) hlocks (by rw [e1]; exact hce) hcv hcl (fun t9 ht9 _ => ⟨(), trivial, ⟨hb.1, by rw [ht9, e1]; exact hb.2⟩, by rw [ht9, e1, ← h0]; exact hF.1, fun q9 h9 z9 => by rw [ht9, e1, ← h0]; exact hF.2 q9 (by rw [h0]; exact h9) z9⟩)
      (fun z hz => hf _ (hL z (by simpa using hz))) (by omega) (by omega) T' rfl X'
    exact ⟨t2, st.trans a1, b1⟩
theorem z_catchG {sz : Nat} {A0 : Nat → Prop} {H0 : Heap} {free : Addr → Prop} (hr : vx_Run p l e R s m args below meth c H locs cells slots 1 6 (F0 m pc ls st0) rest (zNo a) (zXG sz) free) (hf : ∀ q, free q → False) (hS : va_S A0 H0 H locs)
    (kx : ∀ (E : String) (ce : Cell) (q9 : Addr) (H1 : Heap) (locs1 : List Loc), E = "java/util/NoSuchElementException" → sz < H1.size → (∀ q : Nat, q < H.size → H1[q]? = H[q]?) → va_S A0 H0 H1 locs1 → H1[q9]? = some ce → ce.vm = .none → s.vm.findClass E = some ce.cls → vx_W p l e R s m args below meth c H1 locs1 (cells + 1) (slots + 6) Q (F0 m pc ls rest) q9) :
    W p l e R s m args below meth c H locs cells slots Q (F0 m pc ls st0) := by
  intro T hT X
  rcases hr T hT X with ⟨v, st₀, t, T', L, h0, X', hL, e1, e2, hn, st⟩ | ⟨q, st₀, t, T', L, E, ce, h0, X', hL, e1, e2, ⟨u, hp, hb, hF⟩, hce, hcv, hcl, st⟩
  · exact hn.elim
  · obtain ⟨k1, k2, k3⟩ := vx_keep h0 e1 hS (fun _ _ z => z.elim) (fun q z => (hf q z).elim) hL hF
    obtain ⟨t2, a1, b1⟩ := kx E ce q T'.heap (locs ++ L) hb.1 (by rw [e1]; exact hb.2) (fun q h1 => k2 q h1 (fun z => z)) k3 (by rw [e1]; exact hce) hcv hcl T' rfl X'
    exact ⟨t2, st.trans a1, b1⟩
end ZG
