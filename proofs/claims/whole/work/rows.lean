section
-- ===== PART A: goes FIRST, ahead of the names: the tables' words, and 'selects' of the private methods out of them =====
/-- a private method of a class that the tables say can be made, by its rows of tables_1 -/
def lw_okq (q : MethodName × Nat) : Prop := (q.1.cls ≠ "java/lang/invoke/MethodHandle" ∧ q.1.cls ≠ "java/lang/invoke/VarHandle") ∧ Cond.instantiable q.1.cls q.2 ∈ tables_1 ∧ Cond.privateMethod q.1 ∈ tables_1 ∧ Cond.instanceMethod q.1 ∈ tables_1
theorem lw_p0 : lw_okq (⟨"java/lang/Throwable", "fillInStackTrace", "(I)Ljava/lang/Throwable;"⟩, 6) := ⟨⟨by decide +kernel, by decide +kernel⟩, List.mem_of_getElem? (i := 139) (by decide +kernel), List.mem_of_getElem? (i := 137) (by decide +kernel), List.mem_of_getElem? (i := 138) (by decide +kernel)⟩
theorem lw_p1 : lw_okq (⟨"Quorumfund", "leadsTo", "(II)Z"⟩, 15) := ⟨⟨by decide +kernel, by decide +kernel⟩, List.mem_of_getElem? (i := 12) (by decide +kernel), List.mem_of_getElem? (i := 219) (by decide +kernel), List.mem_of_getElem? (i := 220) (by decide +kernel)⟩
theorem lw_p2 : lw_okq (⟨"Quorumfund", "firstVoterFrom", "(I)I"⟩, 15) := ⟨⟨by decide +kernel, by decide +kernel⟩, List.mem_of_getElem? (i := 12) (by decide +kernel), List.mem_of_getElem? (i := 289) (by decide +kernel), List.mem_of_getElem? (i := 290) (by decide +kernel)⟩
theorem lw_p3 : lw_okq (⟨"Quorumfund", "heardVote", "(I)I"⟩, 15) := ⟨⟨by decide +kernel, by decide +kernel⟩, List.mem_of_getElem? (i := 12) (by decide +kernel), List.mem_of_getElem? (i := 301) (by decide +kernel), List.mem_of_getElem? (i := 302) (by decide +kernel)⟩
theorem lw_p4 : lw_okq (⟨"Quorumfund", "requireCovered", "()V"⟩, 15) := ⟨⟨by decide +kernel, by decide +kernel⟩, List.mem_of_getElem? (i := 12) (by decide +kernel), List.mem_of_getElem? (i := 313) (by decide +kernel), List.mem_of_getElem? (i := 314) (by decide +kernel)⟩
theorem lw_p5 : lw_okq (⟨"Quorumfund", "isCovered", "()Z"⟩, 15) := ⟨⟨by decide +kernel, by decide +kernel⟩, List.mem_of_getElem? (i := 12) (by decide +kernel), List.mem_of_getElem? (i := 317) (by decide +kernel), List.mem_of_getElem? (i := 318) (by decide +kernel)⟩
theorem lw_p6 : lw_okq (⟨"Quorumfund", "findShares", "(I)V"⟩, 15) := ⟨⟨by decide +kernel, by decide +kernel⟩, List.mem_of_getElem? (i := 12) (by decide +kernel), List.mem_of_getElem? (i := 338) (by decide +kernel), List.mem_of_getElem? (i := 339) (by decide +kernel)⟩
theorem lw_p7 : lw_okq (⟨"Quorumfund", "currentMatch", "()I"⟩, 15) := ⟨⟨by decide +kernel, by decide +kernel⟩, List.mem_of_getElem? (i := 12) (by decide +kernel), List.mem_of_getElem? (i := 352) (by decide +kernel), List.mem_of_getElem? (i := 353) (by decide +kernel)⟩
theorem lw_p8 : lw_okq (⟨"Quorumfund", "findRoots", "()V"⟩, 15) := ⟨⟨by decide +kernel, by decide +kernel⟩, List.mem_of_getElem? (i := 12) (by decide +kernel), List.mem_of_getElem? (i := 356) (by decide +kernel), List.mem_of_getElem? (i := 357) (by decide +kernel)⟩
theorem lw_p9 : lw_okq (⟨"Quorumfund", "partOf", "(I)I"⟩, 15) := ⟨⟨by decide +kernel, by decide +kernel⟩, List.mem_of_getElem? (i := 12) (by decide +kernel), List.mem_of_getElem? (i := 360) (by decide +kernel), List.mem_of_getElem? (i := 361) (by decide +kernel)⟩
theorem lw_p10 : lw_okq (⟨"Quorumfund", "squareOfSum", "()I"⟩, 15) := ⟨⟨by decide +kernel, by decide +kernel⟩, List.mem_of_getElem? (i := 12) (by decide +kernel), List.mem_of_getElem? (i := 367) (by decide +kernel), List.mem_of_getElem? (i := 368) (by decide +kernel)⟩
theorem lw_p11 : lw_okq (⟨"Quorumfund", "withinPot", "(I)I"⟩, 15) := ⟨⟨by decide +kernel, by decide +kernel⟩, List.mem_of_getElem? (i := 12) (by decide +kernel), List.mem_of_getElem? (i := 371) (by decide +kernel), List.mem_of_getElem? (i := 372) (by decide +kernel)⟩
theorem lw_p12 : lw_okq (⟨"Quorumfund", "squareByPairs", "()I"⟩, 15) := ⟨⟨by decide +kernel, by decide +kernel⟩, List.mem_of_getElem? (i := 12) (by decide +kernel), List.mem_of_getElem? (i := 388) (by decide +kernel), List.mem_of_getElem? (i := 389) (by decide +kernel)⟩
theorem lw_p13 : lw_okq (⟨"Quorumfund", "payShares", "()V"⟩, 15) := ⟨⟨by decide +kernel, by decide +kernel⟩, List.mem_of_getElem? (i := 12) (by decide +kernel), List.mem_of_getElem? (i := 402) (by decide +kernel), List.mem_of_getElem? (i := 403) (by decide +kernel)⟩
theorem lw_p14 : lw_okq (⟨"Quorumfund", "clearVotes", "()V"⟩, 15) := ⟨⟨by decide +kernel, by decide +kernel⟩, List.mem_of_getElem? (i := 12) (by decide +kernel), List.mem_of_getElem? (i := 406) (by decide +kernel), List.mem_of_getElem? (i := 407) (by decide +kernel)⟩
theorem lw_p15 : lw_okq (⟨"QuorumfundModel", "goes", "(I)Z"⟩, 12) := ⟨⟨by decide +kernel, by decide +kernel⟩, List.mem_of_getElem? (i := 410) (by decide +kernel), List.mem_of_getElem? (i := 468) (by decide +kernel), List.mem_of_getElem? (i := 469) (by decide +kernel)⟩
def lw_privs_1 : List (MethodName × Nat) := [(⟨"java/lang/Throwable", "fillInStackTrace", "(I)Ljava/lang/Throwable;"⟩, 6), (⟨"Quorumfund", "leadsTo", "(II)Z"⟩, 15), (⟨"Quorumfund", "firstVoterFrom", "(I)I"⟩, 15), (⟨"Quorumfund", "heardVote", "(I)I"⟩, 15), (⟨"Quorumfund", "requireCovered", "()V"⟩, 15), (⟨"Quorumfund", "isCovered", "()Z"⟩, 15), (⟨"Quorumfund", "findShares", "(I)V"⟩, 15), (⟨"Quorumfund", "currentMatch", "()I"⟩, 15), (⟨"Quorumfund", "findRoots", "()V"⟩, 15), (⟨"Quorumfund", "partOf", "(I)I"⟩, 15), (⟨"Quorumfund", "squareOfSum", "()I"⟩, 15), (⟨"Quorumfund", "withinPot", "(I)I"⟩, 15), (⟨"Quorumfund", "squareByPairs", "()I"⟩, 15), (⟨"Quorumfund", "payShares", "()V"⟩, 15), (⟨"Quorumfund", "clearVotes", "()V"⟩, 15), (⟨"QuorumfundModel", "goes", "(I)Z"⟩, 12)]
theorem lw_r1 : ∀ q ∈ lw_privs_1, lw_okq q := List.forall_mem_cons.mpr ⟨lw_p0, List.forall_mem_cons.mpr ⟨lw_p1, List.forall_mem_cons.mpr ⟨lw_p2, List.forall_mem_cons.mpr ⟨lw_p3, List.forall_mem_cons.mpr ⟨lw_p4, List.forall_mem_cons.mpr ⟨lw_p5, List.forall_mem_cons.mpr ⟨lw_p6, List.forall_mem_cons.mpr ⟨lw_p7, List.forall_mem_cons.mpr ⟨lw_p8, List.forall_mem_cons.mpr ⟨lw_p9, List.forall_mem_cons.mpr ⟨lw_p10, List.forall_mem_cons.mpr ⟨lw_p11, List.forall_mem_cons.mpr ⟨lw_p12, List.forall_mem_cons.mpr ⟨lw_p13, List.forall_mem_cons.mpr ⟨lw_p14, List.forall_mem_cons.mpr ⟨lw_p15, fun _ h => absurd h List.not_mem_nil⟩⟩⟩⟩⟩⟩⟩⟩⟩⟩⟩⟩⟩⟩⟩⟩
theorem lw_p16 : lw_okq (⟨"QuorumfundModel", "isInRow", "(II)Z"⟩, 12) := ⟨⟨by decide +kernel, by decide +kernel⟩, List.mem_of_getElem? (i := 410) (by decide +kernel), List.mem_of_getElem? (i := 480) (by decide +kernel), List.mem_of_getElem? (i := 481) (by decide +kernel)⟩
theorem lw_p17 : lw_okq (⟨"QuorumfundModel", "all", "()I"⟩, 12) := ⟨⟨by decide +kernel, by decide +kernel⟩, List.mem_of_getElem? (i := 410) (by decide +kernel), List.mem_of_getElem? (i := 500) (by decide +kernel), List.mem_of_getElem? (i := 501) (by decide +kernel)⟩
theorem lw_p18 : lw_okq (⟨"QuorumfundModel", "hasCurrent", "()Z"⟩, 12) := ⟨⟨by decide +kernel, by decide +kernel⟩, List.mem_of_getElem? (i := 410) (by decide +kernel), List.mem_of_getElem? (i := 525) (by decide +kernel), List.mem_of_getElem? (i := 526) (by decide +kernel)⟩
theorem lw_p19 : lw_okq (⟨"QuorumfundModel", "speakerOf", "(I)I"⟩, 12) := ⟨⟨by decide +kernel, by decide +kernel⟩, List.mem_of_getElem? (i := 410) (by decide +kernel), List.mem_of_getElem? (i := 537) (by decide +kernel), List.mem_of_getElem? (i := 538) (by decide +kernel)⟩
theorem lw_p20 : lw_okq (⟨"QuorumfundModel", "weightOf", "(I)I"⟩, 12) := ⟨⟨by decide +kernel, by decide +kernel⟩, List.mem_of_getElem? (i := 410) (by decide +kernel), List.mem_of_getElem? (i := 545) (by decide +kernel), List.mem_of_getElem? (i := 546) (by decide +kernel)⟩
theorem lw_p21 : lw_okq (⟨"QuorumfundModel", "canGoOut", "()Z"⟩, 12) := ⟨⟨by decide +kernel, by decide +kernel⟩, List.mem_of_getElem? (i := 410) (by decide +kernel), List.mem_of_getElem? (i := 553) (by decide +kernel), List.mem_of_getElem? (i := 554) (by decide +kernel)⟩
theorem lw_p22 : lw_okq (⟨"QuorumfundModel", "laysShares", "()V"⟩, 12) := ⟨⟨by decide +kernel, by decide +kernel⟩, List.mem_of_getElem? (i := 410) (by decide +kernel), List.mem_of_getElem? (i := 557) (by decide +kernel), List.mem_of_getElem? (i := 558) (by decide +kernel)⟩
theorem lw_p23 : lw_okq (⟨"QuorumfundModel", "matchNow", "()I"⟩, 12) := ⟨⟨by decide +kernel, by decide +kernel⟩, List.mem_of_getElem? (i := 410) (by decide +kernel), List.mem_of_getElem? (i := 565) (by decide +kernel), List.mem_of_getElem? (i := 566) (by decide +kernel)⟩
theorem lw_p24 : lw_okq (⟨"QuorumfundModel", "matched", "()I"⟩, 12) := ⟨⟨by decide +kernel, by decide +kernel⟩, List.mem_of_getElem? (i := 410) (by decide +kernel), List.mem_of_getElem? (i := 569) (by decide +kernel), List.mem_of_getElem? (i := 570) (by decide +kernel)⟩
def lw_privs_2 : List (MethodName × Nat) := [(⟨"QuorumfundModel", "isInRow", "(II)Z"⟩, 12), (⟨"QuorumfundModel", "all", "()I"⟩, 12), (⟨"QuorumfundModel", "hasCurrent", "()Z"⟩, 12), (⟨"QuorumfundModel", "speakerOf", "(I)I"⟩, 12), (⟨"QuorumfundModel", "weightOf", "(I)I"⟩, 12), (⟨"QuorumfundModel", "canGoOut", "()Z"⟩, 12), (⟨"QuorumfundModel", "laysShares", "()V"⟩, 12), (⟨"QuorumfundModel", "matchNow", "()I"⟩, 12), (⟨"QuorumfundModel", "matched", "()I"⟩, 12)]
theorem lw_r2 : ∀ q ∈ lw_privs_2, lw_okq q := List.forall_mem_cons.mpr ⟨lw_p16, List.forall_mem_cons.mpr ⟨lw_p17, List.forall_mem_cons.mpr ⟨lw_p18, List.forall_mem_cons.mpr ⟨lw_p19, List.forall_mem_cons.mpr ⟨lw_p20, List.forall_mem_cons.mpr ⟨lw_p21, List.forall_mem_cons.mpr ⟨lw_p22, List.forall_mem_cons.mpr ⟨lw_p23, List.forall_mem_cons.mpr ⟨lw_p24, fun _ h => absurd h List.not_mem_nil⟩⟩⟩⟩⟩⟩⟩⟩⟩
def lw_privs : List (MethodName × Nat) := lw_privs_1 ++ (lw_privs_2)
def lw_tbl : List Cond := k2_sels lw_privs ++ tables_1
theorem lw_privs_ok : ∀ q ∈ lw_privs, lw_okq q := by
  show ∀ q ∈ lw_privs_1 ++ (lw_privs_2), lw_okq q
  exact List.forall_mem_append.mpr ⟨lw_r1, lw_r2⟩
end
section
/-! ===== BEGIN words of one list among another's, by their places ===== -/
theorem goodIn_r {big : List Cond} (ws : List Cond) (ps : List Nat) (hp : ws = ps.filterMap (fun i => big[i]?)) (h : ws.all goodWord = true) : GoodIn big ws := by
  intro w hw
  have h1 := List.all_eq_true.mp h w hw
  rw [hp] at hw
  obtain ⟨i, -, hi⟩ := List.mem_filterMap.mp hw
  have hm : w ∈ big := by first | exact List.mem_of_getElem? hi | exact List.getElem?_mem hi
  exact ⟨hm, good_of_word h1⟩
theorem goodIn_app {big a b : List Cond} (ha : GoodIn big a) (hb : GoodIn big b) : GoodIn big (a ++ b) := fun w h => (List.mem_append.mp h).elim (ha w) (hb w)
theorem goodIn_ca {big a b : List Cond} {c : Cond} (ha : GoodIn big (c :: a)) (hb : GoodIn big b) : GoodIn big (c :: (a ++ b)) := fun w h => (List.mem_cons.mp h).elim (fun e => ha w (List.mem_cons.mpr (Or.inl e))) (fun h => (List.mem_append.mp h).elim (fun h => ha w (List.mem_cons.mpr (Or.inr h))) (hb w))
theorem goodIn_sub {big ws : List Cond} (hm : ∀ w ∈ ws, w ∈ big) (h : ws.all goodWord = true) : GoodIn big ws := fun w hw => ⟨hm w hw, good_of_word (List.all_eq_true.mp h w hw)⟩
/-! ===== END ===== -/

/-! ===== BEGIN exceptions that leave a method, and their catching by the caller (launches without stack traces) ===== -/
section VXA
/-! The laws vx_back, vx_callV, vx_callS, vx_callSW, vx_throw0, vx_throwS follow proofs of the library, with one case more: JvmDerived/Free/Laws.lean (Back.of_free), Shelf42/LK1.lean (callV, callS), Shelf/KitTraced.lean (throwNew0V, throwNewS). -/
/-- where a method has thrown q: the class by its name, the cell, what was written, the world -/
def vx_T (XC : String → State → State → Prop) (st : State) (q : Addr) (t : State) (mc ms : Nat) (free : Addr → Prop) : Prop :=
  ∃ (E : String) (ce : Cell) (L : List Loc), XC E st t ∧ t.heap[q]? = some ce ∧ ce.vm = .none ∧ st.vm.findClass E = some ce.cls ∧ st.WarmedH t.vm ∧ st.sameButNew ({ t with vm := st.vm } : State) L mc ms ∧ ∀ z ∈ L, free z.base
def vx_Q (Qc : Array Value → State → Outcome → State → Prop) (XC : String → State → State → Prop) (mc ms : Nat) (free : Addr → Prop) : Array Value → State → Outcome → State → Prop := fun a st o t =>
  (Qc a st o t ∧ ∃ L, FrameEnd st o t L mc ms ∧ ∀ q ∈ L, free q.base) ∨ ∃ q, o = .threw q ∧ vx_T XC st q t mc ms free
/-- a callee that returns or throws -/
def vx_Met (l : Launch) (y : MethodName) (ws : List Cond) (rm : Room) (Pc : Array Value → State → Prop) (Qc : Array Value → State → Outcome → State → Prop) (XC : String → State → State → Prop) (mc ms : Nat) (free : Addr → Prop) : Prop :=
  MetFree l y (headSpec ws rm) Pc (fun _ _ _ _ _ => True) (vx_Q Qc XC mc ms free)
def vx_Post (XC : String → State → State → Prop) (mc ms : Nat) (free : Addr → Prop) : Pt → Array Value → Addr → Pt → Prop := fun A a q B =>
  ∃ (g : JFrame) (mk : MethodId) (t : State) (L : List Loc) (E : String) (ce : Cell), B.U.heap = t.heap ∧ B.U.vm = t.vm ∧ XC E (A.U.calling g mk a) t ∧ t.heap[q]? = some ce ∧ ce.vm = .none ∧ A.U.vm.findClass E = some ce.cls ∧ B.locs = A.locs ++ L ∧ (∀ z ∈ L, free z.base) ∧ B.cells = A.cells + mc ∧ B.slots = A.slots + ms
def vx_Back (l : Launch) (R : Room) (p : Program) (e : Env) (below : List Frame) (s : State) (sargs : Array Value) (y : MethodName) (len W9 : Nat)
    (Pre : Pt → Array Value → Prop) (Post : Pt → Array Value → Option Value → Pt → Prop) (PostX : Pt → Array Value → Addr → Pt → Prop) : Prop :=
  ∀ (m : MethodId) (meth : Method) (c : Code) (A : Pt) (g : JFrame) (ig : Instr) (mk : MethodId) (a : Array Value),
    Stand p l e R s m sargs below meth c A.U A.locs A.cells A.slots → g.method = m → g.locals.size = c.maxLocals → decode c.code g.pc = .ok (ig, len) →
    2 * g.monitorRoom + (g.stack.map fun v => v.category).sum ≤ W9 → A.U.methodNamed? y = some mk → Pre A a →
    (∃ (v : Option Value) (B : Pt), Stand p l e R s m sargs below meth c B.U B.locs B.cells B.slots ∧ Post A a v B ∧
      Steps p.tables e below (doInvoke e (A.U.setTop g) [] mk a).1 (B.U.setTop { g with pc := g.pc + len, stack := v.toList ++ g.stack })) ∨
    (∃ (q : Addr) (B : Pt), Stand p l e R s m sargs below meth c B.U B.locs B.cells B.slots ∧ PostX A a q B ∧
      Steps p.tables e below (doInvoke e (A.U.setTop g) [] mk a).1 ((B.U.setTop g).pushFrame (.throwing q)))
section Payer
variable {l : Launch} {R : Room} {p : Program} {e : Env} {below : List Frame} {s : State} {sargs : Array Value} {y : MethodName} {len W9 : Nat}
theorem vx_back {ws : List Cond} {rm : Room} {Pc : Array Value → State → Prop} {Qc : Array Value → State → Outcome → State → Prop} {XC : String → State → State → Prop} {mc ms : Nat} {free : Addr → Prop} {bytes : ByteArray} {maxL : Nat} {ret : Option FieldType}
    (hM : vx_Met l y ws rm Pc Qc XC mc ms free) (hblind : FrameBlind Pc) (hrc : rm.cells = mc) (hrs : rm.slots = ms)
    (hframes : rm.frames + 1 ≤ R.frames) (hlocals : W9 + (maxL + 11) + rm.locals ≤ R.locals)
    (hws : ∀ w ∈ ws, ∀ a' U, s.WarmedH U.vm → w.before a' U = true) (hcode : Cond.code y bytes maxL ret ∈ ws) (hinit : ∀ a' U, s.WarmedH U.vm → (Cond.initialized y.cls).before a' U = true) :
    vx_Back l R p e below s sargs y len W9 (PreOf R mc ms Pc) (PostOf Qc mc ms free) (vx_Post XC mc ms free) := by
  intro m meth c A g ig mk a X hg hsize hdg hW hn hp
  have h1 : (headSpec ws rm).pre.before a A.U = true := atoms_intro fun w hw => hws w hw _ _ X.warmed
  have h2 : (Cond.code y bytes maxL ret).before a A.U = true := hws _ hcode _ _ X.warmed
  have h3 : (Cond.initialized y.cls).before a A.U = true := hinit _ _ X.warmed
  have h4 : A.cells + (headSpec ws rm).room.cells ≤ R.cells := by rw [show (headSpec ws rm).room.cells = mc from hrc]; exact hp.1
  have h5 : A.slots + (headSpec ws rm).room.slots ≤ R.slots := by rw [show (headSpec ws rm).room.slots = ms from hrs]; exact hp.2.1
  have hPc : Pc a (A.U.calling g mk a) := hblind _ _ _ _ hp.2.2
  obtain ⟨U, Ls, c0, s0⟩ := A
  dsimp only [Pt.U, Pt.locs, Pt.cells, Pt.slots] at h1 h2 h3 h4 h5 X hn hPc ⊢
  obtain ⟨methY, cY, hmY, hcY, -, hlY, -, -, -, -⟩ := Cond.code_spec hn h2
  obtain ⟨kY, hkY, -⟩ := className_of_methodNamed hn
  have hinitY : kY.init = .initialized := Cond.initialized_spec (findClass_of_methodNamed hn) hkY h3
  have h : At U g.method c below := by rw [hg]; exact X.here
  have hlocals9 : W9 + (maxL + 11) + (headSpec ws rm).room.locals ≤ R.locals := hlocals
  have happ : (headSpec ws rm).appliesLoose y e.platform (U.calling g mk a) = true :=
    Spec.appliesLoose_calling (g := g) h hdg hn hkY hinitY
      (X.room_calling (g := g) (R' := (headSpec ws rm).room) hsize hmY hcY hframes (by rw [hlY]; omega) h4 h5) h1
  obtain ⟨mid, hmid⟩ := h.above
  have hfr : (U.setTop g).frames = (.java g :: mid) ++ below := by rw [State.frames_setTop' g h.top, hmid]; rfl
  obtain ⟨o, s₂, hsteps, -, hend, hq⟩ := Steps.callFree hM p X.admits X.cas X.clock (acts := []) hfr happ hPc trivial
  have hq' : vx_Q Qc XC mc ms free a (U.calling g mk a) o s₂ := hq
  rw [State.frames_setTop' g h.top] at hend
  obtain ⟨g₀, hg0⟩ := Option.isSome_iff_exists.mp h.top
  obtain ⟨r, hr⟩ := State.topJava?_eq_some.mp hg0
  have hr' : (({ U with heap := s₂.heap, slotsUsed := s₂.slotsUsed } : State).setVm s₂.vm).frames = .java g₀ :: r := hr
  rcases hq' with ⟨hqc, L, hfe, hL⟩ | ⟨q, rfl, E, ce, L, hx, hce, hcv, hcl, hW₂, hsm, hL⟩
  · obtain ⟨⟨v, rfl⟩, hW₂, e2, q2, q3, q4, q5, q6⟩ := id hfe
    have e3 : s₂ = ({ (U.calling g mk a).setFrames s₂.frames with heap := s₂.heap, slotsUsed := s₂.slotsUsed } : State).setVm s₂.vm := by
      have : s₂ = ({ s₂ with vm := (U.calling g mk a).vm } : State).setVm s₂.vm := rfl
      rw [e2] at this
      exact this
    obtain ⟨c₂, i₂, len₂, hc₂, hd₂, hf₂⟩ := hend
    have hW' : U.WarmedH s₂.vm := hW₂
    have hcc : c₂ = c := by
      have h1 : s₂.code? g.method = U.code? g.method := by
        rw [State.code?_eq, State.code?_eq, hW'.alike.method?]
      exact Option.some.inj (hc₂.symm.trans (h1.trans h.code))
    subst hcc
    have hlen : len₂ = len := by rw [hdg] at hd₂; cases hd₂; rfl
    subst hlen
    have hs₂ : s₂ = (({ U with heap := s₂.heap, slotsUsed := s₂.slotsUsed } : State).setVm s₂.vm).setTop { g with pc := g.pc + len₂, stack := v.toList ++ g.stack } := by
      refine e3.trans ?_
      rw [hf₂, State.calling_eq h.top, State.setFrames_setFrames, State.setTop_of_frames _ hr', hr]
      rfl
    have hsame : U.sameButNew ({ U with heap := s₂.heap, slotsUsed := s₂.slotsUsed } : State) L mc ms := by
      refine ⟨?_, q2, q3, q4, q5, q6⟩
      obtain ⟨t, ht, -⟩ := State.frames_cons hr
      show ({ U with heap := s₂.heap, slotsUsed := s₂.slotsUsed } : State) = { U.setFrames U.frames with heap := s₂.heap, slotsUsed := s₂.slotsUsed }
      rw [State.setFrames_self ht]
    subst hg
    refine Or.inl ⟨v, ⟨(({ U with heap := s₂.heap, slotsUsed := s₂.slotsUsed } : State).setVm s₂.vm), Ls ++ L, c0 + mc, s0 + ms⟩,
      ⟨X.admits, X.cas, X.clock, X.frames, X.room, X.hears, X.method, X.code, (X.here.setHeapUsed s₂.heap s₂.slotsUsed).setVm hW'.alike, X.tail, State.WarmedH.trans X.warmed hW', X.limits, X.bytes, X.same.trans (hsame.setVm s.vm)⟩,
      ⟨g, mk, s₂, L, rfl, rfl, hqc, rfl, hL, rfl, rfl⟩, ?_⟩
    show Steps p.tables e below _ ((({ U with heap := s₂.heap, slotsUsed := s₂.slotsUsed } : State).setVm s₂.vm).setTop { g with pc := g.pc + len₂, stack := v.toList ++ g.stack })
    rw [← hs₂]
    exact hsteps
  · obtain ⟨e2, q2, q3, q4, q5, q6⟩ := id hsm
    have e3 : s₂ = ({ (U.calling g mk a).setFrames s₂.frames with heap := s₂.heap, slotsUsed := s₂.slotsUsed } : State).setVm s₂.vm := by
      have : s₂ = ({ s₂ with vm := (U.calling g mk a).vm } : State).setVm s₂.vm := rfl
      rw [e2] at this
      exact this
    have hf₂ : s₂.frames = .throwing q :: .java g :: U.frames.tail := hend
    have hW' : U.WarmedH s₂.vm := hW₂
    have hs₂ : s₂ = ((({ U with heap := s₂.heap, slotsUsed := s₂.slotsUsed } : State).setVm s₂.vm).setTop g).pushFrame (.throwing q) := by
      refine e3.trans ?_
      rw [hf₂, State.calling_eq h.top, State.setFrames_setFrames, State.pushFrame, State.frames_setTop _ hr', State.setTop_of_frames _ hr', State.setFrames_setFrames, hr]
      rfl
    have hsame : U.sameButNew ({ U with heap := s₂.heap, slotsUsed := s₂.slotsUsed } : State) L mc ms := by
      refine ⟨?_, q2, q3, q4, q5, q6⟩
      obtain ⟨t, ht, -⟩ := State.frames_cons hr
      show ({ U with heap := s₂.heap, slotsUsed := s₂.slotsUsed } : State) = { U.setFrames U.frames with heap := s₂.heap, slotsUsed := s₂.slotsUsed }
      rw [State.setFrames_self ht]
    subst hg
    refine Or.inr ⟨q, ⟨(({ U with heap := s₂.heap, slotsUsed := s₂.slotsUsed } : State).setVm s₂.vm), Ls ++ L, c0 + mc, s0 + ms⟩,
      ⟨X.admits, X.cas, X.clock, X.frames, X.room, X.hears, X.method, X.code, (X.here.setHeapUsed s₂.heap s₂.slotsUsed).setVm hW'.alike, X.tail, State.WarmedH.trans X.warmed hW', X.limits, X.bytes, X.same.trans (hsame.setVm s.vm)⟩,
      ⟨g, mk, s₂, L, E, ce, rfl, rfl, hx, hce, hcv, hcl, rfl, hL, rfl, rfl⟩, ?_⟩
    show Steps p.tables e below _ (((({ U with heap := s₂.heap, slotsUsed := s₂.slotsUsed } : State).setVm s₂.vm).setTop g).pushFrame (.throwing q))
    rw [← hs₂]
    exact hsteps
end Payer
section Calls
variable {p : Program} {l : Launch} {e : Env} {R : Room} {s : State} {m : MethodId} {args : Array Value} {below : List Frame} {meth : Method} {c : Code} {T : State} {locs : List Loc} {cells slots : Nat}
theorem vx_callV (X : Stand p l e R s m args below meth c T locs cells slots) (hexec : p.tables.exec = Jvm.exec) {own C : String} {index : Nat} {y : MethodName} {bytes : ByteArray} {maxL : Nat} {ret : Option FieldType}
    (hown : s.vm.findClass own = some m.cls) (hlink : (Cond.methodLink own index y).before args s = true) (hinst : (Cond.instanceMethod y).before args s = true) (hsel : (Cond.selects C y y).before args s = true)
    (hcode : (Cond.code y bytes maxL ret).before args s = true) (hy : y.cls ≠ "java/lang/invoke/MethodHandle" ∧ y.cls ≠ "java/lang/invoke/VarHandle")
    {W9 : Nat} {Pre : Pt → Array Value → Prop} {Post : Pt → Array Value → Option Value → Pt → Prop} {PostX : Pt → Array Value → Addr → Pt → Prop} (hK : vx_Back l R p e below s args y 3 W9 Pre Post PostX)
    {b : Addr} {cellB : Cell} (hcell : T.heap[b]? = some cellB) (hobj : cellB.vm.isStatics = false) (hcls : s.vm.findClass C = some cellB.cls)
    {g : JFrame} (hg : g.method = m) (hsize : g.locals.size = c.maxLocals) {argsL rest : List Value} (hlen : ∀ sig, parseMethodDescriptor y.desc = some sig → argsL.length = sig.parameters.length)
    (hstack : g.stack = argsL.reverse ++ .ref b :: rest) (hW : 2 * g.monitorRoom + (rest.map fun v => v.category).sum ≤ W9) (hdg : decode c.code g.pc = .ok (.invokevirtual index, 3))
    (hpre : ∀ vm₁, s.WarmedH vm₁ → Pre ⟨T.setVm vm₁, locs, cells, slots⟩ (Value.ref b :: argsL).toArray) :
    (∃ (v : Option Value) (vm₁ : Vm) (B : Pt), s.WarmedH vm₁ ∧ Stand p l e R s m args below meth c B.U B.locs B.cells B.slots ∧ Post ⟨T.setVm vm₁, locs, cells, slots⟩ (Value.ref b :: argsL).toArray v B ∧
      ∀ target, Steps p.tables e below (B.U.setTop { g with pc := g.pc + 3, stack := v.toList ++ rest }) target → Steps p.tables e below (T.setTop g) target) ∨
    (∃ (q : Addr) (vm₁ : Vm) (B : Pt), s.WarmedH vm₁ ∧ Stand p l e R s m args below meth c B.U B.locs B.cells B.slots ∧ PostX ⟨T.setVm vm₁, locs, cells, slots⟩ (Value.ref b :: argsL).toArray q B ∧
      Steps p.tables e below (T.setTop g) ((B.U.setTop { g with stack := rest }).pushFrame (.throwing q))) := by
  obtain ⟨mk, methM, hnamed, hmethM, hstM, habM⟩ := Cond.instanceMethod_spec hinst
  obtain ⟨methM', cM, hmethM', -, -, -, -, -, -, hsigM⟩ := Cond.code_spec hnamed hcode
  cases hmethM.symm.trans hmethM'
  obtain ⟨c2, r2, m2, q1, q2, q3, q4, kP, hkP, hkPi⟩ := Cond.selects_spec hsel
  cases hcls.symm.trans q1
  cases (State.methodFound?_of_named hnamed hy).symm.trans q2
  cases hnamed.symm.trans q3
  have hselP : selectMethod e.platform s.vm cellB.cls mk = .method mk := by rw [Launch.admits_selectMethod X.admits]; exact q4
  obtain ⟨vm₁, X₁, hstep₁⟩ := X.invokevirtual hexec hown hlink hnamed hmethM hstM hkP hkPi hy (a := b) (cell := cellB) hcell
    (fun z h => by rw [h] at hobj; cases hobj) hselP hmethM habM hkP hkPi (g := g) hg (argsL := argsL) (rest := rest) (hlen _ hsigM) hstack hdg
  rcases hK m meth c ⟨T.setVm vm₁, locs, cells, slots⟩ { g with stack := rest } (.invokevirtual index) mk (Value.ref b :: argsL).toArray X₁ hg hsize hdg hW (X₁.named hnamed) (hpre vm₁ X₁.warmed) with ⟨v, B, X', hpost, hsteps⟩ | ⟨q, B, X', hpost, hsteps⟩
  · exact Or.inl ⟨v, vm₁, B, X₁.warmed, X', hpost, fun target h => hstep₁ _ fun acts => by rw [doInvoke_state]; exact hsteps.trans h⟩
  · exact Or.inr ⟨q, vm₁, B, X₁.warmed, X', hpost, hstep₁ _ fun acts => by rw [doInvoke_state]; exact hsteps⟩
theorem vx_callS (X : Stand p l e R s m args below meth c T locs cells slots) (hexec : p.tables.exec = Jvm.exec) {own : String} {index : Nat} {y : MethodName} {bytes : ByteArray} {maxL : Nat} {ret : Option FieldType}
    (hown : s.vm.findClass own = some m.cls) (hlink : (Cond.methodLink own index y).before args s = true) (hstat : (Cond.static y).before args s = true) (hinit : (Cond.initialized y.cls).before args s = true)
    (hcode : (Cond.code y bytes maxL ret).before args s = true) (hy : y.cls ≠ "java/lang/invoke/MethodHandle" ∧ y.cls ≠ "java/lang/invoke/VarHandle")
    {W9 : Nat} {Pre : Pt → Array Value → Prop} {Post : Pt → Array Value → Option Value → Pt → Prop} {PostX : Pt → Array Value → Addr → Pt → Prop} (hK : vx_Back l R p e below s args y 3 W9 Pre Post PostX)
    {g : JFrame} (hg : g.method = m) (hsize : g.locals.size = c.maxLocals) {argsL rest : List Value} (hlen : ∀ sig, parseMethodDescriptor y.desc = some sig → argsL.length = sig.parameters.length)
    (hstack : g.stack = argsL.reverse ++ rest) (hW : 2 * g.monitorRoom + (rest.map fun v => v.category).sum ≤ W9) (hdg : decode c.code g.pc = .ok (.invokestatic index, 3))
    (hpre : ∀ vm₁, s.WarmedH vm₁ → Pre ⟨T.setVm vm₁, locs, cells, slots⟩ argsL.toArray) :
    (∃ (v : Option Value) (vm₁ : Vm) (B : Pt), s.WarmedH vm₁ ∧ Stand p l e R s m args below meth c B.U B.locs B.cells B.slots ∧ Post ⟨T.setVm vm₁, locs, cells, slots⟩ argsL.toArray v B ∧
      ∀ target, Steps p.tables e below (B.U.setTop { g with pc := g.pc + 3, stack := v.toList ++ rest }) target → Steps p.tables e below (T.setTop g) target) ∨
    (∃ (q : Addr) (vm₁ : Vm) (B : Pt), s.WarmedH vm₁ ∧ Stand p l e R s m args below meth c B.U B.locs B.cells B.slots ∧ PostX ⟨T.setVm vm₁, locs, cells, slots⟩ argsL.toArray q B ∧
      Steps p.tables e below (T.setTop g) ((B.U.setTop { g with stack := rest }).pushFrame (.throwing q))) := by
  obtain ⟨mk, hnamed⟩ := Cond.code_named hcode
  obtain ⟨methM, cM, hmethM, -, -, -, -, -, -, hsigM⟩ := Cond.code_spec hnamed hcode
  have hstatic : methM.isStatic = true := Cond.static_spec hnamed hmethM hstat
  obtain ⟨kP, hkP, -⟩ := className_of_methodNamed hnamed
  have hinitP : kP.init = .initialized := Cond.initialized_spec (findClass_of_methodNamed hnamed) hkP hinit
  obtain ⟨vm₁, X₁, hstep₁⟩ := X.invokestatic hexec hown hlink hnamed hmethM hstatic hkP hinitP hy (g := g) hg (argsL := argsL) (rest := rest) (hlen _ hsigM) hstack hdg
  rcases hK m meth c ⟨T.setVm vm₁, locs, cells, slots⟩ { g with stack := rest } (.invokestatic index) mk argsL.toArray X₁ hg hsize hdg hW (X₁.named hnamed) (hpre vm₁ X₁.warmed) with ⟨v, B, X', hpost, hsteps⟩ | ⟨q, B, X', hpost, hsteps⟩
  · exact Or.inl ⟨v, vm₁, B, X₁.warmed, X', hpost, fun target h => hstep₁ _ fun acts => by rw [doInvoke_state]; exact hsteps.trans h⟩
  · exact Or.inr ⟨q, vm₁, B, X₁.warmed, X', hpost, hstep₁ _ fun acts => by rw [doInvoke_state]; exact hsteps⟩
end Calls
theorem vx_cls {s : State} {T : State} {vm₁ : Vm} {E : String} {k : ClassId} (hW : s.WarmedH vm₁) (h : (T.setVm vm₁).vm.findClass E = some k) : s.vm.findClass E = some k := by
  have h1 : vm₁.findClass E = some k := h
  rw [hW.alike.findClass] at h1
  exact h1
/-- the method's frame g, with q thrown over it -/
def vx_W (p : Program) (l : Launch) (e : Env) (R : Room) (s : State) (m : MethodId) (args : Array Value) (below : List Frame) (meth : Method) (c : Code) (H : Heap) (locs : List Loc) (cells slots : Nat) (Q : State → Prop) (g : JFrame) (q : Addr) : Prop :=
  ∀ T : State, T.heap = H → Stand p l e R s m args below meth c T locs cells slots → ∃ t, Steps p.tables e below ((T.setTop g).pushFrame (.throwing q)) t ∧ Q t
def vx_Run (p : Program) (l : Launch) (e : Env) (R : Room) (s : State) (m : MethodId) (args : Array Value) (below : List Frame) (meth : Method) (c : Code) (H : Heap) (locs : List Loc) (cells slots mc ms : Nat) (g : JFrame) (rest : List Value) (Qa : State → Outcome → State → Prop) (XC : String → State → State → Prop) (free : Addr → Prop) : Prop :=
  ∀ T : State, T.heap = H → Stand p l e R s m args below meth c T locs cells slots →
    (∃ (v : Option Value) (st₀ t T' : State) (L : List Loc), st₀.heap = H ∧ Stand p l e R s m args below meth c T' (locs ++ L) (cells + mc) (slots + ms) ∧ (∀ q ∈ L, free q.base) ∧ T'.heap = t.heap ∧ T'.vm = t.vm ∧ Qa st₀ (.returned v) t ∧
      Goes p e below T g T' { g with pc := g.pc + 3, stack := v.toList ++ rest }) ∨
    (∃ (q : Addr) (st₀ t T' : State) (L : List Loc) (E : String) (ce : Cell), st₀.heap = H ∧ Stand p l e R s m args below meth c T' (locs ++ L) (cells + mc) (slots + ms) ∧ (∀ z ∈ L, free z.base) ∧ T'.heap = t.heap ∧ T'.vm = t.vm ∧ XC E st₀ t ∧ t.heap[q]? = some ce ∧ ce.vm = .none ∧ s.vm.findClass E = some ce.cls ∧
      Steps p.tables e below (T.setTop g) ((T'.setTop { g with stack := rest }).pushFrame (.throwing q)))
def vx_X {S : Type} (px : S → Prop) (B : String → S → State → Prop) (A : Nat → Prop) : String → State → State → Prop := fun E st t => ∃ u : S, px u ∧ B E u t ∧ va_F A st t
section Runs
variable {p : Program} {l : Launch} {e : Env} {R : Room} {s : State} {m : MethodId} {args : Array Value} {below : List Frame} {meth : Method} {c : Code} {H : Heap} {locs : List Loc} {cells slots : Nat}
variable {y : MethodName} {bytes cc : ByteArray} {maxL nL mc ms n index : Nat} {ret : Option FieldType} {ws : List Cond} {rm : Room} {Pc : Array Value → State → Prop} {Qc : Array Value → State → Outcome → State → Prop} {XC : String → State → State → Prop} {free : Addr → Prop} {Ts : List Cond} {own C : String} {b : Addr} {As rest : List Value} {g : JFrame}
theorem vx_callBack (cb : CallB R s args own index y bytes maxL ret ws rm mc ms n) (hM : vx_Met l y ws rm Pc Qc XC mc ms free) (hbl : FrameBlind Pc) : vx_Back l R p e below s args y 3 8 (PreOf R mc ms Pc) (PostOf Qc mc ms free) (vx_Post XC mc ms free) := by
  obtain ⟨hrc, hrs, hfr, hlo, hws, hcw, -, hini, -⟩ := cb
  exact vx_back (bytes := bytes) (maxL := maxL) (ret := ret) hM hbl hrc hrs hfr hlo hws hcw (fun a' U hW => word_at hW (Or.inl (by first | rfl | simp [Cond.onTables, Cond.keeps, Cond.steady])) hini)
theorem vx_runV (S : CallFix p m c cc nL s args Ts own) (hM : vx_Met l y ws rm Pc Qc XC mc ms free) (cw : CallW R s args own C index y bytes maxL ret ws rm mc ms n) (hp : PreV s H C b Pc As)
    (hg : g.method = m) (hn : As.length = n) (hsize : g.locals.size = nL) (hstack : g.stack = As.reverse ++ .ref b :: rest) (hW : 2 * g.monitorRoom + (rest.map fun v => v.category).sum ≤ 8) (hdg : decode cc g.pc = .ok (.invokevirtual index, 3)) (hf : cells + mc ≤ R.cells ∧ slots + ms ≤ R.slots) :
    vx_Run p l e R s m args below meth c H locs cells slots mc ms g rest (Qc (Value.ref b :: As).toArray) XC free := by
  have hK : vx_Back l R p e below s args y 3 8 (PreOf R mc ms Pc) (PostOf Qc mc ms free) (vx_Post XC mc ms free) := vx_callBack cw.1 hM hp.1
  obtain ⟨⟨-, -, -, -, -, -, hcode, -, hy, hlen, hl⟩, hin, hse⟩ := cw
  obtain ⟨hx, hb, hml, ho, -⟩ := S
  obtain ⟨-, ⟨cellB, hcB, hoB, hclB⟩, hPc⟩ := hp
  intro T hT X
  rcases vx_callV X hx (C := C) (bytes := bytes) (maxL := maxL) (ret := ret) ho hl hin hse hcode hy hK (by rw [hT]; exact hcB) hoB hclB hg (hsize.trans hml.symm) (argsL := As) (rest := rest) (fun sig h => hn.trans (hlen sig h)) hstack hW (by rw [hb]; exact hdg)
    (fun vm₁ hW₁ => ⟨hf.1, hf.2, hPc (T.setVm vm₁) hT hW₁⟩) with ⟨v, vm₁, ⟨U', l2, c2, s2⟩, hW₁, X', ⟨g', mk, t, L, e1, e2, hq, h1, hL, h2, h3⟩, st⟩ | ⟨q, vm₁, ⟨U', l2, c2, s2⟩, hW₁, X', ⟨g', mk, t, L, E, ce, e1, e2, hq, hce, hcv, hcl, h1, hL, h2, h3⟩, st⟩
  · dsimp only [Pt.U, Pt.locs, Pt.cells, Pt.slots] at X' e1 e2 h1 h2 h3 st
    subst h1; subst h2; subst h3
    exact Or.inl ⟨v, (T.setVm vm₁).calling g' mk (Value.ref b :: As).toArray, t, U', L, hT, X', hL, e1, e2, hq, st⟩
  · dsimp only [Pt.U, Pt.locs, Pt.cells, Pt.slots] at X' e1 e2 h1 h2 h3 st hcl
    subst h1; subst h2; subst h3
    exact Or.inr ⟨q, (T.setVm vm₁).calling g' mk (Value.ref b :: As).toArray, t, U', L, E, ce, hT, X', hL, e1, e2, hq, hce, hcv, vx_cls hW₁ hcl, st⟩
theorem vx_runS (S : CallFix p m c cc nL s args Ts own) (hM : vx_Met l y ws rm Pc Qc XC mc ms free) (cw : CallB R s args own index y bytes maxL ret ws rm mc ms n ∧ (Cond.static y).before args s = true) (hp : PreS s H Pc As)
    (hg : g.method = m) (hn : As.length = n) (hsize : g.locals.size = nL) (hstack : g.stack = As.reverse ++ rest) (hW : 2 * g.monitorRoom + (rest.map fun v => v.category).sum ≤ 8) (hdg : decode cc g.pc = .ok (.invokestatic index, 3)) (hf : cells + mc ≤ R.cells ∧ slots + ms ≤ R.slots) :
    vx_Run p l e R s m args below meth c H locs cells slots mc ms g rest (Qc As.toArray) XC free := by
  have hK : vx_Back l R p e below s args y 3 8 (PreOf R mc ms Pc) (PostOf Qc mc ms free) (vx_Post XC mc ms free) := vx_callBack cw.1 hM hp.1
  obtain ⟨⟨-, -, -, -, -, -, hcode, hini, hy, hlen, hl⟩, hstt⟩ := cw
  obtain ⟨hx, hb, hml, ho, -⟩ := S
  intro T hT X
  rcases vx_callS X hx (bytes := bytes) (maxL := maxL) (ret := ret) ho hl hstt hini hcode hy hK hg (hsize.trans hml.symm) (argsL := As) (rest := rest) (fun sig h => hn.trans (hlen sig h)) hstack hW (by rw [hb]; exact hdg)
    (fun vm₁ hW₁ => ⟨hf.1, hf.2, hp.2 (T.setVm vm₁) hT hW₁⟩) with ⟨v, vm₁, ⟨U', l2, c2, s2⟩, hW₁, X', ⟨g', mk, t, L, e1, e2, hq, h1, hL, h2, h3⟩, st⟩ | ⟨q, vm₁, ⟨U', l2, c2, s2⟩, hW₁, X', ⟨g', mk, t, L, E, ce, e1, e2, hq, hce, hcv, hcl, h1, hL, h2, h3⟩, st⟩
  · dsimp only [Pt.U, Pt.locs, Pt.cells, Pt.slots] at X' e1 e2 h1 h2 h3 st
    subst h1; subst h2; subst h3
    exact Or.inl ⟨v, (T.setVm vm₁).calling g' mk As.toArray, t, U', L, hT, X', hL, e1, e2, hq, st⟩
  · dsimp only [Pt.U, Pt.locs, Pt.cells, Pt.slots] at X' e1 e2 h1 h2 h3 st hcl
    subst h1; subst h2; subst h3
    exact Or.inr ⟨q, (T.setVm vm₁).calling g' mk As.toArray, t, U', L, E, ce, hT, X', hL, e1, e2, hq, hce, hcv, vx_cls hW₁ hcl, st⟩
end Runs
section Rows
variable {p : Program} {l : Launch} {e : Env} {R : Room} {s : State} {m : MethodId} {args : Array Value} {below : List Frame} {meth : Method} {c : Code} {H : Heap} {locs : List Loc} {cells slots : Nat} {Q : State → Prop}
variable {mc ms : Nat} {free : Addr → Prop} {A0 A1 : Nat → Prop} {H0 : Heap} {a : Array Value} {pc : Nat} {ls : Array Slot} {st0 rest : List Value}
theorem vx_keep {st₀ t T' : State} {L : List Loc} (h0 : st₀.heap = H) (e1 : T'.heap = t.heap) (hS : va_S A0 H0 H locs) (hA : ∀ q, q < H.size → A1 q → A0 q) (hf : ∀ q, free q → A0 q) (hL : ∀ q ∈ L, free q.base) (hF : va_F A1 st₀ t) :
    H.size ≤ T'.heap.size ∧ (∀ q : Nat, q < H.size → ¬ A1 q → T'.heap[q]? = H[q]?) ∧ va_S A0 H0 T'.heap (locs ++ L) := by
  obtain ⟨hz, hk⟩ := hF
  rw [h0] at hz hk
  exact ⟨by rw [e1]; exact hz, fun q h1 h2 => by rw [e1]; exact hk q h1 h2,
    ⟨Nat.le_trans hS.1 (by rw [e1]; exact hz), fun q h1 h2 => by rw [e1, hk q (Nat.lt_of_lt_of_le h1 hS.1) (fun z => h2 (hA q (Nat.lt_of_lt_of_le h1 hS.1) z))]; exact hS.2.1 q h1 h2, fun q hq => by
      rcases List.mem_append.mp hq with h | h
      · exact hS.2.2 q h
      · exact hf _ (hL q h)⟩⟩
theorem vx_calli {S SX : Type} {post : Int32 → S → Prop} {px : SX → Prop} {B : S → State → Prop} {BX : String → SX → State → Prop} {AX : Nat → Prop} (hr : vx_Run p l e R s m args below meth c H locs cells slots mc ms (F0 m pc ls st0) rest (va_Qi post B A1 a) (vx_X px BX AX) free) (hS : va_S A0 H0 H locs) (hA : ∀ q, q < H.size → A1 q → A0 q) (hf : ∀ q, free q → A0 q) (hAX : ∀ q, q < H.size → AX q → A0 q)
    (kx : ∀ (E : String) (ce : Cell) (q9 : Addr) (u : SX) (t : State) (H1 : Heap) (locs1 : List Loc), t.heap = H1 → s.vm.Alike t.vm → px u → BX E u t → H.size ≤ H1.size → (∀ q : Nat, q < H.size → ¬ AX q → H1[q]? = H[q]?) → va_S A0 H0 H1 locs1 → H1[q9]? = some ce → ce.vm = .none → s.vm.findClass E = some ce.cls → vx_W p l e R s m args below meth c H1 locs1 (cells + mc) (slots + ms) Q (F0 m pc ls rest) q9)
    (kk : ∀ (r : Int32) (u : S) (t : State) (H1 : Heap) (locs1 : List Loc), t.heap = H1 → s.vm.Alike t.vm → post r u → B u t → H.size ≤ H1.size → (∀ q : Nat, q < H.size → ¬ A1 q → H1[q]? = H[q]?) → va_S A0 H0 H1 locs1 → W p l e R s m args below meth c H1 locs1 (cells + mc) (slots + ms) Q (F0 m (pc + 3) ls (.int r :: rest))) : W p l e R s m args below meth c H locs cells slots Q (F0 m pc ls st0) := by
  intro T hT X
  rcases hr T hT X with ⟨v, st₀, t, T', L, h0, X', hL, e1, e2, ⟨⟨r, u, hv, hp, hb⟩, hF⟩, st⟩ | ⟨q, st₀, t, T', L, E, ce, h0, X', hL, e1, e2, ⟨u, hp, hb, hF⟩, hce, hcv, hcl, st⟩
  · cases hv
    obtain ⟨k1, k2, k3⟩ := vx_keep h0 e1 hS hA hf hL hF
    obtain ⟨t2, a1, b1⟩ := kk r u t T'.heap (locs ++ L) e1.symm (by rw [← e2]; exact X'.warmed.alike) hp hb k1 k2 k3 T' rfl X'
    exact ⟨t2, st t2 a1, b1⟩
  · obtain ⟨k1, k2, k3⟩ := vx_keep h0 e1 hS hAX hf hL hF
    obtain ⟨t2, a1, b1⟩ := kx E ce q u t T'.heap (locs ++ L) e1.symm (by rw [← e2]; exact X'.warmed.alike) hp hb k1 k2 k3 (by rw [e1]; exact hce) hcv hcl T' rfl X'
    exact ⟨t2, st.trans a1, b1⟩
theorem vx_calll {S SX : Type} {post : Int64 → S → Prop} {px : SX → Prop} {B : S → State → Prop} {BX : String → SX → State → Prop} {AX : Nat → Prop} (hr : vx_Run p l e R s m args below meth c H locs cells slots mc ms (F0 m pc ls st0) rest (va_Ql post B A1 a) (vx_X px BX AX) free) (hS : va_S A0 H0 H locs) (hA : ∀ q, q < H.size → A1 q → A0 q) (hf : ∀ q, free q → A0 q) (hAX : ∀ q, q < H.size → AX q → A0 q)
    (kx : ∀ (E : String) (ce : Cell) (q9 : Addr) (u : SX) (t : State) (H1 : Heap) (locs1 : List Loc), t.heap = H1 → s.vm.Alike t.vm → px u → BX E u t → H.size ≤ H1.size → (∀ q : Nat, q < H.size → ¬ AX q → H1[q]? = H[q]?) → va_S A0 H0 H1 locs1 → H1[q9]? = some ce → ce.vm = .none → s.vm.findClass E = some ce.cls → vx_W p l e R s m args below meth c H1 locs1 (cells + mc) (slots + ms) Q (F0 m pc ls rest) q9)
    (kk : ∀ (r : Int64) (u : S) (t : State) (H1 : Heap) (locs1 : List Loc), t.heap = H1 → s.vm.Alike t.vm → post r u → B u t → H.size ≤ H1.size → (∀ q : Nat, q < H.size → ¬ A1 q → H1[q]? = H[q]?) → va_S A0 H0 H1 locs1 → W p l e R s m args below meth c H1 locs1 (cells + mc) (slots + ms) Q (F0 m (pc + 3) ls (.long r :: rest))) : W p l e R s m args below meth c H locs cells slots Q (F0 m pc ls st0) := by
  intro T hT X
  rcases hr T hT X with ⟨v, st₀, t, T', L, h0, X', hL, e1, e2, ⟨⟨r, u, hv, hp, hb⟩, hF⟩, st⟩ | ⟨q, st₀, t, T', L, E, ce, h0, X', hL, e1, e2, ⟨u, hp, hb, hF⟩, hce, hcv, hcl, st⟩
  · cases hv
    obtain ⟨k1, k2, k3⟩ := vx_keep h0 e1 hS hA hf hL hF
    obtain ⟨t2, a1, b1⟩ := kk r u t T'.heap (locs ++ L) e1.symm (by rw [← e2]; exact X'.warmed.alike) hp hb k1 k2 k3 T' rfl X'
    exact ⟨t2, st t2 a1, b1⟩
  · obtain ⟨k1, k2, k3⟩ := vx_keep h0 e1 hS hAX hf hL hF
    obtain ⟨t2, a1, b1⟩ := kx E ce q u t T'.heap (locs ++ L) e1.symm (by rw [← e2]; exact X'.warmed.alike) hp hb k1 k2 k3 (by rw [e1]; exact hce) hcv hcl T' rfl X'
    exact ⟨t2, st.trans a1, b1⟩
theorem vx_callf {S SX : Type} {post : UInt32 → S → Prop} {px : SX → Prop} {B : S → State → Prop} {BX : String → SX → State → Prop} {AX : Nat → Prop} (hr : vx_Run p l e R s m args below meth c H locs cells slots mc ms (F0 m pc ls st0) rest (va_Qf post B A1 a) (vx_X px BX AX) free) (hS : va_S A0 H0 H locs) (hA : ∀ q, q < H.size → A1 q → A0 q) (hf : ∀ q, free q → A0 q) (hAX : ∀ q, q < H.size → AX q → A0 q)
    (kx : ∀ (E : String) (ce : Cell) (q9 : Addr) (u : SX) (t : State) (H1 : Heap) (locs1 : List Loc), t.heap = H1 → s.vm.Alike t.vm → px u → BX E u t → H.size ≤ H1.size → (∀ q : Nat, q < H.size → ¬ AX q → H1[q]? = H[q]?) → va_S A0 H0 H1 locs1 → H1[q9]? = some ce → ce.vm = .none → s.vm.findClass E = some ce.cls → vx_W p l e R s m args below meth c H1 locs1 (cells + mc) (slots + ms) Q (F0 m pc ls rest) q9)
    (kk : ∀ (r : UInt32) (u : S) (t : State) (H1 : Heap) (locs1 : List Loc), t.heap = H1 → s.vm.Alike t.vm → post r u → B u t → H.size ≤ H1.size → (∀ q : Nat, q < H.size → ¬ A1 q → H1[q]? = H[q]?) → va_S A0 H0 H1 locs1 → W p l e R s m args below meth c H1 locs1 (cells + mc) (slots + ms) Q (F0 m (pc + 3) ls (.float r :: rest))) : W p l e R s m args below meth c H locs cells slots Q (F0 m pc ls st0) := by
  intro T hT X
  rcases hr T hT X with ⟨v, st₀, t, T', L, h0, X', hL, e1, e2, ⟨⟨r, u, hv, hp, hb⟩, hF⟩, st⟩ | ⟨q, st₀, t, T', L, E, ce, h0, X', hL, e1, e2, ⟨u, hp, hb, hF⟩, hce, hcv, hcl, st⟩
  · cases hv
    obtain ⟨k1, k2, k3⟩ := vx_keep h0 e1 hS hA hf hL hF
    obtain ⟨t2, a1, b1⟩ := kk r u t T'.heap (locs ++ L) e1.symm (by rw [← e2]; exact X'.warmed.alike) hp hb k1 k2 k3 T' rfl X'
    exact ⟨t2, st t2 a1, b1⟩
  · obtain ⟨k1, k2, k3⟩ := vx_keep h0 e1 hS hAX hf hL hF
    obtain ⟨t2, a1, b1⟩ := kx E ce q u t T'.heap (locs ++ L) e1.symm (by rw [← e2]; exact X'.warmed.alike) hp hb k1 k2 k3 (by rw [e1]; exact hce) hcv hcl T' rfl X'
    exact ⟨t2, st.trans a1, b1⟩
theorem vx_calld {S SX : Type} {post : UInt64 → S → Prop} {px : SX → Prop} {B : S → State → Prop} {BX : String → SX → State → Prop} {AX : Nat → Prop} (hr : vx_Run p l e R s m args below meth c H locs cells slots mc ms (F0 m pc ls st0) rest (va_Qd post B A1 a) (vx_X px BX AX) free) (hS : va_S A0 H0 H locs) (hA : ∀ q, q < H.size → A1 q → A0 q) (hf : ∀ q, free q → A0 q) (hAX : ∀ q, q < H.size → AX q → A0 q)
    (kx : ∀ (E : String) (ce : Cell) (q9 : Addr) (u : SX) (t : State) (H1 : Heap) (locs1 : List Loc), t.heap = H1 → s.vm.Alike t.vm → px u → BX E u t → H.size ≤ H1.size → (∀ q : Nat, q < H.size → ¬ AX q → H1[q]? = H[q]?) → va_S A0 H0 H1 locs1 → H1[q9]? = some ce → ce.vm = .none → s.vm.findClass E = some ce.cls → vx_W p l e R s m args below meth c H1 locs1 (cells + mc) (slots + ms) Q (F0 m pc ls rest) q9)
    (kk : ∀ (r : UInt64) (u : S) (t : State) (H1 : Heap) (locs1 : List Loc), t.heap = H1 → s.vm.Alike t.vm → post r u → B u t → H.size ≤ H1.size → (∀ q : Nat, q < H.size → ¬ A1 q → H1[q]? = H[q]?) → va_S A0 H0 H1 locs1 → W p l e R s m args below meth c H1 locs1 (cells + mc) (slots + ms) Q (F0 m (pc + 3) ls (.double r :: rest))) : W p l e R s m args below meth c H locs cells slots Q (F0 m pc ls st0) := by
  intro T hT X
  rcases hr T hT X with ⟨v, st₀, t, T', L, h0, X', hL, e1, e2, ⟨⟨r, u, hv, hp, hb⟩, hF⟩, st⟩ | ⟨q, st₀, t, T', L, E, ce, h0, X', hL, e1, e2, ⟨u, hp, hb, hF⟩, hce, hcv, hcl, st⟩
  · cases hv
    obtain ⟨k1, k2, k3⟩ := vx_keep h0 e1 hS hA hf hL hF
    obtain ⟨t2, a1, b1⟩ := kk r u t T'.heap (locs ++ L) e1.symm (by rw [← e2]; exact X'.warmed.alike) hp hb k1 k2 k3 T' rfl X'
    exact ⟨t2, st t2 a1, b1⟩
  · obtain ⟨k1, k2, k3⟩ := vx_keep h0 e1 hS hAX hf hL hF
    obtain ⟨t2, a1, b1⟩ := kx E ce q u t T'.heap (locs ++ L) e1.symm (by rw [← e2]; exact X'.warmed.alike) hp hb k1 k2 k3 (by rw [e1]; exact hce) hcv hcl T' rfl X'
    exact ⟨t2, st.trans a1, b1⟩
theorem vx_callv {S SX : Type} {post : S → Prop} {px : SX → Prop} {B : S → State → Prop} {BX : String → SX → State → Prop} {AX : Nat → Prop} (hr : vx_Run p l e R s m args below meth c H locs cells slots mc ms (F0 m pc ls st0) rest (va_Qv post B A1 a) (vx_X px BX AX) free) (hS : va_S A0 H0 H locs) (hA : ∀ q, q < H.size → A1 q → A0 q) (hf : ∀ q, free q → A0 q) (hAX : ∀ q, q < H.size → AX q → A0 q)
    (kx : ∀ (E : String) (ce : Cell) (q9 : Addr) (u : SX) (t : State) (H1 : Heap) (locs1 : List Loc), t.heap = H1 → s.vm.Alike t.vm → px u → BX E u t → H.size ≤ H1.size → (∀ q : Nat, q < H.size → ¬ AX q → H1[q]? = H[q]?) → va_S A0 H0 H1 locs1 → H1[q9]? = some ce → ce.vm = .none → s.vm.findClass E = some ce.cls → vx_W p l e R s m args below meth c H1 locs1 (cells + mc) (slots + ms) Q (F0 m pc ls rest) q9)
    (kk : ∀ (u : S) (t : State) (H1 : Heap) (locs1 : List Loc), t.heap = H1 → s.vm.Alike t.vm → post u → B u t → H.size ≤ H1.size → (∀ q : Nat, q < H.size → ¬ A1 q → H1[q]? = H[q]?) → va_S A0 H0 H1 locs1 → W p l e R s m args below meth c H1 locs1 (cells + mc) (slots + ms) Q (F0 m (pc + 3) ls (rest))) : W p l e R s m args below meth c H locs cells slots Q (F0 m pc ls st0) := by
  intro T hT X
  rcases hr T hT X with ⟨v, st₀, t, T', L, h0, X', hL, e1, e2, ⟨⟨u, hv, hp, hb⟩, hF⟩, st⟩ | ⟨q, st₀, t, T', L, E, ce, h0, X', hL, e1, e2, ⟨u, hp, hb, hF⟩, hce, hcv, hcl, st⟩
  · cases hv
    obtain ⟨k1, k2, k3⟩ := vx_keep h0 e1 hS hA hf hL hF
    obtain ⟨t2, a1, b1⟩ := kk u t T'.heap (locs ++ L) e1.symm (by rw [← e2]; exact X'.warmed.alike) hp hb k1 k2 k3 T' rfl X'
    exact ⟨t2, st t2 a1, b1⟩
  · obtain ⟨k1, k2, k3⟩ := vx_keep h0 e1 hS hAX hf hL hF
    obtain ⟨t2, a1, b1⟩ := kx E ce q u t T'.heap (locs ++ L) e1.symm (by rw [← e2]; exact X'.warmed.alike) hp hb k1 k2 k3 (by rw [e1]; exact hce) hcv hcl T' rfl X'
    exact ⟨t2, st.trans a1, b1⟩
/-- caught by the row x of this method's table; the rows ahead don't take it -/
theorem vx_catch {own name : String} {E : String} {ce : Cell} {q : Addr} (hown : s.vm.findClass own = some m.cls) (pre : List ExceptionTableEntry) (x : ExceptionTableEntry) (suf : List ExceptionTableEntry) (hsplit : c.exceptionTable.toList = pre ++ x :: suf)
    (hpass : ∀ z ∈ pre, covers z pc = false ∨ (z.catchType ≠ 0 ∧ ∃ nm : String, (Cond.classLink own z.catchType nm).before args s = true ∧ va_Nc E nm s)) (hx : covers x pc = true) (h0 : x.catchType ≠ 0)
    (hlink : (Cond.classLink own x.catchType name).before args s = true) (hcast : (Cond.castable E name).before args s = true) (hcell : H[q]? = some ce) (hv : ce.vm = .none) (hcl : s.vm.findClass E = some ce.cls)
    (kk : W p l e R s m args below meth c H locs cells slots Q (F0 m x.handlerPc ls [.ref q])) : vx_W p l e R s m args below meth c H locs cells slots Q (F0 m pc ls rest) q := by
  intro T hT X
  have hpl : e.platform.magicAccessors = ({} : Platform).magicAccessors := by rw [X.admits.platform]
  obtain ⟨c3, c4, hc3, hc4, hasg⟩ := Cond.castable_spec hcast
  cases Option.some.inj (hc3.symm.trans hcl)
  obtain ⟨c5, hc5, hcl5⟩ := Cond.classLink_spec hown hlink e.platform hpl
  cases Option.some.inj (hc4.symm.trans hc5)
  obtain ⟨vm', X', st⟩ := X.thenCaughtThrough q (g := F0 m pc ls rest) rfl (Steps.refl _) (by rw [hT]; exact hcell) (by rw [hv]; rfl) (by obtain ⟨k9, h9, -⟩ := Vm.findClass_spec hcl; exact ⟨k9, h9⟩) pre x suf hsplit
    (fun z hz => by
      rcases hpass z hz with h | ⟨hz0, nm, hl1, hn1⟩
      · exact Or.inl h
      · obtain ⟨c6, hc6, hcl6⟩ := Cond.classLink_spec hown hl1 e.platform hpl
        obtain ⟨a8, b8, h1, h2, h3⟩ := hn1
        cases Option.some.inj (h1.symm.trans hcl)
        cases Option.some.inj (h2.symm.trans hc6)
        exact Or.inr ⟨hz0, _, hcl6, h3⟩) hx (Or.inr ⟨h0, c4, hcl5, hasg⟩)
  obtain ⟨t, a1, b1⟩ := kk (T.setVm vm') hT X'
  exact ⟨t, st.trans a1, b1⟩
end Rows
section Ends
variable {p : Program} {l : Launch} {e : Env} {R : Room} {s : State} {m : MethodId} {args : Array Value} {below : List Frame} {meth : Method} {c : Code} {H : Heap} {locs : List Loc} {cells slots : Nat} {Q : State → Prop}
variable {mc ms : Nat} {free : Addr → Prop} {A0 A1 : Nat → Prop} {H0 : Heap} {a : Array Value} {ls : Array Slot} {st0 rest : List Value}
variable {Qc : Array Value → State → Outcome → State → Prop} {XC : String → State → State → Prop}
/-- what a body that may throw owes at its end -/
def vx_MQ (below : List Frame) (Qc : Array Value → State → Outcome → State → Prop) (XC : String → State → State → Prop) (a : Array Value) (s : State) (mc ms : Nat) (free : Addr → Prop) : State → Prop := fun t =>
  ∃ o, t.status = .running ∧ Ended t below o ∧ vx_Q Qc XC mc ms free a s o t
theorem vx_ret {g : JFrame} {mc ms : Nat} (k : W p l e R s m args below meth c H locs cells slots (MQ below Qc args s mc ms free) g) : W p l e R s m args below meth c H locs cells slots (vx_MQ below Qc XC args s mc ms free) g := by
  intro T hT X
  obtain ⟨t, a1, o, b1, b2, b3, b4⟩ := k T hT X
  exact ⟨t, a1, o, b1, b2, Or.inl ⟨b3, b4⟩⟩
/-- not caught here: it goes on to the caller -/
theorem vx_widen {g : JFrame} {q : Addr} {k n : Nat} (h1 : cells ≤ k) (h2 : slots ≤ n) (kk : vx_W p l e R s m args below meth c H locs k n Q g q) : vx_W p l e R s m args below meth c H locs cells slots Q g q := fun T hT X => kk T hT (stand_widen X h1 h2)
theorem vx_out {pc : Nat} {E : String} {ce : Cell} {q : Addr} {mc ms : Nat} (hout : ∀ x ∈ c.exceptionTable.toList, covers x pc = false) (hlocks : meth.locks = false) (hcell : H[q]? = some ce) (hv : ce.vm = .none) (hcl : s.vm.findClass E = some ce.cls)
    (hx : ∀ t : State, t.heap = H → s.vm.Alike t.vm → XC E s t) (hf : ∀ z ∈ locs, free z.base) (hc : cells ≤ mc) (hs : slots ≤ ms) :
    vx_W p l e R s m args below meth c H locs cells slots (vx_MQ below Qc XC args s mc ms free) (F0 m pc ls rest) q := by
  intro T hT X
  obtain ⟨st1, hrun, hend, hW, hsm⟩ := X.leaveThrown q (g := F0 m pc ls rest) rfl rfl rfl hout hlocks
  have hcell9 : (T.setFrames (.throwing q :: below)).heap[q]? = some ce := by
    show T.heap[q]? = some ce
    rw [hT]; exact hcell
  exact ⟨_, st1, .threw q, hrun, hend, Or.inr ⟨q, rfl, E, ce, locs, hx _ hT hW.alike, hcell9, hv, hcl, hW, hsm.mono hc hs, hf⟩⟩
theorem vx_frame {U : State} {k n : Nat} (h : s.sameButNew ({ U with vm := s.vm } : State) locs k n) : s.heap.size ≤ U.heap.size ∧ ∀ q : Nat, q < s.heap.size → (∀ z ∈ locs, z.base ≠ q) → U.heap[q]? = s.heap[q]? := by
  obtain ⟨-, h2, -, -, -, h6⟩ := h
  refine ⟨h2, fun q hq hz => ?_⟩
  obtain ⟨c9, e1, e2, e3, e4⟩ := h6 q _ (Array.getElem?_eq_getElem hq)
  have hs : c9.slots = (s.heap[q]).slots := Array.ext_getElem? fun i => e4 i fun hm => hz _ hm rfl
  have h9 : c9 = s.heap[q] := by
    rw [hs] at e2
    exact e2
  have e5 : U.heap[q]? = some c9 := e1
  rw [e5, h9, Array.getElem?_eq_getElem hq]
/-- the words of a throw but the four that speak of the heap -/
def vx_no (w : Cond) : Bool := decide (w ≠ .isRef (.static Bundle.tN "UNASSIGNED_STACK" Bundle.steD)) && decide (w ≠ .isRef (.static Bundle.tN "SUPPRESSED_SENTINEL" Bundle.listD)) && decide (w ≠ .laysStatic Bundle.tN "UNASSIGNED_STACK" Bundle.steD) && decide (w ≠ .laysStatic Bundle.tN "SUPPRESSED_SENTINEL" Bundle.listD)
def vx_at0 (own : String) (ic : Nat) (X : String) (names : List String) : List Cond := (Bundle.ownAtoms0 own ic X names).filter vx_no
def vx_atS (own : String) (ic : Nat) (X : String) (names : List String) : List Cond := (Bundle.ownAtoms own ic X names).filter vx_no
/-- a word that the tables alone decide, or a good one -/
def vx_ot (w : Cond) : Bool := w.onTables || goodWord w
theorem vx_ot_at {args a' : Array Value} {s U : State} {w : Cond} (hW : s.WarmedH U.vm) (hvm : s.vm = U.vm) (hg : vx_ot w = true) (h : w.before args s = true) : w.before a' U = true := by
  simp only [vx_ot, Bool.or_eq_true] at hg
  rcases hg with hg | hg
  · exact va_tabs hg hvm h
  · exact word_at hW (good_of_word hg) h
/-- a list's words: the good ones out of the method's own list, the others by premises of their own -/
theorem vx_hat {args : Array Value} {s : State} {L B : List Cond} (h1 : ∀ w ∈ L.filter goodWord, w.before args s = true) (h2 : ∀ w ∈ L.filter (fun w => !goodWord w), w ∈ B) (h3 : ∀ w ∈ B, w.before args s = true) : ∀ w ∈ L, w.before args s = true := by
  intro w hw
  by_cases g : goodWord w = true
  · exact h1 w (List.mem_filter.mpr ⟨hw, g⟩)
  · refine h3 w (h2 w (List.mem_filter.mpr ⟨hw, ?_⟩))
    show (!goodWord w) = true
    cases hgw : goodWord w
    · rfl
    · exact absurd hgw g
theorem vx_c {args : Array Value} {s : State} {w : Cond} {B : List Cond} (h : w.before args s = true) (t : ∀ w ∈ B, w.before args s = true) : ∀ w' ∈ w :: B, w'.before args s = true := fun w' h' => (List.mem_cons.mp h').elim (fun e => by rw [e]; exact h) (t w')
theorem vx_n {args : Array Value} {s : State} : ∀ w ∈ ([] : List Cond), w.before args s = true := fun _ h => nomatch h
theorem vx_own {args : Array Value} {s : State} {L : List Cond} (h1 : ∀ w ∈ L.filter vx_no, w.before args s = true)
    (hU : (Cond.isRef (.static Bundle.tN "UNASSIGNED_STACK" Bundle.steD)).before args s = true) (hN : (Cond.isRef (.static Bundle.tN "SUPPRESSED_SENTINEL" Bundle.listD)).before args s = true)
    (lU : (Cond.laysStatic Bundle.tN "UNASSIGNED_STACK" Bundle.steD).before args s = true) (lN : (Cond.laysStatic Bundle.tN "SUPPRESSED_SENTINEL" Bundle.listD).before args s = true) : ∀ w ∈ L, w.before args s = true := by
  intro w hw
  by_cases e1 : w = .isRef (.static Bundle.tN "UNASSIGNED_STACK" Bundle.steD)
  · rw [e1]; exact hU
  · by_cases e2 : w = .isRef (.static Bundle.tN "SUPPRESSED_SENTINEL" Bundle.listD)
    · rw [e2]; exact hN
    · by_cases e3 : w = .laysStatic Bundle.tN "UNASSIGNED_STACK" Bundle.steD
      · rw [e3]; exact lU
      · by_cases e4 : w = .laysStatic Bundle.tN "SUPPRESSED_SENTINEL" Bundle.listD
        · rw [e4]; exact lN
        · exact h1 w (List.mem_filter.mpr ⟨hw, by unfold vx_no; rw [decide_eq_true e1, decide_eq_true e2, decide_eq_true e3, decide_eq_true e4]; rfl⟩)
/-- where a static field lies, its class's statics cell in H -/
def vx_L (C n d : String) (A : Nat → Prop) (U : State) (H : Heap) : Prop := ∃ (c : ClassId) (k : Class) (i : Nat) (f : Field) (a : Nat) (cell : Cell), U.vm.findClass C = some c ∧ U.fieldFound? C n d = some (c, k, i, f) ∧ f.isStatic = true ∧ k.statics = some a ∧ H[a]? = some cell ∧ cell.vm.isStatics = true ∧ cell.cls = c ∧ f.slot < cell.slots.size ∧ k.staticTypes[f.slot]? = some f.type ∧ ¬ A a
theorem vx_L.moved {C n d : String} {A : Nat → Prop} {u U : State} {H : Heap} (hvm : u.vm.Alike U.vm) (h : vx_L C n d A u H) : vx_L C n d A U H := by
  obtain ⟨c, k, i, f, a, cell, h1, h2, h3, h4, h5, h6, h7, h8, h9, h10⟩ := h
  obtain ⟨k', hi', he⟩ := State.fieldFound?_setVm hvm h2
  exact ⟨c, k', i, f, a, cell, by rw [hvm.findClass]; exact h1, hi', h3, by rw [he]; exact h4, h5, h6, h7, h8, by rw [he]; exact h9, h10⟩
theorem vx_L.kept {C n d : String} {A : Nat → Prop} {U : State} {H H1 : Heap} (h : vx_L C n d A U H) (hq : ∀ a : Nat, a < H.size → ¬ A a → H1[a]? = H[a]?) : vx_L C n d A U H1 := by
  obtain ⟨c, k, i, f, a, cell, h1, h2, h3, h4, h5, h6, h7, h8, h9, h10⟩ := h
  exact ⟨c, k, i, f, a, cell, h1, h2, h3, h4, by rw [hq a (Array.getElem?_eq_some_iff.mp h5).1 h10]; exact h5, h6, h7, h8, h9, h10⟩
theorem vx_L.narrow {C n d : String} {A B : Nat → Prop} {U : State} {H : Heap} (h : vx_L C n d A U H) (hAB : ∀ q, B q → A q) : vx_L C n d B U H := by
  obtain ⟨c, k, i, f, a, cell, h1, h2, h3, h4, h5, h6, h7, h8, h9, h10⟩ := h
  exact ⟨c, k, i, f, a, cell, h1, h2, h3, h4, h5, h6, h7, h8, h9, fun z => h10 (hAB _ z)⟩
theorem vx_L.word {C n d : String} {A : Nat → Prop} {s : State} {args : Array Value} (h : vx_L C n d A s s.heap) : (Cond.laysStatic C n d).before args s = true := by
  obtain ⟨c, k, i, f, a, cell, h1, h2, h3, h4, h5, h6, h7, h8, h9, -⟩ := h
  show (Cond.laysStatic C n d).holds args s none s [] = true
  exact Cond.laysStatic_of h1 h2 h3 h4 h5 h6 h7 h8 h9
/-- .. and what it holds: null or some reference -/
def vx_Zq (C n d : String) (A : Nat → Prop) (U : State) (H : Heap) : Prop := va_Zq C n d A U H ∧ vx_L C n d A U H
theorem vx_Zq.moved {C n d : String} {A : Nat → Prop} {u U : State} {H : Heap} (hvm : u.vm.Alike U.vm) (h : vx_Zq C n d A u H) : vx_Zq C n d A U H := ⟨va_Zq.moved hvm h.1, vx_L.moved hvm h.2⟩
theorem vx_Zq.kept {C n d : String} {A : Nat → Prop} {U : State} {H H1 : Heap} (h : vx_Zq C n d A U H) (hq : ∀ a : Nat, a < H.size → ¬ A a → H1[a]? = H[a]?) : vx_Zq C n d A U H1 := ⟨va_Zq.kept h.1 hq, vx_L.kept h.2 hq⟩
theorem vx_Zq.narrow {C n d : String} {A B : Nat → Prop} {U : State} {H : Heap} (h : vx_Zq C n d A U H) (hAB : ∀ q, B q → A q) : vx_Zq C n d B U H := ⟨va_Zq.narrow h.1 hAB, vx_L.narrow h.2 hAB⟩
theorem vx_Zqof {args : Array Value} {s : State} {C n d : String} {A : Nat → Prop} (hl : (Cond.laysStatic C n d).before args s = true) (hini : (Cond.initialized C).before args s = true) (h : (Cond.isRef (.static C n d)).before args s = true) (hA : ∀ a : Nat, a < s.heap.size → ¬ A a) : vx_Zq C n d A s s.heap := by
  refine ⟨va_Zqof hl hini h hA, ?_⟩
  obtain ⟨c, k, i, f, a, cell, h1, h2, h3, h4, h5, h6, h7, h8, h9⟩ := Cond.laysStatic_spec hl
  exact ⟨c, k, i, f, a, cell, h1, h2, h3, h4, h5, h6, h7, h8, h9, hA a (Array.getElem?_eq_some_iff.mp h5).1⟩
theorem vx_isRef {C n d : String} {v : Value} {A : Nat → Prop} {s : State} {args : Array Value} (h : va_Z C n d v A s s.heap) (hv : v.isRef = true) : (Cond.isRef (.static C n d)).before args s = true := by
  obtain ⟨cf, kf, fi, f, a, cell, h1, h2, h3, h4, h5, h6, h7, -⟩ := h
  have he : (Term.static C n d).eval args s none [] s = some v := by
    simp [Term.eval, State.fieldNamed?, h1, h2, h4, h5, h6, h7]
  simp only [Cond.before, Cond.holds, Cond.value, he]
  cases v <;> simp_all [Value.isRef]
theorem vx_isRefq {C n d : String} {A : Nat → Prop} {s : State} {args : Array Value} (h : va_Zq C n d A s s.heap) : (Cond.isRef (.static C n d)).before args s = true := by
  rcases h with h | ⟨t, h⟩
  · exact vx_isRef h rfl
  · exact vx_isRef h rfl
/-- the same frame, seen from here: as if the method were called anew in this heap -/
theorem vx_rebase {T : State} (X : Stand p l e R s m args below meth c T locs cells slots) {R' : Room} (hf : R'.frames ≤ R.frames) (hl : R'.locals ≤ R.locals) (hc : cells + R'.cells ≤ R.cells) (hs : slots + R'.slots ≤ R.slots) :
    Stand p l e R' ((T.setVm s.vm).setFrames (.invoking m args :: below)) m args below meth c T [] 0 0 := by
  have htop : (T.setVm s.vm).topJava?.isSome := X.here.top
  have hF : ((T.setVm s.vm).setFrames (.invoking m args :: below)).frames = .invoking m args :: below := State.frames_setFrames _ (State.cur_lt_of_top htop)
  obtain ⟨g₀, hg0⟩ := Option.isSome_iff_exists.mp htop
  obtain ⟨r, hr⟩ := State.topJava?_eq_some.mp hg0
  have hl9 : e.platform.stackLimits (T.setVm s.vm).me = e.platform.stackLimits s.me := X.limits
  have hb9 : (T.setVm s.vm).me.stackBytes = s.me.stackBytes := X.bytes
  refine ⟨X.admits, X.cas, X.clock, hF, ?_, X.hears, X.method, X.code, X.here, X.tail, X.warmed, ?_, ?_, ?_⟩
  · have h := X.room
    have hU : ((T.setVm s.vm).setFrames (.invoking m args :: below)).localsInUse = s.localsInUse := by
      rw [State.localsInUse_invoking hF (meth := meth) (c := c) X.method X.code, State.localsInUse_invoking X.frames X.method X.code]
    simp only [State.hasRoom, Bool.and_eq_true, decide_eq_true_eq] at h ⊢
    obtain ⟨⟨⟨⟨h1, h2, h3, h4, h5, h6⟩, h7⟩, h8⟩, h9⟩ := h
    rw [X.frames, List.length_cons] at h2 h3
    have q1 := X.heapSize
    have q2 := X.used
    simp only [hF, hU, List.length_cons, State.stackLimits_setFrames, State.stackBytes_setFrames, hl9, hb9]
    refine ⟨⟨⟨⟨by omega, by omega, by omega, by omega, by omega, h6⟩, ?_⟩, ?_⟩, X.book⟩
    · show T.heap.size + R'.cells ≤ e.platform.maxCells
      omega
    · show T.slotsUsed + R'.slots ≤ e.platform.maxSlots
      omega
  · rw [State.stackLimits_setFrames]; rfl
  · rw [State.stackBytes_setFrames]; rfl
  · refine ⟨?_, Nat.le_refl _, Nat.le_refl _, ?_, ?_, fun a c9 h9 => ⟨c9, h9, rfl, rfl, fun _ _ => rfl⟩⟩
    · obtain ⟨t, ht, -⟩ := State.frames_cons hr
      show T.setVm s.vm = { ((T.setVm s.vm).setFrames (.invoking m args :: below)).setFrames (T.setVm s.vm).frames with heap := T.heap, slotsUsed := T.slotsUsed }
      rw [State.setFrames_setFrames, State.setFrames_self ht]
      rfl
    · show T.slotsUsed = T.slotsUsed + ((T.heap.toList.drop T.heap.size).map (·.slots.size)).sum
      rw [List.drop_eq_nil_of_le (Nat.le_of_eq Array.length_toList)]
      rfl
    · show ((T.heap.toList.drop T.heap.size).map (·.slots.size)).sum ≤ 0
      rw [List.drop_eq_nil_of_le (Nat.le_of_eq Array.length_toList)]
      exact Nat.le_refl _
/-- 'throw new E()': new; dup; invokespecial; athrow -/
theorem vx_throw0 {cc : ByteArray} {pc : Nat} (hexec : p.tables.exec = Jvm.exec) (hb : c.code = cc) (hl : l.stackTraces = false) {own cls : String} {names : List String} {ik ic mc ms : Nat} {A : Nat → Prop}
    (hown : s.vm.findClass own = some m.cls) (hcls : Bundle.fit cls = true) (hnames : ∀ n ∈ names, Bundle.fit n = true)
    (hk : (Cond.classLink own ik cls).before args s = true) (hini : (Cond.initialized cls).before args s = true) (hat : ∀ w ∈ vx_at0 own ic cls names, w.before args s = true)
    (hgood : ∀ w ∈ Cond.classLink own ik cls :: Cond.initialized cls :: vx_at0 own ic cls names, vx_ot w = true)
    (hU : vx_Zq Bundle.tN "UNASSIGNED_STACK" Bundle.steD A s s.heap) (hN : vx_Zq Bundle.tN "SUPPRESSED_SENTINEL" Bundle.listD A s s.heap) (hS : va_S A s.heap H locs) (hsize : ls.size = c.maxLocals)
    (d0 : decode cc pc = .ok (.new ik, 3)) (d3 : decode cc (pc + 3) = .ok (.dup, 1)) (d4 : decode cc (pc + 4) = .ok (.invokespecial ic, 3)) (d7 : decode cc (pc + 7) = .ok (.athrow, 1))
    (hout : ∀ x ∈ c.exceptionTable.toList, covers x (pc + 7) = false)
    (hRframes : names.length + 3 < R.frames) (hRlocals : (rest.map fun v => v.category).sum + (13 * (names.length + 1) + 42) ≤ R.locals) (hRcells : cells + 1 ≤ R.cells) (hRslots : slots + 6 ≤ R.slots) (hlocks : meth.locks = false)
    (hx : ∀ t : State, s.vm.Alike t.vm → H.size ≤ t.heap.size → (∀ q : Nat, q < H.size → t.heap[q]? = H[q]?) → XC cls s t)
    (hf : ∀ z ∈ locs, free z.base) (hc : cells + 1 ≤ mc) (hs : slots + 6 ≤ ms) :
    W p l e R s m args below meth c H locs cells slots (vx_MQ below Qc XC args s mc ms free) (F0 m pc ls rest) := by
  intro T hT X
  have htr : e.platform.stackTraces = false := (show e.platform.stackTraces = l.stackTraces by rw [X.admits.platform]).trans hl
  have Y := vx_rebase X (R' := { frames := R.frames, locals := R.locals, cells := 1, slots := 6 }) (Nat.le_refl _) (Nat.le_refl _) hRcells hRslots
  obtain ⟨s', hA⟩ : ∃ z, z = (T.setVm s.vm).setFrames (.invoking m args :: below) := ⟨_, rfl⟩
  rw [← hA] at Y
  have hvm : s'.vm = s.vm := by rw [hA]; rfl
  have hhp : s'.heap = H := by rw [hA]; exact hT
  have hW0 : s.WarmedH s'.vm := by rw [hvm]; exact State.WarmedH.refl s
  have hat' : ∀ w ∈ vx_at0 own ic cls names, w.before args s' = true := fun w hw => vx_ot_at hW0 hvm.symm (hgood w (List.mem_cons_of_mem _ (List.mem_cons_of_mem _ hw))) (hat w hw)
  have hk' : (Cond.classLink own ik cls).before args s' = true := vx_ot_at hW0 hvm.symm (hgood _ List.mem_cons_self) hk
  have hini' : (Cond.initialized cls).before args s' = true := vx_ot_at hW0 hvm.symm (hgood _ (List.mem_cons_of_mem _ List.mem_cons_self)) hini
  have hU' : vx_Zq Bundle.tN "UNASSIGNED_STACK" Bundle.steD A s' s'.heap := by rw [hhp]; exact vx_Zq.moved hW0.alike (hU.kept hS.2.1)
  have hN' : vx_Zq Bundle.tN "SUPPRESSED_SENTINEL" Bundle.listD A s' s'.heap := by rw [hhp]; exact vx_Zq.moved hW0.alike (hN.kept hS.2.1)
  have h : ∀ w ∈ Bundle.ownAtoms0 own ic cls names, w.before args s' = true := vx_own hat' (vx_isRefq hU'.1) (vx_isRefq hN'.1) hU'.2.word hN'.2.word
  have hown' : s'.vm.findClass own = some m.cls := by rw [hvm]; exact hown
  have hins : (Cond.instantiable cls 6).before args s' = true := h _ (by simp [Bundle.ownAtoms0])
  obtain ⟨vm₁, cX, kX, hfX, hkX, -, -, X₁, st1⟩ := Y.newCold hexec (own := own) (C := cls) (index := ik) (n := 6) hown' hk' hins hini'
    (g := F0 m pc ls rest) rfl (by rw [hb]; exact d0) (Nat.le_refl _) (Nat.le_refl _)
  generalize hT1 : (T.setVm vm₁).pushCell { cls := cX, slots := kX.instanceTypes.map defaultValue, vm := .none } = T1 at X₁ st1
  have hcat : (Value.ref T.heap.size).category = 1 := rfl
  have hcellA : T1.heap[T.heap.size]? = some (freshCell cX kX) := by rw [← hT1]; exact State.heap_pushCell_size _ _
  have d3' : decode c.code (pc + 3) = .ok (.dup, 1) := by rw [hb]; exact d3
  obtain ⟨U, hsteps, hrun, hend, hW, hsame, ce, hce, hO⟩ := X₁.ctorThrow0 hexec htr (own := own) (cls := cls) (names := names) (ic := ic) hown' hcls hnames h (fun x hx => nomatch hx) hfX hkX hcellA (by rw [hhp, hT]; exact Nat.le_refl _)
    (g := { method := m, pc := pc + 4, locals := ls, stack := .ref T.heap.size :: .ref T.heap.size :: rest, locked := none }) rfl hsize rfl rfl (rest := rest) rfl
    (by rw [hb]; exact d4) (by rw [hb]; exact d7) hout hRframes (by simp only [List.map_cons, List.sum_cons, hcat]; omega) hlocks
  obtain ⟨f1, f2⟩ := vx_frame hsame
  rw [hhp] at f1 f2
  have hWs : s.WarmedH U.vm := State.WarmedH.trans hW0 hW
  have hcl : s.vm.findClass cls = some ce.cls := by
    have h9 := hO.cls
    rw [hvm] at h9
    exact h9
  have hall : s.sameButNew ({ U with vm := s.vm } : State) locs mc ms := by
    subst hA
    obtain ⟨e1, e2⟩ := hsame
    rw [State.setFrames_setFrames] at e1
    have h2 : (T.setVm s.vm).sameButNew ({ U with vm := s.vm } : State) [] (0 + 1) (0 + 6) := ⟨e1, e2⟩
    have h3 := X.same.trans h2
    rw [List.append_nil] at h3
    exact h3.mono hc hs
  refine ⟨U, ?_, .threw T.heap.size, hrun, hend, Or.inr ⟨T.heap.size, rfl, cls, ce, locs, hx U hWs.alike f1 (fun q hq => f2 q hq (fun z hz => nomatch hz)), hce, hO.vm, hcl, hWs, hall, hf⟩⟩
  refine st1 _ ?_
  show Steps p.tables e below (T1.setTop { method := m, pc := pc + 3, locals := ls, stack := .ref T.heap.size :: rest, locked := none }) _
  jvm_step X₁.here [X₁.here.top, hexec, d3', Value.category]
  exact hsteps
/-- 'throw new E("text")': new; dup; ldc; invokespecial; athrow -/
theorem vx_throwS {cc : ByteArray} {pc : Nat} (hexec : p.tables.exec = Jvm.exec) (hb : c.code = cc) (hl : l.stackTraces = false) {own cls text : String} {names : List String} {ik is ic mc ms sa : Nat} {A : Nat → Prop}
    (hown : s.vm.findClass own = some m.cls) (hcls : Bundle.fit cls = true) (hnames : ∀ n ∈ names, Bundle.fit n = true)
    (hk : (Cond.classLink own ik cls).before args s = true) (hini : (Cond.initialized cls).before args s = true) (hstr : vk_R own is text sa s) (hat : ∀ w ∈ vx_atS own ic cls names, w.before args s = true)
    (hgood : ∀ w ∈ Cond.classLink own ik cls :: Cond.initialized cls :: vx_atS own ic cls names, vx_ot w = true)
    (hU : vx_Zq Bundle.tN "UNASSIGNED_STACK" Bundle.steD A s s.heap) (hN : vx_Zq Bundle.tN "SUPPRESSED_SENTINEL" Bundle.listD A s s.heap) (hS : va_S A s.heap H locs) (hsize : ls.size = c.maxLocals)
    (d0 : decode cc pc = .ok (.new ik, 3)) (d3 : decode cc (pc + 3) = .ok (.dup, 1)) (d4 : decode cc (pc + 4) = .ok (.ldc is, 2)) (d6 : decode cc (pc + 6) = .ok (.invokespecial ic, 3)) (d9 : decode cc (pc + 9) = .ok (.athrow, 1))
    (hout : ∀ x ∈ c.exceptionTable.toList, covers x (pc + 9) = false)
    (hRframes : names.length + 3 < R.frames) (hRlocals : (rest.map fun v => v.category).sum + (13 * (names.length + 1) + 43) ≤ R.locals) (hRcells : cells + 1 ≤ R.cells) (hRslots : slots + 6 ≤ R.slots) (hlocks : meth.locks = false)
    (hx : ∀ t : State, s.vm.Alike t.vm → H.size ≤ t.heap.size → (∀ q : Nat, q < H.size → t.heap[q]? = H[q]?) → XC cls s t)
    (hf : ∀ z ∈ locs, free z.base) (hc : cells + 1 ≤ mc) (hs : slots + 6 ≤ ms) :
    W p l e R s m args below meth c H locs cells slots (vx_MQ below Qc XC args s mc ms free) (F0 m pc ls rest) := by
  intro T hT X
  have htr : e.platform.stackTraces = false := (show e.platform.stackTraces = l.stackTraces by rw [X.admits.platform]).trans hl
  have Y := vx_rebase X (R' := { frames := R.frames, locals := R.locals, cells := 1, slots := 6 }) (Nat.le_refl _) (Nat.le_refl _) hRcells hRslots
  obtain ⟨s', hA⟩ : ∃ z, z = (T.setVm s.vm).setFrames (.invoking m args :: below) := ⟨_, rfl⟩
  rw [← hA] at Y
  have hvm : s'.vm = s.vm := by rw [hA]; rfl
  have hhp : s'.heap = H := by rw [hA]; exact hT
  have hW0 : s.WarmedH s'.vm := by rw [hvm]; exact State.WarmedH.refl s
  have hat' : ∀ w ∈ vx_atS own ic cls names, w.before args s' = true := fun w hw => vx_ot_at hW0 hvm.symm (hgood w (List.mem_cons_of_mem _ (List.mem_cons_of_mem _ hw))) (hat w hw)
  have hk' : (Cond.classLink own ik cls).before args s' = true := vx_ot_at hW0 hvm.symm (hgood _ List.mem_cons_self) hk
  have hini' : (Cond.initialized cls).before args s' = true := vx_ot_at hW0 hvm.symm (hgood _ (List.mem_cons_of_mem _ List.mem_cons_self)) hini
  have hU' : vx_Zq Bundle.tN "UNASSIGNED_STACK" Bundle.steD A s' s'.heap := by rw [hhp]; exact vx_Zq.moved hW0.alike (hU.kept hS.2.1)
  have hN' : vx_Zq Bundle.tN "SUPPRESSED_SENTINEL" Bundle.listD A s' s'.heap := by rw [hhp]; exact vx_Zq.moved hW0.alike (hN.kept hS.2.1)
  have h : ∀ w ∈ Bundle.ownAtoms own ic cls names, w.before args s' = true := vx_own hat' (vx_isRefq hU'.1) (vx_isRefq hN'.1) hU'.2.word hN'.2.word
  have hown' : s'.vm.findClass own = some m.cls := by rw [hvm]; exact hown
  have hins : (Cond.instantiable cls 6).before args s' = true := h _ (by simp [Bundle.ownAtoms])
  obtain ⟨vm₁, cX, kX, hfX, hkX, -, -, X₁, st1⟩ := Y.newCold hexec (own := own) (C := cls) (index := ik) (n := 6) hown' hk' hins hini'
    (g := F0 m pc ls rest) rfl (by rw [hb]; exact d0) (Nat.le_refl _) (Nat.le_refl _)
  generalize hT1 : (T.setVm vm₁).pushCell { cls := cX, slots := kX.instanceTypes.map defaultValue, vm := .none } = T1 at X₁ st1
  have hcat : (Value.ref T.heap.size).category = 1 := rfl
  have hcellA : T1.heap[T.heap.size]? = some (freshCell cX kX) := by rw [← hT1]; exact State.heap_pushCell_size _ _
  have d3' : decode c.code (pc + 3) = .ok (.dup, 1) := by rw [hb]; exact d3
  have d4' : decode c.code (pc + 4) = .ok (.ldc is, 2) := by rw [hb]; exact d4
  have hstr' : vk_R own is text sa s' := vk_R.warm hW0 hstr
  obtain ⟨U, hsteps, hrun, hend, hW, hsame, ce, hce, hO⟩ := X₁.ctorThrowS hexec htr (own := own) (cls := cls) (names := names) (ic := ic) hown' hcls hnames h (fun x hx => nomatch hx) hfX hkX hcellA (by rw [hhp, hT]; exact Nat.le_refl _) (msg := .ref sa) rfl
    (g := { method := m, pc := pc + 6, locals := ls, stack := .ref sa :: .ref T.heap.size :: .ref T.heap.size :: rest, locked := none }) rfl hsize rfl rfl (rest := rest) rfl
    (by rw [hb]; exact d6) (by rw [hb]; exact d9) hout hRframes (by simp only [List.map_cons, List.sum_cons, hcat]; omega) hlocks
  obtain ⟨f1, f2⟩ := vx_frame hsame
  rw [hhp] at f1 f2
  have hWs : s.WarmedH U.vm := State.WarmedH.trans hW0 hW
  have hcl : s.vm.findClass cls = some ce.cls := by
    have h9 := hO.cls
    rw [hvm] at h9
    exact h9
  have hall : s.sameButNew ({ U with vm := s.vm } : State) locs mc ms := by
    subst hA
    obtain ⟨e1, e2⟩ := hsame
    rw [State.setFrames_setFrames] at e1
    have h2 : (T.setVm s.vm).sameButNew ({ U with vm := s.vm } : State) [] (0 + 1) (0 + 6) := ⟨e1, e2⟩
    have h3 := X.same.trans h2
    rw [List.append_nil] at h3
    exact h3.mono hc hs
  refine ⟨U, ?_, .threw T.heap.size, hrun, hend, Or.inr ⟨T.heap.size, rfl, cls, ce, locs, hx U hWs.alike f1 (fun q hq => f2 q hq (fun z hz => nomatch hz)), hce, hO.vm, hcl, hWs, hall, hf⟩⟩
  refine st1 _ ?_
  show Steps p.tables e below (T1.setTop { method := m, pc := pc + 3, locals := ls, stack := .ref T.heap.size :: rest, locked := none }) _
  jvm_step X₁.here [X₁.here.top, hexec, d3', Value.category]
  exact X₁.ldcString hexec (own := own) (text := text) (index := is) (a := sa) hown' hstr'.1 hstr'.2
    (g := { method := m, pc := pc + 4, locals := ls, stack := .ref T.heap.size :: .ref T.heap.size :: rest, locked := none }) rfl d4' _ hsteps
/-- 'throw new E("text")', the text by a wide index -/
theorem vx_throwSW {cc : ByteArray} {pc : Nat} (hexec : p.tables.exec = Jvm.exec) (hb : c.code = cc) (hl : l.stackTraces = false) {own cls text : String} {names : List String} {ik is ic mc ms sa : Nat} {A : Nat → Prop}
    (hown : s.vm.findClass own = some m.cls) (hcls : Bundle.fit cls = true) (hnames : ∀ n ∈ names, Bundle.fit n = true)
    (hk : (Cond.classLink own ik cls).before args s = true) (hini : (Cond.initialized cls).before args s = true) (hstr : vk_R own is text sa s) (hat : ∀ w ∈ vx_atS own ic cls names, w.before args s = true)
    (hgood : ∀ w ∈ Cond.classLink own ik cls :: Cond.initialized cls :: vx_atS own ic cls names, vx_ot w = true)
    (hU : vx_Zq Bundle.tN "UNASSIGNED_STACK" Bundle.steD A s s.heap) (hN : vx_Zq Bundle.tN "SUPPRESSED_SENTINEL" Bundle.listD A s s.heap) (hS : va_S A s.heap H locs) (hsize : ls.size = c.maxLocals)
    (d0 : decode cc pc = .ok (.new ik, 3)) (d3 : decode cc (pc + 3) = .ok (.dup, 1)) (d4 : decode cc (pc + 4) = .ok (.ldc_w is, 3)) (d7 : decode cc (pc + 7) = .ok (.invokespecial ic, 3)) (d10 : decode cc (pc + 10) = .ok (.athrow, 1))
    (hout : ∀ x ∈ c.exceptionTable.toList, covers x (pc + 10) = false)
    (hRframes : names.length + 3 < R.frames) (hRlocals : (rest.map fun v => v.category).sum + (13 * (names.length + 1) + 43) ≤ R.locals) (hRcells : cells + 1 ≤ R.cells) (hRslots : slots + 6 ≤ R.slots) (hlocks : meth.locks = false)
    (hx : ∀ t : State, s.vm.Alike t.vm → H.size ≤ t.heap.size → (∀ q : Nat, q < H.size → t.heap[q]? = H[q]?) → XC cls s t)
    (hf : ∀ z ∈ locs, free z.base) (hc : cells + 1 ≤ mc) (hs : slots + 6 ≤ ms) :
    W p l e R s m args below meth c H locs cells slots (vx_MQ below Qc XC args s mc ms free) (F0 m pc ls rest) := by
  intro T hT X
  have htr : e.platform.stackTraces = false := (show e.platform.stackTraces = l.stackTraces by rw [X.admits.platform]).trans hl
  have Y := vx_rebase X (R' := { frames := R.frames, locals := R.locals, cells := 1, slots := 6 }) (Nat.le_refl _) (Nat.le_refl _) hRcells hRslots
  obtain ⟨s', hA⟩ : ∃ z, z = (T.setVm s.vm).setFrames (.invoking m args :: below) := ⟨_, rfl⟩
  rw [← hA] at Y
  have hvm : s'.vm = s.vm := by rw [hA]; rfl
  have hhp : s'.heap = H := by rw [hA]; exact hT
  have hW0 : s.WarmedH s'.vm := by rw [hvm]; exact State.WarmedH.refl s
  have hat' : ∀ w ∈ vx_atS own ic cls names, w.before args s' = true := fun w hw => vx_ot_at hW0 hvm.symm (hgood w (List.mem_cons_of_mem _ (List.mem_cons_of_mem _ hw))) (hat w hw)
  have hk' : (Cond.classLink own ik cls).before args s' = true := vx_ot_at hW0 hvm.symm (hgood _ List.mem_cons_self) hk
  have hini' : (Cond.initialized cls).before args s' = true := vx_ot_at hW0 hvm.symm (hgood _ (List.mem_cons_of_mem _ List.mem_cons_self)) hini
  have hU' : vx_Zq Bundle.tN "UNASSIGNED_STACK" Bundle.steD A s' s'.heap := by rw [hhp]; exact vx_Zq.moved hW0.alike (hU.kept hS.2.1)
  have hN' : vx_Zq Bundle.tN "SUPPRESSED_SENTINEL" Bundle.listD A s' s'.heap := by rw [hhp]; exact vx_Zq.moved hW0.alike (hN.kept hS.2.1)
  have h : ∀ w ∈ Bundle.ownAtoms own ic cls names, w.before args s' = true := vx_own hat' (vx_isRefq hU'.1) (vx_isRefq hN'.1) hU'.2.word hN'.2.word
  have hown' : s'.vm.findClass own = some m.cls := by rw [hvm]; exact hown
  have hins : (Cond.instantiable cls 6).before args s' = true := h _ (by simp [Bundle.ownAtoms])
  obtain ⟨vm₁, cX, kX, hfX, hkX, -, -, X₁, st1⟩ := Y.newCold hexec (own := own) (C := cls) (index := ik) (n := 6) hown' hk' hins hini'
    (g := F0 m pc ls rest) rfl (by rw [hb]; exact d0) (Nat.le_refl _) (Nat.le_refl _)
  generalize hT1 : (T.setVm vm₁).pushCell { cls := cX, slots := kX.instanceTypes.map defaultValue, vm := .none } = T1 at X₁ st1
  have hcat : (Value.ref T.heap.size).category = 1 := rfl
  have hcellA : T1.heap[T.heap.size]? = some (freshCell cX kX) := by rw [← hT1]; exact State.heap_pushCell_size _ _
  have d3' : decode c.code (pc + 3) = .ok (.dup, 1) := by rw [hb]; exact d3
  have d4' : decode c.code (pc + 4) = .ok (.ldc_w is, 3) := by rw [hb]; exact d4
  have hstr' : vk_R own is text sa s' := vk_R.warm hW0 hstr
  obtain ⟨U, hsteps, hrun, hend, hW, hsame, ce, hce, hO⟩ := X₁.ctorThrowS hexec htr (own := own) (cls := cls) (names := names) (ic := ic) hown' hcls hnames h (fun x hx => nomatch hx) hfX hkX hcellA (by rw [hhp, hT]; exact Nat.le_refl _) (msg := .ref sa) rfl
    (g := { method := m, pc := pc + 7, locals := ls, stack := .ref sa :: .ref T.heap.size :: .ref T.heap.size :: rest, locked := none }) rfl hsize rfl rfl (rest := rest) rfl
    (by rw [hb]; exact d7) (by rw [hb]; exact d10) hout hRframes (by simp only [List.map_cons, List.sum_cons, hcat]; omega) hlocks
  obtain ⟨f1, f2⟩ := vx_frame hsame
  rw [hhp] at f1 f2
  have hWs : s.WarmedH U.vm := State.WarmedH.trans hW0 hW
  have hcl : s.vm.findClass cls = some ce.cls := by
    have h9 := hO.cls
    rw [hvm] at h9
    exact h9
  have hall : s.sameButNew ({ U with vm := s.vm } : State) locs mc ms := by
    subst hA
    obtain ⟨e1, e2⟩ := hsame
    rw [State.setFrames_setFrames] at e1
    have h2 : (T.setVm s.vm).sameButNew ({ U with vm := s.vm } : State) [] (0 + 1) (0 + 6) := ⟨e1, e2⟩
    have h3 := X.same.trans h2
    rw [List.append_nil] at h3
    exact h3.mono hc hs
  refine ⟨U, ?_, .threw T.heap.size, hrun, hend, Or.inr ⟨T.heap.size, rfl, cls, ce, locs, hx U hWs.alike f1 (fun q hq => f2 q hq (fun z hz => nomatch hz)), hce, hO.vm, hcl, hWs, hall, hf⟩⟩
  refine st1 _ ?_
  show Steps p.tables e below (T1.setTop { method := m, pc := pc + 3, locals := ls, stack := .ref T.heap.size :: rest, locked := none }) _
  jvm_step X₁.here [X₁.here.top, hexec, d3', Value.category]
  exact X₁.ldcStringW hexec (own := own) (text := text) (index := is) (a := sa) hown' hstr'.1 hstr'.2
    (g := { method := m, pc := pc + 4, locals := ls, stack := .ref T.heap.size :: .ref T.heap.size :: rest, locked := none }) rfl d4' _ hsteps
end Ends
section Bodies
variable {l : Launch}
theorem vx_ofW {y : MethodName} {ws ws' : List Cond} {rm : Room} {Pc : Array Value → State → Prop} {Qc : Array Value → State → Outcome → State → Prop} {XC : String → State → State → Prop} {mc ms : Nat} {free : Addr → Prop} {cc : ByteArray} {maxL : Nat} {ret : Option FieldType}
    (hy : plainName y.cls = true) (hw : ws = Cond.code y cc maxL ret :: ws')
    (body : ∀ p e s m args below meth c s₁, BodyLoose p l y (headSpec ws rm) cc maxL ret e s m args below meth c s₁ → c.maxLocals = maxL → (∀ x ∈ c.exceptionTable.toList, False) → Pc args s →
      W p l e (headSpec ws rm).room s m args below meth c s.heap [] 0 0 (vx_MQ below Qc XC args s mc ms free) (entryFrame m args maxL)) : vx_Met l y ws rm Pc Qc XC mc ms free := by
  refine MetFree.of_bodyS (code := cc) (maxLocals := maxL) (ret := ret) hy ?_ ?_
  · intro args s m h hn
    obtain ⟨meth, c, h1, h2, h3, h4, h5, h6, -, -⟩ := Cond.code_spec hn (atoms_spec (ws := ws) h _ (by rw [hw]; exact List.mem_cons_self))
    exact ⟨meth, c, h1, h2, h3, h4, h5, h6⟩
  · intro p e s m args below meth c s₁ B hml hP _
    have hh0 : s₁.heap = s.heap := by rw [B.state]; rfl
    have ht : ∀ x ∈ c.exceptionTable.toList, False := by
      obtain ⟨meth9, c9, h1, h2, -, -, -, -, h7, -⟩ := Cond.code_spec B.named (atoms_spec (ws := ws) B.pre _ (by rw [hw]; exact List.mem_cons_self))
      cases Option.some.inj (h1.symm.trans B.method)
      cases Option.some.inj (h2.symm.trans (Stand.of_body B).code)
      intro x hx
      rw [Array.isEmpty_iff.mp h7] at hx
      cases hx
    obtain ⟨t, a1, o, b1, b2, b3⟩ := body p e s m args below meth c s₁ B hml ht hP s₁ hh0 (Stand.of_body B)
    exact ⟨t, o, a1, b1, b2, b3⟩
/-- the table of a body with handlers -/
theorem vx_table {p : Program} {x y : MethodName} {S : Spec} {cc bytes : ByteArray} {maxL maxL' : Nat} {ret ret' : Option FieldType} {e : Env} {s s₁ : State} {m : MethodId} {args : Array Value} {below : List Frame} {meth : Method} {c : Code} {hh : List (Nat × Nat × Nat × Nat)}
    (B : BodyLoose p l y S cc maxL ret e s m args below meth c s₁) (h : (Cond.codeWith y bytes maxL' ret' hh).before args s = true) : c.exceptionTable.toList = tableOf hh := by
  obtain ⟨m9, meth9, c9, hn9, h1, h2, -, -, h6, -⟩ := Cond.codeWith_spec h
  cases Option.some.inj (hn9.symm.trans B.named)
  cases Option.some.inj (h1.symm.trans B.method)
  cases Option.some.inj (h2.symm.trans (Stand.of_body B).code)
  rw [← h6, table_eq]
end Bodies
end VXA
/-! ===== END ===== -/
/-! ===== BEGIN a static call of a method with an exception table ===== -/
section VXS
variable {p : Program} {l : Launch} {e : Env} {R : Room} {s : State} {m : MethodId} {args : Array Value} {below : List Frame} {meth : Method} {c : Code} {T : State} {H : Heap} {locs : List Loc} {cells slots : Nat}
abbrev vx_CSW (R : Room) (s : State) (args : Array Value) (own : String) (index : Nat) (y : MethodName) (bytes : ByteArray) (maxL : Nat) (ret : Option FieldType) (hh : List (Nat × Nat × Nat × Nat)) (ws : List Cond) (rm : Room) (mc ms n : Nat) : Prop :=
  (rm.cells = mc ∧ rm.slots = ms ∧ rm.frames + 1 ≤ R.frames ∧ 8 + (maxL + 11) + rm.locals ≤ R.locals ∧ (∀ w ∈ ws, ∀ (a' : Array Value) (U : State), s.WarmedH U.vm → w.before a' U = true) ∧ Cond.codeWith y bytes maxL ret hh ∈ ws) ∧
  (Cond.codeWith y bytes maxL ret hh).before args s = true ∧ (Cond.initialized y.cls).before args s = true ∧ (y.cls ≠ "java/lang/invoke/MethodHandle" ∧ y.cls ≠ "java/lang/invoke/VarHandle") ∧
  (∀ sig, parseMethodDescriptor y.desc = some sig → n = sig.parameters.length) ∧ (Cond.methodLink own index y).before args s = true ∧ (Cond.static y).before args s = true
theorem vx_cwSW {own : String} {index maxL mc ms : Nat} {y : MethodName} {bytes : ByteArray} {ret : Option FieldType} {hh : List (Nat × Nat × Nat × Nat)} {Ts ws ws' : List Cond} {rm : Room} (n : Nat) (ht : ∀ w ∈ Ts, w.before args s = true) (hT : GoodIn Ts (va_wsS own index y ws)) (hw : ws = Cond.codeWith y bytes maxL ret hh :: ws') (hrc : rm.cells = mc) (hrs : rm.slots = ms)
    (hd : y.cls ≠ "java/lang/invoke/MethodHandle" ∧ y.cls ≠ "java/lang/invoke/VarHandle" ∧ (parseMethodDescriptor y.desc).map (fun d => d.parameters.length) = some n) (hR : rm.frames + 1 ≤ R.frames ∧ 8 + (maxL + 11) + rm.locals ≤ R.locals) :
    vx_CSW R s args own index y bytes maxL ret hh ws rm mc ms n := by
  have ok : ∀ w ∈ va_wsS own index y ws, w.before args s = true := fun w h => ht w (hT w h).1
  have hG : GoodIn Ts ws := fun w h => hT w (by unfold va_wsS; exact List.mem_append_right _ h)
  have hc : Cond.codeWith y bytes maxL ret hh ∈ ws := by rw [hw]; exact List.mem_cons_self
  refine ⟨⟨hrc, hrs, hR.1, hR.2, pay_in ht hG, hc⟩, ht _ (hG _ hc).1, ok _ (by simp [va_wsS]), ⟨hd.1, hd.2.1⟩, fun sig h => ?_, ok _ (by simp [va_wsS]), ok _ (by simp [va_wsS])⟩
  have h2 := hd.2.2
  rw [h] at h2
  exact (Option.some.inj h2).symm
theorem vx_callSW (X : Stand p l e R s m args below meth c T locs cells slots) (hexec : p.tables.exec = Jvm.exec) {own : String} {index : Nat} {y : MethodName} {bytes : ByteArray} {maxL : Nat} {ret : Option FieldType} {hh : List (Nat × Nat × Nat × Nat)}
    (hown : s.vm.findClass own = some m.cls) (hlink : (Cond.methodLink own index y).before args s = true) (hstat : (Cond.static y).before args s = true) (hinit : (Cond.initialized y.cls).before args s = true)
    (hcode : (Cond.codeWith y bytes maxL ret hh).before args s = true) (hy : y.cls ≠ "java/lang/invoke/MethodHandle" ∧ y.cls ≠ "java/lang/invoke/VarHandle")
    {W9 : Nat} {Pre : Pt → Array Value → Prop} {Post : Pt → Array Value → Option Value → Pt → Prop} (hK : Back l R p e below s args y 3 W9 Pre Post)
    {g : JFrame} (hg : g.method = m) (hsize : g.locals.size = c.maxLocals) {argsL rest : List Value} (hlen : ∀ sig, parseMethodDescriptor y.desc = some sig → argsL.length = sig.parameters.length)
    (hstack : g.stack = argsL.reverse ++ rest) (hW : 2 * g.monitorRoom + (rest.map fun v => v.category).sum ≤ W9) (hdg : decode c.code g.pc = .ok (.invokestatic index, 3))
    (hpre : ∀ vm₁, s.WarmedH vm₁ → Pre ⟨T.setVm vm₁, locs, cells, slots⟩ argsL.toArray) :
    ∃ (v : Option Value) (vm₁ : Vm) (B : Pt), s.WarmedH vm₁ ∧ Stand p l e R s m args below meth c B.U B.locs B.cells B.slots ∧ Post ⟨T.setVm vm₁, locs, cells, slots⟩ argsL.toArray v B ∧
      ∀ target, Steps p.tables e below (B.U.setTop { g with pc := g.pc + 3, stack := v.toList ++ rest }) target → Steps p.tables e below (T.setTop g) target := by
  obtain ⟨mk, methM, cM, hnamed, hmethM, -, -, -, -, -, -, hsigM⟩ := Cond.codeWith_spec hcode
  have hstatic : methM.isStatic = true := Cond.static_spec hnamed hmethM hstat
  obtain ⟨kP, hkP, -⟩ := className_of_methodNamed hnamed
  have hinitP : kP.init = .initialized := Cond.initialized_spec (findClass_of_methodNamed hnamed) hkP hinit
  obtain ⟨vm₁, X₁, hstep₁⟩ := X.invokestatic hexec hown hlink hnamed hmethM hstatic hkP hinitP hy (g := g) hg (argsL := argsL) (rest := rest) (hlen _ hsigM) hstack hdg
  obtain ⟨v, B, X', hpost, hsteps⟩ := hK m meth c ⟨T.setVm vm₁, locs, cells, slots⟩ { g with stack := rest } (.invokestatic index) mk argsL.toArray X₁ hg hsize hdg hW (X₁.named hnamed) (hpre vm₁ X₁.warmed)
  exact ⟨v, vm₁, B, X₁.warmed, X', hpost, fun target h => hstep₁ _ fun acts => by rw [doInvoke_state]; exact hsteps.trans h⟩
theorem vx_runSW {y : MethodName} {bytes cc : ByteArray} {maxL nL mc ms n index : Nat} {ret : Option FieldType} {hh : List (Nat × Nat × Nat × Nat)} {ws : List Cond} {rm : Room} {Pc : Array Value → State → Prop} {Qc : Array Value → State → Outcome → State → Prop} {free : Addr → Prop} {Ts : List Cond} {own : String} {As rest : List Value} {g : JFrame}
    (S : CallFix p m c cc nL s args Ts own) (hM : Met l y ws rm Pc Qc mc ms free) (cw : vx_CSW R s args own index y bytes maxL ret hh ws rm mc ms n) (hp : PreS s H Pc As)
    (hg : g.method = m) (hn : As.length = n) (hsize : g.locals.size = nL) (hstack : g.stack = As.reverse ++ rest) (hW : 2 * g.monitorRoom + (rest.map fun v => v.category).sum ≤ 8) (hdg : decode cc g.pc = .ok (.invokestatic index, 3)) (hf : cells + mc ≤ R.cells ∧ slots + ms ≤ R.slots) :
    va_Run p l e R s m args below meth c H locs cells slots mc ms g rest (Qc As.toArray) (free) := by
  obtain ⟨⟨hrc, hrs, hfr, hlo, hws, hcw⟩, hcode, hini, hy, hlen, hl, hstt⟩ := cw
  have hK : Back l R p e below s args y 3 8 (PreOf R mc ms Pc) (PostOf Qc mc ms free) := va_backW (hh := hh) (bytes := bytes) (maxL := maxL) (ret := ret) hM hp.1 hrc hrs hfr hlo hws hcw (fun a' U hW => word_at hW (Or.inl (by first | rfl | simp [Cond.onTables, Cond.keeps, Cond.steady])) hini)
  obtain ⟨hx, hb, hml, ho, -⟩ := S
  intro T hT X
  obtain ⟨v, vm₁, ⟨U', l2, c2, s2⟩, hW₁, X', ⟨g', mk, t, L, e1, e2, hq, h1, hL, h2, h3⟩, st⟩ := vx_callSW X hx (hh := hh) (bytes := bytes) (maxL := maxL) (ret := ret) ho hl hstt hini hcode hy hK hg (hsize.trans hml.symm) (argsL := As) (rest := rest) (fun sig h => hn.trans (hlen sig h)) hstack hW (by rw [hb]; exact hdg)
    (fun vm₁ hW₁ => ⟨hf.1, hf.2, hp.2 (T.setVm vm₁) hT hW₁⟩)
  dsimp only [Pt.U, Pt.locs, Pt.cells, Pt.slots] at X' e1 e2 h1 h2 h3 st
  subst h1; subst h2; subst h3
  exact ⟨v, (T.setVm vm₁).calling g' mk As.toArray, t, U', L, hT, X', hL, e1, e2, hq, st⟩
/-- not caught here, past rows that name other classes: it goes on to the caller -/
theorem vx_outP {p : Program} {l : Launch} {e : Env} {R : Room} {s : State} {m : MethodId} {args : Array Value} {below : List Frame} {meth : Method} {c : Code} {H : Heap} {locs : List Loc} {cells slots : Nat} {free : Addr → Prop} {ls : Array Slot} {rest : List Value} {Qc : Array Value → State → Outcome → State → Prop} {XC : String → State → State → Prop}
    {pc : Nat} {own E : String} {ce : Cell} {q : Addr} {mc ms : Nat} (hown : s.vm.findClass own = some m.cls) (hlocks : meth.locks = false)
    (hpass : ∀ z ∈ c.exceptionTable.toList, covers z pc = false ∨ (z.catchType ≠ 0 ∧ ∃ nm : String, (Cond.classLink own z.catchType nm).before args s = true ∧ va_Nc E nm s)) (hcell : H[q]? = some ce) (hv : ce.vm = .none) (hcl : s.vm.findClass E = some ce.cls)
    (hx : ∀ t : State, t.heap = H → s.vm.Alike t.vm → XC E s t) (hf : ∀ z ∈ locs, free z.base) (hc : cells ≤ mc) (hs : slots ≤ ms) :
    vx_W p l e R s m args below meth c H locs cells slots (vx_MQ below Qc XC args s mc ms free) (F0 m pc ls rest) q := by
  intro T hT X
  have hpl : e.platform.magicAccessors = ({} : Platform).magicAccessors := by rw [X.admits.platform]
  obtain ⟨vm', hW', X', st⟩ := X.outThrough hlocks q (g := F0 m pc ls rest) rfl rfl rfl (cell := ce) (by rw [hT]; exact hcell) (by rw [hv]; rfl)
    (by obtain ⟨k9, h9, -⟩ := Vm.findClass_spec hcl; exact ⟨k9, h9⟩) (fun z hz => by
      rcases hpass z hz with h | ⟨hz0, nm, hl1, hn1⟩
      · exact Or.inl h
      · obtain ⟨c6, hc6, hcl6⟩ := Cond.classLink_spec hown hl1 e.platform hpl
        obtain ⟨a8, b8, h1, h2, h3⟩ := hn1
        cases Option.some.inj (h1.symm.trans hcl)
        cases Option.some.inj (h2.symm.trans hc6)
        exact Or.inr ⟨hz0, _, hcl6, h3⟩)
  obtain ⟨g₀, hfr⟩ := X'.frames_eq
  have hcell9 : ((T.setVm vm').setFrames (.throwing q :: below)).heap[q]? = some ce := by
    show T.heap[q]? = some ce
    rw [hT]; exact hcell
  have hend : Ended ((T.setVm vm').setFrames (.throwing q :: below)) below (.threw q) := State.frames_setFrames _ (State.cur_lt_of_frames hfr)
  refine ⟨(T.setVm vm').setFrames (.throwing q :: below), ?_, .threw q, X'.here.running, hend, Or.inr ⟨q, rfl, E, ce, locs, hx _ hT (X'.ends _).1.alike, hcell9, hv, hcl, (X'.ends _).1, (X'.ends _).2.mono hc hs, hf⟩⟩
  rw [X.pushThrowing_eq]
  exact st
/-- a thing of a world lies in the heap -/
theorem vx_lt {D : va_G} {cl : List vw_C} {ws : va_W} {H1 : Heap} (h : va_P D cl ws H1) {k : Nat} {q : Nat × va_E} (hk : ws[k]? = some q) : q.1 < H1.size := (h k q hk).lt
end VXS
/-! ===== END ===== -/
/-! ===== BEGIN methods with a table of their own: called by a name, returning or throwing ===== -/
section VXH
/-! vx_backW, vx_callVX, vx_callSX, vx_callVW, vx_runVW, vx_runVX, vx_runSX, vx_ofWH follow the same proofs as their sisters above (Free/Laws.lean, Shelf42/LK1.lean); vx_outP calls Shelf42/NT130.lean (outThrough). -/
section
variable {l : Launch} {R : Room} {p : Program} {e : Env} {below : List Frame} {s : State} {sargs : Array Value} {y : MethodName} {len W9 : Nat}
theorem vx_backW {ws : List Cond} {rm : Room} {Pc : Array Value → State → Prop} {Qc : Array Value → State → Outcome → State → Prop} {XC : String → State → State → Prop} {mc ms : Nat} {free : Addr → Prop} {bytes : ByteArray} {maxL : Nat} {ret : Option FieldType} {hh : List (Nat × Nat × Nat × Nat)}
    (hM : vx_Met l y ws rm Pc Qc XC mc ms free) (hblind : FrameBlind Pc) (hrc : rm.cells = mc) (hrs : rm.slots = ms)
    (hframes : rm.frames + 1 ≤ R.frames) (hlocals : W9 + (maxL + 11) + rm.locals ≤ R.locals)
    (hws : ∀ w ∈ ws, ∀ a' U, s.WarmedH U.vm → w.before a' U = true) (hcode : Cond.codeWith y bytes maxL ret hh ∈ ws) (hinit : ∀ a' U, s.WarmedH U.vm → (Cond.initialized y.cls).before a' U = true) :
    vx_Back l R p e below s sargs y len W9 (PreOf R mc ms Pc) (PostOf Qc mc ms free) (vx_Post XC mc ms free) := by
  intro m meth c A g ig mk a X hg hsize hdg hW hn hp
  have h1 : (headSpec ws rm).pre.before a A.U = true := atoms_intro fun w hw => hws w hw _ _ X.warmed
  have h2 : (Cond.codeWith y bytes maxL ret hh).before a A.U = true := hws _ hcode _ _ X.warmed
  have h3 : (Cond.initialized y.cls).before a A.U = true := hinit _ _ X.warmed
  have h4 : A.cells + (headSpec ws rm).room.cells ≤ R.cells := by rw [show (headSpec ws rm).room.cells = mc from hrc]; exact hp.1
  have h5 : A.slots + (headSpec ws rm).room.slots ≤ R.slots := by rw [show (headSpec ws rm).room.slots = ms from hrs]; exact hp.2.1
  have hPc : Pc a (A.U.calling g mk a) := hblind _ _ _ _ hp.2.2
  obtain ⟨U, Ls, c0, s0⟩ := A
  dsimp only [Pt.U, Pt.locs, Pt.cells, Pt.slots] at h1 h2 h3 h4 h5 X hn hPc ⊢
  obtain ⟨m9, methY, cY, hn9, hmY, hcY, -, hlY, -⟩ := Cond.codeWith_spec h2
  cases Option.some.inj (hn9.symm.trans hn)
  obtain ⟨kY, hkY, -⟩ := className_of_methodNamed hn
  have hinitY : kY.init = .initialized := Cond.initialized_spec (findClass_of_methodNamed hn) hkY h3
  have h : At U g.method c below := by rw [hg]; exact X.here
  have hlocals9 : W9 + (maxL + 11) + (headSpec ws rm).room.locals ≤ R.locals := hlocals
  have happ : (headSpec ws rm).appliesLoose y e.platform (U.calling g mk a) = true :=
    Spec.appliesLoose_calling (g := g) h hdg hn hkY hinitY
      (X.room_calling (g := g) (R' := (headSpec ws rm).room) hsize hmY hcY hframes (by rw [hlY]; omega) h4 h5) h1
  obtain ⟨mid, hmid⟩ := h.above
  have hfr : (U.setTop g).frames = (.java g :: mid) ++ below := by rw [State.frames_setTop' g h.top, hmid]; rfl
  obtain ⟨o, s₂, hsteps, -, hend, hq⟩ := Steps.callFree hM p X.admits X.cas X.clock (acts := []) hfr happ hPc trivial
  have hq' : vx_Q Qc XC mc ms free a (U.calling g mk a) o s₂ := hq
  rw [State.frames_setTop' g h.top] at hend
  obtain ⟨g₀, hg0⟩ := Option.isSome_iff_exists.mp h.top
  obtain ⟨r, hr⟩ := State.topJava?_eq_some.mp hg0
  have hr' : (({ U with heap := s₂.heap, slotsUsed := s₂.slotsUsed } : State).setVm s₂.vm).frames = .java g₀ :: r := hr
  rcases hq' with ⟨hqc, L, hfe, hL⟩ | ⟨q, rfl, E, ce, L, hx, hce, hcv, hcl, hW₂, hsm, hL⟩
  · obtain ⟨⟨v, rfl⟩, hW₂, e2, q2, q3, q4, q5, q6⟩ := id hfe
    have e3 : s₂ = ({ (U.calling g mk a).setFrames s₂.frames with heap := s₂.heap, slotsUsed := s₂.slotsUsed } : State).setVm s₂.vm := by
      have : s₂ = ({ s₂ with vm := (U.calling g mk a).vm } : State).setVm s₂.vm := rfl
      rw [e2] at this
      exact this
    obtain ⟨c₂, i₂, len₂, hc₂, hd₂, hf₂⟩ := hend
    have hW' : U.WarmedH s₂.vm := hW₂
    have hcc : c₂ = c := by
      have h1 : s₂.code? g.method = U.code? g.method := by
        rw [State.code?_eq, State.code?_eq, hW'.alike.method?]
      exact Option.some.inj (hc₂.symm.trans (h1.trans h.code))
    subst hcc
    have hlen : len₂ = len := by rw [hdg] at hd₂; cases hd₂; rfl
    subst hlen
    have hs₂ : s₂ = (({ U with heap := s₂.heap, slotsUsed := s₂.slotsUsed } : State).setVm s₂.vm).setTop { g with pc := g.pc + len₂, stack := v.toList ++ g.stack } := by
      refine e3.trans ?_
      rw [hf₂, State.calling_eq h.top, State.setFrames_setFrames, State.setTop_of_frames _ hr', hr]
      rfl
    have hsame : U.sameButNew ({ U with heap := s₂.heap, slotsUsed := s₂.slotsUsed } : State) L mc ms := by
      refine ⟨?_, q2, q3, q4, q5, q6⟩
      obtain ⟨t, ht, -⟩ := State.frames_cons hr
      show ({ U with heap := s₂.heap, slotsUsed := s₂.slotsUsed } : State) = { U.setFrames U.frames with heap := s₂.heap, slotsUsed := s₂.slotsUsed }
      rw [State.setFrames_self ht]
    subst hg
    refine Or.inl ⟨v, ⟨(({ U with heap := s₂.heap, slotsUsed := s₂.slotsUsed } : State).setVm s₂.vm), Ls ++ L, c0 + mc, s0 + ms⟩,
      ⟨X.admits, X.cas, X.clock, X.frames, X.room, X.hears, X.method, X.code, (X.here.setHeapUsed s₂.heap s₂.slotsUsed).setVm hW'.alike, X.tail, State.WarmedH.trans X.warmed hW', X.limits, X.bytes, X.same.trans (hsame.setVm s.vm)⟩,
      ⟨g, mk, s₂, L, rfl, rfl, hqc, rfl, hL, rfl, rfl⟩, ?_⟩
    show Steps p.tables e below _ ((({ U with heap := s₂.heap, slotsUsed := s₂.slotsUsed } : State).setVm s₂.vm).setTop { g with pc := g.pc + len₂, stack := v.toList ++ g.stack })
    rw [← hs₂]
    exact hsteps
  · obtain ⟨e2, q2, q3, q4, q5, q6⟩ := id hsm
    have e3 : s₂ = ({ (U.calling g mk a).setFrames s₂.frames with heap := s₂.heap, slotsUsed := s₂.slotsUsed } : State).setVm s₂.vm := by
      have : s₂ = ({ s₂ with vm := (U.calling g mk a).vm } : State).setVm s₂.vm := rfl
      rw [e2] at this
      exact this
    have hf₂ : s₂.frames = .throwing q :: .java g :: U.frames.tail := hend
    have hW' : U.WarmedH s₂.vm := hW₂
    have hs₂ : s₂ = ((({ U with heap := s₂.heap, slotsUsed := s₂.slotsUsed } : State).setVm s₂.vm).setTop g).pushFrame (.throwing q) := by
      refine e3.trans ?_
      rw [hf₂, State.calling_eq h.top, State.setFrames_setFrames, State.pushFrame, State.frames_setTop _ hr', State.setTop_of_frames _ hr', State.setFrames_setFrames, hr]
      rfl
    have hsame : U.sameButNew ({ U with heap := s₂.heap, slotsUsed := s₂.slotsUsed } : State) L mc ms := by
      refine ⟨?_, q2, q3, q4, q5, q6⟩
      obtain ⟨t, ht, -⟩ := State.frames_cons hr
      show ({ U with heap := s₂.heap, slotsUsed := s₂.slotsUsed } : State) = { U.setFrames U.frames with heap := s₂.heap, slotsUsed := s₂.slotsUsed }
      rw [State.setFrames_self ht]
    subst hg
    refine Or.inr ⟨q, ⟨(({ U with heap := s₂.heap, slotsUsed := s₂.slotsUsed } : State).setVm s₂.vm), Ls ++ L, c0 + mc, s0 + ms⟩,
      ⟨X.admits, X.cas, X.clock, X.frames, X.room, X.hears, X.method, X.code, (X.here.setHeapUsed s₂.heap s₂.slotsUsed).setVm hW'.alike, X.tail, State.WarmedH.trans X.warmed hW', X.limits, X.bytes, X.same.trans (hsame.setVm s.vm)⟩,
      ⟨g, mk, s₂, L, E, ce, rfl, rfl, hx, hce, hcv, hcl, rfl, hL, rfl, rfl⟩, ?_⟩
    show Steps p.tables e below _ (((({ U with heap := s₂.heap, slotsUsed := s₂.slotsUsed } : State).setVm s₂.vm).setTop g).pushFrame (.throwing q))
    rw [← hs₂]
    exact hsteps
end
variable {p : Program} {l : Launch} {e : Env} {R : Room} {s : State} {m : MethodId} {args : Array Value} {below : List Frame} {meth : Method} {c : Code} {T : State} {H : Heap} {locs : List Loc} {cells slots : Nat}
theorem vx_callVX (X : Stand p l e R s m args below meth c T locs cells slots) (hexec : p.tables.exec = Jvm.exec) {own C : String} {index : Nat} {y : MethodName} {bytes : ByteArray} {maxL : Nat} {ret : Option FieldType} {hh : List (Nat × Nat × Nat × Nat)}
    (hown : s.vm.findClass own = some m.cls) (hlink : (Cond.methodLink own index y).before args s = true) (hinst : (Cond.instanceMethod y).before args s = true) (hsel : (Cond.selects C y y).before args s = true)
    (hcode : (Cond.codeWith y bytes maxL ret hh).before args s = true) (hy : y.cls ≠ "java/lang/invoke/MethodHandle" ∧ y.cls ≠ "java/lang/invoke/VarHandle")
    {W9 : Nat} {Pre : Pt → Array Value → Prop} {Post : Pt → Array Value → Option Value → Pt → Prop} {PostX : Pt → Array Value → Addr → Pt → Prop} (hK : vx_Back l R p e below s args y 3 W9 Pre Post PostX)
    {b : Addr} {cellB : Cell} (hcell : T.heap[b]? = some cellB) (hobj : cellB.vm.isStatics = false) (hcls : s.vm.findClass C = some cellB.cls)
    {g : JFrame} (hg : g.method = m) (hsize : g.locals.size = c.maxLocals) {argsL rest : List Value} (hlen : ∀ sig, parseMethodDescriptor y.desc = some sig → argsL.length = sig.parameters.length)
    (hstack : g.stack = argsL.reverse ++ .ref b :: rest) (hW : 2 * g.monitorRoom + (rest.map fun v => v.category).sum ≤ W9) (hdg : decode c.code g.pc = .ok (.invokevirtual index, 3))
    (hpre : ∀ vm₁, s.WarmedH vm₁ → Pre ⟨T.setVm vm₁, locs, cells, slots⟩ (Value.ref b :: argsL).toArray) :
    (∃ (v : Option Value) (vm₁ : Vm) (B : Pt), s.WarmedH vm₁ ∧ Stand p l e R s m args below meth c B.U B.locs B.cells B.slots ∧ Post ⟨T.setVm vm₁, locs, cells, slots⟩ (Value.ref b :: argsL).toArray v B ∧
      ∀ target, Steps p.tables e below (B.U.setTop { g with pc := g.pc + 3, stack := v.toList ++ rest }) target → Steps p.tables e below (T.setTop g) target) ∨
    (∃ (q : Addr) (vm₁ : Vm) (B : Pt), s.WarmedH vm₁ ∧ Stand p l e R s m args below meth c B.U B.locs B.cells B.slots ∧ PostX ⟨T.setVm vm₁, locs, cells, slots⟩ (Value.ref b :: argsL).toArray q B ∧
      Steps p.tables e below (T.setTop g) ((B.U.setTop { g with stack := rest }).pushFrame (.throwing q))) := by
  obtain ⟨mk, methM, hnamed, hmethM, hstM, habM⟩ := Cond.instanceMethod_spec hinst
  obtain ⟨m8, methM', cM, hn8, hmethM', -, -, -, -, -, -, hsigM⟩ := Cond.codeWith_spec hcode
  cases Option.some.inj (hn8.symm.trans hnamed)
  cases hmethM.symm.trans hmethM'
  obtain ⟨c2, r2, m2, q1, q2, q3, q4, kP, hkP, hkPi⟩ := Cond.selects_spec hsel
  cases hcls.symm.trans q1
  cases (State.methodFound?_of_named hnamed hy).symm.trans q2
  cases hnamed.symm.trans q3
  have hselP : selectMethod e.platform s.vm cellB.cls mk = .method mk := by rw [Launch.admits_selectMethod X.admits]; exact q4
  obtain ⟨vm₁, X₁, hstep₁⟩ := X.invokevirtual hexec hown hlink hnamed hmethM hstM hkP hkPi hy (a := b) (cell := cellB) hcell
    (fun z h => by rw [h] at hobj; cases hobj) hselP hmethM habM hkP hkPi (g := g) hg (argsL := argsL) (rest := rest) (hlen _ hsigM) hstack hdg
  rcases hK m meth c ⟨T.setVm vm₁, locs, cells, slots⟩ { g with stack := rest } (.invokevirtual index) mk (Value.ref b :: argsL).toArray X₁ hg hsize hdg hW (X₁.named hnamed) (hpre vm₁ X₁.warmed) with ⟨v, B, X', hpost, hsteps⟩ | ⟨q, B, X', hpost, hsteps⟩
  · exact Or.inl ⟨v, vm₁, B, X₁.warmed, X', hpost, fun target h => hstep₁ _ fun acts => by rw [doInvoke_state]; exact hsteps.trans h⟩
  · exact Or.inr ⟨q, vm₁, B, X₁.warmed, X', hpost, hstep₁ _ fun acts => by rw [doInvoke_state]; exact hsteps⟩
theorem vx_callSX (X : Stand p l e R s m args below meth c T locs cells slots) (hexec : p.tables.exec = Jvm.exec) {own : String} {index : Nat} {y : MethodName} {bytes : ByteArray} {maxL : Nat} {ret : Option FieldType} {hh : List (Nat × Nat × Nat × Nat)}
    (hown : s.vm.findClass own = some m.cls) (hlink : (Cond.methodLink own index y).before args s = true) (hstat : (Cond.static y).before args s = true) (hinit : (Cond.initialized y.cls).before args s = true)
    (hcode : (Cond.codeWith y bytes maxL ret hh).before args s = true) (hy : y.cls ≠ "java/lang/invoke/MethodHandle" ∧ y.cls ≠ "java/lang/invoke/VarHandle")
    {W9 : Nat} {Pre : Pt → Array Value → Prop} {Post : Pt → Array Value → Option Value → Pt → Prop} {PostX : Pt → Array Value → Addr → Pt → Prop} (hK : vx_Back l R p e below s args y 3 W9 Pre Post PostX)
    {g : JFrame} (hg : g.method = m) (hsize : g.locals.size = c.maxLocals) {argsL rest : List Value} (hlen : ∀ sig, parseMethodDescriptor y.desc = some sig → argsL.length = sig.parameters.length)
    (hstack : g.stack = argsL.reverse ++ rest) (hW : 2 * g.monitorRoom + (rest.map fun v => v.category).sum ≤ W9) (hdg : decode c.code g.pc = .ok (.invokestatic index, 3))
    (hpre : ∀ vm₁, s.WarmedH vm₁ → Pre ⟨T.setVm vm₁, locs, cells, slots⟩ argsL.toArray) :
    (∃ (v : Option Value) (vm₁ : Vm) (B : Pt), s.WarmedH vm₁ ∧ Stand p l e R s m args below meth c B.U B.locs B.cells B.slots ∧ Post ⟨T.setVm vm₁, locs, cells, slots⟩ argsL.toArray v B ∧
      ∀ target, Steps p.tables e below (B.U.setTop { g with pc := g.pc + 3, stack := v.toList ++ rest }) target → Steps p.tables e below (T.setTop g) target) ∨
    (∃ (q : Addr) (vm₁ : Vm) (B : Pt), s.WarmedH vm₁ ∧ Stand p l e R s m args below meth c B.U B.locs B.cells B.slots ∧ PostX ⟨T.setVm vm₁, locs, cells, slots⟩ argsL.toArray q B ∧
      Steps p.tables e below (T.setTop g) ((B.U.setTop { g with stack := rest }).pushFrame (.throwing q))) := by
  obtain ⟨mk, methM, cM, hnamed, hmethM, -, -, -, -, -, -, hsigM⟩ := Cond.codeWith_spec hcode
  have hstatic : methM.isStatic = true := Cond.static_spec hnamed hmethM hstat
  obtain ⟨kP, hkP, -⟩ := className_of_methodNamed hnamed
  have hinitP : kP.init = .initialized := Cond.initialized_spec (findClass_of_methodNamed hnamed) hkP hinit
  obtain ⟨vm₁, X₁, hstep₁⟩ := X.invokestatic hexec hown hlink hnamed hmethM hstatic hkP hinitP hy (g := g) hg (argsL := argsL) (rest := rest) (hlen _ hsigM) hstack hdg
  rcases hK m meth c ⟨T.setVm vm₁, locs, cells, slots⟩ { g with stack := rest } (.invokestatic index) mk argsL.toArray X₁ hg hsize hdg hW (X₁.named hnamed) (hpre vm₁ X₁.warmed) with ⟨v, B, X', hpost, hsteps⟩ | ⟨q, B, X', hpost, hsteps⟩
  · exact Or.inl ⟨v, vm₁, B, X₁.warmed, X', hpost, fun target h => hstep₁ _ fun acts => by rw [doInvoke_state]; exact hsteps.trans h⟩
  · exact Or.inr ⟨q, vm₁, B, X₁.warmed, X', hpost, hstep₁ _ fun acts => by rw [doInvoke_state]; exact hsteps⟩
theorem vx_callVW (X : Stand p l e R s m args below meth c T locs cells slots) (hexec : p.tables.exec = Jvm.exec) {own C : String} {index : Nat} {y : MethodName} {bytes : ByteArray} {maxL : Nat} {ret : Option FieldType} {hh : List (Nat × Nat × Nat × Nat)}
    (hown : s.vm.findClass own = some m.cls) (hlink : (Cond.methodLink own index y).before args s = true) (hinst : (Cond.instanceMethod y).before args s = true) (hsel : (Cond.selects C y y).before args s = true)
    (hcode : (Cond.codeWith y bytes maxL ret hh).before args s = true) (hy : y.cls ≠ "java/lang/invoke/MethodHandle" ∧ y.cls ≠ "java/lang/invoke/VarHandle")
    {W9 : Nat} {Pre : Pt → Array Value → Prop} {Post : Pt → Array Value → Option Value → Pt → Prop} (hK : Back l R p e below s args y 3 W9 Pre Post)
    {b : Addr} {cellB : Cell} (hcell : T.heap[b]? = some cellB) (hobj : cellB.vm.isStatics = false) (hcls : s.vm.findClass C = some cellB.cls)
    {g : JFrame} (hg : g.method = m) (hsize : g.locals.size = c.maxLocals) {argsL rest : List Value} (hlen : ∀ sig, parseMethodDescriptor y.desc = some sig → argsL.length = sig.parameters.length)
    (hstack : g.stack = argsL.reverse ++ .ref b :: rest) (hW : 2 * g.monitorRoom + (rest.map fun v => v.category).sum ≤ W9) (hdg : decode c.code g.pc = .ok (.invokevirtual index, 3))
    (hpre : ∀ vm₁, s.WarmedH vm₁ → Pre ⟨T.setVm vm₁, locs, cells, slots⟩ (Value.ref b :: argsL).toArray) :
    ∃ (v : Option Value) (vm₁ : Vm) (B : Pt), s.WarmedH vm₁ ∧ Stand p l e R s m args below meth c B.U B.locs B.cells B.slots ∧ Post ⟨T.setVm vm₁, locs, cells, slots⟩ (Value.ref b :: argsL).toArray v B ∧
      ∀ target, Steps p.tables e below (B.U.setTop { g with pc := g.pc + 3, stack := v.toList ++ rest }) target → Steps p.tables e below (T.setTop g) target := by
  obtain ⟨mk, methM, hnamed, hmethM, hstM, habM⟩ := Cond.instanceMethod_spec hinst
  obtain ⟨m8, methM', cM, hn8, hmethM', -, -, -, -, -, -, hsigM⟩ := Cond.codeWith_spec hcode
  cases Option.some.inj (hn8.symm.trans hnamed)
  cases hmethM.symm.trans hmethM'
  obtain ⟨c2, r2, m2, q1, q2, q3, q4, kP, hkP, hkPi⟩ := Cond.selects_spec hsel
  cases hcls.symm.trans q1
  cases (State.methodFound?_of_named hnamed hy).symm.trans q2
  cases hnamed.symm.trans q3
  have hselP : selectMethod e.platform s.vm cellB.cls mk = .method mk := by rw [Launch.admits_selectMethod X.admits]; exact q4
  obtain ⟨vm₁, X₁, hstep₁⟩ := X.invokevirtual hexec hown hlink hnamed hmethM hstM hkP hkPi hy (a := b) (cell := cellB) hcell
    (fun z h => by rw [h] at hobj; cases hobj) hselP hmethM habM hkP hkPi (g := g) hg (argsL := argsL) (rest := rest) (hlen _ hsigM) hstack hdg
  obtain ⟨v, B, X', hpost, hsteps⟩ := hK m meth c ⟨T.setVm vm₁, locs, cells, slots⟩ { g with stack := rest } (.invokevirtual index) mk (Value.ref b :: argsL).toArray X₁ hg hsize hdg hW (X₁.named hnamed) (hpre vm₁ X₁.warmed)
  exact ⟨v, vm₁, B, X₁.warmed, X', hpost, fun target h => hstep₁ _ fun acts => by rw [doInvoke_state]; exact hsteps.trans h⟩
abbrev vx_CVW (R : Room) (s : State) (args : Array Value) (own C : String) (index : Nat) (y : MethodName) (bytes : ByteArray) (maxL : Nat) (ret : Option FieldType) (hh : List (Nat × Nat × Nat × Nat)) (ws : List Cond) (rm : Room) (mc ms n : Nat) : Prop :=
  (rm.cells = mc ∧ rm.slots = ms ∧ rm.frames + 1 ≤ R.frames ∧ 8 + (maxL + 11) + rm.locals ≤ R.locals ∧ (∀ w ∈ ws, ∀ (a' : Array Value) (U : State), s.WarmedH U.vm → w.before a' U = true) ∧ Cond.codeWith y bytes maxL ret hh ∈ ws) ∧
  (Cond.codeWith y bytes maxL ret hh).before args s = true ∧ (Cond.initialized y.cls).before args s = true ∧ (y.cls ≠ "java/lang/invoke/MethodHandle" ∧ y.cls ≠ "java/lang/invoke/VarHandle") ∧
  (∀ sig, parseMethodDescriptor y.desc = some sig → n = sig.parameters.length) ∧ (Cond.methodLink own index y).before args s = true ∧ (Cond.instanceMethod y).before args s = true ∧ (Cond.selects C y y).before args s = true
theorem vx_cwVW {own C : String} {index maxL mc ms : Nat} {y : MethodName} {bytes : ByteArray} {ret : Option FieldType} {hh : List (Nat × Nat × Nat × Nat)} {Ts ws ws' : List Cond} {rm : Room} (n : Nat) (ht : ∀ w ∈ Ts, w.before args s = true) (hT : GoodIn Ts (wsV own index C y ws)) (hw : ws = Cond.codeWith y bytes maxL ret hh :: ws') (hrc : rm.cells = mc) (hrs : rm.slots = ms)
    (hd : y.cls = C ∧ y.cls ≠ "java/lang/invoke/MethodHandle" ∧ y.cls ≠ "java/lang/invoke/VarHandle" ∧ (parseMethodDescriptor y.desc).map (fun d => d.parameters.length) = some n) (hR : rm.frames + 1 ≤ R.frames ∧ 8 + (maxL + 11) + rm.locals ≤ R.locals) :
    vx_CVW R s args own C index y bytes maxL ret hh ws rm mc ms n := by
  obtain ⟨hC, hd⟩ := hd
  subst hC
  have ok : ∀ w ∈ wsV own index y.cls y ws, w.before args s = true := fun w h => ht w (hT w h).1
  have hG : GoodIn Ts ws := fun w h => hT w (by unfold wsV; exact List.mem_append_right _ h)
  have hc : Cond.codeWith y bytes maxL ret hh ∈ ws := by rw [hw]; exact List.mem_cons_self
  refine ⟨⟨hrc, hrs, hR.1, hR.2, pay_in ht hG, hc⟩, ht _ (hG _ hc).1, ok _ (by simp [wsV]), ⟨hd.1, hd.2.1⟩, fun sig h => ?_, ok _ (by simp [wsV]), ok _ (by simp [wsV]), ok _ (by simp [wsV])⟩
  have h2 := hd.2.2
  rw [h] at h2
  exact (Option.some.inj h2).symm
theorem vx_runVW {y : MethodName} {bytes cc : ByteArray} {maxL nL mc ms n index : Nat} {ret : Option FieldType} {hh : List (Nat × Nat × Nat × Nat)} {ws : List Cond} {rm : Room} {Pc : Array Value → State → Prop} {Qc : Array Value → State → Outcome → State → Prop} {free : Addr → Prop} {Ts : List Cond} {own C : String} {b : Addr} {As rest : List Value} {g : JFrame}
    (S : CallFix p m c cc nL s args Ts own) (hM : Met l y ws rm Pc Qc mc ms free) (cw : vx_CVW R s args own C index y bytes maxL ret hh ws rm mc ms n) (hp : PreV s H C b Pc As)
    (hg : g.method = m) (hn : As.length = n) (hsize : g.locals.size = nL) (hstack : g.stack = As.reverse ++ .ref b :: rest) (hW : 2 * g.monitorRoom + (rest.map fun v => v.category).sum ≤ 8) (hdg : decode cc g.pc = .ok (.invokevirtual index, 3)) (hf : cells + mc ≤ R.cells ∧ slots + ms ≤ R.slots) :
    va_Run p l e R s m args below meth c H locs cells slots mc ms g rest (Qc (Value.ref b :: As).toArray) free := by
  obtain ⟨⟨hrc, hrs, hfr, hlo, hws, hcw⟩, hcode, hini, hy, hlen, hl, hin, hse⟩ := cw
  have hK : Back l R p e below s args y 3 8 (PreOf R mc ms Pc) (PostOf Qc mc ms free) := va_backW (hh := hh) (bytes := bytes) (maxL := maxL) (ret := ret) hM hp.1 hrc hrs hfr hlo hws hcw (fun a' U hW => word_at hW (Or.inl (by first | rfl | simp [Cond.onTables, Cond.keeps, Cond.steady])) hini)
  obtain ⟨hx, hb, hml, ho, -⟩ := S
  obtain ⟨-, ⟨cellB, hcB, hoB, hclB⟩, hPc⟩ := hp
  intro T hT X
  obtain ⟨v, vm₁, ⟨U', l2, c2, s2⟩, hW₁, X', ⟨g', mk, t, L, e1, e2, hq, h1, hL, h2, h3⟩, st⟩ := vx_callVW X hx (C := C) (hh := hh) (bytes := bytes) (maxL := maxL) (ret := ret) ho hl hin hse hcode hy hK (by rw [hT]; exact hcB) hoB hclB hg (hsize.trans hml.symm) (argsL := As) (rest := rest) (fun sig h => hn.trans (hlen sig h)) hstack hW (by rw [hb]; exact hdg)
    (fun vm₁ hW₁ => ⟨hf.1, hf.2, hPc (T.setVm vm₁) hT hW₁⟩)
  dsimp only [Pt.U, Pt.locs, Pt.cells, Pt.slots] at X' e1 e2 h1 h2 h3 st
  subst h1; subst h2; subst h3
  exact ⟨v, (T.setVm vm₁).calling g' mk (Value.ref b :: As).toArray, t, U', L, hT, X', hL, e1, e2, hq, st⟩
section
variable {y : MethodName} {bytes cc : ByteArray} {maxL nL mc ms n index : Nat} {ret : Option FieldType} {ws : List Cond} {rm : Room} {Pc : Array Value → State → Prop} {Qc : Array Value → State → Outcome → State → Prop} {XC : String → State → State → Prop} {free : Addr → Prop} {Ts : List Cond} {own C : String} {b : Addr} {As rest : List Value} {g : JFrame}
theorem vx_runVX {hh : List (Nat × Nat × Nat × Nat)} (S : CallFix p m c cc nL s args Ts own) (hM : vx_Met l y ws rm Pc Qc XC mc ms free) (cw : vx_CVW R s args own C index y bytes maxL ret hh ws rm mc ms n) (hp : PreV s H C b Pc As)
    (hg : g.method = m) (hn : As.length = n) (hsize : g.locals.size = nL) (hstack : g.stack = As.reverse ++ .ref b :: rest) (hW : 2 * g.monitorRoom + (rest.map fun v => v.category).sum ≤ 8) (hdg : decode cc g.pc = .ok (.invokevirtual index, 3)) (hf : cells + mc ≤ R.cells ∧ slots + ms ≤ R.slots) :
    vx_Run p l e R s m args below meth c H locs cells slots mc ms g rest (Qc (Value.ref b :: As).toArray) XC free := by
  obtain ⟨⟨hrc, hrs, hfr, hlo, hws, hcw⟩, hcode, hini, hy, hlen, hl, hin, hse⟩ := cw
  have hK : vx_Back l R p e below s args y 3 8 (PreOf R mc ms Pc) (PostOf Qc mc ms free) (vx_Post XC mc ms free) := vx_backW (hh := hh) (bytes := bytes) (maxL := maxL) (ret := ret) hM hp.1 hrc hrs hfr hlo hws hcw (fun a' U hW => word_at hW (Or.inl (by first | rfl | simp [Cond.onTables, Cond.keeps, Cond.steady])) hini)
  obtain ⟨hx, hb, hml, ho, -⟩ := S
  obtain ⟨-, ⟨cellB, hcB, hoB, hclB⟩, hPc⟩ := hp
  intro T hT X
  rcases vx_callVX X hx (C := C) (hh := hh) (bytes := bytes) (maxL := maxL) (ret := ret) ho hl hin hse hcode hy hK (by rw [hT]; exact hcB) hoB hclB hg (hsize.trans hml.symm) (argsL := As) (rest := rest) (fun sig h => hn.trans (hlen sig h)) hstack hW (by rw [hb]; exact hdg)
    (fun vm₁ hW₁ => ⟨hf.1, hf.2, hPc (T.setVm vm₁) hT hW₁⟩) with ⟨v, vm₁, ⟨U', l2, c2, s2⟩, hW₁, X', ⟨g', mk, t, L, e1, e2, hq, h1, hL, h2, h3⟩, st⟩ | ⟨q, vm₁, ⟨U', l2, c2, s2⟩, hW₁, X', ⟨g', mk, t, L, E, ce, e1, e2, hq, hce, hcv, hcl, h1, hL, h2, h3⟩, st⟩
  · dsimp only [Pt.U, Pt.locs, Pt.cells, Pt.slots] at X' e1 e2 h1 h2 h3 st
    subst h1; subst h2; subst h3
    exact Or.inl ⟨v, (T.setVm vm₁).calling g' mk (Value.ref b :: As).toArray, t, U', L, hT, X', hL, e1, e2, hq, st⟩
  · dsimp only [Pt.U, Pt.locs, Pt.cells, Pt.slots] at X' e1 e2 h1 h2 h3 st hcl
    subst h1; subst h2; subst h3
    exact Or.inr ⟨q, (T.setVm vm₁).calling g' mk (Value.ref b :: As).toArray, t, U', L, E, ce, hT, X', hL, e1, e2, hq, hce, hcv, vx_cls hW₁ hcl, st⟩
theorem vx_runSX {hh : List (Nat × Nat × Nat × Nat)} (S : CallFix p m c cc nL s args Ts own) (hM : vx_Met l y ws rm Pc Qc XC mc ms free) (cw : vx_CSW R s args own index y bytes maxL ret hh ws rm mc ms n) (hp : PreS s H Pc As)
    (hg : g.method = m) (hn : As.length = n) (hsize : g.locals.size = nL) (hstack : g.stack = As.reverse ++ rest) (hW : 2 * g.monitorRoom + (rest.map fun v => v.category).sum ≤ 8) (hdg : decode cc g.pc = .ok (.invokestatic index, 3)) (hf : cells + mc ≤ R.cells ∧ slots + ms ≤ R.slots) :
    vx_Run p l e R s m args below meth c H locs cells slots mc ms g rest (Qc As.toArray) XC free := by
  obtain ⟨⟨hrc, hrs, hfr, hlo, hws, hcw⟩, hcode, hini, hy, hlen, hl, hstt⟩ := cw
  have hK : vx_Back l R p e below s args y 3 8 (PreOf R mc ms Pc) (PostOf Qc mc ms free) (vx_Post XC mc ms free) := vx_backW (hh := hh) (bytes := bytes) (maxL := maxL) (ret := ret) hM hp.1 hrc hrs hfr hlo hws hcw (fun a' U hW => word_at hW (Or.inl (by first | rfl | simp [Cond.onTables, Cond.keeps, Cond.steady])) hini)
  obtain ⟨hx, hb, hml, ho, -⟩ := S
  intro T hT X
  rcases vx_callSX X hx (hh := hh) (bytes := bytes) (maxL := maxL) (ret := ret) ho hl hstt hini hcode hy hK hg (hsize.trans hml.symm) (argsL := As) (rest := rest) (fun sig h => hn.trans (hlen sig h)) hstack hW (by rw [hb]; exact hdg)
    (fun vm₁ hW₁ => ⟨hf.1, hf.2, hp.2 (T.setVm vm₁) hT hW₁⟩) with ⟨v, vm₁, ⟨U', l2, c2, s2⟩, hW₁, X', ⟨g', mk, t, L, e1, e2, hq, h1, hL, h2, h3⟩, st⟩ | ⟨q, vm₁, ⟨U', l2, c2, s2⟩, hW₁, X', ⟨g', mk, t, L, E, ce, e1, e2, hq, hce, hcv, hcl, h1, hL, h2, h3⟩, st⟩
  · dsimp only [Pt.U, Pt.locs, Pt.cells, Pt.slots] at X' e1 e2 h1 h2 h3 st
    subst h1; subst h2; subst h3
    exact Or.inl ⟨v, (T.setVm vm₁).calling g' mk As.toArray, t, U', L, hT, X', hL, e1, e2, hq, st⟩
  · dsimp only [Pt.U, Pt.locs, Pt.cells, Pt.slots] at X' e1 e2 h1 h2 h3 st hcl
    subst h1; subst h2; subst h3
    exact Or.inr ⟨q, (T.setVm vm₁).calling g' mk As.toArray, t, U', L, E, ce, hT, X', hL, e1, e2, hq, hce, hcv, vx_cls hW₁ hcl, st⟩
end
end VXH
theorem vx_ofWH {l : Launch} {y : MethodName} {ws ws' : List Cond} {rm : Room} {Pc : Array Value → State → Prop} {Qc : Array Value → State → Outcome → State → Prop} {XC : String → State → State → Prop} {mc ms : Nat} {free : Addr → Prop} {cc : ByteArray} {maxL : Nat} {ret : Option FieldType} {hh : List (Nat × Nat × Nat × Nat)}
    (hy : plainName y.cls = true) (hw : ws = Cond.codeWith y cc maxL ret hh :: ws')
    (body : ∀ p e s m args below meth c s₁, BodyLoose p l y (headSpec ws rm) cc maxL ret e s m args below meth c s₁ → c.maxLocals = maxL → Pc args s →
      W p l e (headSpec ws rm).room s m args below meth c s.heap [] 0 0 (vx_MQ below Qc XC args s mc ms free) (entryFrame m args maxL)) : vx_Met l y ws rm Pc Qc XC mc ms free := by
  refine MetFree.of_bodyS (code := cc) (maxLocals := maxL) (ret := ret) hy ?_ ?_
  · intro args s m h hn
    obtain ⟨m9, meth, c, hn9, h1, h2, h3, h4, -, h5, h6, -⟩ := Cond.codeWith_spec (atoms_spec (ws := ws) h _ (by rw [hw]; exact List.mem_cons_self))
    cases hn.symm.trans hn9
    exact ⟨meth, c, h1, h2, h3, h4, h5, h6⟩
  · intro p e s m args below meth c s₁ B hml hP _
    have hh0 : s₁.heap = s.heap := by rw [B.state]; rfl
    obtain ⟨t, a1, o, b1, b2, b3⟩ := body p e s m args below meth c s₁ B hml hP s₁ hh0 (Stand.of_body B)
    exact ⟨t, o, a1, b1, b2, b3⟩
/-! ===== END ===== -/
end
section
/-- the words of 'new NoSuchElementException(text)' thrown: her constructor links her super's by 13 on this build -/
def zn_X : String := "java/util/NoSuchElementException"
def zn_ats (own : String) (ic : Nat) : List Cond :=
  Bundle.throwableAtoms ++ Bundle.throwableSAtoms ++ (Bundle.passSAtoms zn_X "java/lang/RuntimeException" 13 prog_13_method_4_code ++ Bundle.chainSAtoms "java/lang/RuntimeException" ["java/lang/Exception"]) ++
  [.methodLink own ic (Bundle.initS zn_X), .instantiable zn_X 6, .castable zn_X zn_X, .selects zn_X Bundle.tFill0 Bundle.tFill0, .selects zn_X Bundle.tFill Bundle.tFill,
   .lays zn_X Bundle.tN "cause" "Ljava/lang/Throwable;", .lays zn_X Bundle.tN "stackTrace" Bundle.steD, .lays zn_X Bundle.tN "suppressedExceptions" Bundle.listD, .lays zn_X Bundle.tN "detailMessage" "Ljava/lang/String;",
   .isRef (.static Bundle.tN "UNASSIGNED_STACK" Bundle.steD), .isRef (.static Bundle.tN "SUPPRESSED_SENTINEL" Bundle.listD),
   .fieldLink Bundle.tN 198 Bundle.tN "backtrace" "Ljava/lang/Object;", .lays Bundle.tN Bundle.tN "backtrace" "Ljava/lang/Object;", .lays zn_X Bundle.tN "backtrace" "Ljava/lang/Object;"]
def zn_at : List Cond := (zn_ats "Quorumfund" 163).filter vx_no
end
section
/-! ===== BEGIN printed: names, fields, word lists, decode rows ===== -/
def RX0 : String := "Quorumfund"
def TX0 : u_T := fun k => match k with
  | 0 => ("Quorumfund", "kept", "[I", true)
  | 1 => ("Quorumfund", "given", "[I", true)
  | 2 => ("Quorumfund", "gotBack", "[I", true)
  | 3 => ("Quorumfund", "wentOut", "[I", true)
  | 4 => ("Quorumfund", "trusted", "[I", true)
  | 5 => ("Quorumfund", "persons", "[I", true)
  | 6 => ("Quorumfund", "votes", "[I", true)
  | 7 => ("Quorumfund", "amounts", "[I", true)
  | 8 => ("Quorumfund", "proofs", "[Z", true)
  | 9 => ("Quorumfund", "added", "I", false)
  | 10 => ("Quorumfund", "released", "I", false)
  | 11 => ("Quorumfund", "potMoney", "I", false)
  | 12 => ("Quorumfund", "outMoney", "I", false)
  | 13 => ("Quorumfund", "shares", "[I", true)
  | _ => ("Quorumfund", "roots", "[I", true)
def tyX0 : Nat → FieldType := fun k => match k with
  | 0 => .array .int
  | 1 => .array .int
  | 2 => .array .int
  | 3 => .array .int
  | 4 => .array .int
  | 5 => .array .int
  | 6 => .array .int
  | 7 => .array .int
  | 8 => .array .boolean
  | 9 => .int
  | 10 => .int
  | 11 => .int
  | 12 => .int
  | 13 => .array .int
  | _ => .array .int
abbrev wsX00 : List Cond := u_ws RX0 TX0 15
theorem nmX0 : ∀ a, a < 15 → ∀ b, b < 15 → a ≠ b → (TX0 a).2.1 ≠ (TX0 b).2.1 := by decide +kernel
theorem tyX0_ok : ∀ k, k < 15 → parseFieldDescriptor (TX0 k).2.2.1 = some (tyX0 k) := by decide +kernel
abbrev cX0_init : ByteArray := prog_1_method_1_code
def yX0_init : MethodName := ⟨RX0, "<init>", "()V"⟩
abbrev cX0_give : ByteArray := prog_1_method_2_code
def yX0_give : MethodName := ⟨RX0, "give", "(II)I"⟩
abbrev cX0_leave : ByteArray := prog_1_method_3_code
def yX0_leave : MethodName := ⟨RX0, "leave", "(I)I"⟩
abbrev cX0_trust : ByteArray := prog_1_method_4_code
def yX0_trust : MethodName := ⟨RX0, "trust", "(II)I"⟩
abbrev cX0_setPerson : ByteArray := prog_1_method_5_code
def yX0_setPerson : MethodName := ⟨RX0, "setPerson", "(II)I"⟩
abbrev cX0_in : ByteArray := prog_1_method_6_code
def yX0_in : MethodName := ⟨RX0, "in", "(I)I"⟩
abbrev cX0_inByBook : ByteArray := prog_1_method_7_code
def yX0_inByBook : MethodName := ⟨RX0, "inByBook", "(I)I"⟩
abbrev cX0_total : ByteArray := prog_1_method_8_code
def yX0_total : MethodName := ⟨RX0, "total", "()I"⟩
abbrev cX0_fillPot : ByteArray := prog_1_method_9_code
def yX0_fillPot : MethodName := ⟨RX0, "fillPot", "(I)I"⟩
abbrev cX0_pot : ByteArray := prog_1_method_10_code
def yX0_pot : MethodName := ⟨RX0, "pot", "()I"⟩
abbrev cX0_addMilestone : ByteArray := prog_1_method_11_code
def yX0_addMilestone : MethodName := ⟨RX0, "addMilestone", "(I)I"⟩
abbrev cX0_prove : ByteArray := prog_1_method_12_code
def yX0_prove : MethodName := ⟨RX0, "prove", "(I)Z"⟩
abbrev cX0_current : ByteArray := prog_1_method_13_code
def yX0_current : MethodName := ⟨RX0, "current", "()I"⟩
abbrev cX0_vote : ByteArray := prog_1_method_14_code
def yX0_vote : MethodName := ⟨RX0, "vote", "(II)I"⟩
abbrev cX0_speaker : ByteArray := prog_1_method_15_code
def yX0_speaker : MethodName := ⟨RX0, "speaker", "(I)I"⟩
abbrev cX0_weight : ByteArray := prog_1_method_16_code
def yX0_weight : MethodName := ⟨RX0, "weight", "(I)I"⟩
abbrev cX0_share : ByteArray := prog_1_method_17_code
def yX0_share : MethodName := ⟨RX0, "share", "(I)I"⟩
abbrev cX0_match : ByteArray := prog_1_method_18_code
def yX0_match : MethodName := ⟨RX0, "match", "()I"⟩
abbrev cX0_matchByPairs : ByteArray := prog_1_method_19_code
def yX0_matchByPairs : MethodName := ⟨RX0, "matchByPairs", "()I"⟩
abbrev cX0_release : ByteArray := prog_1_method_20_code
def yX0_release : MethodName := ⟨RX0, "release", "()I"⟩
abbrev cX0_out : ByteArray := prog_1_method_21_code
def yX0_out : MethodName := ⟨RX0, "out", "()I"⟩
abbrev cX0_isGiver : ByteArray := prog_1_method_22_code
def yX0_isGiver : MethodName := ⟨RX0, "isGiver", "(I)Z"⟩
abbrev cX0_requireGiver : ByteArray := prog_1_method_23_code
def yX0_requireGiver : MethodName := ⟨RX0, "requireGiver", "(I)V"⟩
abbrev cX0_requireAmount : ByteArray := prog_1_method_24_code
def yX0_requireAmount : MethodName := ⟨RX0, "requireAmount", "(II)V"⟩
abbrev cX0_leadsTo : ByteArray := prog_1_method_25_code
def yX0_leadsTo : MethodName := ⟨RX0, "leadsTo", "(II)Z"⟩
abbrev cX0_firstVoterFrom : ByteArray := prog_1_method_26_code
def yX0_firstVoterFrom : MethodName := ⟨RX0, "firstVoterFrom", "(I)I"⟩
abbrev cX0_heardVote : ByteArray := prog_1_method_27_code
def yX0_heardVote : MethodName := ⟨RX0, "heardVote", "(I)I"⟩
abbrev cX0_clearVotes : ByteArray := prog_1_method_28_code
def yX0_clearVotes : MethodName := ⟨RX0, "clearVotes", "()V"⟩
abbrev cX0_isCovered : ByteArray := prog_1_method_29_code
def yX0_isCovered : MethodName := ⟨RX0, "isCovered", "()Z"⟩
abbrev cX0_requireCovered : ByteArray := prog_1_method_30_code
def yX0_requireCovered : MethodName := ⟨RX0, "requireCovered", "()V"⟩
abbrev cX0_findShares : ByteArray := prog_1_method_31_code
def yX0_findShares : MethodName := ⟨RX0, "findShares", "(I)V"⟩
abbrev cX0_roundedPart : ByteArray := prog_1_method_32_code
def yX0_roundedPart : MethodName := ⟨RX0, "roundedPart", "(III)I"⟩
abbrev cX0_payShares : ByteArray := prog_1_method_33_code
def yX0_payShares : MethodName := ⟨RX0, "payShares", "()V"⟩
abbrev cX0_currentMatch : ByteArray := prog_1_method_34_code
def yX0_currentMatch : MethodName := ⟨RX0, "currentMatch", "()I"⟩
abbrev cX0_findRoots : ByteArray := prog_1_method_35_code
def yX0_findRoots : MethodName := ⟨RX0, "findRoots", "()V"⟩
abbrev cX0_partOf : ByteArray := prog_1_method_36_code
def yX0_partOf : MethodName := ⟨RX0, "partOf", "(I)I"⟩
abbrev cX0_rootOf : ByteArray := prog_1_method_37_code
def yX0_rootOf : MethodName := ⟨RX0, "rootOf", "(I)I"⟩
abbrev cX0_squareOfSum : ByteArray := prog_1_method_38_code
def yX0_squareOfSum : MethodName := ⟨RX0, "squareOfSum", "()I"⟩
abbrev cX0_squareByPairs : ByteArray := prog_1_method_39_code
def yX0_squareByPairs : MethodName := ⟨RX0, "squareByPairs", "()I"⟩
abbrev cX0_withinPot : ByteArray := prog_1_method_40_code
def yX0_withinPot : MethodName := ⟨RX0, "withinPot", "(I)I"⟩
def RX1 : String := "QuorumfundModel"
def TX1 : u_T := fun k => match k with
  | 0 => ("QuorumfundModel", "ins", "[I", true)
  | 1 => ("QuorumfundModel", "trusted", "[I", true)
  | 2 => ("QuorumfundModel", "persons", "[I", true)
  | 3 => ("QuorumfundModel", "votes", "[I", true)
  | 4 => ("QuorumfundModel", "milestones", "I", false)
  | 5 => ("QuorumfundModel", "released", "I", false)
  | 6 => ("QuorumfundModel", "amounts", "[I", true)
  | 7 => ("QuorumfundModel", "isProved", "[Z", true)
  | 8 => ("QuorumfundModel", "pot", "I", false)
  | 9 => ("QuorumfundModel", "out", "I", false)
  | 10 => ("QuorumfundModel", "shares", "[I", true)
  | _ => ("QuorumfundModel", "thrown", "I", false)
def tyX1 : Nat → FieldType := fun k => match k with
  | 0 => .array .int
  | 1 => .array .int
  | 2 => .array .int
  | 3 => .array .int
  | 4 => .int
  | 5 => .int
  | 6 => .array .int
  | 7 => .array .boolean
  | 8 => .int
  | 9 => .int
  | 10 => .array .int
  | _ => .int
abbrev wsX10 : List Cond := u_ws RX1 TX1 12
theorem nmX1 : ∀ a, a < 12 → ∀ b, b < 12 → a ≠ b → (TX1 a).2.1 ≠ (TX1 b).2.1 := by decide +kernel
theorem tyX1_ok : ∀ k, k < 12 → parseFieldDescriptor (TX1 k).2.2.1 = some (tyX1 k) := by decide +kernel
abbrev cX1_init : ByteArray := prog_3_method_1_code
def yX1_init : MethodName := ⟨RX1, "<init>", "()V"⟩
abbrev cX1_thrown : ByteArray := prog_3_method_2_code
def yX1_thrown : MethodName := ⟨RX1, "thrown", "()I"⟩
abbrev cX1_goes : ByteArray := prog_3_method_3_code
def yX1_goes : MethodName := ⟨RX1, "goes", "(I)Z"⟩
abbrev cX1_isIn : ByteArray := prog_3_method_4_code
def yX1_isIn : MethodName := ⟨RX1, "isIn", "(III)Z"⟩
abbrev cX1_isGiver : ByteArray := prog_3_method_5_code
def yX1_isGiver : MethodName := ⟨RX1, "isGiver", "(I)Z"⟩
abbrev cX1_give : ByteArray := prog_3_method_6_code
def yX1_give : MethodName := ⟨RX1, "give", "(II)I"⟩
abbrev cX1_leave : ByteArray := prog_3_method_7_code
def yX1_leave : MethodName := ⟨RX1, "leave", "(I)I"⟩
abbrev cX1_isInRow : ByteArray := prog_3_method_8_code
def yX1_isInRow : MethodName := ⟨RX1, "isInRow", "(II)Z"⟩
abbrev cX1_trust : ByteArray := prog_3_method_9_code
def yX1_trust : MethodName := ⟨RX1, "trust", "(II)I"⟩
abbrev cX1_setPerson : ByteArray := prog_3_method_10_code
def yX1_setPerson : MethodName := ⟨RX1, "setPerson", "(II)I"⟩
abbrev cX1_in : ByteArray := prog_3_method_11_code
def yX1_in : MethodName := ⟨RX1, "in", "(I)I"⟩
abbrev cX1_inByBook : ByteArray := prog_3_method_12_code
def yX1_inByBook : MethodName := ⟨RX1, "inByBook", "(I)I"⟩
abbrev cX1_all : ByteArray := prog_3_method_13_code
def yX1_all : MethodName := ⟨RX1, "all", "()I"⟩
abbrev cX1_total : ByteArray := prog_3_method_14_code
def yX1_total : MethodName := ⟨RX1, "total", "()I"⟩
abbrev cX1_fillPot : ByteArray := prog_3_method_15_code
def yX1_fillPot : MethodName := ⟨RX1, "fillPot", "(I)I"⟩
abbrev cX1_pot : ByteArray := prog_3_method_16_code
def yX1_pot : MethodName := ⟨RX1, "pot", "()I"⟩
abbrev cX1_addMilestone : ByteArray := prog_3_method_17_code
def yX1_addMilestone : MethodName := ⟨RX1, "addMilestone", "(I)I"⟩
abbrev cX1_prove : ByteArray := prog_3_method_18_code
def yX1_prove : MethodName := ⟨RX1, "prove", "(I)Z"⟩
abbrev cX1_hasCurrent : ByteArray := prog_3_method_19_code
def yX1_hasCurrent : MethodName := ⟨RX1, "hasCurrent", "()Z"⟩
abbrev cX1_current : ByteArray := prog_3_method_20_code
def yX1_current : MethodName := ⟨RX1, "current", "()I"⟩
abbrev cX1_vote : ByteArray := prog_3_method_21_code
def yX1_vote : MethodName := ⟨RX1, "vote", "(II)I"⟩
abbrev cX1_speakerOf : ByteArray := prog_3_method_22_code
def yX1_speakerOf : MethodName := ⟨RX1, "speakerOf", "(I)I"⟩
abbrev cX1_speaker : ByteArray := prog_3_method_23_code
def yX1_speaker : MethodName := ⟨RX1, "speaker", "(I)I"⟩
abbrev cX1_weightOf : ByteArray := prog_3_method_24_code
def yX1_weightOf : MethodName := ⟨RX1, "weightOf", "(I)I"⟩
abbrev cX1_weight : ByteArray := prog_3_method_25_code
def yX1_weight : MethodName := ⟨RX1, "weight", "(I)I"⟩
abbrev cX1_canGoOut : ByteArray := prog_3_method_26_code
def yX1_canGoOut : MethodName := ⟨RX1, "canGoOut", "()Z"⟩
abbrev cX1_laysShares : ByteArray := prog_3_method_27_code
def yX1_laysShares : MethodName := ⟨RX1, "laysShares", "()V"⟩
abbrev cX1_share : ByteArray := prog_3_method_28_code
def yX1_share : MethodName := ⟨RX1, "share", "(I)I"⟩
abbrev cX1_root : ByteArray := prog_3_method_29_code
def yX1_root : MethodName := ⟨RX1, "root", "(I)I"⟩
abbrev cX1_matched : ByteArray := prog_3_method_30_code
def yX1_matched : MethodName := ⟨RX1, "matched", "()I"⟩
abbrev cX1_matchNow : ByteArray := prog_3_method_31_code
def yX1_matchNow : MethodName := ⟨RX1, "matchNow", "()I"⟩
abbrev cX1_match : ByteArray := prog_3_method_32_code
def yX1_match : MethodName := ⟨RX1, "match", "()I"⟩
abbrev cX1_matchByPairs : ByteArray := prog_3_method_33_code
def yX1_matchByPairs : MethodName := ⟨RX1, "matchByPairs", "()I"⟩
abbrev cX1_release : ByteArray := prog_3_method_34_code
def yX1_release : MethodName := ⟨RX1, "release", "()I"⟩
abbrev cX1_out : ByteArray := prog_3_method_35_code
def yX1_out : MethodName := ⟨RX1, "out", "()I"⟩
def RJx145de : String := "java/io/Serializable"
def TJx145de : u_T := fun k => match k with
  | _ => ("", "", "", false)
def tyJx145de : Nat → FieldType := fun k => match k with
  | _ => .int
abbrev wsJx145de0 : List Cond := u_ws RJx145de TJx145de 0
theorem nmJx145de : ∀ a, a < 0 → ∀ b, b < 0 → a ≠ b → (TJx145de a).2.1 ≠ (TJx145de b).2.1 := by decide +kernel
theorem tyJx145de_ok : ∀ k, k < 0 → parseFieldDescriptor (TJx145de k).2.2.1 = some (tyJx145de k) := by decide +kernel
def RJ9 : String := "java/lang/Math"
def TJ9 : u_T := fun k => match k with
  | _ => ("", "", "", false)
def tyJ9 : Nat → FieldType := fun k => match k with
  | _ => .int
abbrev wsJ90 : List Cond := u_ws RJ9 TJ9 0
theorem nmJ9 : ∀ a, a < 0 → ∀ b, b < 0 → a ≠ b → (TJ9 a).2.1 ≠ (TJ9 b).2.1 := by decide +kernel
theorem tyJ9_ok : ∀ k, k < 0 → parseFieldDescriptor (TJ9 k).2.2.1 = some (tyJ9 k) := by decide +kernel
abbrev cJ9_max_7cf53 : ByteArray := prog_9_method_65_code
def yJ9_max_7cf53 : MethodName := ⟨RJ9, "max", "(II)I"⟩
abbrev cJ9_min_7cf53 : ByteArray := prog_9_method_69_code
def yJ9_min_7cf53 : MethodName := ⟨RJ9, "min", "(II)I"⟩
def RJ0 : String := "java/lang/String"
def TJ0 : u_T := fun k => match k with
  | _ => ("", "", "", false)
def tyJ0 : Nat → FieldType := fun k => match k with
  | _ => .int
abbrev wsJ00 : List Cond := u_ws RJ0 TJ0 0
theorem nmJ0 : ∀ a, a < 0 → ∀ b, b < 0 → a ≠ b → (TJ0 a).2.1 ≠ (TJ0 b).2.1 := by decide +kernel
theorem tyJ0_ok : ∀ k, k < 0 → parseFieldDescriptor (TJ0 k).2.2.1 = some (tyJ0 k) := by decide +kernel
def RL : String := "QuorumfundLaw"
abbrev cL_give : ByteArray := method_3_code
def yL_give : MethodName := ⟨RL, "give", "(LQuorumfund;II[J)I"⟩
abbrev cL_leave : ByteArray := method_4_code
def yL_leave : MethodName := ⟨RL, "leave", "(LQuorumfund;I[J)I"⟩
abbrev cL_trust : ByteArray := method_5_code
def yL_trust : MethodName := ⟨RL, "trust", "(LQuorumfund;II[J)I"⟩
abbrev cL_setPerson : ByteArray := method_6_code
def yL_setPerson : MethodName := ⟨RL, "setPerson", "(LQuorumfund;II[J)I"⟩
abbrev cL_in : ByteArray := method_7_code
def yL_in : MethodName := ⟨RL, "in", "(LQuorumfund;I[J)I"⟩
abbrev cL_inByBook : ByteArray := method_8_code
def yL_inByBook : MethodName := ⟨RL, "inByBook", "(LQuorumfund;I[J)I"⟩
abbrev cL_fillPot : ByteArray := method_9_code
def yL_fillPot : MethodName := ⟨RL, "fillPot", "(LQuorumfund;I[J)I"⟩
abbrev cL_addMilestone : ByteArray := method_10_code
def yL_addMilestone : MethodName := ⟨RL, "addMilestone", "(LQuorumfund;I[J)I"⟩
abbrev cL_prove : ByteArray := method_11_code
def yL_prove : MethodName := ⟨RL, "prove", "(LQuorumfund;I[J)I"⟩
abbrev cL_vote : ByteArray := method_12_code
def yL_vote : MethodName := ⟨RL, "vote", "(LQuorumfund;II[J)I"⟩
abbrev cL_speaker : ByteArray := method_13_code
def yL_speaker : MethodName := ⟨RL, "speaker", "(LQuorumfund;I[J)I"⟩
abbrev cL_weight : ByteArray := method_14_code
def yL_weight : MethodName := ⟨RL, "weight", "(LQuorumfund;I[J)I"⟩
abbrev cL_share : ByteArray := method_15_code
def yL_share : MethodName := ⟨RL, "share", "(LQuorumfund;I[J)I"⟩
abbrev cL_match : ByteArray := method_16_code
def yL_match : MethodName := ⟨RL, "match", "(LQuorumfund;[J)I"⟩
abbrev cL_matchByPairs : ByteArray := method_17_code
def yL_matchByPairs : MethodName := ⟨RL, "matchByPairs", "(LQuorumfund;[J)I"⟩
abbrev cL_release : ByteArray := method_18_code
def yL_release : MethodName := ⟨RL, "release", "(LQuorumfund;[J)I"⟩
abbrev cL_law : ByteArray := code
def yL_law : MethodName := ⟨RL, "law", "([I)Z"⟩
def wsX0_init : List Cond := .code yX0_init cX0_init 2 none :: ([.methodLink RX0 1 objectInit, .instanceMethod objectInit, .code objectInit ⟨#[0xb1]⟩ 1 none, .arrayClass .int, .fieldLink RX0 9 "Quorumfund" "kept" "[I", .fieldLink RX0 13 "Quorumfund" "given" "[I", .fieldLink RX0 16 "Quorumfund" "gotBack" "[I", .fieldLink RX0 19 "Quorumfund" "wentOut" "[I", .fieldLink RX0 22 "Quorumfund" "trusted" "[I", .fieldLink RX0 25 "Quorumfund" "persons" "[I", .fieldLink RX0 28 "Quorumfund" "votes" "[I", .fieldLink RX0 31 "Quorumfund" "amounts" "[I", .arrayClass .boolean, .fieldLink RX0 34 "Quorumfund" "proofs" "[Z", .fieldLink RX0 38 "Quorumfund" "shares" "[I", .fieldLink RX0 41 "Quorumfund" "roots" "[I"] ++ wsX00)
def wsX0_isGiver : List Cond := .code yX0_isGiver cX0_isGiver 1 (some .boolean) :: ([])
def wsX0_requireGiver : List Cond := .code yX0_requireGiver cX0_requireGiver 1 none :: ([.classLink RX0 66 "java/lang/IndexOutOfBoundsException", .initialized "java/lang/IndexOutOfBoundsException", .methodLink RX0 151 yX0_isGiver, .static yX0_isGiver, .initialized RX0, .code yX0_isGiver cX0_isGiver 1 (some .boolean)] ++ (vx_atS RX0 70 "java/lang/IndexOutOfBoundsException" ["java/lang/RuntimeException", "java/lang/Exception"]).filter goodWord)
def wsX0_requireAmount : List Cond := .code yX0_requireAmount cX0_requireAmount 2 none :: ([.classLink RX0 90 "java/lang/IllegalArgumentException", .initialized "java/lang/IllegalArgumentException"] ++ (vx_atS RX0 94 "java/lang/IllegalArgumentException" ["java/lang/RuntimeException", "java/lang/Exception"]).filter goodWord)
def wsX0_give : List Cond := .code yX0_give cX0_give 3 (some .int) :: ([.classLink RX0 53 "java/lang/IllegalStateException", .initialized "java/lang/IllegalStateException", .fieldLink RX0 9 "Quorumfund" "kept" "[I", .constant RX0 52 (100000), .fieldLink RX0 13 "Quorumfund" "given" "[I", .methodLink RX0 44 yX0_requireGiver, .static yX0_requireGiver, .initialized RX0, .code yX0_requireGiver cX0_requireGiver 1 none, .classLink RX0 66 "java/lang/IndexOutOfBoundsException", .initialized "java/lang/IndexOutOfBoundsException", .methodLink RX0 151 yX0_isGiver, .static yX0_isGiver, .code yX0_isGiver cX0_isGiver 1 (some .boolean), .methodLink RX0 48 yX0_requireAmount, .static yX0_requireAmount, .code yX0_requireAmount cX0_requireAmount 2 none, .classLink RX0 90 "java/lang/IllegalArgumentException", .initialized "java/lang/IllegalArgumentException"] ++ wsX00 ++ (vx_atS RX0 57 "java/lang/IllegalStateException" ["java/lang/RuntimeException", "java/lang/Exception"]).filter goodWord ++ (vx_atS RX0 70 "java/lang/IndexOutOfBoundsException" ["java/lang/RuntimeException", "java/lang/Exception"]).filter goodWord ++ (vx_atS RX0 94 "java/lang/IllegalArgumentException" ["java/lang/RuntimeException", "java/lang/Exception"]).filter goodWord)
def wsX0_leave : List Cond := .code yX0_leave cX0_leave 3 (some .int) :: ([.fieldLink RX0 9 "Quorumfund" "kept" "[I", .fieldLink RX0 16 "Quorumfund" "gotBack" "[I", .fieldLink RX0 28 "Quorumfund" "votes" "[I", .methodLink RX0 44 yX0_requireGiver, .static yX0_requireGiver, .initialized RX0, .code yX0_requireGiver cX0_requireGiver 1 none, .classLink RX0 66 "java/lang/IndexOutOfBoundsException", .initialized "java/lang/IndexOutOfBoundsException", .methodLink RX0 151 yX0_isGiver, .static yX0_isGiver, .code yX0_isGiver cX0_isGiver 1 (some .boolean)] ++ wsX00 ++ (vx_atS RX0 70 "java/lang/IndexOutOfBoundsException" ["java/lang/RuntimeException", "java/lang/Exception"]).filter goodWord)
def wsX0_leadsTo : List Cond := .code yX0_leadsTo cX0_leadsTo 5 (some .boolean) :: ([.fieldLink RX0 22 "Quorumfund" "trusted" "[I", .methodLink RX0 151 yX0_isGiver, .static yX0_isGiver, .initialized RX0, .code yX0_isGiver cX0_isGiver 1 (some .boolean)] ++ wsX00)
def wsX0_trust : List Cond := .code yX0_trust cX0_trust 4 (some .int) :: ([.classLink RX0 53 "java/lang/IllegalStateException", .initialized "java/lang/IllegalStateException", .fieldLink RX0 22 "Quorumfund" "trusted" "[I", .methodLink RX0 44 yX0_requireGiver, .static yX0_requireGiver, .initialized RX0, .code yX0_requireGiver cX0_requireGiver 1 none, .classLink RX0 66 "java/lang/IndexOutOfBoundsException", .initialized "java/lang/IndexOutOfBoundsException", .methodLink RX0 151 yX0_isGiver, .static yX0_isGiver, .code yX0_isGiver cX0_isGiver 1 (some .boolean), .methodLink RX0 60 yX0_leadsTo, .instanceMethod yX0_leadsTo, .selects RX0 yX0_leadsTo yX0_leadsTo, .code yX0_leadsTo cX0_leadsTo 5 (some .boolean)] ++ wsX00 ++ (vx_atS RX0 57 "java/lang/IllegalStateException" ["java/lang/RuntimeException", "java/lang/Exception"]).filter goodWord ++ (vx_atS RX0 70 "java/lang/IndexOutOfBoundsException" ["java/lang/RuntimeException", "java/lang/Exception"]).filter goodWord)
def wsX0_setPerson : List Cond := .code yX0_setPerson cX0_setPerson 4 (some .int) :: ([.classLink RX0 66 "java/lang/IndexOutOfBoundsException", .initialized "java/lang/IndexOutOfBoundsException", .fieldLink RX0 25 "Quorumfund" "persons" "[I", .methodLink RX0 44 yX0_requireGiver, .static yX0_requireGiver, .initialized RX0, .code yX0_requireGiver cX0_requireGiver 1 none, .methodLink RX0 151 yX0_isGiver, .static yX0_isGiver, .code yX0_isGiver cX0_isGiver 1 (some .boolean)] ++ wsX00 ++ (vx_atS RX0 70 "java/lang/IndexOutOfBoundsException" ["java/lang/RuntimeException", "java/lang/Exception"]).filter goodWord)
def wsX0_in : List Cond := .code yX0_in cX0_in 2 (some .int) :: ([.fieldLink RX0 9 "Quorumfund" "kept" "[I", .methodLink RX0 44 yX0_requireGiver, .static yX0_requireGiver, .initialized RX0, .code yX0_requireGiver cX0_requireGiver 1 none, .classLink RX0 66 "java/lang/IndexOutOfBoundsException", .initialized "java/lang/IndexOutOfBoundsException", .methodLink RX0 151 yX0_isGiver, .static yX0_isGiver, .code yX0_isGiver cX0_isGiver 1 (some .boolean)] ++ wsX00 ++ (vx_atS RX0 70 "java/lang/IndexOutOfBoundsException" ["java/lang/RuntimeException", "java/lang/Exception"]).filter goodWord)
def wsX0_inByBook : List Cond := .code yX0_inByBook cX0_inByBook 2 (some .int) :: ([.fieldLink RX0 13 "Quorumfund" "given" "[I", .fieldLink RX0 16 "Quorumfund" "gotBack" "[I", .fieldLink RX0 19 "Quorumfund" "wentOut" "[I", .methodLink RX0 44 yX0_requireGiver, .static yX0_requireGiver, .initialized RX0, .code yX0_requireGiver cX0_requireGiver 1 none, .classLink RX0 66 "java/lang/IndexOutOfBoundsException", .initialized "java/lang/IndexOutOfBoundsException", .methodLink RX0 151 yX0_isGiver, .static yX0_isGiver, .code yX0_isGiver cX0_isGiver 1 (some .boolean)] ++ wsX00 ++ (vx_atS RX0 70 "java/lang/IndexOutOfBoundsException" ["java/lang/RuntimeException", "java/lang/Exception"]).filter goodWord)
def wsX0_total : List Cond := .code yX0_total cX0_total 3 (some .int) :: ([.fieldLink RX0 9 "Quorumfund" "kept" "[I"] ++ wsX00)
def wsX0_fillPot : List Cond := .code yX0_fillPot cX0_fillPot 2 (some .int) :: ([.classLink RX0 53 "java/lang/IllegalStateException", .initialized "java/lang/IllegalStateException", .constant RX0 52 (100000), .fieldLink RX0 71 "Quorumfund" "potMoney" "I", .constant RX0 75 (1000000), .methodLink RX0 48 yX0_requireAmount, .static yX0_requireAmount, .initialized RX0, .code yX0_requireAmount cX0_requireAmount 2 none, .classLink RX0 90 "java/lang/IllegalArgumentException", .initialized "java/lang/IllegalArgumentException"] ++ wsX00 ++ (vx_atS RX0 57 "java/lang/IllegalStateException" ["java/lang/RuntimeException", "java/lang/Exception"]).filter goodWord ++ (vx_atS RX0 94 "java/lang/IllegalArgumentException" ["java/lang/RuntimeException", "java/lang/Exception"]).filter goodWord)
def wsX0_pot : List Cond := .code yX0_pot cX0_pot 1 (some .int) :: ([.fieldLink RX0 71 "Quorumfund" "potMoney" "I"] ++ wsX00)
def wsX0_addMilestone : List Cond := .code yX0_addMilestone cX0_addMilestone 2 (some .int) :: ([.classLink RX0 53 "java/lang/IllegalStateException", .initialized "java/lang/IllegalStateException", .constant RX0 52 (100000), .fieldLink RX0 78 "Quorumfund" "added" "I", .fieldLink RX0 31 "Quorumfund" "amounts" "[I", .methodLink RX0 48 yX0_requireAmount, .static yX0_requireAmount, .initialized RX0, .code yX0_requireAmount cX0_requireAmount 2 none, .classLink RX0 90 "java/lang/IllegalArgumentException", .initialized "java/lang/IllegalArgumentException"] ++ wsX00 ++ (vx_atS RX0 57 "java/lang/IllegalStateException" ["java/lang/RuntimeException", "java/lang/Exception"]).filter goodWord ++ (vx_atS RX0 94 "java/lang/IllegalArgumentException" ["java/lang/RuntimeException", "java/lang/Exception"]).filter goodWord)
def wsX0_prove : List Cond := .code yX0_prove cX0_prove 2 (some .boolean) :: ([.classLink RX0 66 "java/lang/IndexOutOfBoundsException", .initialized "java/lang/IndexOutOfBoundsException", .classLink RX0 53 "java/lang/IllegalStateException", .initialized "java/lang/IllegalStateException", .fieldLink RX0 78 "Quorumfund" "added" "I", .fieldLink RX0 85 "Quorumfund" "released" "I", .fieldLink RX0 34 "Quorumfund" "proofs" "[Z"] ++ wsX00 ++ (vx_atS RX0 70 "java/lang/IndexOutOfBoundsException" ["java/lang/RuntimeException", "java/lang/Exception"]).filter goodWord ++ (vx_atS RX0 57 "java/lang/IllegalStateException" ["java/lang/RuntimeException", "java/lang/Exception"]).filter goodWord)
def wsX0_current : List Cond := .code yX0_current cX0_current 1 (some .int) :: ([.fieldLink RX0 85 "Quorumfund" "released" "I", .fieldLink RX0 78 "Quorumfund" "added" "I"] ++ wsX00)
def wsX0_vote : List Cond := .code yX0_vote cX0_vote 4 (some .int) :: ([.classLink RX0 90 "java/lang/IllegalArgumentException", .initialized "java/lang/IllegalArgumentException", .classLink RX0 53 "java/lang/IllegalStateException", .initialized "java/lang/IllegalStateException", .fieldLink RX0 28 "Quorumfund" "votes" "[I", .methodLink RX0 44 yX0_requireGiver, .static yX0_requireGiver, .initialized RX0, .code yX0_requireGiver cX0_requireGiver 1 none, .classLink RX0 66 "java/lang/IndexOutOfBoundsException", .initialized "java/lang/IndexOutOfBoundsException", .methodLink RX0 151 yX0_isGiver, .static yX0_isGiver, .code yX0_isGiver cX0_isGiver 1 (some .boolean), .methodLink RX0 95 yX0_current, .instanceMethod yX0_current, .selects RX0 yX0_current yX0_current, .code yX0_current cX0_current 1 (some .int), .fieldLink RX0 85 "Quorumfund" "released" "I", .fieldLink RX0 78 "Quorumfund" "added" "I"] ++ wsX00 ++ (vx_atS RX0 94 "java/lang/IllegalArgumentException" ["java/lang/RuntimeException", "java/lang/Exception"]).filter goodWord ++ (vx_atS RX0 57 "java/lang/IllegalStateException" ["java/lang/RuntimeException", "java/lang/Exception"]).filter goodWord ++ (vx_atS RX0 70 "java/lang/IndexOutOfBoundsException" ["java/lang/RuntimeException", "java/lang/Exception"]).filter goodWord)
def wsX0_firstVoterFrom : List Cond := .code yX0_firstVoterFrom cX0_firstVoterFrom 4 (some .int) :: ([.fieldLink RX0 28 "Quorumfund" "votes" "[I", .fieldLink RX0 22 "Quorumfund" "trusted" "[I", .methodLink RX0 151 yX0_isGiver, .static yX0_isGiver, .initialized RX0, .code yX0_isGiver cX0_isGiver 1 (some .boolean)] ++ wsX00)
def wsX0_speaker : List Cond := .code yX0_speaker cX0_speaker 2 (some .int) :: ([.methodLink RX0 44 yX0_requireGiver, .static yX0_requireGiver, .initialized RX0, .code yX0_requireGiver cX0_requireGiver 1 none, .classLink RX0 66 "java/lang/IndexOutOfBoundsException", .initialized "java/lang/IndexOutOfBoundsException", .methodLink RX0 151 yX0_isGiver, .static yX0_isGiver, .code yX0_isGiver cX0_isGiver 1 (some .boolean), .methodLink RX0 101 yX0_firstVoterFrom, .instanceMethod yX0_firstVoterFrom, .selects RX0 yX0_firstVoterFrom yX0_firstVoterFrom, .code yX0_firstVoterFrom cX0_firstVoterFrom 4 (some .int), .fieldLink RX0 28 "Quorumfund" "votes" "[I", .fieldLink RX0 22 "Quorumfund" "trusted" "[I"] ++ wsX00 ++ (vx_atS RX0 70 "java/lang/IndexOutOfBoundsException" ["java/lang/RuntimeException", "java/lang/Exception"]).filter goodWord)
def wsX0_heardVote : List Cond := .code yX0_heardVote cX0_heardVote 3 (some .int) :: ([.fieldLink RX0 28 "Quorumfund" "votes" "[I", .methodLink RX0 101 yX0_firstVoterFrom, .instanceMethod yX0_firstVoterFrom, .selects RX0 yX0_firstVoterFrom yX0_firstVoterFrom, .initialized RX0, .code yX0_firstVoterFrom cX0_firstVoterFrom 4 (some .int), .fieldLink RX0 22 "Quorumfund" "trusted" "[I", .methodLink RX0 151 yX0_isGiver, .static yX0_isGiver, .code yX0_isGiver cX0_isGiver 1 (some .boolean)] ++ wsX00)
def wsX0_weight : List Cond := .code yX0_weight cX0_weight 4 (some .int) :: ([.classLink RX0 90 "java/lang/IllegalArgumentException", .initialized "java/lang/IllegalArgumentException", .fieldLink RX0 9 "Quorumfund" "kept" "[I", .methodLink RX0 107 yX0_heardVote, .instanceMethod yX0_heardVote, .selects RX0 yX0_heardVote yX0_heardVote, .initialized RX0, .code yX0_heardVote cX0_heardVote 3 (some .int), .fieldLink RX0 28 "Quorumfund" "votes" "[I", .methodLink RX0 101 yX0_firstVoterFrom, .instanceMethod yX0_firstVoterFrom, .selects RX0 yX0_firstVoterFrom yX0_firstVoterFrom, .code yX0_firstVoterFrom cX0_firstVoterFrom 4 (some .int), .fieldLink RX0 22 "Quorumfund" "trusted" "[I", .methodLink RX0 151 yX0_isGiver, .static yX0_isGiver, .code yX0_isGiver cX0_isGiver 1 (some .boolean)] ++ wsX00 ++ (vx_atS RX0 94 "java/lang/IllegalArgumentException" ["java/lang/RuntimeException", "java/lang/Exception"]).filter goodWord)
def wsX0_isCovered : List Cond := .code yX0_isCovered cX0_isCovered 1 (some .boolean) :: ([.fieldLink RX0 85 "Quorumfund" "released" "I", .fieldLink RX0 31 "Quorumfund" "amounts" "[I", .methodLink RX0 95 yX0_current, .instanceMethod yX0_current, .selects RX0 yX0_current yX0_current, .initialized RX0, .code yX0_current cX0_current 1 (some .int), .fieldLink RX0 78 "Quorumfund" "added" "I", .methodLink RX0 137 yX0_total, .instanceMethod yX0_total, .selects RX0 yX0_total yX0_total, .code yX0_total cX0_total 3 (some .int), .fieldLink RX0 9 "Quorumfund" "kept" "[I"] ++ wsX00)
def wsX0_requireCovered : List Cond := .code yX0_requireCovered cX0_requireCovered 1 none :: ([.classLink RX0 159 "java/util/NoSuchElementException", .initialized "java/util/NoSuchElementException", .methodLink RX0 128 yX0_isCovered, .instanceMethod yX0_isCovered, .selects RX0 yX0_isCovered yX0_isCovered, .initialized RX0, .code yX0_isCovered cX0_isCovered 1 (some .boolean), .fieldLink RX0 85 "Quorumfund" "released" "I", .fieldLink RX0 31 "Quorumfund" "amounts" "[I", .methodLink RX0 95 yX0_current, .instanceMethod yX0_current, .selects RX0 yX0_current yX0_current, .code yX0_current cX0_current 1 (some .int), .fieldLink RX0 78 "Quorumfund" "added" "I", .methodLink RX0 137 yX0_total, .instanceMethod yX0_total, .selects RX0 yX0_total yX0_total, .code yX0_total cX0_total 3 (some .int), .fieldLink RX0 9 "Quorumfund" "kept" "[I"] ++ wsX00 ++ zn_at.filter goodWord)
def wsX0_roundedPart : List Cond := .code yX0_roundedPart cX0_roundedPart 3 (some .int) :: ([])
def wsX0_findShares : List Cond := .code yX0_findShares cX0_findShares 5 none :: ([.fieldLink RX0 38 "Quorumfund" "shares" "[I", .fieldLink RX0 9 "Quorumfund" "kept" "[I", .methodLink RX0 137 yX0_total, .instanceMethod yX0_total, .selects RX0 yX0_total yX0_total, .initialized RX0, .code yX0_total cX0_total 3 (some .int), .methodLink RX0 164 yX0_roundedPart, .static yX0_roundedPart, .code yX0_roundedPart cX0_roundedPart 3 (some .int)] ++ wsX00)
def wsX0_share_r1 : List Cond := [Cond.fieldLink RX0 31 "Quorumfund" "amounts" "[I", Cond.fieldLink RX0 85 "Quorumfund" "released" "I", Cond.fieldLink RX0 38 "Quorumfund" "shares" "[I", Cond.methodLink RX0 44 yX0_requireGiver, Cond.static yX0_requireGiver, Cond.initialized RX0, Cond.code yX0_requireGiver cX0_requireGiver 1 none, Cond.classLink RX0 66 "java/lang/IndexOutOfBoundsException", Cond.initialized "java/lang/IndexOutOfBoundsException", Cond.methodLink RX0 151 yX0_isGiver, Cond.static yX0_isGiver, Cond.code yX0_isGiver cX0_isGiver 1 (some .boolean), Cond.methodLink RX0 110 yX0_requireCovered, Cond.instanceMethod yX0_requireCovered, Cond.selects RX0 yX0_requireCovered yX0_requireCovered, Cond.code yX0_requireCovered cX0_requireCovered 1 none, Cond.classLink RX0 159 "java/util/NoSuchElementException", Cond.initialized "java/util/NoSuchElementException", Cond.methodLink RX0 128 yX0_isCovered, Cond.instanceMethod yX0_isCovered, Cond.selects RX0 yX0_isCovered yX0_isCovered, Cond.code yX0_isCovered cX0_isCovered 1 (some .boolean), Cond.methodLink RX0 95 yX0_current, Cond.instanceMethod yX0_current]
def wsX0_share_r2 : List Cond := [Cond.selects RX0 yX0_current yX0_current, Cond.code yX0_current cX0_current 1 (some .int), Cond.fieldLink RX0 78 "Quorumfund" "added" "I", Cond.methodLink RX0 137 yX0_total, Cond.instanceMethod yX0_total, Cond.selects RX0 yX0_total yX0_total, Cond.code yX0_total cX0_total 3 (some .int), Cond.fieldLink RX0 9 "Quorumfund" "kept" "[I", Cond.methodLink RX0 113 yX0_findShares, Cond.instanceMethod yX0_findShares, Cond.selects RX0 yX0_findShares yX0_findShares, Cond.code yX0_findShares cX0_findShares 5 none, Cond.methodLink RX0 164 yX0_roundedPart, Cond.static yX0_roundedPart, Cond.code yX0_roundedPart cX0_roundedPart 3 (some .int)]
def wsX0_share : List Cond := .code yX0_share cX0_share 2 (some .int) :: ((wsX0_share_r1 ++ wsX0_share_r2) ++ wsX00 ++ (vx_atS RX0 70 "java/lang/IndexOutOfBoundsException" ["java/lang/RuntimeException", "java/lang/Exception"]).filter goodWord ++ zn_at.filter goodWord)
def wsX0_partOf : List Cond := .code yX0_partOf cX0_partOf 4 (some .int) :: ([.fieldLink RX0 25 "Quorumfund" "persons" "[I", .fieldLink RX0 38 "Quorumfund" "shares" "[I"] ++ wsX00)
def wsX0_rootOf : List Cond := .code yX0_rootOf cX0_rootOf 4 (some .int) :: ([])
def wsX0_findRoots : List Cond := .code yX0_findRoots cX0_findRoots 2 none :: ([.fieldLink RX0 41 "Quorumfund" "roots" "[I", .methodLink RX0 171 yX0_partOf, .instanceMethod yX0_partOf, .selects RX0 yX0_partOf yX0_partOf, .initialized RX0, .code yX0_partOf cX0_partOf 4 (some .int), .fieldLink RX0 25 "Quorumfund" "persons" "[I", .fieldLink RX0 38 "Quorumfund" "shares" "[I", .methodLink RX0 174 yX0_rootOf, .static yX0_rootOf, .code yX0_rootOf cX0_rootOf 4 (some .int)] ++ wsX00)
def wsX0_squareOfSum : List Cond := .code yX0_squareOfSum cX0_squareOfSum 3 (some .int) :: ([.fieldLink RX0 41 "Quorumfund" "roots" "[I"] ++ wsX00)
def wsX0_withinPot : List Cond := .code yX0_withinPot cX0_withinPot 2 (some .int) :: ([.methodLink RX0 177 Lib.Math.max.name, .static Lib.Math.max.name, .initialized "java/lang/Math", .code Lib.Math.max.name Lib.Math.max.code 2 (some .int), .fieldLink RX0 71 "Quorumfund" "potMoney" "I", .methodLink RX0 183 Lib.Math.min.name, .static Lib.Math.min.name, .code Lib.Math.min.name Lib.Math.min.code 2 (some .int)] ++ wsX00)
def wsX0_currentMatch_r1 : List Cond := [Cond.fieldLink RX0 31 "Quorumfund" "amounts" "[I", Cond.fieldLink RX0 85 "Quorumfund" "released" "I", Cond.methodLink RX0 113 yX0_findShares, Cond.instanceMethod yX0_findShares, Cond.selects RX0 yX0_findShares yX0_findShares, Cond.initialized RX0, Cond.code yX0_findShares cX0_findShares 5 none, Cond.fieldLink RX0 38 "Quorumfund" "shares" "[I", Cond.fieldLink RX0 9 "Quorumfund" "kept" "[I", Cond.methodLink RX0 137 yX0_total, Cond.instanceMethod yX0_total, Cond.selects RX0 yX0_total yX0_total, Cond.code yX0_total cX0_total 3 (some .int), Cond.methodLink RX0 164 yX0_roundedPart, Cond.static yX0_roundedPart, Cond.code yX0_roundedPart cX0_roundedPart 3 (some .int), Cond.methodLink RX0 119 yX0_findRoots, Cond.instanceMethod yX0_findRoots, Cond.selects RX0 yX0_findRoots yX0_findRoots, Cond.code yX0_findRoots cX0_findRoots 2 none, Cond.fieldLink RX0 41 "Quorumfund" "roots" "[I", Cond.methodLink RX0 171 yX0_partOf, Cond.instanceMethod yX0_partOf, Cond.selects RX0 yX0_partOf yX0_partOf]
def wsX0_currentMatch_r2 : List Cond := [Cond.code yX0_partOf cX0_partOf 4 (some .int), Cond.fieldLink RX0 25 "Quorumfund" "persons" "[I", Cond.methodLink RX0 174 yX0_rootOf, Cond.static yX0_rootOf, Cond.code yX0_rootOf cX0_rootOf 4 (some .int), Cond.methodLink RX0 168 yX0_squareOfSum, Cond.instanceMethod yX0_squareOfSum, Cond.selects RX0 yX0_squareOfSum yX0_squareOfSum, Cond.code yX0_squareOfSum cX0_squareOfSum 3 (some .int), Cond.methodLink RX0 125 yX0_withinPot, Cond.instanceMethod yX0_withinPot, Cond.selects RX0 yX0_withinPot yX0_withinPot, Cond.code yX0_withinPot cX0_withinPot 2 (some .int), Cond.methodLink RX0 177 Lib.Math.max.name, Cond.static Lib.Math.max.name, Cond.initialized "java/lang/Math", Cond.code Lib.Math.max.name Lib.Math.max.code 2 (some .int), Cond.fieldLink RX0 71 "Quorumfund" "potMoney" "I", Cond.methodLink RX0 183 Lib.Math.min.name, Cond.static Lib.Math.min.name, Cond.code Lib.Math.min.name Lib.Math.min.code 2 (some .int)]
def wsX0_currentMatch : List Cond := .code yX0_currentMatch cX0_currentMatch 2 (some .int) :: ((wsX0_currentMatch_r1 ++ wsX0_currentMatch_r2) ++ wsX00)
def wsX0_match_r1 : List Cond := [Cond.methodLink RX0 110 yX0_requireCovered, Cond.instanceMethod yX0_requireCovered, Cond.selects RX0 yX0_requireCovered yX0_requireCovered, Cond.initialized RX0, Cond.code yX0_requireCovered cX0_requireCovered 1 none, Cond.classLink RX0 159 "java/util/NoSuchElementException", Cond.initialized "java/util/NoSuchElementException", Cond.methodLink RX0 128 yX0_isCovered, Cond.instanceMethod yX0_isCovered, Cond.selects RX0 yX0_isCovered yX0_isCovered, Cond.code yX0_isCovered cX0_isCovered 1 (some .boolean), Cond.fieldLink RX0 85 "Quorumfund" "released" "I", Cond.fieldLink RX0 31 "Quorumfund" "amounts" "[I", Cond.methodLink RX0 95 yX0_current, Cond.instanceMethod yX0_current, Cond.selects RX0 yX0_current yX0_current, Cond.code yX0_current cX0_current 1 (some .int), Cond.fieldLink RX0 78 "Quorumfund" "added" "I", Cond.methodLink RX0 137 yX0_total, Cond.instanceMethod yX0_total, Cond.selects RX0 yX0_total yX0_total, Cond.code yX0_total cX0_total 3 (some .int), Cond.fieldLink RX0 9 "Quorumfund" "kept" "[I", Cond.methodLink RX0 116 yX0_currentMatch]
def wsX0_match_r2 : List Cond := [Cond.instanceMethod yX0_currentMatch, Cond.selects RX0 yX0_currentMatch yX0_currentMatch, Cond.code yX0_currentMatch cX0_currentMatch 2 (some .int), Cond.methodLink RX0 113 yX0_findShares, Cond.instanceMethod yX0_findShares, Cond.selects RX0 yX0_findShares yX0_findShares, Cond.code yX0_findShares cX0_findShares 5 none, Cond.fieldLink RX0 38 "Quorumfund" "shares" "[I", Cond.methodLink RX0 164 yX0_roundedPart, Cond.static yX0_roundedPart, Cond.code yX0_roundedPart cX0_roundedPart 3 (some .int), Cond.methodLink RX0 119 yX0_findRoots, Cond.instanceMethod yX0_findRoots, Cond.selects RX0 yX0_findRoots yX0_findRoots, Cond.code yX0_findRoots cX0_findRoots 2 none, Cond.fieldLink RX0 41 "Quorumfund" "roots" "[I", Cond.methodLink RX0 171 yX0_partOf, Cond.instanceMethod yX0_partOf, Cond.selects RX0 yX0_partOf yX0_partOf, Cond.code yX0_partOf cX0_partOf 4 (some .int), Cond.fieldLink RX0 25 "Quorumfund" "persons" "[I", Cond.methodLink RX0 174 yX0_rootOf, Cond.static yX0_rootOf, Cond.code yX0_rootOf cX0_rootOf 4 (some .int)]
def wsX0_match_r3 : List Cond := [Cond.methodLink RX0 168 yX0_squareOfSum, Cond.instanceMethod yX0_squareOfSum, Cond.selects RX0 yX0_squareOfSum yX0_squareOfSum, Cond.code yX0_squareOfSum cX0_squareOfSum 3 (some .int), Cond.methodLink RX0 125 yX0_withinPot, Cond.instanceMethod yX0_withinPot, Cond.selects RX0 yX0_withinPot yX0_withinPot, Cond.code yX0_withinPot cX0_withinPot 2 (some .int), Cond.methodLink RX0 177 Lib.Math.max.name, Cond.static Lib.Math.max.name, Cond.initialized "java/lang/Math", Cond.code Lib.Math.max.name Lib.Math.max.code 2 (some .int), Cond.fieldLink RX0 71 "Quorumfund" "potMoney" "I", Cond.methodLink RX0 183 Lib.Math.min.name, Cond.static Lib.Math.min.name, Cond.code Lib.Math.min.name Lib.Math.min.code 2 (some .int)]
def wsX0_match : List Cond := .code yX0_match cX0_match 1 (some .int) :: ((wsX0_match_r1 ++ (wsX0_match_r2 ++ wsX0_match_r3)) ++ wsX00 ++ zn_at.filter goodWord)
def wsX0_squareByPairs : List Cond := .code yX0_squareByPairs cX0_squareByPairs 4 (some .int) :: ([.fieldLink RX0 41 "Quorumfund" "roots" "[I"] ++ wsX00)
def wsX0_matchByPairs_r1 : List Cond := [Cond.fieldLink RX0 31 "Quorumfund" "amounts" "[I", Cond.fieldLink RX0 85 "Quorumfund" "released" "I", Cond.methodLink RX0 110 yX0_requireCovered, Cond.instanceMethod yX0_requireCovered, Cond.selects RX0 yX0_requireCovered yX0_requireCovered, Cond.initialized RX0, Cond.code yX0_requireCovered cX0_requireCovered 1 none, Cond.classLink RX0 159 "java/util/NoSuchElementException", Cond.initialized "java/util/NoSuchElementException", Cond.methodLink RX0 128 yX0_isCovered, Cond.instanceMethod yX0_isCovered, Cond.selects RX0 yX0_isCovered yX0_isCovered, Cond.code yX0_isCovered cX0_isCovered 1 (some .boolean), Cond.methodLink RX0 95 yX0_current, Cond.instanceMethod yX0_current, Cond.selects RX0 yX0_current yX0_current, Cond.code yX0_current cX0_current 1 (some .int), Cond.fieldLink RX0 78 "Quorumfund" "added" "I", Cond.methodLink RX0 137 yX0_total, Cond.instanceMethod yX0_total, Cond.selects RX0 yX0_total yX0_total, Cond.code yX0_total cX0_total 3 (some .int), Cond.fieldLink RX0 9 "Quorumfund" "kept" "[I", Cond.methodLink RX0 113 yX0_findShares]
def wsX0_matchByPairs_r2 : List Cond := [Cond.instanceMethod yX0_findShares, Cond.selects RX0 yX0_findShares yX0_findShares, Cond.code yX0_findShares cX0_findShares 5 none, Cond.fieldLink RX0 38 "Quorumfund" "shares" "[I", Cond.methodLink RX0 164 yX0_roundedPart, Cond.static yX0_roundedPart, Cond.code yX0_roundedPart cX0_roundedPart 3 (some .int), Cond.methodLink RX0 119 yX0_findRoots, Cond.instanceMethod yX0_findRoots, Cond.selects RX0 yX0_findRoots yX0_findRoots, Cond.code yX0_findRoots cX0_findRoots 2 none, Cond.fieldLink RX0 41 "Quorumfund" "roots" "[I", Cond.methodLink RX0 171 yX0_partOf, Cond.instanceMethod yX0_partOf, Cond.selects RX0 yX0_partOf yX0_partOf, Cond.code yX0_partOf cX0_partOf 4 (some .int), Cond.fieldLink RX0 25 "Quorumfund" "persons" "[I", Cond.methodLink RX0 174 yX0_rootOf, Cond.static yX0_rootOf, Cond.code yX0_rootOf cX0_rootOf 4 (some .int), Cond.methodLink RX0 122 yX0_squareByPairs, Cond.instanceMethod yX0_squareByPairs, Cond.selects RX0 yX0_squareByPairs yX0_squareByPairs, Cond.code yX0_squareByPairs cX0_squareByPairs 4 (some .int)]
def wsX0_matchByPairs_r3 : List Cond := [Cond.methodLink RX0 125 yX0_withinPot, Cond.instanceMethod yX0_withinPot, Cond.selects RX0 yX0_withinPot yX0_withinPot, Cond.code yX0_withinPot cX0_withinPot 2 (some .int), Cond.methodLink RX0 177 Lib.Math.max.name, Cond.static Lib.Math.max.name, Cond.initialized "java/lang/Math", Cond.code Lib.Math.max.name Lib.Math.max.code 2 (some .int), Cond.fieldLink RX0 71 "Quorumfund" "potMoney" "I", Cond.methodLink RX0 183 Lib.Math.min.name, Cond.static Lib.Math.min.name, Cond.code Lib.Math.min.name Lib.Math.min.code 2 (some .int)]
def wsX0_matchByPairs : List Cond := .code yX0_matchByPairs cX0_matchByPairs 2 (some .int) :: ((wsX0_matchByPairs_r1 ++ (wsX0_matchByPairs_r2 ++ wsX0_matchByPairs_r3)) ++ wsX00 ++ zn_at.filter goodWord)
def wsX0_payShares : List Cond := .code yX0_payShares cX0_payShares 2 none :: ([.fieldLink RX0 9 "Quorumfund" "kept" "[I", .fieldLink RX0 38 "Quorumfund" "shares" "[I", .fieldLink RX0 19 "Quorumfund" "wentOut" "[I"] ++ wsX00)
def wsX0_clearVotes : List Cond := .code yX0_clearVotes cX0_clearVotes 2 none :: ([.fieldLink RX0 28 "Quorumfund" "votes" "[I"] ++ wsX00)
def wsX0_release_r1 : List Cond := [Cond.classLink RX0 53 "java/lang/IllegalStateException", Cond.initialized "java/lang/IllegalStateException", Cond.fieldLink RX0 34 "Quorumfund" "proofs" "[Z", Cond.fieldLink RX0 85 "Quorumfund" "released" "I", Cond.fieldLink RX0 31 "Quorumfund" "amounts" "[I", Cond.fieldLink RX0 71 "Quorumfund" "potMoney" "I", Cond.fieldLink RX0 145 "Quorumfund" "outMoney" "I", Cond.methodLink RX0 128 yX0_isCovered, Cond.instanceMethod yX0_isCovered, Cond.selects RX0 yX0_isCovered yX0_isCovered, Cond.initialized RX0, Cond.code yX0_isCovered cX0_isCovered 1 (some .boolean), Cond.methodLink RX0 95 yX0_current, Cond.instanceMethod yX0_current, Cond.selects RX0 yX0_current yX0_current, Cond.code yX0_current cX0_current 1 (some .int), Cond.fieldLink RX0 78 "Quorumfund" "added" "I", Cond.methodLink RX0 137 yX0_total, Cond.instanceMethod yX0_total, Cond.selects RX0 yX0_total yX0_total, Cond.code yX0_total cX0_total 3 (some .int), Cond.fieldLink RX0 9 "Quorumfund" "kept" "[I", Cond.methodLink RX0 134 yX0_weight, Cond.instanceMethod yX0_weight]
def wsX0_release_r2 : List Cond := [Cond.selects RX0 yX0_weight yX0_weight, Cond.code yX0_weight cX0_weight 4 (some .int), Cond.classLink RX0 90 "java/lang/IllegalArgumentException", Cond.initialized "java/lang/IllegalArgumentException", Cond.methodLink RX0 107 yX0_heardVote, Cond.instanceMethod yX0_heardVote, Cond.selects RX0 yX0_heardVote yX0_heardVote, Cond.code yX0_heardVote cX0_heardVote 3 (some .int), Cond.fieldLink RX0 28 "Quorumfund" "votes" "[I", Cond.methodLink RX0 101 yX0_firstVoterFrom, Cond.instanceMethod yX0_firstVoterFrom, Cond.selects RX0 yX0_firstVoterFrom yX0_firstVoterFrom, Cond.code yX0_firstVoterFrom cX0_firstVoterFrom 4 (some .int), Cond.fieldLink RX0 22 "Quorumfund" "trusted" "[I", Cond.methodLink RX0 151 yX0_isGiver, Cond.static yX0_isGiver, Cond.code yX0_isGiver cX0_isGiver 1 (some .boolean), Cond.methodLink RX0 116 yX0_currentMatch, Cond.instanceMethod yX0_currentMatch, Cond.selects RX0 yX0_currentMatch yX0_currentMatch, Cond.code yX0_currentMatch cX0_currentMatch 2 (some .int), Cond.methodLink RX0 113 yX0_findShares, Cond.instanceMethod yX0_findShares, Cond.selects RX0 yX0_findShares yX0_findShares]
def wsX0_release_r3 : List Cond := [Cond.code yX0_findShares cX0_findShares 5 none, Cond.fieldLink RX0 38 "Quorumfund" "shares" "[I", Cond.methodLink RX0 164 yX0_roundedPart, Cond.static yX0_roundedPart, Cond.code yX0_roundedPart cX0_roundedPart 3 (some .int), Cond.methodLink RX0 119 yX0_findRoots, Cond.instanceMethod yX0_findRoots, Cond.selects RX0 yX0_findRoots yX0_findRoots, Cond.code yX0_findRoots cX0_findRoots 2 none, Cond.fieldLink RX0 41 "Quorumfund" "roots" "[I", Cond.methodLink RX0 171 yX0_partOf, Cond.instanceMethod yX0_partOf, Cond.selects RX0 yX0_partOf yX0_partOf, Cond.code yX0_partOf cX0_partOf 4 (some .int), Cond.fieldLink RX0 25 "Quorumfund" "persons" "[I", Cond.methodLink RX0 174 yX0_rootOf, Cond.static yX0_rootOf, Cond.code yX0_rootOf cX0_rootOf 4 (some .int), Cond.methodLink RX0 168 yX0_squareOfSum, Cond.instanceMethod yX0_squareOfSum, Cond.selects RX0 yX0_squareOfSum yX0_squareOfSum, Cond.code yX0_squareOfSum cX0_squareOfSum 3 (some .int), Cond.methodLink RX0 125 yX0_withinPot, Cond.instanceMethod yX0_withinPot]
def wsX0_release_r4 : List Cond := [Cond.selects RX0 yX0_withinPot yX0_withinPot, Cond.code yX0_withinPot cX0_withinPot 2 (some .int), Cond.methodLink RX0 177 Lib.Math.max.name, Cond.static Lib.Math.max.name, Cond.initialized "java/lang/Math", Cond.code Lib.Math.max.name Lib.Math.max.code 2 (some .int), Cond.methodLink RX0 183 Lib.Math.min.name, Cond.static Lib.Math.min.name, Cond.code Lib.Math.min.name Lib.Math.min.code 2 (some .int), Cond.methodLink RX0 142 yX0_payShares, Cond.instanceMethod yX0_payShares, Cond.selects RX0 yX0_payShares yX0_payShares, Cond.code yX0_payShares cX0_payShares 2 none, Cond.fieldLink RX0 19 "Quorumfund" "wentOut" "[I", Cond.methodLink RX0 148 yX0_clearVotes, Cond.instanceMethod yX0_clearVotes, Cond.selects RX0 yX0_clearVotes yX0_clearVotes, Cond.code yX0_clearVotes cX0_clearVotes 2 none]
def wsX0_release : List Cond := .code yX0_release cX0_release 3 (some .int) :: ((wsX0_release_r1 ++ (wsX0_release_r2 ++ (wsX0_release_r3 ++ wsX0_release_r4))) ++ wsX00 ++ (vx_atS RX0 57 "java/lang/IllegalStateException" ["java/lang/RuntimeException", "java/lang/Exception"]).filter goodWord ++ (vx_atS RX0 94 "java/lang/IllegalArgumentException" ["java/lang/RuntimeException", "java/lang/Exception"]).filter goodWord)
def wsX0_out : List Cond := .code yX0_out cX0_out 1 (some .int) :: ([.fieldLink RX0 145 "Quorumfund" "outMoney" "I"] ++ wsX00)
def wsX1_init : List Cond := .code yX1_init cX1_init 2 none :: ([.methodLink RX1 1 objectInit, .instanceMethod objectInit, .code objectInit ⟨#[0xb1]⟩ 1 none, .arrayClass .int, .fieldLink RX1 7 "QuorumfundModel" "ins" "[I", .fieldLink RX1 13 "QuorumfundModel" "trusted" "[I", .fieldLink RX1 16 "QuorumfundModel" "persons" "[I", .fieldLink RX1 19 "QuorumfundModel" "votes" "[I", .fieldLink RX1 22 "QuorumfundModel" "amounts" "[I", .arrayClass .boolean, .fieldLink RX1 25 "QuorumfundModel" "isProved" "[Z", .fieldLink RX1 29 "QuorumfundModel" "shares" "[I"] ++ wsX10)
def wsX1_thrown : List Cond := .code yX1_thrown cX1_thrown 1 (some .int) :: ([.fieldLink RX1 32 "QuorumfundModel" "thrown" "I"] ++ wsX10)
def wsX1_goes : List Cond := .code yX1_goes cX1_goes 2 (some .boolean) :: ([.fieldLink RX1 32 "QuorumfundModel" "thrown" "I"] ++ wsX10)
def wsX1_isIn : List Cond := .code yX1_isIn cX1_isIn 3 (some .boolean) :: ([])
def wsX1_isGiver : List Cond := .code yX1_isGiver cX1_isGiver 1 (some .boolean) :: ([.methodLink RX1 36 yX1_isIn, .static yX1_isIn, .initialized RX1, .code yX1_isIn cX1_isIn 3 (some .boolean)])
def wsX1_give : List Cond := .code yX1_give cX1_give 4 (some .int) :: ([.fieldLink RX1 7 "QuorumfundModel" "ins" "[I", .constant RX1 44 (100000), .methodLink RX1 36 yX1_isIn, .static yX1_isIn, .initialized RX1, .code yX1_isIn cX1_isIn 3 (some .boolean), .methodLink RX1 40 yX1_isGiver, .static yX1_isGiver, .code yX1_isGiver cX1_isGiver 1 (some .boolean), .methodLink RX1 45 yX1_goes, .instanceMethod yX1_goes, .selects RX1 yX1_goes yX1_goes, .code yX1_goes cX1_goes 2 (some .boolean), .fieldLink RX1 32 "QuorumfundModel" "thrown" "I"] ++ wsX10)
def wsX1_leave : List Cond := .code yX1_leave cX1_leave 3 (some .int) :: ([.fieldLink RX1 7 "QuorumfundModel" "ins" "[I", .fieldLink RX1 19 "QuorumfundModel" "votes" "[I", .methodLink RX1 40 yX1_isGiver, .static yX1_isGiver, .initialized RX1, .code yX1_isGiver cX1_isGiver 1 (some .boolean), .methodLink RX1 36 yX1_isIn, .static yX1_isIn, .code yX1_isIn cX1_isIn 3 (some .boolean), .methodLink RX1 45 yX1_goes, .instanceMethod yX1_goes, .selects RX1 yX1_goes yX1_goes, .code yX1_goes cX1_goes 2 (some .boolean), .fieldLink RX1 32 "QuorumfundModel" "thrown" "I"] ++ wsX10)
def wsX1_isInRow : List Cond := .code yX1_isInRow cX1_isInRow 5 (some .boolean) :: ([.fieldLink RX1 13 "QuorumfundModel" "trusted" "[I"] ++ wsX10)
def wsX1_trust : List Cond := .code yX1_trust cX1_trust 5 (some .int) :: ([.fieldLink RX1 13 "QuorumfundModel" "trusted" "[I", .methodLink RX1 40 yX1_isGiver, .static yX1_isGiver, .initialized RX1, .code yX1_isGiver cX1_isGiver 1 (some .boolean), .methodLink RX1 36 yX1_isIn, .static yX1_isIn, .code yX1_isIn cX1_isIn 3 (some .boolean), .methodLink RX1 48 yX1_isInRow, .instanceMethod yX1_isInRow, .selects RX1 yX1_isInRow yX1_isInRow, .code yX1_isInRow cX1_isInRow 5 (some .boolean), .methodLink RX1 45 yX1_goes, .instanceMethod yX1_goes, .selects RX1 yX1_goes yX1_goes, .code yX1_goes cX1_goes 2 (some .boolean), .fieldLink RX1 32 "QuorumfundModel" "thrown" "I"] ++ wsX10)
def wsX1_setPerson : List Cond := .code yX1_setPerson cX1_setPerson 4 (some .int) :: ([.fieldLink RX1 16 "QuorumfundModel" "persons" "[I", .methodLink RX1 40 yX1_isGiver, .static yX1_isGiver, .initialized RX1, .code yX1_isGiver cX1_isGiver 1 (some .boolean), .methodLink RX1 36 yX1_isIn, .static yX1_isIn, .code yX1_isIn cX1_isIn 3 (some .boolean), .methodLink RX1 45 yX1_goes, .instanceMethod yX1_goes, .selects RX1 yX1_goes yX1_goes, .code yX1_goes cX1_goes 2 (some .boolean), .fieldLink RX1 32 "QuorumfundModel" "thrown" "I"] ++ wsX10)
def wsX1_in : List Cond := .code yX1_in cX1_in 2 (some .int) :: ([.fieldLink RX1 7 "QuorumfundModel" "ins" "[I", .methodLink RX1 40 yX1_isGiver, .static yX1_isGiver, .initialized RX1, .code yX1_isGiver cX1_isGiver 1 (some .boolean), .methodLink RX1 36 yX1_isIn, .static yX1_isIn, .code yX1_isIn cX1_isIn 3 (some .boolean), .methodLink RX1 45 yX1_goes, .instanceMethod yX1_goes, .selects RX1 yX1_goes yX1_goes, .code yX1_goes cX1_goes 2 (some .boolean), .fieldLink RX1 32 "QuorumfundModel" "thrown" "I"] ++ wsX10)
def wsX1_inByBook : List Cond := .code yX1_inByBook cX1_inByBook 2 (some .int) :: ([.fieldLink RX1 7 "QuorumfundModel" "ins" "[I", .methodLink RX1 40 yX1_isGiver, .static yX1_isGiver, .initialized RX1, .code yX1_isGiver cX1_isGiver 1 (some .boolean), .methodLink RX1 36 yX1_isIn, .static yX1_isIn, .code yX1_isIn cX1_isIn 3 (some .boolean), .methodLink RX1 45 yX1_goes, .instanceMethod yX1_goes, .selects RX1 yX1_goes yX1_goes, .code yX1_goes cX1_goes 2 (some .boolean), .fieldLink RX1 32 "QuorumfundModel" "thrown" "I"] ++ wsX10)
def wsX1_all : List Cond := .code yX1_all cX1_all 3 (some .int) :: ([.fieldLink RX1 7 "QuorumfundModel" "ins" "[I"] ++ wsX10)
def wsX1_total : List Cond := .code yX1_total cX1_total 1 (some .int) :: ([.fieldLink RX1 32 "QuorumfundModel" "thrown" "I", .methodLink RX1 52 yX1_all, .instanceMethod yX1_all, .selects RX1 yX1_all yX1_all, .initialized RX1, .code yX1_all cX1_all 3 (some .int), .fieldLink RX1 7 "QuorumfundModel" "ins" "[I"] ++ wsX10)
def wsX1_fillPot : List Cond := .code yX1_fillPot cX1_fillPot 2 (some .int) :: ([.constant RX1 44 (100000), .fieldLink RX1 56 "QuorumfundModel" "pot" "I", .constant RX1 59 (1000000), .methodLink RX1 36 yX1_isIn, .static yX1_isIn, .initialized RX1, .code yX1_isIn cX1_isIn 3 (some .boolean), .methodLink RX1 45 yX1_goes, .instanceMethod yX1_goes, .selects RX1 yX1_goes yX1_goes, .code yX1_goes cX1_goes 2 (some .boolean), .fieldLink RX1 32 "QuorumfundModel" "thrown" "I"] ++ wsX10)
def wsX1_pot : List Cond := .code yX1_pot cX1_pot 1 (some .int) :: ([.fieldLink RX1 32 "QuorumfundModel" "thrown" "I", .fieldLink RX1 56 "QuorumfundModel" "pot" "I"] ++ wsX10)
def wsX1_addMilestone : List Cond := .code yX1_addMilestone cX1_addMilestone 2 (some .int) :: ([.constant RX1 44 (100000), .fieldLink RX1 60 "QuorumfundModel" "milestones" "I", .fieldLink RX1 22 "QuorumfundModel" "amounts" "[I", .fieldLink RX1 25 "QuorumfundModel" "isProved" "[Z", .methodLink RX1 36 yX1_isIn, .static yX1_isIn, .initialized RX1, .code yX1_isIn cX1_isIn 3 (some .boolean), .methodLink RX1 45 yX1_goes, .instanceMethod yX1_goes, .selects RX1 yX1_goes yX1_goes, .code yX1_goes cX1_goes 2 (some .boolean), .fieldLink RX1 32 "QuorumfundModel" "thrown" "I"] ++ wsX10)
def wsX1_prove : List Cond := .code yX1_prove cX1_prove 2 (some .boolean) :: ([.fieldLink RX1 60 "QuorumfundModel" "milestones" "I", .fieldLink RX1 63 "QuorumfundModel" "released" "I", .fieldLink RX1 25 "QuorumfundModel" "isProved" "[Z", .methodLink RX1 36 yX1_isIn, .static yX1_isIn, .initialized RX1, .code yX1_isIn cX1_isIn 3 (some .boolean), .methodLink RX1 45 yX1_goes, .instanceMethod yX1_goes, .selects RX1 yX1_goes yX1_goes, .code yX1_goes cX1_goes 2 (some .boolean), .fieldLink RX1 32 "QuorumfundModel" "thrown" "I"] ++ wsX10)
def wsX1_hasCurrent : List Cond := .code yX1_hasCurrent cX1_hasCurrent 1 (some .boolean) :: ([.fieldLink RX1 63 "QuorumfundModel" "released" "I", .fieldLink RX1 60 "QuorumfundModel" "milestones" "I"] ++ wsX10)
def wsX1_current : List Cond := .code yX1_current cX1_current 1 (some .int) :: ([.fieldLink RX1 32 "QuorumfundModel" "thrown" "I", .fieldLink RX1 63 "QuorumfundModel" "released" "I", .methodLink RX1 66 yX1_hasCurrent, .instanceMethod yX1_hasCurrent, .selects RX1 yX1_hasCurrent yX1_hasCurrent, .initialized RX1, .code yX1_hasCurrent cX1_hasCurrent 1 (some .boolean), .fieldLink RX1 60 "QuorumfundModel" "milestones" "I"] ++ wsX10)
def wsX1_vote : List Cond := .code yX1_vote cX1_vote 4 (some .int) :: ([.fieldLink RX1 19 "QuorumfundModel" "votes" "[I", .methodLink RX1 40 yX1_isGiver, .static yX1_isGiver, .initialized RX1, .code yX1_isGiver cX1_isGiver 1 (some .boolean), .methodLink RX1 36 yX1_isIn, .static yX1_isIn, .code yX1_isIn cX1_isIn 3 (some .boolean), .methodLink RX1 66 yX1_hasCurrent, .instanceMethod yX1_hasCurrent, .selects RX1 yX1_hasCurrent yX1_hasCurrent, .code yX1_hasCurrent cX1_hasCurrent 1 (some .boolean), .fieldLink RX1 63 "QuorumfundModel" "released" "I", .fieldLink RX1 60 "QuorumfundModel" "milestones" "I", .methodLink RX1 45 yX1_goes, .instanceMethod yX1_goes, .selects RX1 yX1_goes yX1_goes, .code yX1_goes cX1_goes 2 (some .boolean), .fieldLink RX1 32 "QuorumfundModel" "thrown" "I"] ++ wsX10)
def wsX1_speakerOf : List Cond := .code yX1_speakerOf cX1_speakerOf 3 (some .int) :: ([.fieldLink RX1 19 "QuorumfundModel" "votes" "[I", .fieldLink RX1 13 "QuorumfundModel" "trusted" "[I"] ++ wsX10)
def wsX1_speaker : List Cond := .code yX1_speaker cX1_speaker 2 (some .int) :: ([.methodLink RX1 40 yX1_isGiver, .static yX1_isGiver, .initialized RX1, .code yX1_isGiver cX1_isGiver 1 (some .boolean), .methodLink RX1 36 yX1_isIn, .static yX1_isIn, .code yX1_isIn cX1_isIn 3 (some .boolean), .methodLink RX1 45 yX1_goes, .instanceMethod yX1_goes, .selects RX1 yX1_goes yX1_goes, .code yX1_goes cX1_goes 2 (some .boolean), .fieldLink RX1 32 "QuorumfundModel" "thrown" "I", .methodLink RX1 70 yX1_speakerOf, .instanceMethod yX1_speakerOf, .selects RX1 yX1_speakerOf yX1_speakerOf, .code yX1_speakerOf cX1_speakerOf 3 (some .int), .fieldLink RX1 19 "QuorumfundModel" "votes" "[I", .fieldLink RX1 13 "QuorumfundModel" "trusted" "[I"] ++ wsX10)
def wsX1_weightOf : List Cond := .code yX1_weightOf cX1_weightOf 5 (some .int) :: ([.fieldLink RX1 19 "QuorumfundModel" "votes" "[I", .fieldLink RX1 7 "QuorumfundModel" "ins" "[I", .methodLink RX1 70 yX1_speakerOf, .instanceMethod yX1_speakerOf, .selects RX1 yX1_speakerOf yX1_speakerOf, .initialized RX1, .code yX1_speakerOf cX1_speakerOf 3 (some .int), .fieldLink RX1 13 "QuorumfundModel" "trusted" "[I"] ++ wsX10)
def wsX1_weight : List Cond := .code yX1_weight cX1_weight 2 (some .int) :: ([.methodLink RX1 36 yX1_isIn, .static yX1_isIn, .initialized RX1, .code yX1_isIn cX1_isIn 3 (some .boolean), .methodLink RX1 45 yX1_goes, .instanceMethod yX1_goes, .selects RX1 yX1_goes yX1_goes, .code yX1_goes cX1_goes 2 (some .boolean), .fieldLink RX1 32 "QuorumfundModel" "thrown" "I", .methodLink RX1 74 yX1_weightOf, .instanceMethod yX1_weightOf, .selects RX1 yX1_weightOf yX1_weightOf, .code yX1_weightOf cX1_weightOf 5 (some .int), .fieldLink RX1 19 "QuorumfundModel" "votes" "[I", .fieldLink RX1 7 "QuorumfundModel" "ins" "[I", .methodLink RX1 70 yX1_speakerOf, .instanceMethod yX1_speakerOf, .selects RX1 yX1_speakerOf yX1_speakerOf, .code yX1_speakerOf cX1_speakerOf 3 (some .int), .fieldLink RX1 13 "QuorumfundModel" "trusted" "[I"] ++ wsX10)
def wsX1_canGoOut : List Cond := .code yX1_canGoOut cX1_canGoOut 1 (some .boolean) :: ([.fieldLink RX1 22 "QuorumfundModel" "amounts" "[I", .fieldLink RX1 63 "QuorumfundModel" "released" "I", .methodLink RX1 66 yX1_hasCurrent, .instanceMethod yX1_hasCurrent, .selects RX1 yX1_hasCurrent yX1_hasCurrent, .initialized RX1, .code yX1_hasCurrent cX1_hasCurrent 1 (some .boolean), .fieldLink RX1 60 "QuorumfundModel" "milestones" "I", .methodLink RX1 52 yX1_all, .instanceMethod yX1_all, .selects RX1 yX1_all yX1_all, .code yX1_all cX1_all 3 (some .int), .fieldLink RX1 7 "QuorumfundModel" "ins" "[I"] ++ wsX10)
def wsX1_laysShares : List Cond := .code yX1_laysShares cX1_laysShares 6 none :: ([.fieldLink RX1 22 "QuorumfundModel" "amounts" "[I", .fieldLink RX1 63 "QuorumfundModel" "released" "I", .fieldLink RX1 29 "QuorumfundModel" "shares" "[I", .fieldLink RX1 7 "QuorumfundModel" "ins" "[I", .methodLink RX1 52 yX1_all, .instanceMethod yX1_all, .selects RX1 yX1_all yX1_all, .initialized RX1, .code yX1_all cX1_all 3 (some .int)] ++ wsX10)
def wsX1_share_r1 : List Cond := [Cond.fieldLink RX1 29 "QuorumfundModel" "shares" "[I", Cond.methodLink RX1 40 yX1_isGiver, Cond.static yX1_isGiver, Cond.initialized RX1, Cond.code yX1_isGiver cX1_isGiver 1 (some .boolean), Cond.methodLink RX1 36 yX1_isIn, Cond.static yX1_isIn, Cond.code yX1_isIn cX1_isIn 3 (some .boolean), Cond.methodLink RX1 77 yX1_canGoOut, Cond.instanceMethod yX1_canGoOut, Cond.selects RX1 yX1_canGoOut yX1_canGoOut, Cond.code yX1_canGoOut cX1_canGoOut 1 (some .boolean), Cond.fieldLink RX1 22 "QuorumfundModel" "amounts" "[I", Cond.fieldLink RX1 63 "QuorumfundModel" "released" "I", Cond.methodLink RX1 66 yX1_hasCurrent, Cond.instanceMethod yX1_hasCurrent, Cond.selects RX1 yX1_hasCurrent yX1_hasCurrent, Cond.code yX1_hasCurrent cX1_hasCurrent 1 (some .boolean), Cond.fieldLink RX1 60 "QuorumfundModel" "milestones" "I", Cond.methodLink RX1 52 yX1_all, Cond.instanceMethod yX1_all, Cond.selects RX1 yX1_all yX1_all, Cond.code yX1_all cX1_all 3 (some .int), Cond.fieldLink RX1 7 "QuorumfundModel" "ins" "[I"]
def wsX1_share_r2 : List Cond := [Cond.methodLink RX1 45 yX1_goes, Cond.instanceMethod yX1_goes, Cond.selects RX1 yX1_goes yX1_goes, Cond.code yX1_goes cX1_goes 2 (some .boolean), Cond.fieldLink RX1 32 "QuorumfundModel" "thrown" "I", Cond.methodLink RX1 80 yX1_laysShares, Cond.instanceMethod yX1_laysShares, Cond.selects RX1 yX1_laysShares yX1_laysShares, Cond.code yX1_laysShares cX1_laysShares 6 none]
def wsX1_share : List Cond := .code yX1_share cX1_share 2 (some .int) :: ((wsX1_share_r1 ++ wsX1_share_r2) ++ wsX10)
def wsX1_root : List Cond := .code yX1_root cX1_root 2 (some .int) :: ([])
def wsX1_matched : List Cond := .code yX1_matched cX1_matched 5 (some .int) :: ([.fieldLink RX1 16 "QuorumfundModel" "persons" "[I", .fieldLink RX1 29 "QuorumfundModel" "shares" "[I", .fieldLink RX1 22 "QuorumfundModel" "amounts" "[I", .fieldLink RX1 63 "QuorumfundModel" "released" "I", .fieldLink RX1 56 "QuorumfundModel" "pot" "I", .methodLink RX1 83 yX1_root, .static yX1_root, .initialized RX1, .code yX1_root cX1_root 2 (some .int)] ++ wsX10)
def wsX1_matchNow_r1 : List Cond := [Cond.methodLink RX1 77 yX1_canGoOut, Cond.instanceMethod yX1_canGoOut, Cond.selects RX1 yX1_canGoOut yX1_canGoOut, Cond.initialized RX1, Cond.code yX1_canGoOut cX1_canGoOut 1 (some .boolean), Cond.fieldLink RX1 22 "QuorumfundModel" "amounts" "[I", Cond.fieldLink RX1 63 "QuorumfundModel" "released" "I", Cond.methodLink RX1 66 yX1_hasCurrent, Cond.instanceMethod yX1_hasCurrent, Cond.selects RX1 yX1_hasCurrent yX1_hasCurrent, Cond.code yX1_hasCurrent cX1_hasCurrent 1 (some .boolean), Cond.fieldLink RX1 60 "QuorumfundModel" "milestones" "I", Cond.methodLink RX1 52 yX1_all, Cond.instanceMethod yX1_all, Cond.selects RX1 yX1_all yX1_all, Cond.code yX1_all cX1_all 3 (some .int), Cond.fieldLink RX1 7 "QuorumfundModel" "ins" "[I", Cond.methodLink RX1 45 yX1_goes, Cond.instanceMethod yX1_goes, Cond.selects RX1 yX1_goes yX1_goes, Cond.code yX1_goes cX1_goes 2 (some .boolean), Cond.fieldLink RX1 32 "QuorumfundModel" "thrown" "I", Cond.methodLink RX1 80 yX1_laysShares, Cond.instanceMethod yX1_laysShares]
def wsX1_matchNow_r2 : List Cond := [Cond.selects RX1 yX1_laysShares yX1_laysShares, Cond.code yX1_laysShares cX1_laysShares 6 none, Cond.fieldLink RX1 29 "QuorumfundModel" "shares" "[I", Cond.methodLink RX1 86 yX1_matched, Cond.instanceMethod yX1_matched, Cond.selects RX1 yX1_matched yX1_matched, Cond.code yX1_matched cX1_matched 5 (some .int), Cond.fieldLink RX1 16 "QuorumfundModel" "persons" "[I", Cond.fieldLink RX1 56 "QuorumfundModel" "pot" "I", Cond.methodLink RX1 83 yX1_root, Cond.static yX1_root, Cond.code yX1_root cX1_root 2 (some .int)]
def wsX1_matchNow : List Cond := .code yX1_matchNow cX1_matchNow 1 (some .int) :: ((wsX1_matchNow_r1 ++ wsX1_matchNow_r2) ++ wsX10)
def wsX1_match_r1 : List Cond := [Cond.methodLink RX1 89 yX1_matchNow, Cond.instanceMethod yX1_matchNow, Cond.selects RX1 yX1_matchNow yX1_matchNow, Cond.initialized RX1, Cond.code yX1_matchNow cX1_matchNow 1 (some .int), Cond.methodLink RX1 77 yX1_canGoOut, Cond.instanceMethod yX1_canGoOut, Cond.selects RX1 yX1_canGoOut yX1_canGoOut, Cond.code yX1_canGoOut cX1_canGoOut 1 (some .boolean), Cond.fieldLink RX1 22 "QuorumfundModel" "amounts" "[I", Cond.fieldLink RX1 63 "QuorumfundModel" "released" "I", Cond.methodLink RX1 66 yX1_hasCurrent, Cond.instanceMethod yX1_hasCurrent, Cond.selects RX1 yX1_hasCurrent yX1_hasCurrent, Cond.code yX1_hasCurrent cX1_hasCurrent 1 (some .boolean), Cond.fieldLink RX1 60 "QuorumfundModel" "milestones" "I", Cond.methodLink RX1 52 yX1_all, Cond.instanceMethod yX1_all, Cond.selects RX1 yX1_all yX1_all, Cond.code yX1_all cX1_all 3 (some .int), Cond.fieldLink RX1 7 "QuorumfundModel" "ins" "[I", Cond.methodLink RX1 45 yX1_goes, Cond.instanceMethod yX1_goes, Cond.selects RX1 yX1_goes yX1_goes]
def wsX1_match_r2 : List Cond := [Cond.code yX1_goes cX1_goes 2 (some .boolean), Cond.fieldLink RX1 32 "QuorumfundModel" "thrown" "I", Cond.methodLink RX1 80 yX1_laysShares, Cond.instanceMethod yX1_laysShares, Cond.selects RX1 yX1_laysShares yX1_laysShares, Cond.code yX1_laysShares cX1_laysShares 6 none, Cond.fieldLink RX1 29 "QuorumfundModel" "shares" "[I", Cond.methodLink RX1 86 yX1_matched, Cond.instanceMethod yX1_matched, Cond.selects RX1 yX1_matched yX1_matched, Cond.code yX1_matched cX1_matched 5 (some .int), Cond.fieldLink RX1 16 "QuorumfundModel" "persons" "[I", Cond.fieldLink RX1 56 "QuorumfundModel" "pot" "I", Cond.methodLink RX1 83 yX1_root, Cond.static yX1_root, Cond.code yX1_root cX1_root 2 (some .int)]
def wsX1_match : List Cond := .code yX1_match cX1_match 1 (some .int) :: ((wsX1_match_r1 ++ wsX1_match_r2) ++ wsX10)
def wsX1_matchByPairs_r1 : List Cond := [Cond.methodLink RX1 89 yX1_matchNow, Cond.instanceMethod yX1_matchNow, Cond.selects RX1 yX1_matchNow yX1_matchNow, Cond.initialized RX1, Cond.code yX1_matchNow cX1_matchNow 1 (some .int), Cond.methodLink RX1 77 yX1_canGoOut, Cond.instanceMethod yX1_canGoOut, Cond.selects RX1 yX1_canGoOut yX1_canGoOut, Cond.code yX1_canGoOut cX1_canGoOut 1 (some .boolean), Cond.fieldLink RX1 22 "QuorumfundModel" "amounts" "[I", Cond.fieldLink RX1 63 "QuorumfundModel" "released" "I", Cond.methodLink RX1 66 yX1_hasCurrent, Cond.instanceMethod yX1_hasCurrent, Cond.selects RX1 yX1_hasCurrent yX1_hasCurrent, Cond.code yX1_hasCurrent cX1_hasCurrent 1 (some .boolean), Cond.fieldLink RX1 60 "QuorumfundModel" "milestones" "I", Cond.methodLink RX1 52 yX1_all, Cond.instanceMethod yX1_all, Cond.selects RX1 yX1_all yX1_all, Cond.code yX1_all cX1_all 3 (some .int), Cond.fieldLink RX1 7 "QuorumfundModel" "ins" "[I", Cond.methodLink RX1 45 yX1_goes, Cond.instanceMethod yX1_goes, Cond.selects RX1 yX1_goes yX1_goes]
def wsX1_matchByPairs_r2 : List Cond := [Cond.code yX1_goes cX1_goes 2 (some .boolean), Cond.fieldLink RX1 32 "QuorumfundModel" "thrown" "I", Cond.methodLink RX1 80 yX1_laysShares, Cond.instanceMethod yX1_laysShares, Cond.selects RX1 yX1_laysShares yX1_laysShares, Cond.code yX1_laysShares cX1_laysShares 6 none, Cond.fieldLink RX1 29 "QuorumfundModel" "shares" "[I", Cond.methodLink RX1 86 yX1_matched, Cond.instanceMethod yX1_matched, Cond.selects RX1 yX1_matched yX1_matched, Cond.code yX1_matched cX1_matched 5 (some .int), Cond.fieldLink RX1 16 "QuorumfundModel" "persons" "[I", Cond.fieldLink RX1 56 "QuorumfundModel" "pot" "I", Cond.methodLink RX1 83 yX1_root, Cond.static yX1_root, Cond.code yX1_root cX1_root 2 (some .int)]
def wsX1_matchByPairs : List Cond := .code yX1_matchByPairs cX1_matchByPairs 1 (some .int) :: ((wsX1_matchByPairs_r1 ++ wsX1_matchByPairs_r2) ++ wsX10)
def wsX1_release_r1 : List Cond := [Cond.fieldLink RX1 25 "QuorumfundModel" "isProved" "[Z", Cond.fieldLink RX1 63 "QuorumfundModel" "released" "I", Cond.fieldLink RX1 22 "QuorumfundModel" "amounts" "[I", Cond.fieldLink RX1 7 "QuorumfundModel" "ins" "[I", Cond.fieldLink RX1 29 "QuorumfundModel" "shares" "[I", Cond.fieldLink RX1 19 "QuorumfundModel" "votes" "[I", Cond.fieldLink RX1 56 "QuorumfundModel" "pot" "I", Cond.fieldLink RX1 92 "QuorumfundModel" "out" "I", Cond.methodLink RX1 77 yX1_canGoOut, Cond.instanceMethod yX1_canGoOut, Cond.selects RX1 yX1_canGoOut yX1_canGoOut, Cond.initialized RX1, Cond.code yX1_canGoOut cX1_canGoOut 1 (some .boolean), Cond.methodLink RX1 66 yX1_hasCurrent, Cond.instanceMethod yX1_hasCurrent, Cond.selects RX1 yX1_hasCurrent yX1_hasCurrent, Cond.code yX1_hasCurrent cX1_hasCurrent 1 (some .boolean), Cond.fieldLink RX1 60 "QuorumfundModel" "milestones" "I", Cond.methodLink RX1 52 yX1_all, Cond.instanceMethod yX1_all, Cond.selects RX1 yX1_all yX1_all, Cond.code yX1_all cX1_all 3 (some .int), Cond.methodLink RX1 74 yX1_weightOf, Cond.instanceMethod yX1_weightOf]
def wsX1_release_r2 : List Cond := [Cond.selects RX1 yX1_weightOf yX1_weightOf, Cond.code yX1_weightOf cX1_weightOf 5 (some .int), Cond.methodLink RX1 70 yX1_speakerOf, Cond.instanceMethod yX1_speakerOf, Cond.selects RX1 yX1_speakerOf yX1_speakerOf, Cond.code yX1_speakerOf cX1_speakerOf 3 (some .int), Cond.fieldLink RX1 13 "QuorumfundModel" "trusted" "[I", Cond.methodLink RX1 45 yX1_goes, Cond.instanceMethod yX1_goes, Cond.selects RX1 yX1_goes yX1_goes, Cond.code yX1_goes cX1_goes 2 (some .boolean), Cond.fieldLink RX1 32 "QuorumfundModel" "thrown" "I", Cond.methodLink RX1 80 yX1_laysShares, Cond.instanceMethod yX1_laysShares, Cond.selects RX1 yX1_laysShares yX1_laysShares, Cond.code yX1_laysShares cX1_laysShares 6 none, Cond.methodLink RX1 86 yX1_matched, Cond.instanceMethod yX1_matched, Cond.selects RX1 yX1_matched yX1_matched, Cond.code yX1_matched cX1_matched 5 (some .int), Cond.fieldLink RX1 16 "QuorumfundModel" "persons" "[I", Cond.methodLink RX1 83 yX1_root, Cond.static yX1_root, Cond.code yX1_root cX1_root 2 (some .int)]
def wsX1_release : List Cond := .code yX1_release cX1_release 5 (some .int) :: ((wsX1_release_r1 ++ wsX1_release_r2) ++ wsX10)
def wsX1_out : List Cond := .code yX1_out cX1_out 1 (some .int) :: ([.fieldLink RX1 32 "QuorumfundModel" "thrown" "I", .fieldLink RX1 92 "QuorumfundModel" "out" "I"] ++ wsX10)
def wsJ9_max_7cf53 : List Cond := .code yJ9_max_7cf53 cJ9_max_7cf53 2 (some .int) :: ([])
def wsJ9_min_7cf53 : List Cond := .code yJ9_min_7cf53 cJ9_min_7cf53 2 (some .int) :: ([])
def wsL_give_r1 : List Cond := [Cond.classLink RL 13 "java/lang/IndexOutOfBoundsException", Cond.classLink RL 15 "java/lang/IllegalArgumentException", Cond.classLink RL 17 "java/lang/IllegalStateException", Cond.methodLink RL 7 yX0_give, Cond.instanceMethod yX0_give, Cond.selects RX0 yX0_give yX0_give, Cond.initialized RX0, Cond.code yX0_give cX0_give 3 (some .int), Cond.classLink RX0 53 "java/lang/IllegalStateException", Cond.initialized "java/lang/IllegalStateException", Cond.fieldLink RX0 9 "Quorumfund" "kept" "[I", Cond.constant RX0 52 (100000), Cond.fieldLink RX0 13 "Quorumfund" "given" "[I", Cond.methodLink RX0 44 yX0_requireGiver, Cond.static yX0_requireGiver, Cond.code yX0_requireGiver cX0_requireGiver 1 none, Cond.classLink RX0 66 "java/lang/IndexOutOfBoundsException", Cond.initialized "java/lang/IndexOutOfBoundsException", Cond.methodLink RX0 151 yX0_isGiver, Cond.static yX0_isGiver, Cond.code yX0_isGiver cX0_isGiver 1 (some .boolean), Cond.methodLink RX0 48 yX0_requireAmount, Cond.static yX0_requireAmount, Cond.code yX0_requireAmount cX0_requireAmount 2 none]
def wsL_give_r2 : List Cond := [Cond.classLink RX0 90 "java/lang/IllegalArgumentException", Cond.initialized "java/lang/IllegalArgumentException"]
def wsL_give : List Cond := .codeWith yL_give cL_give 5 (some .int) [(0, 10, 13, 13), (0, 10, 17, 15), (0, 10, 21, 17)] :: ((wsL_give_r1 ++ wsL_give_r2) ++ wsX00 ++ (vx_atS RX0 57 "java/lang/IllegalStateException" ["java/lang/RuntimeException", "java/lang/Exception"]).filter goodWord ++ (vx_atS RX0 70 "java/lang/IndexOutOfBoundsException" ["java/lang/RuntimeException", "java/lang/Exception"]).filter goodWord ++ (vx_atS RX0 94 "java/lang/IllegalArgumentException" ["java/lang/RuntimeException", "java/lang/Exception"]).filter goodWord)
def wsL_leave : List Cond := .codeWith yL_leave cL_leave 4 (some .int) [(0, 9, 12, 13)] :: ([.classLink RL 13 "java/lang/IndexOutOfBoundsException", .methodLink RL 19 yX0_leave, .instanceMethod yX0_leave, .selects RX0 yX0_leave yX0_leave, .initialized RX0, .code yX0_leave cX0_leave 3 (some .int), .fieldLink RX0 9 "Quorumfund" "kept" "[I", .fieldLink RX0 16 "Quorumfund" "gotBack" "[I", .fieldLink RX0 28 "Quorumfund" "votes" "[I", .methodLink RX0 44 yX0_requireGiver, .static yX0_requireGiver, .code yX0_requireGiver cX0_requireGiver 1 none, .classLink RX0 66 "java/lang/IndexOutOfBoundsException", .initialized "java/lang/IndexOutOfBoundsException", .methodLink RX0 151 yX0_isGiver, .static yX0_isGiver, .code yX0_isGiver cX0_isGiver 1 (some .boolean)] ++ wsX00 ++ (vx_atS RX0 70 "java/lang/IndexOutOfBoundsException" ["java/lang/RuntimeException", "java/lang/Exception"]).filter goodWord)
def wsL_trust : List Cond := .codeWith yL_trust cL_trust 5 (some .int) [(0, 10, 13, 13), (0, 10, 17, 17)] :: ([.classLink RL 13 "java/lang/IndexOutOfBoundsException", .classLink RL 17 "java/lang/IllegalStateException", .methodLink RL 23 yX0_trust, .instanceMethod yX0_trust, .selects RX0 yX0_trust yX0_trust, .initialized RX0, .code yX0_trust cX0_trust 4 (some .int), .classLink RX0 53 "java/lang/IllegalStateException", .initialized "java/lang/IllegalStateException", .fieldLink RX0 22 "Quorumfund" "trusted" "[I", .methodLink RX0 44 yX0_requireGiver, .static yX0_requireGiver, .code yX0_requireGiver cX0_requireGiver 1 none, .classLink RX0 66 "java/lang/IndexOutOfBoundsException", .initialized "java/lang/IndexOutOfBoundsException", .methodLink RX0 151 yX0_isGiver, .static yX0_isGiver, .code yX0_isGiver cX0_isGiver 1 (some .boolean), .methodLink RX0 60 yX0_leadsTo, .instanceMethod yX0_leadsTo, .selects RX0 yX0_leadsTo yX0_leadsTo, .code yX0_leadsTo cX0_leadsTo 5 (some .boolean)] ++ wsX00 ++ (vx_atS RX0 57 "java/lang/IllegalStateException" ["java/lang/RuntimeException", "java/lang/Exception"]).filter goodWord ++ (vx_atS RX0 70 "java/lang/IndexOutOfBoundsException" ["java/lang/RuntimeException", "java/lang/Exception"]).filter goodWord)
def wsL_setPerson : List Cond := .codeWith yL_setPerson cL_setPerson 5 (some .int) [(0, 10, 13, 13)] :: ([.classLink RL 13 "java/lang/IndexOutOfBoundsException", .methodLink RL 26 yX0_setPerson, .instanceMethod yX0_setPerson, .selects RX0 yX0_setPerson yX0_setPerson, .initialized RX0, .code yX0_setPerson cX0_setPerson 4 (some .int), .classLink RX0 66 "java/lang/IndexOutOfBoundsException", .initialized "java/lang/IndexOutOfBoundsException", .fieldLink RX0 25 "Quorumfund" "persons" "[I", .methodLink RX0 44 yX0_requireGiver, .static yX0_requireGiver, .code yX0_requireGiver cX0_requireGiver 1 none, .methodLink RX0 151 yX0_isGiver, .static yX0_isGiver, .code yX0_isGiver cX0_isGiver 1 (some .boolean)] ++ wsX00 ++ (vx_atS RX0 70 "java/lang/IndexOutOfBoundsException" ["java/lang/RuntimeException", "java/lang/Exception"]).filter goodWord)
def wsL_in : List Cond := .codeWith yL_in cL_in 4 (some .int) [(0, 9, 12, 13)] :: ([.classLink RL 13 "java/lang/IndexOutOfBoundsException", .methodLink RL 29 yX0_in, .instanceMethod yX0_in, .selects RX0 yX0_in yX0_in, .initialized RX0, .code yX0_in cX0_in 2 (some .int), .fieldLink RX0 9 "Quorumfund" "kept" "[I", .methodLink RX0 44 yX0_requireGiver, .static yX0_requireGiver, .code yX0_requireGiver cX0_requireGiver 1 none, .classLink RX0 66 "java/lang/IndexOutOfBoundsException", .initialized "java/lang/IndexOutOfBoundsException", .methodLink RX0 151 yX0_isGiver, .static yX0_isGiver, .code yX0_isGiver cX0_isGiver 1 (some .boolean)] ++ wsX00 ++ (vx_atS RX0 70 "java/lang/IndexOutOfBoundsException" ["java/lang/RuntimeException", "java/lang/Exception"]).filter goodWord)
def wsL_inByBook : List Cond := .codeWith yL_inByBook cL_inByBook 4 (some .int) [(0, 9, 12, 13)] :: ([.classLink RL 13 "java/lang/IndexOutOfBoundsException", .methodLink RL 32 yX0_inByBook, .instanceMethod yX0_inByBook, .selects RX0 yX0_inByBook yX0_inByBook, .initialized RX0, .code yX0_inByBook cX0_inByBook 2 (some .int), .fieldLink RX0 13 "Quorumfund" "given" "[I", .fieldLink RX0 16 "Quorumfund" "gotBack" "[I", .fieldLink RX0 19 "Quorumfund" "wentOut" "[I", .methodLink RX0 44 yX0_requireGiver, .static yX0_requireGiver, .code yX0_requireGiver cX0_requireGiver 1 none, .classLink RX0 66 "java/lang/IndexOutOfBoundsException", .initialized "java/lang/IndexOutOfBoundsException", .methodLink RX0 151 yX0_isGiver, .static yX0_isGiver, .code yX0_isGiver cX0_isGiver 1 (some .boolean)] ++ wsX00 ++ (vx_atS RX0 70 "java/lang/IndexOutOfBoundsException" ["java/lang/RuntimeException", "java/lang/Exception"]).filter goodWord)
def wsL_fillPot : List Cond := .codeWith yL_fillPot cL_fillPot 4 (some .int) [(0, 9, 12, 15), (0, 9, 15, 17)] :: ([.classLink RL 15 "java/lang/IllegalArgumentException", .classLink RL 17 "java/lang/IllegalStateException", .methodLink RL 35 yX0_fillPot, .instanceMethod yX0_fillPot, .selects RX0 yX0_fillPot yX0_fillPot, .initialized RX0, .code yX0_fillPot cX0_fillPot 2 (some .int), .classLink RX0 53 "java/lang/IllegalStateException", .initialized "java/lang/IllegalStateException", .constant RX0 52 (100000), .fieldLink RX0 71 "Quorumfund" "potMoney" "I", .constant RX0 75 (1000000), .methodLink RX0 48 yX0_requireAmount, .static yX0_requireAmount, .code yX0_requireAmount cX0_requireAmount 2 none, .classLink RX0 90 "java/lang/IllegalArgumentException", .initialized "java/lang/IllegalArgumentException"] ++ wsX00 ++ (vx_atS RX0 57 "java/lang/IllegalStateException" ["java/lang/RuntimeException", "java/lang/Exception"]).filter goodWord ++ (vx_atS RX0 94 "java/lang/IllegalArgumentException" ["java/lang/RuntimeException", "java/lang/Exception"]).filter goodWord)
def wsL_addMilestone : List Cond := .codeWith yL_addMilestone cL_addMilestone 4 (some .int) [(0, 9, 12, 15), (0, 9, 15, 17)] :: ([.classLink RL 15 "java/lang/IllegalArgumentException", .classLink RL 17 "java/lang/IllegalStateException", .methodLink RL 38 yX0_addMilestone, .instanceMethod yX0_addMilestone, .selects RX0 yX0_addMilestone yX0_addMilestone, .initialized RX0, .code yX0_addMilestone cX0_addMilestone 2 (some .int), .classLink RX0 53 "java/lang/IllegalStateException", .initialized "java/lang/IllegalStateException", .constant RX0 52 (100000), .fieldLink RX0 78 "Quorumfund" "added" "I", .fieldLink RX0 31 "Quorumfund" "amounts" "[I", .methodLink RX0 48 yX0_requireAmount, .static yX0_requireAmount, .code yX0_requireAmount cX0_requireAmount 2 none, .classLink RX0 90 "java/lang/IllegalArgumentException", .initialized "java/lang/IllegalArgumentException"] ++ wsX00 ++ (vx_atS RX0 57 "java/lang/IllegalStateException" ["java/lang/RuntimeException", "java/lang/Exception"]).filter goodWord ++ (vx_atS RX0 94 "java/lang/IllegalArgumentException" ["java/lang/RuntimeException", "java/lang/Exception"]).filter goodWord)
def wsL_prove : List Cond := .codeWith yL_prove cL_prove 4 (some .int) [(0, 16, 19, 13), (0, 16, 22, 17)] :: ([.classLink RL 13 "java/lang/IndexOutOfBoundsException", .classLink RL 17 "java/lang/IllegalStateException", .methodLink RL 41 yX0_prove, .instanceMethod yX0_prove, .selects RX0 yX0_prove yX0_prove, .initialized RX0, .code yX0_prove cX0_prove 2 (some .boolean), .classLink RX0 66 "java/lang/IndexOutOfBoundsException", .initialized "java/lang/IndexOutOfBoundsException", .classLink RX0 53 "java/lang/IllegalStateException", .initialized "java/lang/IllegalStateException", .fieldLink RX0 78 "Quorumfund" "added" "I", .fieldLink RX0 85 "Quorumfund" "released" "I", .fieldLink RX0 34 "Quorumfund" "proofs" "[Z"] ++ wsX00 ++ (vx_atS RX0 70 "java/lang/IndexOutOfBoundsException" ["java/lang/RuntimeException", "java/lang/Exception"]).filter goodWord ++ (vx_atS RX0 57 "java/lang/IllegalStateException" ["java/lang/RuntimeException", "java/lang/Exception"]).filter goodWord)
def wsL_vote_r1 : List Cond := [Cond.classLink RL 13 "java/lang/IndexOutOfBoundsException", Cond.classLink RL 15 "java/lang/IllegalArgumentException", Cond.classLink RL 17 "java/lang/IllegalStateException", Cond.methodLink RL 45 yX0_vote, Cond.instanceMethod yX0_vote, Cond.selects RX0 yX0_vote yX0_vote, Cond.initialized RX0, Cond.code yX0_vote cX0_vote 4 (some .int), Cond.classLink RX0 90 "java/lang/IllegalArgumentException", Cond.initialized "java/lang/IllegalArgumentException", Cond.classLink RX0 53 "java/lang/IllegalStateException", Cond.initialized "java/lang/IllegalStateException", Cond.fieldLink RX0 28 "Quorumfund" "votes" "[I", Cond.methodLink RX0 44 yX0_requireGiver, Cond.static yX0_requireGiver, Cond.code yX0_requireGiver cX0_requireGiver 1 none, Cond.classLink RX0 66 "java/lang/IndexOutOfBoundsException", Cond.initialized "java/lang/IndexOutOfBoundsException", Cond.methodLink RX0 151 yX0_isGiver, Cond.static yX0_isGiver, Cond.code yX0_isGiver cX0_isGiver 1 (some .boolean), Cond.methodLink RX0 95 yX0_current, Cond.instanceMethod yX0_current, Cond.selects RX0 yX0_current yX0_current]
def wsL_vote_r2 : List Cond := [Cond.code yX0_current cX0_current 1 (some .int), Cond.fieldLink RX0 85 "Quorumfund" "released" "I", Cond.fieldLink RX0 78 "Quorumfund" "added" "I"]
def wsL_vote : List Cond := .codeWith yL_vote cL_vote 5 (some .int) [(0, 10, 13, 13), (0, 10, 17, 15), (0, 10, 21, 17)] :: ((wsL_vote_r1 ++ wsL_vote_r2) ++ wsX00 ++ (vx_atS RX0 94 "java/lang/IllegalArgumentException" ["java/lang/RuntimeException", "java/lang/Exception"]).filter goodWord ++ (vx_atS RX0 57 "java/lang/IllegalStateException" ["java/lang/RuntimeException", "java/lang/Exception"]).filter goodWord ++ (vx_atS RX0 70 "java/lang/IndexOutOfBoundsException" ["java/lang/RuntimeException", "java/lang/Exception"]).filter goodWord)
def wsL_speaker : List Cond := .codeWith yL_speaker cL_speaker 4 (some .int) [(0, 9, 12, 13)] :: ([.classLink RL 13 "java/lang/IndexOutOfBoundsException", .methodLink RL 48 yX0_speaker, .instanceMethod yX0_speaker, .selects RX0 yX0_speaker yX0_speaker, .initialized RX0, .code yX0_speaker cX0_speaker 2 (some .int), .methodLink RX0 44 yX0_requireGiver, .static yX0_requireGiver, .code yX0_requireGiver cX0_requireGiver 1 none, .classLink RX0 66 "java/lang/IndexOutOfBoundsException", .initialized "java/lang/IndexOutOfBoundsException", .methodLink RX0 151 yX0_isGiver, .static yX0_isGiver, .code yX0_isGiver cX0_isGiver 1 (some .boolean), .methodLink RX0 101 yX0_firstVoterFrom, .instanceMethod yX0_firstVoterFrom, .selects RX0 yX0_firstVoterFrom yX0_firstVoterFrom, .code yX0_firstVoterFrom cX0_firstVoterFrom 4 (some .int), .fieldLink RX0 28 "Quorumfund" "votes" "[I", .fieldLink RX0 22 "Quorumfund" "trusted" "[I"] ++ wsX00 ++ (vx_atS RX0 70 "java/lang/IndexOutOfBoundsException" ["java/lang/RuntimeException", "java/lang/Exception"]).filter goodWord)
def wsL_weight : List Cond := .codeWith yL_weight cL_weight 4 (some .int) [(0, 9, 12, 15)] :: ([.classLink RL 15 "java/lang/IllegalArgumentException", .methodLink RL 51 yX0_weight, .instanceMethod yX0_weight, .selects RX0 yX0_weight yX0_weight, .initialized RX0, .code yX0_weight cX0_weight 4 (some .int), .classLink RX0 90 "java/lang/IllegalArgumentException", .initialized "java/lang/IllegalArgumentException", .fieldLink RX0 9 "Quorumfund" "kept" "[I", .methodLink RX0 107 yX0_heardVote, .instanceMethod yX0_heardVote, .selects RX0 yX0_heardVote yX0_heardVote, .code yX0_heardVote cX0_heardVote 3 (some .int), .fieldLink RX0 28 "Quorumfund" "votes" "[I", .methodLink RX0 101 yX0_firstVoterFrom, .instanceMethod yX0_firstVoterFrom, .selects RX0 yX0_firstVoterFrom yX0_firstVoterFrom, .code yX0_firstVoterFrom cX0_firstVoterFrom 4 (some .int), .fieldLink RX0 22 "Quorumfund" "trusted" "[I", .methodLink RX0 151 yX0_isGiver, .static yX0_isGiver, .code yX0_isGiver cX0_isGiver 1 (some .boolean)] ++ wsX00 ++ (vx_atS RX0 94 "java/lang/IllegalArgumentException" ["java/lang/RuntimeException", "java/lang/Exception"]).filter goodWord)
def wsL_share_r1 : List Cond := [Cond.classLink RL 13 "java/lang/IndexOutOfBoundsException", Cond.classLink RL 57 "java/util/NoSuchElementException", Cond.methodLink RL 54 yX0_share, Cond.instanceMethod yX0_share, Cond.selects RX0 yX0_share yX0_share, Cond.initialized RX0, Cond.code yX0_share cX0_share 2 (some .int), Cond.fieldLink RX0 31 "Quorumfund" "amounts" "[I", Cond.fieldLink RX0 85 "Quorumfund" "released" "I", Cond.fieldLink RX0 38 "Quorumfund" "shares" "[I", Cond.methodLink RX0 44 yX0_requireGiver, Cond.static yX0_requireGiver, Cond.code yX0_requireGiver cX0_requireGiver 1 none, Cond.classLink RX0 66 "java/lang/IndexOutOfBoundsException", Cond.initialized "java/lang/IndexOutOfBoundsException", Cond.methodLink RX0 151 yX0_isGiver, Cond.static yX0_isGiver, Cond.code yX0_isGiver cX0_isGiver 1 (some .boolean), Cond.methodLink RX0 110 yX0_requireCovered, Cond.instanceMethod yX0_requireCovered, Cond.selects RX0 yX0_requireCovered yX0_requireCovered, Cond.code yX0_requireCovered cX0_requireCovered 1 none, Cond.classLink RX0 159 "java/util/NoSuchElementException", Cond.initialized "java/util/NoSuchElementException"]
def wsL_share_r2 : List Cond := [Cond.methodLink RX0 128 yX0_isCovered, Cond.instanceMethod yX0_isCovered, Cond.selects RX0 yX0_isCovered yX0_isCovered, Cond.code yX0_isCovered cX0_isCovered 1 (some .boolean), Cond.methodLink RX0 95 yX0_current, Cond.instanceMethod yX0_current, Cond.selects RX0 yX0_current yX0_current, Cond.code yX0_current cX0_current 1 (some .int), Cond.fieldLink RX0 78 "Quorumfund" "added" "I", Cond.methodLink RX0 137 yX0_total, Cond.instanceMethod yX0_total, Cond.selects RX0 yX0_total yX0_total, Cond.code yX0_total cX0_total 3 (some .int), Cond.fieldLink RX0 9 "Quorumfund" "kept" "[I", Cond.methodLink RX0 113 yX0_findShares, Cond.instanceMethod yX0_findShares, Cond.selects RX0 yX0_findShares yX0_findShares, Cond.code yX0_findShares cX0_findShares 5 none, Cond.methodLink RX0 164 yX0_roundedPart, Cond.static yX0_roundedPart, Cond.code yX0_roundedPart cX0_roundedPart 3 (some .int)]
def wsL_share : List Cond := .codeWith yL_share cL_share 4 (some .int) [(0, 9, 12, 13), (0, 9, 15, 57)] :: ((wsL_share_r1 ++ wsL_share_r2) ++ wsX00 ++ (vx_atS RX0 70 "java/lang/IndexOutOfBoundsException" ["java/lang/RuntimeException", "java/lang/Exception"]).filter goodWord ++ zn_at.filter goodWord)
def wsL_match_r1 : List Cond := [Cond.classLink RL 57 "java/util/NoSuchElementException", Cond.methodLink RL 59 yX0_match, Cond.instanceMethod yX0_match, Cond.selects RX0 yX0_match yX0_match, Cond.initialized RX0, Cond.code yX0_match cX0_match 1 (some .int), Cond.methodLink RX0 110 yX0_requireCovered, Cond.instanceMethod yX0_requireCovered, Cond.selects RX0 yX0_requireCovered yX0_requireCovered, Cond.code yX0_requireCovered cX0_requireCovered 1 none, Cond.classLink RX0 159 "java/util/NoSuchElementException", Cond.initialized "java/util/NoSuchElementException", Cond.methodLink RX0 128 yX0_isCovered, Cond.instanceMethod yX0_isCovered, Cond.selects RX0 yX0_isCovered yX0_isCovered, Cond.code yX0_isCovered cX0_isCovered 1 (some .boolean), Cond.fieldLink RX0 85 "Quorumfund" "released" "I", Cond.fieldLink RX0 31 "Quorumfund" "amounts" "[I", Cond.methodLink RX0 95 yX0_current, Cond.instanceMethod yX0_current, Cond.selects RX0 yX0_current yX0_current, Cond.code yX0_current cX0_current 1 (some .int), Cond.fieldLink RX0 78 "Quorumfund" "added" "I", Cond.methodLink RX0 137 yX0_total]
def wsL_match_r2 : List Cond := [Cond.instanceMethod yX0_total, Cond.selects RX0 yX0_total yX0_total, Cond.code yX0_total cX0_total 3 (some .int), Cond.fieldLink RX0 9 "Quorumfund" "kept" "[I", Cond.methodLink RX0 116 yX0_currentMatch, Cond.instanceMethod yX0_currentMatch, Cond.selects RX0 yX0_currentMatch yX0_currentMatch, Cond.code yX0_currentMatch cX0_currentMatch 2 (some .int), Cond.methodLink RX0 113 yX0_findShares, Cond.instanceMethod yX0_findShares, Cond.selects RX0 yX0_findShares yX0_findShares, Cond.code yX0_findShares cX0_findShares 5 none, Cond.fieldLink RX0 38 "Quorumfund" "shares" "[I", Cond.methodLink RX0 164 yX0_roundedPart, Cond.static yX0_roundedPart, Cond.code yX0_roundedPart cX0_roundedPart 3 (some .int), Cond.methodLink RX0 119 yX0_findRoots, Cond.instanceMethod yX0_findRoots, Cond.selects RX0 yX0_findRoots yX0_findRoots, Cond.code yX0_findRoots cX0_findRoots 2 none, Cond.fieldLink RX0 41 "Quorumfund" "roots" "[I", Cond.methodLink RX0 171 yX0_partOf, Cond.instanceMethod yX0_partOf, Cond.selects RX0 yX0_partOf yX0_partOf]
def wsL_match_r3 : List Cond := [Cond.code yX0_partOf cX0_partOf 4 (some .int), Cond.fieldLink RX0 25 "Quorumfund" "persons" "[I", Cond.methodLink RX0 174 yX0_rootOf, Cond.static yX0_rootOf, Cond.code yX0_rootOf cX0_rootOf 4 (some .int), Cond.methodLink RX0 168 yX0_squareOfSum, Cond.instanceMethod yX0_squareOfSum, Cond.selects RX0 yX0_squareOfSum yX0_squareOfSum, Cond.code yX0_squareOfSum cX0_squareOfSum 3 (some .int), Cond.methodLink RX0 125 yX0_withinPot, Cond.instanceMethod yX0_withinPot, Cond.selects RX0 yX0_withinPot yX0_withinPot, Cond.code yX0_withinPot cX0_withinPot 2 (some .int), Cond.methodLink RX0 177 Lib.Math.max.name, Cond.static Lib.Math.max.name, Cond.initialized "java/lang/Math", Cond.code Lib.Math.max.name Lib.Math.max.code 2 (some .int), Cond.fieldLink RX0 71 "Quorumfund" "potMoney" "I", Cond.methodLink RX0 183 Lib.Math.min.name, Cond.static Lib.Math.min.name, Cond.code Lib.Math.min.name Lib.Math.min.code 2 (some .int)]
def wsL_match : List Cond := .codeWith yL_match cL_match 3 (some .int) [(0, 8, 11, 57)] :: ((wsL_match_r1 ++ (wsL_match_r2 ++ wsL_match_r3)) ++ wsX00 ++ zn_at.filter goodWord)
def wsL_matchByPairs_r1 : List Cond := [Cond.classLink RL 57 "java/util/NoSuchElementException", Cond.methodLink RL 63 yX0_matchByPairs, Cond.instanceMethod yX0_matchByPairs, Cond.selects RX0 yX0_matchByPairs yX0_matchByPairs, Cond.initialized RX0, Cond.code yX0_matchByPairs cX0_matchByPairs 2 (some .int), Cond.fieldLink RX0 31 "Quorumfund" "amounts" "[I", Cond.fieldLink RX0 85 "Quorumfund" "released" "I", Cond.methodLink RX0 110 yX0_requireCovered, Cond.instanceMethod yX0_requireCovered, Cond.selects RX0 yX0_requireCovered yX0_requireCovered, Cond.code yX0_requireCovered cX0_requireCovered 1 none, Cond.classLink RX0 159 "java/util/NoSuchElementException", Cond.initialized "java/util/NoSuchElementException", Cond.methodLink RX0 128 yX0_isCovered, Cond.instanceMethod yX0_isCovered, Cond.selects RX0 yX0_isCovered yX0_isCovered, Cond.code yX0_isCovered cX0_isCovered 1 (some .boolean), Cond.methodLink RX0 95 yX0_current, Cond.instanceMethod yX0_current, Cond.selects RX0 yX0_current yX0_current, Cond.code yX0_current cX0_current 1 (some .int), Cond.fieldLink RX0 78 "Quorumfund" "added" "I", Cond.methodLink RX0 137 yX0_total]
def wsL_matchByPairs_r2 : List Cond := [Cond.instanceMethod yX0_total, Cond.selects RX0 yX0_total yX0_total, Cond.code yX0_total cX0_total 3 (some .int), Cond.fieldLink RX0 9 "Quorumfund" "kept" "[I", Cond.methodLink RX0 113 yX0_findShares, Cond.instanceMethod yX0_findShares, Cond.selects RX0 yX0_findShares yX0_findShares, Cond.code yX0_findShares cX0_findShares 5 none, Cond.fieldLink RX0 38 "Quorumfund" "shares" "[I", Cond.methodLink RX0 164 yX0_roundedPart, Cond.static yX0_roundedPart, Cond.code yX0_roundedPart cX0_roundedPart 3 (some .int), Cond.methodLink RX0 119 yX0_findRoots, Cond.instanceMethod yX0_findRoots, Cond.selects RX0 yX0_findRoots yX0_findRoots, Cond.code yX0_findRoots cX0_findRoots 2 none, Cond.fieldLink RX0 41 "Quorumfund" "roots" "[I", Cond.methodLink RX0 171 yX0_partOf, Cond.instanceMethod yX0_partOf, Cond.selects RX0 yX0_partOf yX0_partOf, Cond.code yX0_partOf cX0_partOf 4 (some .int), Cond.fieldLink RX0 25 "Quorumfund" "persons" "[I", Cond.methodLink RX0 174 yX0_rootOf, Cond.static yX0_rootOf]
def wsL_matchByPairs_r3 : List Cond := [Cond.code yX0_rootOf cX0_rootOf 4 (some .int), Cond.methodLink RX0 122 yX0_squareByPairs, Cond.instanceMethod yX0_squareByPairs, Cond.selects RX0 yX0_squareByPairs yX0_squareByPairs, Cond.code yX0_squareByPairs cX0_squareByPairs 4 (some .int), Cond.methodLink RX0 125 yX0_withinPot, Cond.instanceMethod yX0_withinPot, Cond.selects RX0 yX0_withinPot yX0_withinPot, Cond.code yX0_withinPot cX0_withinPot 2 (some .int), Cond.methodLink RX0 177 Lib.Math.max.name, Cond.static Lib.Math.max.name, Cond.initialized "java/lang/Math", Cond.code Lib.Math.max.name Lib.Math.max.code 2 (some .int), Cond.fieldLink RX0 71 "Quorumfund" "potMoney" "I", Cond.methodLink RX0 183 Lib.Math.min.name, Cond.static Lib.Math.min.name, Cond.code Lib.Math.min.name Lib.Math.min.code 2 (some .int)]
def wsL_matchByPairs : List Cond := .codeWith yL_matchByPairs cL_matchByPairs 3 (some .int) [(0, 8, 11, 57)] :: ((wsL_matchByPairs_r1 ++ (wsL_matchByPairs_r2 ++ wsL_matchByPairs_r3)) ++ wsX00 ++ zn_at.filter goodWord)
def wsL_release_r1 : List Cond := [Cond.classLink RL 17 "java/lang/IllegalStateException", Cond.methodLink RL 66 yX0_release, Cond.instanceMethod yX0_release, Cond.selects RX0 yX0_release yX0_release, Cond.initialized RX0, Cond.code yX0_release cX0_release 3 (some .int), Cond.classLink RX0 53 "java/lang/IllegalStateException", Cond.initialized "java/lang/IllegalStateException", Cond.fieldLink RX0 34 "Quorumfund" "proofs" "[Z", Cond.fieldLink RX0 85 "Quorumfund" "released" "I", Cond.fieldLink RX0 31 "Quorumfund" "amounts" "[I", Cond.fieldLink RX0 71 "Quorumfund" "potMoney" "I", Cond.fieldLink RX0 145 "Quorumfund" "outMoney" "I", Cond.methodLink RX0 128 yX0_isCovered, Cond.instanceMethod yX0_isCovered, Cond.selects RX0 yX0_isCovered yX0_isCovered, Cond.code yX0_isCovered cX0_isCovered 1 (some .boolean), Cond.methodLink RX0 95 yX0_current, Cond.instanceMethod yX0_current, Cond.selects RX0 yX0_current yX0_current, Cond.code yX0_current cX0_current 1 (some .int), Cond.fieldLink RX0 78 "Quorumfund" "added" "I", Cond.methodLink RX0 137 yX0_total, Cond.instanceMethod yX0_total]
def wsL_release_r2 : List Cond := [Cond.selects RX0 yX0_total yX0_total, Cond.code yX0_total cX0_total 3 (some .int), Cond.fieldLink RX0 9 "Quorumfund" "kept" "[I", Cond.methodLink RX0 134 yX0_weight, Cond.instanceMethod yX0_weight, Cond.selects RX0 yX0_weight yX0_weight, Cond.code yX0_weight cX0_weight 4 (some .int), Cond.classLink RX0 90 "java/lang/IllegalArgumentException", Cond.initialized "java/lang/IllegalArgumentException", Cond.methodLink RX0 107 yX0_heardVote, Cond.instanceMethod yX0_heardVote, Cond.selects RX0 yX0_heardVote yX0_heardVote, Cond.code yX0_heardVote cX0_heardVote 3 (some .int), Cond.fieldLink RX0 28 "Quorumfund" "votes" "[I", Cond.methodLink RX0 101 yX0_firstVoterFrom, Cond.instanceMethod yX0_firstVoterFrom, Cond.selects RX0 yX0_firstVoterFrom yX0_firstVoterFrom, Cond.code yX0_firstVoterFrom cX0_firstVoterFrom 4 (some .int), Cond.fieldLink RX0 22 "Quorumfund" "trusted" "[I", Cond.methodLink RX0 151 yX0_isGiver, Cond.static yX0_isGiver, Cond.code yX0_isGiver cX0_isGiver 1 (some .boolean), Cond.methodLink RX0 116 yX0_currentMatch, Cond.instanceMethod yX0_currentMatch]
def wsL_release_r3 : List Cond := [Cond.selects RX0 yX0_currentMatch yX0_currentMatch, Cond.code yX0_currentMatch cX0_currentMatch 2 (some .int), Cond.methodLink RX0 113 yX0_findShares, Cond.instanceMethod yX0_findShares, Cond.selects RX0 yX0_findShares yX0_findShares, Cond.code yX0_findShares cX0_findShares 5 none, Cond.fieldLink RX0 38 "Quorumfund" "shares" "[I", Cond.methodLink RX0 164 yX0_roundedPart, Cond.static yX0_roundedPart, Cond.code yX0_roundedPart cX0_roundedPart 3 (some .int), Cond.methodLink RX0 119 yX0_findRoots, Cond.instanceMethod yX0_findRoots, Cond.selects RX0 yX0_findRoots yX0_findRoots, Cond.code yX0_findRoots cX0_findRoots 2 none, Cond.fieldLink RX0 41 "Quorumfund" "roots" "[I", Cond.methodLink RX0 171 yX0_partOf, Cond.instanceMethod yX0_partOf, Cond.selects RX0 yX0_partOf yX0_partOf, Cond.code yX0_partOf cX0_partOf 4 (some .int), Cond.fieldLink RX0 25 "Quorumfund" "persons" "[I", Cond.methodLink RX0 174 yX0_rootOf, Cond.static yX0_rootOf, Cond.code yX0_rootOf cX0_rootOf 4 (some .int), Cond.methodLink RX0 168 yX0_squareOfSum]
def wsL_release_r4 : List Cond := [Cond.instanceMethod yX0_squareOfSum, Cond.selects RX0 yX0_squareOfSum yX0_squareOfSum, Cond.code yX0_squareOfSum cX0_squareOfSum 3 (some .int), Cond.methodLink RX0 125 yX0_withinPot, Cond.instanceMethod yX0_withinPot, Cond.selects RX0 yX0_withinPot yX0_withinPot, Cond.code yX0_withinPot cX0_withinPot 2 (some .int), Cond.methodLink RX0 177 Lib.Math.max.name, Cond.static Lib.Math.max.name, Cond.initialized "java/lang/Math", Cond.code Lib.Math.max.name Lib.Math.max.code 2 (some .int), Cond.methodLink RX0 183 Lib.Math.min.name, Cond.static Lib.Math.min.name, Cond.code Lib.Math.min.name Lib.Math.min.code 2 (some .int), Cond.methodLink RX0 142 yX0_payShares, Cond.instanceMethod yX0_payShares, Cond.selects RX0 yX0_payShares yX0_payShares, Cond.code yX0_payShares cX0_payShares 2 none, Cond.fieldLink RX0 19 "Quorumfund" "wentOut" "[I", Cond.methodLink RX0 148 yX0_clearVotes, Cond.instanceMethod yX0_clearVotes, Cond.selects RX0 yX0_clearVotes yX0_clearVotes, Cond.code yX0_clearVotes cX0_clearVotes 2 none]
def wsL_release : List Cond := .codeWith yL_release cL_release 3 (some .int) [(0, 8, 11, 17)] :: ((wsL_release_r1 ++ (wsL_release_r2 ++ (wsL_release_r3 ++ wsL_release_r4))) ++ wsX00 ++ (vx_atS RX0 57 "java/lang/IllegalStateException" ["java/lang/RuntimeException", "java/lang/Exception"]).filter goodWord ++ (vx_atS RX0 94 "java/lang/IllegalArgumentException" ["java/lang/RuntimeException", "java/lang/Exception"]).filter goodWord)
def wsL_law0_r1 : List Cond := [Cond.classLink RL 8 RX0, Cond.instantiable RX0 15, Cond.initialized RX0, Cond.classLink RL 70 RX1, Cond.instantiable RX1 12, Cond.initialized RX1, Cond.arrayClass .long, Cond.methodLink RL 69 yX0_init, Cond.instanceMethod yX0_init, Cond.code yX0_init cX0_init 2 none, Cond.methodLink RX0 1 objectInit, Cond.instanceMethod objectInit, Cond.code objectInit ⟨#[0xb1]⟩ 1 none, Cond.arrayClass .int, Cond.fieldLink RX0 9 "Quorumfund" "kept" "[I", Cond.fieldLink RX0 13 "Quorumfund" "given" "[I", Cond.fieldLink RX0 16 "Quorumfund" "gotBack" "[I", Cond.fieldLink RX0 19 "Quorumfund" "wentOut" "[I", Cond.fieldLink RX0 22 "Quorumfund" "trusted" "[I", Cond.fieldLink RX0 25 "Quorumfund" "persons" "[I", Cond.fieldLink RX0 28 "Quorumfund" "votes" "[I", Cond.fieldLink RX0 31 "Quorumfund" "amounts" "[I", Cond.arrayClass .boolean, Cond.fieldLink RX0 34 "Quorumfund" "proofs" "[Z"]
def wsL_law0_r2 : List Cond := [Cond.fieldLink RX0 38 "Quorumfund" "shares" "[I", Cond.fieldLink RX0 41 "Quorumfund" "roots" "[I", Cond.methodLink RL 72 yX1_init, Cond.instanceMethod yX1_init, Cond.code yX1_init cX1_init 2 none, Cond.methodLink RX1 1 objectInit, Cond.fieldLink RX1 7 "QuorumfundModel" "ins" "[I", Cond.fieldLink RX1 13 "QuorumfundModel" "trusted" "[I", Cond.fieldLink RX1 16 "QuorumfundModel" "persons" "[I", Cond.fieldLink RX1 19 "QuorumfundModel" "votes" "[I", Cond.fieldLink RX1 22 "QuorumfundModel" "amounts" "[I", Cond.fieldLink RX1 25 "QuorumfundModel" "isProved" "[Z", Cond.fieldLink RX1 29 "QuorumfundModel" "shares" "[I", Cond.methodLink RL 73 yL_give, Cond.static yL_give, Cond.initialized RL, Cond.codeWith yL_give cL_give 5 (some .int) [(0, 10, 13, 13), (0, 10, 17, 15), (0, 10, 21, 17)], Cond.classLink RL 13 "java/lang/IndexOutOfBoundsException", Cond.classLink RL 15 "java/lang/IllegalArgumentException", Cond.classLink RL 17 "java/lang/IllegalStateException", Cond.methodLink RL 7 yX0_give, Cond.instanceMethod yX0_give, Cond.selects RX0 yX0_give yX0_give, Cond.code yX0_give cX0_give 3 (some .int)]
def wsL_law0_r3 : List Cond := [Cond.classLink RX0 53 "java/lang/IllegalStateException", Cond.initialized "java/lang/IllegalStateException", Cond.constant RX0 52 (100000), Cond.methodLink RX0 44 yX0_requireGiver, Cond.static yX0_requireGiver, Cond.code yX0_requireGiver cX0_requireGiver 1 none, Cond.classLink RX0 66 "java/lang/IndexOutOfBoundsException", Cond.initialized "java/lang/IndexOutOfBoundsException", Cond.methodLink RX0 151 yX0_isGiver, Cond.static yX0_isGiver, Cond.code yX0_isGiver cX0_isGiver 1 (some .boolean), Cond.methodLink RX0 48 yX0_requireAmount, Cond.static yX0_requireAmount, Cond.code yX0_requireAmount cX0_requireAmount 2 none, Cond.classLink RX0 90 "java/lang/IllegalArgumentException", Cond.initialized "java/lang/IllegalArgumentException", Cond.methodLink RL 78 yX1_give, Cond.instanceMethod yX1_give, Cond.selects RX1 yX1_give yX1_give, Cond.code yX1_give cX1_give 4 (some .int), Cond.constant RX1 44 (100000), Cond.methodLink RX1 36 yX1_isIn, Cond.static yX1_isIn, Cond.code yX1_isIn cX1_isIn 3 (some .boolean)]
def wsL_law0_r4 : List Cond := [Cond.methodLink RX1 40 yX1_isGiver, Cond.static yX1_isGiver, Cond.code yX1_isGiver cX1_isGiver 1 (some .boolean), Cond.methodLink RX1 45 yX1_goes, Cond.instanceMethod yX1_goes, Cond.selects RX1 yX1_goes yX1_goes, Cond.code yX1_goes cX1_goes 2 (some .boolean), Cond.fieldLink RX1 32 "QuorumfundModel" "thrown" "I", Cond.methodLink RL 79 yX1_thrown, Cond.instanceMethod yX1_thrown, Cond.selects RX1 yX1_thrown yX1_thrown, Cond.code yX1_thrown cX1_thrown 1 (some .int), Cond.methodLink RL 82 yL_leave, Cond.static yL_leave, Cond.codeWith yL_leave cL_leave 4 (some .int) [(0, 9, 12, 13)], Cond.methodLink RL 19 yX0_leave, Cond.instanceMethod yX0_leave, Cond.selects RX0 yX0_leave yX0_leave, Cond.code yX0_leave cX0_leave 3 (some .int), Cond.methodLink RL 85 yX1_leave, Cond.instanceMethod yX1_leave, Cond.selects RX1 yX1_leave yX1_leave, Cond.code yX1_leave cX1_leave 3 (some .int), Cond.methodLink RL 86 yL_trust]
def wsL_law0_r5 : List Cond := [Cond.static yL_trust, Cond.codeWith yL_trust cL_trust 5 (some .int) [(0, 10, 13, 13), (0, 10, 17, 17)], Cond.methodLink RL 23 yX0_trust, Cond.instanceMethod yX0_trust, Cond.selects RX0 yX0_trust yX0_trust, Cond.code yX0_trust cX0_trust 4 (some .int), Cond.methodLink RX0 60 yX0_leadsTo, Cond.instanceMethod yX0_leadsTo, Cond.selects RX0 yX0_leadsTo yX0_leadsTo, Cond.code yX0_leadsTo cX0_leadsTo 5 (some .boolean), Cond.methodLink RL 88 yX1_trust, Cond.instanceMethod yX1_trust, Cond.selects RX1 yX1_trust yX1_trust, Cond.code yX1_trust cX1_trust 5 (some .int), Cond.methodLink RX1 48 yX1_isInRow, Cond.instanceMethod yX1_isInRow, Cond.selects RX1 yX1_isInRow yX1_isInRow, Cond.code yX1_isInRow cX1_isInRow 5 (some .boolean), Cond.methodLink RL 89 yL_setPerson, Cond.static yL_setPerson, Cond.codeWith yL_setPerson cL_setPerson 5 (some .int) [(0, 10, 13, 13)], Cond.methodLink RL 26 yX0_setPerson, Cond.instanceMethod yX0_setPerson, Cond.selects RX0 yX0_setPerson yX0_setPerson]
def wsL_law0_r6 : List Cond := [Cond.code yX0_setPerson cX0_setPerson 4 (some .int), Cond.methodLink RL 91 yX1_setPerson, Cond.instanceMethod yX1_setPerson, Cond.selects RX1 yX1_setPerson yX1_setPerson, Cond.code yX1_setPerson cX1_setPerson 4 (some .int), Cond.methodLink RL 92 yL_in, Cond.static yL_in, Cond.codeWith yL_in cL_in 4 (some .int) [(0, 9, 12, 13)], Cond.methodLink RL 29 yX0_in, Cond.instanceMethod yX0_in, Cond.selects RX0 yX0_in yX0_in, Cond.code yX0_in cX0_in 2 (some .int), Cond.methodLink RL 94 yX1_in, Cond.instanceMethod yX1_in, Cond.selects RX1 yX1_in yX1_in, Cond.code yX1_in cX1_in 2 (some .int), Cond.methodLink RL 95 yL_inByBook, Cond.static yL_inByBook, Cond.codeWith yL_inByBook cL_inByBook 4 (some .int) [(0, 9, 12, 13)], Cond.methodLink RL 32 yX0_inByBook, Cond.instanceMethod yX0_inByBook, Cond.selects RX0 yX0_inByBook yX0_inByBook, Cond.code yX0_inByBook cX0_inByBook 2 (some .int), Cond.methodLink RL 97 yX1_inByBook]
def wsL_law0_r7 : List Cond := [Cond.instanceMethod yX1_inByBook, Cond.selects RX1 yX1_inByBook yX1_inByBook, Cond.code yX1_inByBook cX1_inByBook 2 (some .int), Cond.methodLink RL 98 yX0_total, Cond.instanceMethod yX0_total, Cond.selects RX0 yX0_total yX0_total, Cond.code yX0_total cX0_total 3 (some .int), Cond.methodLink RL 101 yX1_total, Cond.instanceMethod yX1_total, Cond.selects RX1 yX1_total yX1_total, Cond.code yX1_total cX1_total 1 (some .int), Cond.methodLink RX1 52 yX1_all, Cond.instanceMethod yX1_all, Cond.selects RX1 yX1_all yX1_all, Cond.code yX1_all cX1_all 3 (some .int), Cond.methodLink RL 102 yL_fillPot, Cond.static yL_fillPot, Cond.codeWith yL_fillPot cL_fillPot 4 (some .int) [(0, 9, 12, 15), (0, 9, 15, 17)], Cond.methodLink RL 35 yX0_fillPot, Cond.instanceMethod yX0_fillPot, Cond.selects RX0 yX0_fillPot yX0_fillPot, Cond.code yX0_fillPot cX0_fillPot 2 (some .int), Cond.fieldLink RX0 71 "Quorumfund" "potMoney" "I", Cond.constant RX0 75 (1000000)]
def wsL_law0_r8 : List Cond := [Cond.methodLink RL 104 yX1_fillPot, Cond.instanceMethod yX1_fillPot, Cond.selects RX1 yX1_fillPot yX1_fillPot, Cond.code yX1_fillPot cX1_fillPot 2 (some .int), Cond.fieldLink RX1 56 "QuorumfundModel" "pot" "I", Cond.constant RX1 59 (1000000), Cond.methodLink RL 105 yX0_pot, Cond.instanceMethod yX0_pot, Cond.selects RX0 yX0_pot yX0_pot, Cond.code yX0_pot cX0_pot 1 (some .int), Cond.methodLink RL 108 yX1_pot, Cond.instanceMethod yX1_pot, Cond.selects RX1 yX1_pot yX1_pot, Cond.code yX1_pot cX1_pot 1 (some .int), Cond.methodLink RL 109 yL_addMilestone, Cond.static yL_addMilestone, Cond.codeWith yL_addMilestone cL_addMilestone 4 (some .int) [(0, 9, 12, 15), (0, 9, 15, 17)], Cond.methodLink RL 38 yX0_addMilestone, Cond.instanceMethod yX0_addMilestone, Cond.selects RX0 yX0_addMilestone yX0_addMilestone, Cond.code yX0_addMilestone cX0_addMilestone 2 (some .int), Cond.fieldLink RX0 78 "Quorumfund" "added" "I", Cond.methodLink RL 111 yX1_addMilestone, Cond.instanceMethod yX1_addMilestone]
def wsL_law0_r9 : List Cond := [Cond.selects RX1 yX1_addMilestone yX1_addMilestone, Cond.code yX1_addMilestone cX1_addMilestone 2 (some .int), Cond.fieldLink RX1 60 "QuorumfundModel" "milestones" "I", Cond.methodLink RL 112 yL_prove, Cond.static yL_prove, Cond.codeWith yL_prove cL_prove 4 (some .int) [(0, 16, 19, 13), (0, 16, 22, 17)], Cond.methodLink RL 41 yX0_prove, Cond.instanceMethod yX0_prove, Cond.selects RX0 yX0_prove yX0_prove, Cond.code yX0_prove cX0_prove 2 (some .boolean), Cond.fieldLink RX0 85 "Quorumfund" "released" "I", Cond.methodLink RL 114 yX1_prove, Cond.instanceMethod yX1_prove, Cond.selects RX1 yX1_prove yX1_prove, Cond.code yX1_prove cX1_prove 2 (some .boolean), Cond.fieldLink RX1 63 "QuorumfundModel" "released" "I", Cond.methodLink RL 115 yX0_current, Cond.instanceMethod yX0_current, Cond.selects RX0 yX0_current yX0_current, Cond.code yX0_current cX0_current 1 (some .int), Cond.methodLink RL 118 yX1_current, Cond.instanceMethod yX1_current, Cond.selects RX1 yX1_current yX1_current, Cond.code yX1_current cX1_current 1 (some .int)]
def wsL_law0_r10 : List Cond := [Cond.methodLink RX1 66 yX1_hasCurrent, Cond.instanceMethod yX1_hasCurrent, Cond.selects RX1 yX1_hasCurrent yX1_hasCurrent, Cond.code yX1_hasCurrent cX1_hasCurrent 1 (some .boolean), Cond.methodLink RL 119 yL_vote, Cond.static yL_vote, Cond.codeWith yL_vote cL_vote 5 (some .int) [(0, 10, 13, 13), (0, 10, 17, 15), (0, 10, 21, 17)], Cond.methodLink RL 45 yX0_vote, Cond.instanceMethod yX0_vote, Cond.selects RX0 yX0_vote yX0_vote, Cond.code yX0_vote cX0_vote 4 (some .int), Cond.methodLink RX0 95 yX0_current, Cond.methodLink RL 121 yX1_vote, Cond.instanceMethod yX1_vote, Cond.selects RX1 yX1_vote yX1_vote, Cond.code yX1_vote cX1_vote 4 (some .int), Cond.methodLink RL 122 yL_speaker, Cond.static yL_speaker, Cond.codeWith yL_speaker cL_speaker 4 (some .int) [(0, 9, 12, 13)], Cond.methodLink RL 48 yX0_speaker, Cond.instanceMethod yX0_speaker, Cond.selects RX0 yX0_speaker yX0_speaker, Cond.code yX0_speaker cX0_speaker 2 (some .int), Cond.methodLink RX0 101 yX0_firstVoterFrom]
def wsL_law0_r11 : List Cond := [Cond.instanceMethod yX0_firstVoterFrom, Cond.selects RX0 yX0_firstVoterFrom yX0_firstVoterFrom, Cond.code yX0_firstVoterFrom cX0_firstVoterFrom 4 (some .int), Cond.methodLink RL 124 yX1_speaker, Cond.instanceMethod yX1_speaker, Cond.selects RX1 yX1_speaker yX1_speaker, Cond.code yX1_speaker cX1_speaker 2 (some .int), Cond.methodLink RX1 70 yX1_speakerOf, Cond.instanceMethod yX1_speakerOf, Cond.selects RX1 yX1_speakerOf yX1_speakerOf, Cond.code yX1_speakerOf cX1_speakerOf 3 (some .int), Cond.methodLink RL 125 yL_weight, Cond.static yL_weight, Cond.codeWith yL_weight cL_weight 4 (some .int) [(0, 9, 12, 15)], Cond.methodLink RL 51 yX0_weight, Cond.instanceMethod yX0_weight, Cond.selects RX0 yX0_weight yX0_weight, Cond.code yX0_weight cX0_weight 4 (some .int), Cond.methodLink RX0 107 yX0_heardVote, Cond.instanceMethod yX0_heardVote, Cond.selects RX0 yX0_heardVote yX0_heardVote, Cond.code yX0_heardVote cX0_heardVote 3 (some .int), Cond.methodLink RL 127 yX1_weight, Cond.instanceMethod yX1_weight]
def wsL_law0_r12 : List Cond := [Cond.selects RX1 yX1_weight yX1_weight, Cond.code yX1_weight cX1_weight 2 (some .int), Cond.methodLink RX1 74 yX1_weightOf, Cond.instanceMethod yX1_weightOf, Cond.selects RX1 yX1_weightOf yX1_weightOf, Cond.code yX1_weightOf cX1_weightOf 5 (some .int), Cond.methodLink RL 128 yL_share, Cond.static yL_share, Cond.codeWith yL_share cL_share 4 (some .int) [(0, 9, 12, 13), (0, 9, 15, 57)], Cond.classLink RL 57 "java/util/NoSuchElementException", Cond.methodLink RL 54 yX0_share, Cond.instanceMethod yX0_share, Cond.selects RX0 yX0_share yX0_share, Cond.code yX0_share cX0_share 2 (some .int), Cond.methodLink RX0 110 yX0_requireCovered, Cond.instanceMethod yX0_requireCovered, Cond.selects RX0 yX0_requireCovered yX0_requireCovered, Cond.code yX0_requireCovered cX0_requireCovered 1 none, Cond.classLink RX0 159 "java/util/NoSuchElementException", Cond.initialized "java/util/NoSuchElementException", Cond.methodLink RX0 128 yX0_isCovered, Cond.instanceMethod yX0_isCovered, Cond.selects RX0 yX0_isCovered yX0_isCovered, Cond.code yX0_isCovered cX0_isCovered 1 (some .boolean)]
def wsL_law0_r13 : List Cond := [Cond.methodLink RX0 137 yX0_total, Cond.methodLink RX0 113 yX0_findShares, Cond.instanceMethod yX0_findShares, Cond.selects RX0 yX0_findShares yX0_findShares, Cond.code yX0_findShares cX0_findShares 5 none, Cond.methodLink RX0 164 yX0_roundedPart, Cond.static yX0_roundedPart, Cond.code yX0_roundedPart cX0_roundedPart 3 (some .int), Cond.methodLink RL 130 yX1_share, Cond.instanceMethod yX1_share, Cond.selects RX1 yX1_share yX1_share, Cond.code yX1_share cX1_share 2 (some .int), Cond.methodLink RX1 77 yX1_canGoOut, Cond.instanceMethod yX1_canGoOut, Cond.selects RX1 yX1_canGoOut yX1_canGoOut, Cond.code yX1_canGoOut cX1_canGoOut 1 (some .boolean), Cond.methodLink RX1 80 yX1_laysShares, Cond.instanceMethod yX1_laysShares, Cond.selects RX1 yX1_laysShares yX1_laysShares, Cond.code yX1_laysShares cX1_laysShares 6 none, Cond.methodLink RL 131 yL_match, Cond.static yL_match, Cond.codeWith yL_match cL_match 3 (some .int) [(0, 8, 11, 57)], Cond.methodLink RL 59 yX0_match]
def wsL_law0_r14 : List Cond := [Cond.instanceMethod yX0_match, Cond.selects RX0 yX0_match yX0_match, Cond.code yX0_match cX0_match 1 (some .int), Cond.methodLink RX0 116 yX0_currentMatch, Cond.instanceMethod yX0_currentMatch, Cond.selects RX0 yX0_currentMatch yX0_currentMatch, Cond.code yX0_currentMatch cX0_currentMatch 2 (some .int), Cond.methodLink RX0 119 yX0_findRoots, Cond.instanceMethod yX0_findRoots, Cond.selects RX0 yX0_findRoots yX0_findRoots, Cond.code yX0_findRoots cX0_findRoots 2 none, Cond.methodLink RX0 171 yX0_partOf, Cond.instanceMethod yX0_partOf, Cond.selects RX0 yX0_partOf yX0_partOf, Cond.code yX0_partOf cX0_partOf 4 (some .int), Cond.methodLink RX0 174 yX0_rootOf, Cond.static yX0_rootOf, Cond.code yX0_rootOf cX0_rootOf 4 (some .int), Cond.methodLink RX0 168 yX0_squareOfSum, Cond.instanceMethod yX0_squareOfSum, Cond.selects RX0 yX0_squareOfSum yX0_squareOfSum, Cond.code yX0_squareOfSum cX0_squareOfSum 3 (some .int), Cond.methodLink RX0 125 yX0_withinPot, Cond.instanceMethod yX0_withinPot]
def wsL_law0_r15 : List Cond := [Cond.selects RX0 yX0_withinPot yX0_withinPot, Cond.code yX0_withinPot cX0_withinPot 2 (some .int), Cond.methodLink RX0 177 Lib.Math.max.name, Cond.static Lib.Math.max.name, Cond.initialized "java/lang/Math", Cond.code Lib.Math.max.name Lib.Math.max.code 2 (some .int), Cond.methodLink RX0 183 Lib.Math.min.name, Cond.static Lib.Math.min.name, Cond.code Lib.Math.min.name Lib.Math.min.code 2 (some .int), Cond.methodLink RL 134 yX1_match, Cond.instanceMethod yX1_match, Cond.selects RX1 yX1_match yX1_match, Cond.code yX1_match cX1_match 1 (some .int), Cond.methodLink RX1 89 yX1_matchNow, Cond.instanceMethod yX1_matchNow, Cond.selects RX1 yX1_matchNow yX1_matchNow, Cond.code yX1_matchNow cX1_matchNow 1 (some .int), Cond.methodLink RX1 86 yX1_matched, Cond.instanceMethod yX1_matched, Cond.selects RX1 yX1_matched yX1_matched, Cond.code yX1_matched cX1_matched 5 (some .int), Cond.methodLink RX1 83 yX1_root, Cond.static yX1_root, Cond.code yX1_root cX1_root 2 (some .int)]
def wsL_law0_r16 : List Cond := [Cond.methodLink RL 135 yL_matchByPairs, Cond.static yL_matchByPairs, Cond.codeWith yL_matchByPairs cL_matchByPairs 3 (some .int) [(0, 8, 11, 57)], Cond.methodLink RL 63 yX0_matchByPairs, Cond.instanceMethod yX0_matchByPairs, Cond.selects RX0 yX0_matchByPairs yX0_matchByPairs, Cond.code yX0_matchByPairs cX0_matchByPairs 2 (some .int), Cond.methodLink RX0 122 yX0_squareByPairs, Cond.instanceMethod yX0_squareByPairs, Cond.selects RX0 yX0_squareByPairs yX0_squareByPairs, Cond.code yX0_squareByPairs cX0_squareByPairs 4 (some .int), Cond.methodLink RL 137 yX1_matchByPairs, Cond.instanceMethod yX1_matchByPairs, Cond.selects RX1 yX1_matchByPairs yX1_matchByPairs, Cond.code yX1_matchByPairs cX1_matchByPairs 1 (some .int), Cond.methodLink RL 138 yL_release, Cond.static yL_release, Cond.codeWith yL_release cL_release 3 (some .int) [(0, 8, 11, 17)], Cond.methodLink RL 66 yX0_release, Cond.instanceMethod yX0_release, Cond.selects RX0 yX0_release yX0_release, Cond.code yX0_release cX0_release 3 (some .int), Cond.fieldLink RX0 145 "Quorumfund" "outMoney" "I", Cond.methodLink RX0 134 yX0_weight]
def wsL_law0_r17 : List Cond := [Cond.methodLink RX0 142 yX0_payShares, Cond.instanceMethod yX0_payShares, Cond.selects RX0 yX0_payShares yX0_payShares, Cond.code yX0_payShares cX0_payShares 2 none, Cond.methodLink RX0 148 yX0_clearVotes, Cond.instanceMethod yX0_clearVotes, Cond.selects RX0 yX0_clearVotes yX0_clearVotes, Cond.code yX0_clearVotes cX0_clearVotes 2 none, Cond.methodLink RL 140 yX1_release, Cond.instanceMethod yX1_release, Cond.selects RX1 yX1_release yX1_release, Cond.code yX1_release cX1_release 5 (some .int), Cond.fieldLink RX1 92 "QuorumfundModel" "out" "I", Cond.methodLink RL 141 yX0_out, Cond.instanceMethod yX0_out, Cond.selects RX0 yX0_out yX0_out, Cond.code yX0_out cX0_out 1 (some .int), Cond.methodLink RL 144 yX1_out, Cond.instanceMethod yX1_out, Cond.selects RX1 yX1_out yX1_out, Cond.code yX1_out cX1_out 1 (some .int)]
def wsL_law0 : List Cond := (wsL_law0_r1 ++ (wsL_law0_r2 ++ (wsL_law0_r3 ++ (wsL_law0_r4 ++ (wsL_law0_r5 ++ (wsL_law0_r6 ++ (wsL_law0_r7 ++ (wsL_law0_r8 ++ (wsL_law0_r9 ++ (wsL_law0_r10 ++ (wsL_law0_r11 ++ (wsL_law0_r12 ++ (wsL_law0_r13 ++ (wsL_law0_r14 ++ (wsL_law0_r15 ++ (wsL_law0_r16 ++ wsL_law0_r17)))))))))))))))) ++ wsX00 ++ wsX10 ++ ([] : List Cond)
def wsL_law : List Cond := wsL_law0 ++ (vx_atS RX0 57 "java/lang/IllegalStateException" ["java/lang/RuntimeException", "java/lang/Exception"]).filter goodWord ++ (vx_atS RX0 70 "java/lang/IndexOutOfBoundsException" ["java/lang/RuntimeException", "java/lang/Exception"]).filter goodWord ++ (vx_atS RX0 94 "java/lang/IllegalArgumentException" ["java/lang/RuntimeException", "java/lang/Exception"]).filter goodWord ++ zn_at.filter goodWord
set_option maxRecDepth 20000 in
theorem wsL_law_in0 : ∀ w ∈ wsL_law0, w ∈ lw_tbl := fun w h => (goodIn_p wsL_law0 [40, 43, 438, 117, 120, 123, 195, 484, 487, 490, 495, 480, 235, 499, 242, 246, 503, 507, 254, 511, 262, 515, 269, 519, 95, 523, 527, 276, 531, 99, 536, 285, 540, 293, 544, 103, 548, 552, 302, 556, 312, 316, 560, 564, 323, 328, 568, 572, 336, 340, 344, 365, 368, 576, 580, 584, 375, 379, 383, 387, 390, 394, 398, 401, 404, 588, 592, 596, 599, 411, 415, 603, 422, 429, 433, 607, 107, 611] (by decide +kernel) (by decide +kernel) w h).1
theorem wsL_law_x0 : ∀ w ∈ (vx_atS RX0 57 "java/lang/IllegalStateException" ["java/lang/RuntimeException", "java/lang/Exception"]).filter goodWord, w ∈ lw_tbl := by decide +kernel
theorem wsL_law_x1 : ∀ w ∈ (vx_atS RX0 70 "java/lang/IndexOutOfBoundsException" ["java/lang/RuntimeException", "java/lang/Exception"]).filter goodWord, w ∈ lw_tbl := by decide +kernel
theorem wsL_law_x2 : ∀ w ∈ (vx_atS RX0 94 "java/lang/IllegalArgumentException" ["java/lang/RuntimeException", "java/lang/Exception"]).filter goodWord, w ∈ lw_tbl := by decide +kernel
theorem wsL_law_x3 : ∀ w ∈ zn_at.filter goodWord, w ∈ lw_tbl := by decide +kernel
theorem wsL_law_in : ∀ w ∈ wsL_law, w ∈ lw_tbl := fun w h => (List.mem_append.mp h).elim (fun h => (List.mem_append.mp h).elim (fun h => (List.mem_append.mp h).elim (fun h => (List.mem_append.mp h).elim (fun h => wsL_law_in0 w h) (fun h => wsL_law_x0 w h)) (fun h => wsL_law_x1 w h)) (fun h => wsL_law_x2 w h)) (fun h => wsL_law_x3 w h)
theorem inlX0 : ∀ w ∈ wsX00, w ∈ wsL_law := fun _ h => List.mem_append_left _ (List.mem_append_left _ (List.mem_append_left _ (List.mem_append_left _ (List.mem_append_left _ (List.mem_append_left _ (List.mem_append_right _ h))))))
theorem inX0 : ∀ w ∈ wsX00, w ∈ lw_tbl := fun w h => wsL_law_in w (inlX0 w h)
theorem inlX1 : ∀ w ∈ wsX10, w ∈ wsL_law := fun _ h => List.mem_append_left _ (List.mem_append_left _ (List.mem_append_left _ (List.mem_append_left _ (List.mem_append_left _ (List.mem_append_right _ h)))))
theorem inX1 : ∀ w ∈ wsX10, w ∈ lw_tbl := fun w h => wsL_law_in w (inlX1 w h)
theorem inJx145de : ∀ w ∈ wsJx145de0, w ∈ lw_tbl := by decide +kernel
theorem inJ9 : ∀ w ∈ wsJ90, w ∈ lw_tbl := by decide +kernel
theorem inJ0 : ∀ w ∈ wsJ00, w ∈ lw_tbl := by decide +kernel
abbrev vwCl : List vw_C := [(RX0, TX0, 15), (RX1, TX1, 12)]
end
section
theorem dX0_init_0 : decode cX0_init 0 = .ok (.aload_n 0, 1) := by decide +kernel
theorem dX0_init_1 : decode cX0_init 1 = .ok (.invokespecial 1, 3) := by decide +kernel
theorem dX0_init_4 : decode cX0_init 4 = .ok (.aload_n 0, 1) := by decide +kernel
theorem dX0_init_5 : decode cX0_init 5 = .ok (.bipush 8, 2) := by decide +kernel
theorem dX0_init_7 : decode cX0_init 7 = .ok (.newarray .int, 2) := by decide +kernel
theorem dX0_init_9 : decode cX0_init 9 = .ok (.putfield 9, 3) := by decide +kernel
theorem dX0_init_12 : decode cX0_init 12 = .ok (.aload_n 0, 1) := by decide +kernel
theorem dX0_init_13 : decode cX0_init 13 = .ok (.bipush 8, 2) := by decide +kernel
theorem dX0_init_15 : decode cX0_init 15 = .ok (.newarray .int, 2) := by decide +kernel
theorem dX0_init_17 : decode cX0_init 17 = .ok (.putfield 13, 3) := by decide +kernel
theorem dX0_init_20 : decode cX0_init 20 = .ok (.aload_n 0, 1) := by decide +kernel
theorem dX0_init_21 : decode cX0_init 21 = .ok (.bipush 8, 2) := by decide +kernel
theorem dX0_init_23 : decode cX0_init 23 = .ok (.newarray .int, 2) := by decide +kernel
theorem dX0_init_25 : decode cX0_init 25 = .ok (.putfield 16, 3) := by decide +kernel
theorem dX0_init_28 : decode cX0_init 28 = .ok (.aload_n 0, 1) := by decide +kernel
theorem dX0_init_29 : decode cX0_init 29 = .ok (.bipush 8, 2) := by decide +kernel
theorem dX0_init_31 : decode cX0_init 31 = .ok (.newarray .int, 2) := by decide +kernel
theorem dX0_init_33 : decode cX0_init 33 = .ok (.putfield 19, 3) := by decide +kernel
theorem dX0_init_36 : decode cX0_init 36 = .ok (.aload_n 0, 1) := by decide +kernel
theorem dX0_init_37 : decode cX0_init 37 = .ok (.bipush 8, 2) := by decide +kernel
theorem dX0_init_39 : decode cX0_init 39 = .ok (.newarray .int, 2) := by decide +kernel
theorem dX0_init_41 : decode cX0_init 41 = .ok (.putfield 22, 3) := by decide +kernel
theorem dX0_init_44 : decode cX0_init 44 = .ok (.aload_n 0, 1) := by decide +kernel
theorem dX0_init_45 : decode cX0_init 45 = .ok (.bipush 8, 2) := by decide +kernel
theorem dX0_init_47 : decode cX0_init 47 = .ok (.newarray .int, 2) := by decide +kernel
theorem dX0_init_49 : decode cX0_init 49 = .ok (.putfield 25, 3) := by decide +kernel
theorem dX0_init_52 : decode cX0_init 52 = .ok (.aload_n 0, 1) := by decide +kernel
theorem dX0_init_53 : decode cX0_init 53 = .ok (.bipush 8, 2) := by decide +kernel
theorem dX0_init_55 : decode cX0_init 55 = .ok (.newarray .int, 2) := by decide +kernel
theorem dX0_init_57 : decode cX0_init 57 = .ok (.putfield 28, 3) := by decide +kernel
theorem dX0_init_60 : decode cX0_init 60 = .ok (.aload_n 0, 1) := by decide +kernel
theorem dX0_init_61 : decode cX0_init 61 = .ok (.bipush 6, 2) := by decide +kernel
theorem dX0_init_63 : decode cX0_init 63 = .ok (.newarray .int, 2) := by decide +kernel
theorem dX0_init_65 : decode cX0_init 65 = .ok (.putfield 31, 3) := by decide +kernel
theorem dX0_init_68 : decode cX0_init 68 = .ok (.aload_n 0, 1) := by decide +kernel
theorem dX0_init_69 : decode cX0_init 69 = .ok (.bipush 6, 2) := by decide +kernel
theorem dX0_init_71 : decode cX0_init 71 = .ok (.newarray .boolean, 2) := by decide +kernel
theorem dX0_init_73 : decode cX0_init 73 = .ok (.putfield 34, 3) := by decide +kernel
theorem dX0_init_76 : decode cX0_init 76 = .ok (.aload_n 0, 1) := by decide +kernel
theorem dX0_init_77 : decode cX0_init 77 = .ok (.bipush 8, 2) := by decide +kernel
theorem dX0_init_79 : decode cX0_init 79 = .ok (.newarray .int, 2) := by decide +kernel
theorem dX0_init_81 : decode cX0_init 81 = .ok (.putfield 38, 3) := by decide +kernel
theorem dX0_init_84 : decode cX0_init 84 = .ok (.aload_n 0, 1) := by decide +kernel
theorem dX0_init_85 : decode cX0_init 85 = .ok (.bipush 8, 2) := by decide +kernel
theorem dX0_init_87 : decode cX0_init 87 = .ok (.newarray .int, 2) := by decide +kernel
theorem dX0_init_89 : decode cX0_init 89 = .ok (.putfield 41, 3) := by decide +kernel
theorem dX0_init_92 : decode cX0_init 92 = .ok (.iconst 0, 1) := by decide +kernel
theorem dX0_init_93 : decode cX0_init 93 = .ok (.istore_n 1, 1) := by decide +kernel
theorem dX0_init_94 : decode cX0_init 94 = .ok (.iload_n 1, 1) := by decide +kernel
theorem dX0_init_95 : decode cX0_init 95 = .ok (.bipush 8, 2) := by decide +kernel
theorem dX0_init_97 : decode cX0_init 97 = .ok (.if_icmp .ge 30, 3) := by decide +kernel
theorem dX0_init_100 : decode cX0_init 100 = .ok (.aload_n 0, 1) := by decide +kernel
theorem dX0_init_101 : decode cX0_init 101 = .ok (.getfield 22, 3) := by decide +kernel
theorem dX0_init_104 : decode cX0_init 104 = .ok (.iload_n 1, 1) := by decide +kernel
theorem dX0_init_105 : decode cX0_init 105 = .ok (.iconst (-1), 1) := by decide +kernel
theorem dX0_init_106 : decode cX0_init 106 = .ok (.iastore, 1) := by decide +kernel
theorem dX0_init_107 : decode cX0_init 107 = .ok (.aload_n 0, 1) := by decide +kernel
theorem dX0_init_108 : decode cX0_init 108 = .ok (.getfield 25, 3) := by decide +kernel
theorem dX0_init_111 : decode cX0_init 111 = .ok (.iload_n 1, 1) := by decide +kernel
theorem dX0_init_112 : decode cX0_init 112 = .ok (.iload_n 1, 1) := by decide +kernel
theorem dX0_init_113 : decode cX0_init 113 = .ok (.iastore, 1) := by decide +kernel
theorem dX0_init_114 : decode cX0_init 114 = .ok (.aload_n 0, 1) := by decide +kernel
theorem dX0_init_115 : decode cX0_init 115 = .ok (.getfield 28, 3) := by decide +kernel
theorem dX0_init_118 : decode cX0_init 118 = .ok (.iload_n 1, 1) := by decide +kernel
theorem dX0_init_119 : decode cX0_init 119 = .ok (.iconst 0, 1) := by decide +kernel
theorem dX0_init_120 : decode cX0_init 120 = .ok (.iastore, 1) := by decide +kernel
theorem dX0_init_121 : decode cX0_init 121 = .ok (.iinc 1 1, 3) := by decide +kernel
theorem dX0_init_124 : decode cX0_init 124 = .ok (.goto (-30), 3) := by decide +kernel
theorem dX0_init_127 : decode cX0_init 127 = .ok (.return_, 1) := by decide +kernel
set_option maxRecDepth 20000 in
theorem ggX0_give_X0_requireGiver : GoodIn wsX0_give wsX0_requireGiver := goodIn_ca (goodIn_r _ [9, 10, 11, 12, 13, 8, 14] (by decide +kernel) (by decide +kernel)) (goodIn_sub (fun _ h => List.mem_cons_of_mem _ (List.mem_append_left _ (List.mem_append_right _ h))) (by decide +kernel))
set_option maxRecDepth 20000 in
theorem gX0_give_X0_requireGiver : GoodIn wsX0_give (va_wsS RX0 44 yX0_requireGiver wsX0_requireGiver) := goodIn_app (goodIn_of _ (by decide +kernel)) ggX0_give_X0_requireGiver
set_option maxRecDepth 20000 in
theorem ggX0_give_X0_requireAmount : GoodIn wsX0_give wsX0_requireAmount := goodIn_ca (goodIn_r _ [17, 18, 19] (by decide +kernel) (by decide +kernel)) (goodIn_sub (fun _ h => List.mem_cons_of_mem _ (List.mem_append_right _ h)) (by decide +kernel))
set_option maxRecDepth 20000 in
theorem gX0_give_X0_requireAmount : GoodIn wsX0_give (va_wsS RX0 48 yX0_requireAmount wsX0_requireAmount) := goodIn_app (goodIn_of _ (by decide +kernel)) ggX0_give_X0_requireAmount
theorem dX0_give_0 : decode cX0_give 0 = .ok (.iload_n 1, 1) := by decide +kernel
theorem dX0_give_1 : decode cX0_give 1 = .ok (.invokestatic 44, 3) := by decide +kernel
theorem dX0_give_4 : decode cX0_give 4 = .ok (.iload_n 2, 1) := by decide +kernel
theorem dX0_give_5 : decode cX0_give 5 = .ok (.sipush 10000, 3) := by decide +kernel
theorem dX0_give_8 : decode cX0_give 8 = .ok (.invokestatic 48, 3) := by decide +kernel
theorem dX0_give_11 : decode cX0_give 11 = .ok (.aload_n 0, 1) := by decide +kernel
theorem dX0_give_12 : decode cX0_give 12 = .ok (.getfield 9, 3) := by decide +kernel
theorem dX0_give_15 : decode cX0_give 15 = .ok (.iload_n 1, 1) := by decide +kernel
theorem dX0_give_16 : decode cX0_give 16 = .ok (.iaload, 1) := by decide +kernel
theorem dX0_give_17 : decode cX0_give 17 = .ok (.iload_n 2, 1) := by decide +kernel
theorem dX0_give_18 : decode cX0_give 18 = .ok (.iadd, 1) := by decide +kernel
theorem dX0_give_19 : decode cX0_give 19 = .ok (.ldc 52, 2) := by decide +kernel
theorem dX0_give_21 : decode cX0_give 21 = .ok (.if_icmp .le 13, 3) := by decide +kernel
theorem dX0_give_24 : decode cX0_give 24 = .ok (.new 53, 3) := by decide +kernel
theorem dX0_give_27 : decode cX0_give 27 = .ok (.dup, 1) := by decide +kernel
theorem dX0_give_28 : decode cX0_give 28 = .ok (.ldc 55, 2) := by decide +kernel
theorem dX0_give_30 : decode cX0_give 30 = .ok (.invokespecial 57, 3) := by decide +kernel
theorem dX0_give_33 : decode cX0_give 33 = .ok (.athrow, 1) := by decide +kernel
theorem dX0_give_34 : decode cX0_give 34 = .ok (.aload_n 0, 1) := by decide +kernel
theorem dX0_give_35 : decode cX0_give 35 = .ok (.getfield 9, 3) := by decide +kernel
theorem dX0_give_38 : decode cX0_give 38 = .ok (.iload_n 1, 1) := by decide +kernel
theorem dX0_give_39 : decode cX0_give 39 = .ok (.dup2, 1) := by decide +kernel
theorem dX0_give_40 : decode cX0_give 40 = .ok (.iaload, 1) := by decide +kernel
theorem dX0_give_41 : decode cX0_give 41 = .ok (.iload_n 2, 1) := by decide +kernel
theorem dX0_give_42 : decode cX0_give 42 = .ok (.iadd, 1) := by decide +kernel
theorem dX0_give_43 : decode cX0_give 43 = .ok (.iastore, 1) := by decide +kernel
theorem dX0_give_44 : decode cX0_give 44 = .ok (.aload_n 0, 1) := by decide +kernel
theorem dX0_give_45 : decode cX0_give 45 = .ok (.getfield 13, 3) := by decide +kernel
theorem dX0_give_48 : decode cX0_give 48 = .ok (.iload_n 1, 1) := by decide +kernel
theorem dX0_give_49 : decode cX0_give 49 = .ok (.dup2, 1) := by decide +kernel
theorem dX0_give_50 : decode cX0_give 50 = .ok (.iaload, 1) := by decide +kernel
theorem dX0_give_51 : decode cX0_give 51 = .ok (.iload_n 2, 1) := by decide +kernel
theorem dX0_give_52 : decode cX0_give 52 = .ok (.iadd, 1) := by decide +kernel
theorem dX0_give_53 : decode cX0_give 53 = .ok (.iastore, 1) := by decide +kernel
theorem dX0_give_54 : decode cX0_give 54 = .ok (.aload_n 0, 1) := by decide +kernel
theorem dX0_give_55 : decode cX0_give 55 = .ok (.getfield 9, 3) := by decide +kernel
theorem dX0_give_58 : decode cX0_give 58 = .ok (.iload_n 1, 1) := by decide +kernel
theorem dX0_give_59 : decode cX0_give 59 = .ok (.iaload, 1) := by decide +kernel
theorem dX0_give_60 : decode cX0_give 60 = .ok (.ireturn, 1) := by decide +kernel
set_option maxRecDepth 20000 in
theorem ggX0_leave_X0_requireGiver : GoodIn wsX0_leave wsX0_requireGiver := goodIn_ca (goodIn_r _ [7, 8, 9, 10, 11, 6, 12] (by decide +kernel) (by decide +kernel)) (goodIn_sub (fun _ h => List.mem_cons_of_mem _ (List.mem_append_right _ h)) (by decide +kernel))
set_option maxRecDepth 20000 in
theorem gX0_leave_X0_requireGiver : GoodIn wsX0_leave (va_wsS RX0 44 yX0_requireGiver wsX0_requireGiver) := goodIn_app (goodIn_of _ (by decide +kernel)) ggX0_leave_X0_requireGiver
theorem dX0_leave_0 : decode cX0_leave 0 = .ok (.iload_n 1, 1) := by decide +kernel
theorem dX0_leave_1 : decode cX0_leave 1 = .ok (.invokestatic 44, 3) := by decide +kernel
theorem dX0_leave_4 : decode cX0_leave 4 = .ok (.aload_n 0, 1) := by decide +kernel
theorem dX0_leave_5 : decode cX0_leave 5 = .ok (.getfield 9, 3) := by decide +kernel
theorem dX0_leave_8 : decode cX0_leave 8 = .ok (.iload_n 1, 1) := by decide +kernel
theorem dX0_leave_9 : decode cX0_leave 9 = .ok (.iaload, 1) := by decide +kernel
theorem dX0_leave_10 : decode cX0_leave 10 = .ok (.istore_n 2, 1) := by decide +kernel
theorem dX0_leave_11 : decode cX0_leave 11 = .ok (.aload_n 0, 1) := by decide +kernel
theorem dX0_leave_12 : decode cX0_leave 12 = .ok (.getfield 9, 3) := by decide +kernel
theorem dX0_leave_15 : decode cX0_leave 15 = .ok (.iload_n 1, 1) := by decide +kernel
theorem dX0_leave_16 : decode cX0_leave 16 = .ok (.iconst 0, 1) := by decide +kernel
theorem dX0_leave_17 : decode cX0_leave 17 = .ok (.iastore, 1) := by decide +kernel
theorem dX0_leave_18 : decode cX0_leave 18 = .ok (.aload_n 0, 1) := by decide +kernel
theorem dX0_leave_19 : decode cX0_leave 19 = .ok (.getfield 16, 3) := by decide +kernel
theorem dX0_leave_22 : decode cX0_leave 22 = .ok (.iload_n 1, 1) := by decide +kernel
theorem dX0_leave_23 : decode cX0_leave 23 = .ok (.dup2, 1) := by decide +kernel
theorem dX0_leave_24 : decode cX0_leave 24 = .ok (.iaload, 1) := by decide +kernel
theorem dX0_leave_25 : decode cX0_leave 25 = .ok (.iload_n 2, 1) := by decide +kernel
theorem dX0_leave_26 : decode cX0_leave 26 = .ok (.iadd, 1) := by decide +kernel
theorem dX0_leave_27 : decode cX0_leave 27 = .ok (.iastore, 1) := by decide +kernel
theorem dX0_leave_28 : decode cX0_leave 28 = .ok (.aload_n 0, 1) := by decide +kernel
theorem dX0_leave_29 : decode cX0_leave 29 = .ok (.getfield 28, 3) := by decide +kernel
theorem dX0_leave_32 : decode cX0_leave 32 = .ok (.iload_n 1, 1) := by decide +kernel
theorem dX0_leave_33 : decode cX0_leave 33 = .ok (.iconst 0, 1) := by decide +kernel
theorem dX0_leave_34 : decode cX0_leave 34 = .ok (.iastore, 1) := by decide +kernel
theorem dX0_leave_35 : decode cX0_leave 35 = .ok (.iload_n 2, 1) := by decide +kernel
theorem dX0_leave_36 : decode cX0_leave 36 = .ok (.ireturn, 1) := by decide +kernel
set_option maxRecDepth 20000 in
theorem ggX0_trust_X0_requireGiver : GoodIn wsX0_trust wsX0_requireGiver := goodIn_ca (goodIn_r _ [7, 8, 9, 10, 11, 6, 12] (by decide +kernel) (by decide +kernel)) (goodIn_sub (fun _ h => List.mem_cons_of_mem _ (List.mem_append_right _ h)) (by decide +kernel))
set_option maxRecDepth 20000 in
theorem gX0_trust_X0_requireGiver : GoodIn wsX0_trust (va_wsS RX0 44 yX0_requireGiver wsX0_requireGiver) := goodIn_app (goodIn_of _ (by decide +kernel)) ggX0_trust_X0_requireGiver
set_option maxRecDepth 20000 in
theorem ggX0_trust_X0_leadsTo : GoodIn wsX0_trust wsX0_leadsTo := goodIn_r _ [16, 3, 10, 11, 6, 12, 17, 18, 19, 20, 21, 22, 23, 24, 25, 26, 27, 28, 29, 30, 31] (by decide +kernel) (by decide +kernel)
set_option maxRecDepth 20000 in
theorem gX0_trust_X0_leadsTo : GoodIn wsX0_trust (wsV RX0 60 RX0 yX0_leadsTo wsX0_leadsTo) := goodIn_app (goodIn_of _ (by decide +kernel)) ggX0_trust_X0_leadsTo
theorem dX0_trust_0 : decode cX0_trust 0 = .ok (.iload_n 1, 1) := by decide +kernel
theorem dX0_trust_1 : decode cX0_trust 1 = .ok (.invokestatic 44, 3) := by decide +kernel
theorem dX0_trust_4 : decode cX0_trust 4 = .ok (.iload_n 2, 1) := by decide +kernel
theorem dX0_trust_5 : decode cX0_trust 5 = .ok (.iconst (-1), 1) := by decide +kernel
theorem dX0_trust_6 : decode cX0_trust 6 = .ok (.if_icmp .eq 7, 3) := by decide +kernel
theorem dX0_trust_9 : decode cX0_trust 9 = .ok (.iload_n 2, 1) := by decide +kernel
theorem dX0_trust_10 : decode cX0_trust 10 = .ok (.invokestatic 44, 3) := by decide +kernel
theorem dX0_trust_13 : decode cX0_trust 13 = .ok (.aload_n 0, 1) := by decide +kernel
theorem dX0_trust_14 : decode cX0_trust 14 = .ok (.iload_n 2, 1) := by decide +kernel
theorem dX0_trust_15 : decode cX0_trust 15 = .ok (.iload_n 1, 1) := by decide +kernel
theorem dX0_trust_16 : decode cX0_trust 16 = .ok (.invokevirtual 60, 3) := by decide +kernel
theorem dX0_trust_19 : decode cX0_trust 19 = .ok (.ifCond .eq 13, 3) := by decide +kernel
theorem dX0_trust_22 : decode cX0_trust 22 = .ok (.new 53, 3) := by decide +kernel
theorem dX0_trust_25 : decode cX0_trust 25 = .ok (.dup, 1) := by decide +kernel
theorem dX0_trust_26 : decode cX0_trust 26 = .ok (.ldc 64, 2) := by decide +kernel
theorem dX0_trust_28 : decode cX0_trust 28 = .ok (.invokespecial 57, 3) := by decide +kernel
theorem dX0_trust_31 : decode cX0_trust 31 = .ok (.athrow, 1) := by decide +kernel
theorem dX0_trust_32 : decode cX0_trust 32 = .ok (.aload_n 0, 1) := by decide +kernel
theorem dX0_trust_33 : decode cX0_trust 33 = .ok (.getfield 22, 3) := by decide +kernel
theorem dX0_trust_36 : decode cX0_trust 36 = .ok (.iload_n 1, 1) := by decide +kernel
theorem dX0_trust_37 : decode cX0_trust 37 = .ok (.iaload, 1) := by decide +kernel
theorem dX0_trust_38 : decode cX0_trust 38 = .ok (.istore_n 3, 1) := by decide +kernel
theorem dX0_trust_39 : decode cX0_trust 39 = .ok (.aload_n 0, 1) := by decide +kernel
theorem dX0_trust_40 : decode cX0_trust 40 = .ok (.getfield 22, 3) := by decide +kernel
theorem dX0_trust_43 : decode cX0_trust 43 = .ok (.iload_n 1, 1) := by decide +kernel
theorem dX0_trust_44 : decode cX0_trust 44 = .ok (.iload_n 2, 1) := by decide +kernel
theorem dX0_trust_45 : decode cX0_trust 45 = .ok (.iastore, 1) := by decide +kernel
theorem dX0_trust_46 : decode cX0_trust 46 = .ok (.iload_n 3, 1) := by decide +kernel
theorem dX0_trust_47 : decode cX0_trust 47 = .ok (.ireturn, 1) := by decide +kernel
set_option maxRecDepth 20000 in
theorem ggX0_setPerson_X0_requireGiver : GoodIn wsX0_setPerson wsX0_requireGiver := goodIn_ca (goodIn_r _ [7, 1, 2, 8, 9, 6, 10] (by decide +kernel) (by decide +kernel)) (goodIn_sub (fun _ h => List.mem_cons_of_mem _ (List.mem_append_right _ h)) (by decide +kernel))
set_option maxRecDepth 20000 in
theorem gX0_setPerson_X0_requireGiver : GoodIn wsX0_setPerson (va_wsS RX0 44 yX0_requireGiver wsX0_requireGiver) := goodIn_app (goodIn_of _ (by decide +kernel)) ggX0_setPerson_X0_requireGiver
theorem dX0_setPerson_0 : decode cX0_setPerson 0 = .ok (.iload_n 1, 1) := by decide +kernel
theorem dX0_setPerson_1 : decode cX0_setPerson 1 = .ok (.invokestatic 44, 3) := by decide +kernel
theorem dX0_setPerson_4 : decode cX0_setPerson 4 = .ok (.iload_n 2, 1) := by decide +kernel
theorem dX0_setPerson_5 : decode cX0_setPerson 5 = .ok (.ifCond .lt 9, 3) := by decide +kernel
theorem dX0_setPerson_8 : decode cX0_setPerson 8 = .ok (.iload_n 2, 1) := by decide +kernel
theorem dX0_setPerson_9 : decode cX0_setPerson 9 = .ok (.bipush 8, 2) := by decide +kernel
theorem dX0_setPerson_11 : decode cX0_setPerson 11 = .ok (.if_icmp .lt 13, 3) := by decide +kernel
theorem dX0_setPerson_14 : decode cX0_setPerson 14 = .ok (.new 66, 3) := by decide +kernel
theorem dX0_setPerson_17 : decode cX0_setPerson 17 = .ok (.dup, 1) := by decide +kernel
theorem dX0_setPerson_18 : decode cX0_setPerson 18 = .ok (.ldc 68, 2) := by decide +kernel
theorem dX0_setPerson_20 : decode cX0_setPerson 20 = .ok (.invokespecial 70, 3) := by decide +kernel
theorem dX0_setPerson_23 : decode cX0_setPerson 23 = .ok (.athrow, 1) := by decide +kernel
theorem dX0_setPerson_24 : decode cX0_setPerson 24 = .ok (.aload_n 0, 1) := by decide +kernel
theorem dX0_setPerson_25 : decode cX0_setPerson 25 = .ok (.getfield 25, 3) := by decide +kernel
theorem dX0_setPerson_28 : decode cX0_setPerson 28 = .ok (.iload_n 1, 1) := by decide +kernel
theorem dX0_setPerson_29 : decode cX0_setPerson 29 = .ok (.iaload, 1) := by decide +kernel
theorem dX0_setPerson_30 : decode cX0_setPerson 30 = .ok (.istore_n 3, 1) := by decide +kernel
theorem dX0_setPerson_31 : decode cX0_setPerson 31 = .ok (.aload_n 0, 1) := by decide +kernel
theorem dX0_setPerson_32 : decode cX0_setPerson 32 = .ok (.getfield 25, 3) := by decide +kernel
theorem dX0_setPerson_35 : decode cX0_setPerson 35 = .ok (.iload_n 1, 1) := by decide +kernel
theorem dX0_setPerson_36 : decode cX0_setPerson 36 = .ok (.iload_n 2, 1) := by decide +kernel
theorem dX0_setPerson_37 : decode cX0_setPerson 37 = .ok (.iastore, 1) := by decide +kernel
theorem dX0_setPerson_38 : decode cX0_setPerson 38 = .ok (.iload_n 3, 1) := by decide +kernel
theorem dX0_setPerson_39 : decode cX0_setPerson 39 = .ok (.ireturn, 1) := by decide +kernel
set_option maxRecDepth 20000 in
theorem ggX0_in_X0_requireGiver : GoodIn wsX0_in wsX0_requireGiver := goodIn_ca (goodIn_r _ [5, 6, 7, 8, 9, 4, 10] (by decide +kernel) (by decide +kernel)) (goodIn_sub (fun _ h => List.mem_cons_of_mem _ (List.mem_append_right _ h)) (by decide +kernel))
set_option maxRecDepth 20000 in
theorem gX0_in_X0_requireGiver : GoodIn wsX0_in (va_wsS RX0 44 yX0_requireGiver wsX0_requireGiver) := goodIn_app (goodIn_of _ (by decide +kernel)) ggX0_in_X0_requireGiver
theorem dX0_in_0 : decode cX0_in 0 = .ok (.iload_n 1, 1) := by decide +kernel
theorem dX0_in_1 : decode cX0_in 1 = .ok (.invokestatic 44, 3) := by decide +kernel
theorem dX0_in_4 : decode cX0_in 4 = .ok (.aload_n 0, 1) := by decide +kernel
theorem dX0_in_5 : decode cX0_in 5 = .ok (.getfield 9, 3) := by decide +kernel
theorem dX0_in_8 : decode cX0_in 8 = .ok (.iload_n 1, 1) := by decide +kernel
theorem dX0_in_9 : decode cX0_in 9 = .ok (.iaload, 1) := by decide +kernel
theorem dX0_in_10 : decode cX0_in 10 = .ok (.ireturn, 1) := by decide +kernel
set_option maxRecDepth 20000 in
theorem ggX0_inByBook_X0_requireGiver : GoodIn wsX0_inByBook wsX0_requireGiver := goodIn_ca (goodIn_r _ [7, 8, 9, 10, 11, 6, 12] (by decide +kernel) (by decide +kernel)) (goodIn_sub (fun _ h => List.mem_cons_of_mem _ (List.mem_append_right _ h)) (by decide +kernel))
set_option maxRecDepth 20000 in
theorem gX0_inByBook_X0_requireGiver : GoodIn wsX0_inByBook (va_wsS RX0 44 yX0_requireGiver wsX0_requireGiver) := goodIn_app (goodIn_of _ (by decide +kernel)) ggX0_inByBook_X0_requireGiver
theorem dX0_inByBook_0 : decode cX0_inByBook 0 = .ok (.iload_n 1, 1) := by decide +kernel
theorem dX0_inByBook_1 : decode cX0_inByBook 1 = .ok (.invokestatic 44, 3) := by decide +kernel
theorem dX0_inByBook_4 : decode cX0_inByBook 4 = .ok (.aload_n 0, 1) := by decide +kernel
theorem dX0_inByBook_5 : decode cX0_inByBook 5 = .ok (.getfield 13, 3) := by decide +kernel
theorem dX0_inByBook_8 : decode cX0_inByBook 8 = .ok (.iload_n 1, 1) := by decide +kernel
theorem dX0_inByBook_9 : decode cX0_inByBook 9 = .ok (.iaload, 1) := by decide +kernel
theorem dX0_inByBook_10 : decode cX0_inByBook 10 = .ok (.aload_n 0, 1) := by decide +kernel
theorem dX0_inByBook_11 : decode cX0_inByBook 11 = .ok (.getfield 16, 3) := by decide +kernel
theorem dX0_inByBook_14 : decode cX0_inByBook 14 = .ok (.iload_n 1, 1) := by decide +kernel
theorem dX0_inByBook_15 : decode cX0_inByBook 15 = .ok (.iaload, 1) := by decide +kernel
theorem dX0_inByBook_16 : decode cX0_inByBook 16 = .ok (.isub, 1) := by decide +kernel
theorem dX0_inByBook_17 : decode cX0_inByBook 17 = .ok (.aload_n 0, 1) := by decide +kernel
theorem dX0_inByBook_18 : decode cX0_inByBook 18 = .ok (.getfield 19, 3) := by decide +kernel
theorem dX0_inByBook_21 : decode cX0_inByBook 21 = .ok (.iload_n 1, 1) := by decide +kernel
theorem dX0_inByBook_22 : decode cX0_inByBook 22 = .ok (.iaload, 1) := by decide +kernel
theorem dX0_inByBook_23 : decode cX0_inByBook 23 = .ok (.isub, 1) := by decide +kernel
theorem dX0_inByBook_24 : decode cX0_inByBook 24 = .ok (.ireturn, 1) := by decide +kernel
theorem dX0_total_0 : decode cX0_total 0 = .ok (.iconst 0, 1) := by decide +kernel
theorem dX0_total_1 : decode cX0_total 1 = .ok (.istore_n 1, 1) := by decide +kernel
theorem dX0_total_2 : decode cX0_total 2 = .ok (.iconst 0, 1) := by decide +kernel
theorem dX0_total_3 : decode cX0_total 3 = .ok (.istore_n 2, 1) := by decide +kernel
theorem dX0_total_4 : decode cX0_total 4 = .ok (.iload_n 2, 1) := by decide +kernel
theorem dX0_total_5 : decode cX0_total 5 = .ok (.bipush 8, 2) := by decide +kernel
theorem dX0_total_7 : decode cX0_total 7 = .ok (.if_icmp .ge 18, 3) := by decide +kernel
theorem dX0_total_10 : decode cX0_total 10 = .ok (.iload_n 1, 1) := by decide +kernel
theorem dX0_total_11 : decode cX0_total 11 = .ok (.aload_n 0, 1) := by decide +kernel
theorem dX0_total_12 : decode cX0_total 12 = .ok (.getfield 9, 3) := by decide +kernel
theorem dX0_total_15 : decode cX0_total 15 = .ok (.iload_n 2, 1) := by decide +kernel
theorem dX0_total_16 : decode cX0_total 16 = .ok (.iaload, 1) := by decide +kernel
theorem dX0_total_17 : decode cX0_total 17 = .ok (.iadd, 1) := by decide +kernel
theorem dX0_total_18 : decode cX0_total 18 = .ok (.istore_n 1, 1) := by decide +kernel
theorem dX0_total_19 : decode cX0_total 19 = .ok (.iinc 2 1, 3) := by decide +kernel
theorem dX0_total_22 : decode cX0_total 22 = .ok (.goto (-18), 3) := by decide +kernel
theorem dX0_total_25 : decode cX0_total 25 = .ok (.iload_n 1, 1) := by decide +kernel
theorem dX0_total_26 : decode cX0_total 26 = .ok (.ireturn, 1) := by decide +kernel
set_option maxRecDepth 20000 in
theorem ggX0_fillPot_X0_requireAmount : GoodIn wsX0_fillPot wsX0_requireAmount := goodIn_ca (goodIn_r _ [9, 10, 11] (by decide +kernel) (by decide +kernel)) (goodIn_sub (fun _ h => List.mem_cons_of_mem _ (List.mem_append_right _ h)) (by decide +kernel))
set_option maxRecDepth 20000 in
theorem gX0_fillPot_X0_requireAmount : GoodIn wsX0_fillPot (va_wsS RX0 48 yX0_requireAmount wsX0_requireAmount) := goodIn_app (goodIn_of _ (by decide +kernel)) ggX0_fillPot_X0_requireAmount
theorem dX0_fillPot_0 : decode cX0_fillPot 0 = .ok (.iload_n 1, 1) := by decide +kernel
theorem dX0_fillPot_1 : decode cX0_fillPot 1 = .ok (.ldc 52, 2) := by decide +kernel
theorem dX0_fillPot_3 : decode cX0_fillPot 3 = .ok (.invokestatic 48, 3) := by decide +kernel
theorem dX0_fillPot_6 : decode cX0_fillPot 6 = .ok (.aload_n 0, 1) := by decide +kernel
theorem dX0_fillPot_7 : decode cX0_fillPot 7 = .ok (.getfield 71, 3) := by decide +kernel
theorem dX0_fillPot_10 : decode cX0_fillPot 10 = .ok (.iload_n 1, 1) := by decide +kernel
theorem dX0_fillPot_11 : decode cX0_fillPot 11 = .ok (.iadd, 1) := by decide +kernel
theorem dX0_fillPot_12 : decode cX0_fillPot 12 = .ok (.ldc 75, 2) := by decide +kernel
theorem dX0_fillPot_14 : decode cX0_fillPot 14 = .ok (.if_icmp .le 13, 3) := by decide +kernel
theorem dX0_fillPot_17 : decode cX0_fillPot 17 = .ok (.new 53, 3) := by decide +kernel
theorem dX0_fillPot_20 : decode cX0_fillPot 20 = .ok (.dup, 1) := by decide +kernel
theorem dX0_fillPot_21 : decode cX0_fillPot 21 = .ok (.ldc 76, 2) := by decide +kernel
theorem dX0_fillPot_23 : decode cX0_fillPot 23 = .ok (.invokespecial 57, 3) := by decide +kernel
theorem dX0_fillPot_26 : decode cX0_fillPot 26 = .ok (.athrow, 1) := by decide +kernel
theorem dX0_fillPot_27 : decode cX0_fillPot 27 = .ok (.aload_n 0, 1) := by decide +kernel
theorem dX0_fillPot_28 : decode cX0_fillPot 28 = .ok (.dup, 1) := by decide +kernel
theorem dX0_fillPot_29 : decode cX0_fillPot 29 = .ok (.getfield 71, 3) := by decide +kernel
theorem dX0_fillPot_32 : decode cX0_fillPot 32 = .ok (.iload_n 1, 1) := by decide +kernel
theorem dX0_fillPot_33 : decode cX0_fillPot 33 = .ok (.iadd, 1) := by decide +kernel
theorem dX0_fillPot_34 : decode cX0_fillPot 34 = .ok (.putfield 71, 3) := by decide +kernel
theorem dX0_fillPot_37 : decode cX0_fillPot 37 = .ok (.aload_n 0, 1) := by decide +kernel
theorem dX0_fillPot_38 : decode cX0_fillPot 38 = .ok (.getfield 71, 3) := by decide +kernel
theorem dX0_fillPot_41 : decode cX0_fillPot 41 = .ok (.ireturn, 1) := by decide +kernel
theorem dX0_pot_0 : decode cX0_pot 0 = .ok (.aload_n 0, 1) := by decide +kernel
theorem dX0_pot_1 : decode cX0_pot 1 = .ok (.getfield 71, 3) := by decide +kernel
theorem dX0_pot_4 : decode cX0_pot 4 = .ok (.ireturn, 1) := by decide +kernel
set_option maxRecDepth 20000 in
theorem ggX0_addMilestone_X0_requireAmount : GoodIn wsX0_addMilestone wsX0_requireAmount := goodIn_ca (goodIn_r _ [9, 10, 11] (by decide +kernel) (by decide +kernel)) (goodIn_sub (fun _ h => List.mem_cons_of_mem _ (List.mem_append_right _ h)) (by decide +kernel))
set_option maxRecDepth 20000 in
theorem gX0_addMilestone_X0_requireAmount : GoodIn wsX0_addMilestone (va_wsS RX0 48 yX0_requireAmount wsX0_requireAmount) := goodIn_app (goodIn_of _ (by decide +kernel)) ggX0_addMilestone_X0_requireAmount
theorem dX0_addMilestone_0 : decode cX0_addMilestone 0 = .ok (.iload_n 1, 1) := by decide +kernel
theorem dX0_addMilestone_1 : decode cX0_addMilestone 1 = .ok (.ldc 52, 2) := by decide +kernel
theorem dX0_addMilestone_3 : decode cX0_addMilestone 3 = .ok (.invokestatic 48, 3) := by decide +kernel
theorem dX0_addMilestone_6 : decode cX0_addMilestone 6 = .ok (.aload_n 0, 1) := by decide +kernel
theorem dX0_addMilestone_7 : decode cX0_addMilestone 7 = .ok (.getfield 78, 3) := by decide +kernel
theorem dX0_addMilestone_10 : decode cX0_addMilestone 10 = .ok (.bipush 6, 2) := by decide +kernel
theorem dX0_addMilestone_12 : decode cX0_addMilestone 12 = .ok (.if_icmp .lt 13, 3) := by decide +kernel
theorem dX0_addMilestone_15 : decode cX0_addMilestone 15 = .ok (.new 53, 3) := by decide +kernel
theorem dX0_addMilestone_18 : decode cX0_addMilestone 18 = .ok (.dup, 1) := by decide +kernel
theorem dX0_addMilestone_19 : decode cX0_addMilestone 19 = .ok (.ldc 81, 2) := by decide +kernel
theorem dX0_addMilestone_21 : decode cX0_addMilestone 21 = .ok (.invokespecial 57, 3) := by decide +kernel
theorem dX0_addMilestone_24 : decode cX0_addMilestone 24 = .ok (.athrow, 1) := by decide +kernel
theorem dX0_addMilestone_25 : decode cX0_addMilestone 25 = .ok (.aload_n 0, 1) := by decide +kernel
theorem dX0_addMilestone_26 : decode cX0_addMilestone 26 = .ok (.getfield 31, 3) := by decide +kernel
theorem dX0_addMilestone_29 : decode cX0_addMilestone 29 = .ok (.aload_n 0, 1) := by decide +kernel
theorem dX0_addMilestone_30 : decode cX0_addMilestone 30 = .ok (.getfield 78, 3) := by decide +kernel
theorem dX0_addMilestone_33 : decode cX0_addMilestone 33 = .ok (.iload_n 1, 1) := by decide +kernel
theorem dX0_addMilestone_34 : decode cX0_addMilestone 34 = .ok (.iastore, 1) := by decide +kernel
theorem dX0_addMilestone_35 : decode cX0_addMilestone 35 = .ok (.aload_n 0, 1) := by decide +kernel
theorem dX0_addMilestone_36 : decode cX0_addMilestone 36 = .ok (.dup, 1) := by decide +kernel
theorem dX0_addMilestone_37 : decode cX0_addMilestone 37 = .ok (.getfield 78, 3) := by decide +kernel
theorem dX0_addMilestone_40 : decode cX0_addMilestone 40 = .ok (.iconst 1, 1) := by decide +kernel
theorem dX0_addMilestone_41 : decode cX0_addMilestone 41 = .ok (.iadd, 1) := by decide +kernel
theorem dX0_addMilestone_42 : decode cX0_addMilestone 42 = .ok (.putfield 78, 3) := by decide +kernel
theorem dX0_addMilestone_45 : decode cX0_addMilestone 45 = .ok (.aload_n 0, 1) := by decide +kernel
theorem dX0_addMilestone_46 : decode cX0_addMilestone 46 = .ok (.getfield 78, 3) := by decide +kernel
theorem dX0_addMilestone_49 : decode cX0_addMilestone 49 = .ok (.iconst 1, 1) := by decide +kernel
theorem dX0_addMilestone_50 : decode cX0_addMilestone 50 = .ok (.isub, 1) := by decide +kernel
theorem dX0_addMilestone_51 : decode cX0_addMilestone 51 = .ok (.ireturn, 1) := by decide +kernel
theorem dX0_prove_0 : decode cX0_prove 0 = .ok (.iload_n 1, 1) := by decide +kernel
theorem dX0_prove_1 : decode cX0_prove 1 = .ok (.ifCond .lt 11, 3) := by decide +kernel
theorem dX0_prove_4 : decode cX0_prove 4 = .ok (.iload_n 1, 1) := by decide +kernel
theorem dX0_prove_5 : decode cX0_prove 5 = .ok (.aload_n 0, 1) := by decide +kernel
theorem dX0_prove_6 : decode cX0_prove 6 = .ok (.getfield 78, 3) := by decide +kernel
theorem dX0_prove_9 : decode cX0_prove 9 = .ok (.if_icmp .lt 13, 3) := by decide +kernel
theorem dX0_prove_12 : decode cX0_prove 12 = .ok (.new 66, 3) := by decide +kernel
theorem dX0_prove_15 : decode cX0_prove 15 = .ok (.dup, 1) := by decide +kernel
theorem dX0_prove_16 : decode cX0_prove 16 = .ok (.ldc 83, 2) := by decide +kernel
theorem dX0_prove_18 : decode cX0_prove 18 = .ok (.invokespecial 70, 3) := by decide +kernel
theorem dX0_prove_21 : decode cX0_prove 21 = .ok (.athrow, 1) := by decide +kernel
theorem dX0_prove_22 : decode cX0_prove 22 = .ok (.iload_n 1, 1) := by decide +kernel
theorem dX0_prove_23 : decode cX0_prove 23 = .ok (.aload_n 0, 1) := by decide +kernel
theorem dX0_prove_24 : decode cX0_prove 24 = .ok (.getfield 85, 3) := by decide +kernel
theorem dX0_prove_27 : decode cX0_prove 27 = .ok (.if_icmp .ge 13, 3) := by decide +kernel
theorem dX0_prove_30 : decode cX0_prove 30 = .ok (.new 53, 3) := by decide +kernel
theorem dX0_prove_33 : decode cX0_prove 33 = .ok (.dup, 1) := by decide +kernel
theorem dX0_prove_34 : decode cX0_prove 34 = .ok (.ldc 88, 2) := by decide +kernel
theorem dX0_prove_36 : decode cX0_prove 36 = .ok (.invokespecial 57, 3) := by decide +kernel
theorem dX0_prove_39 : decode cX0_prove 39 = .ok (.athrow, 1) := by decide +kernel
theorem dX0_prove_40 : decode cX0_prove 40 = .ok (.aload_n 0, 1) := by decide +kernel
theorem dX0_prove_41 : decode cX0_prove 41 = .ok (.getfield 34, 3) := by decide +kernel
theorem dX0_prove_44 : decode cX0_prove 44 = .ok (.iload_n 1, 1) := by decide +kernel
theorem dX0_prove_45 : decode cX0_prove 45 = .ok (.aload_n 0, 1) := by decide +kernel
theorem dX0_prove_46 : decode cX0_prove 46 = .ok (.getfield 34, 3) := by decide +kernel
theorem dX0_prove_49 : decode cX0_prove 49 = .ok (.iload_n 1, 1) := by decide +kernel
theorem dX0_prove_50 : decode cX0_prove 50 = .ok (.baload, 1) := by decide +kernel
theorem dX0_prove_51 : decode cX0_prove 51 = .ok (.ifCond .ne 7, 3) := by decide +kernel
theorem dX0_prove_54 : decode cX0_prove 54 = .ok (.iconst 1, 1) := by decide +kernel
theorem dX0_prove_55 : decode cX0_prove 55 = .ok (.goto 4, 3) := by decide +kernel
theorem dX0_prove_58 : decode cX0_prove 58 = .ok (.iconst 0, 1) := by decide +kernel
theorem dX0_prove_59 : decode cX0_prove 59 = .ok (.bastore, 1) := by decide +kernel
theorem dX0_prove_60 : decode cX0_prove 60 = .ok (.aload_n 0, 1) := by decide +kernel
theorem dX0_prove_61 : decode cX0_prove 61 = .ok (.getfield 34, 3) := by decide +kernel
theorem dX0_prove_64 : decode cX0_prove 64 = .ok (.iload_n 1, 1) := by decide +kernel
theorem dX0_prove_65 : decode cX0_prove 65 = .ok (.baload, 1) := by decide +kernel
theorem dX0_prove_66 : decode cX0_prove 66 = .ok (.ireturn, 1) := by decide +kernel
theorem dX0_current_0 : decode cX0_current 0 = .ok (.aload_n 0, 1) := by decide +kernel
theorem dX0_current_1 : decode cX0_current 1 = .ok (.getfield 85, 3) := by decide +kernel
theorem dX0_current_4 : decode cX0_current 4 = .ok (.aload_n 0, 1) := by decide +kernel
theorem dX0_current_5 : decode cX0_current 5 = .ok (.getfield 78, 3) := by decide +kernel
theorem dX0_current_8 : decode cX0_current 8 = .ok (.if_icmp .ge 10, 3) := by decide +kernel
theorem dX0_current_11 : decode cX0_current 11 = .ok (.aload_n 0, 1) := by decide +kernel
theorem dX0_current_12 : decode cX0_current 12 = .ok (.getfield 85, 3) := by decide +kernel
theorem dX0_current_15 : decode cX0_current 15 = .ok (.goto 4, 3) := by decide +kernel
theorem dX0_current_18 : decode cX0_current 18 = .ok (.iconst (-1), 1) := by decide +kernel
theorem dX0_current_19 : decode cX0_current 19 = .ok (.ireturn, 1) := by decide +kernel
set_option maxRecDepth 20000 in
theorem ggX0_vote_X0_requireGiver : GoodIn wsX0_vote wsX0_requireGiver := goodIn_ca (goodIn_r _ [9, 10, 11, 12, 13, 8, 14] (by decide +kernel) (by decide +kernel)) (goodIn_sub (fun _ h => List.mem_cons_of_mem _ (List.mem_append_right _ h)) (by decide +kernel))
set_option maxRecDepth 20000 in
theorem gX0_vote_X0_requireGiver : GoodIn wsX0_vote (va_wsS RX0 44 yX0_requireGiver wsX0_requireGiver) := goodIn_app (goodIn_of _ (by decide +kernel)) ggX0_vote_X0_requireGiver
set_option maxRecDepth 20000 in
theorem ggX0_vote_X0_current : GoodIn wsX0_vote wsX0_current := goodIn_r _ [18, 19, 20, 21, 22, 23, 24, 25, 26, 27, 28, 29, 30, 31, 32, 33, 34, 35] (by decide +kernel) (by decide +kernel)
set_option maxRecDepth 20000 in
theorem gX0_vote_X0_current : GoodIn wsX0_vote (wsV RX0 95 RX0 yX0_current wsX0_current) := goodIn_app (goodIn_of _ (by decide +kernel)) ggX0_vote_X0_current
theorem dX0_vote_0 : decode cX0_vote 0 = .ok (.iload_n 1, 1) := by decide +kernel
theorem dX0_vote_1 : decode cX0_vote 1 = .ok (.invokestatic 44, 3) := by decide +kernel
theorem dX0_vote_4 : decode cX0_vote 4 = .ok (.iload_n 2, 1) := by decide +kernel
theorem dX0_vote_5 : decode cX0_vote 5 = .ok (.ifCond .eq 23, 3) := by decide +kernel
theorem dX0_vote_8 : decode cX0_vote 8 = .ok (.iload_n 2, 1) := by decide +kernel
theorem dX0_vote_9 : decode cX0_vote 9 = .ok (.iconst 1, 1) := by decide +kernel
theorem dX0_vote_10 : decode cX0_vote 10 = .ok (.if_icmp .eq 18, 3) := by decide +kernel
theorem dX0_vote_13 : decode cX0_vote 13 = .ok (.iload_n 2, 1) := by decide +kernel
theorem dX0_vote_14 : decode cX0_vote 14 = .ok (.iconst 2, 1) := by decide +kernel
theorem dX0_vote_15 : decode cX0_vote 15 = .ok (.if_icmp .eq 13, 3) := by decide +kernel
theorem dX0_vote_18 : decode cX0_vote 18 = .ok (.new 90, 3) := by decide +kernel
theorem dX0_vote_21 : decode cX0_vote 21 = .ok (.dup, 1) := by decide +kernel
theorem dX0_vote_22 : decode cX0_vote 22 = .ok (.ldc 92, 2) := by decide +kernel
theorem dX0_vote_24 : decode cX0_vote 24 = .ok (.invokespecial 94, 3) := by decide +kernel
theorem dX0_vote_27 : decode cX0_vote 27 = .ok (.athrow, 1) := by decide +kernel
theorem dX0_vote_28 : decode cX0_vote 28 = .ok (.aload_n 0, 1) := by decide +kernel
theorem dX0_vote_29 : decode cX0_vote 29 = .ok (.invokevirtual 95, 3) := by decide +kernel
theorem dX0_vote_32 : decode cX0_vote 32 = .ok (.iconst (-1), 1) := by decide +kernel
theorem dX0_vote_33 : decode cX0_vote 33 = .ok (.if_icmp .ne 13, 3) := by decide +kernel
theorem dX0_vote_36 : decode cX0_vote 36 = .ok (.new 53, 3) := by decide +kernel
theorem dX0_vote_39 : decode cX0_vote 39 = .ok (.dup, 1) := by decide +kernel
theorem dX0_vote_40 : decode cX0_vote 40 = .ok (.ldc 99, 2) := by decide +kernel
theorem dX0_vote_42 : decode cX0_vote 42 = .ok (.invokespecial 57, 3) := by decide +kernel
theorem dX0_vote_45 : decode cX0_vote 45 = .ok (.athrow, 1) := by decide +kernel
theorem dX0_vote_46 : decode cX0_vote 46 = .ok (.aload_n 0, 1) := by decide +kernel
theorem dX0_vote_47 : decode cX0_vote 47 = .ok (.getfield 28, 3) := by decide +kernel
theorem dX0_vote_50 : decode cX0_vote 50 = .ok (.iload_n 1, 1) := by decide +kernel
theorem dX0_vote_51 : decode cX0_vote 51 = .ok (.iaload, 1) := by decide +kernel
theorem dX0_vote_52 : decode cX0_vote 52 = .ok (.istore_n 3, 1) := by decide +kernel
theorem dX0_vote_53 : decode cX0_vote 53 = .ok (.aload_n 0, 1) := by decide +kernel
theorem dX0_vote_54 : decode cX0_vote 54 = .ok (.getfield 28, 3) := by decide +kernel
theorem dX0_vote_57 : decode cX0_vote 57 = .ok (.iload_n 1, 1) := by decide +kernel
theorem dX0_vote_58 : decode cX0_vote 58 = .ok (.iload_n 2, 1) := by decide +kernel
theorem dX0_vote_59 : decode cX0_vote 59 = .ok (.iastore, 1) := by decide +kernel
theorem dX0_vote_60 : decode cX0_vote 60 = .ok (.iload_n 3, 1) := by decide +kernel
theorem dX0_vote_61 : decode cX0_vote 61 = .ok (.ireturn, 1) := by decide +kernel
set_option maxRecDepth 20000 in
theorem ggX0_speaker_X0_requireGiver : GoodIn wsX0_speaker wsX0_requireGiver := goodIn_ca (goodIn_r _ [4, 5, 6, 7, 8, 3, 9] (by decide +kernel) (by decide +kernel)) (goodIn_sub (fun _ h => List.mem_cons_of_mem _ (List.mem_append_right _ h)) (by decide +kernel))
set_option maxRecDepth 20000 in
theorem gX0_speaker_X0_requireGiver : GoodIn wsX0_speaker (va_wsS RX0 44 yX0_requireGiver wsX0_requireGiver) := goodIn_app (goodIn_of _ (by decide +kernel)) ggX0_speaker_X0_requireGiver
set_option maxRecDepth 20000 in
theorem ggX0_speaker_X0_firstVoterFrom : GoodIn wsX0_speaker wsX0_firstVoterFrom := goodIn_r _ [13, 14, 15, 7, 8, 3, 9, 16, 17, 18, 19, 20, 21, 22, 23, 24, 25, 26, 27, 28, 29, 30] (by decide +kernel) (by decide +kernel)
set_option maxRecDepth 20000 in
theorem gX0_speaker_X0_firstVoterFrom : GoodIn wsX0_speaker (wsV RX0 101 RX0 yX0_firstVoterFrom wsX0_firstVoterFrom) := goodIn_app (goodIn_of _ (by decide +kernel)) ggX0_speaker_X0_firstVoterFrom
theorem dX0_speaker_0 : decode cX0_speaker 0 = .ok (.iload_n 1, 1) := by decide +kernel
theorem dX0_speaker_1 : decode cX0_speaker 1 = .ok (.invokestatic 44, 3) := by decide +kernel
theorem dX0_speaker_4 : decode cX0_speaker 4 = .ok (.aload_n 0, 1) := by decide +kernel
theorem dX0_speaker_5 : decode cX0_speaker 5 = .ok (.iload_n 1, 1) := by decide +kernel
theorem dX0_speaker_6 : decode cX0_speaker 6 = .ok (.invokevirtual 101, 3) := by decide +kernel
theorem dX0_speaker_9 : decode cX0_speaker 9 = .ok (.ireturn, 1) := by decide +kernel
set_option maxRecDepth 20000 in
theorem ggX0_weight_X0_heardVote : GoodIn wsX0_weight wsX0_heardVote := goodIn_r _ [8, 9, 10, 11, 12, 7, 13, 14, 15, 16, 17, 18, 19, 20, 21, 22, 23, 24, 25, 26, 27, 28, 29, 30, 31, 32] (by decide +kernel) (by decide +kernel)
set_option maxRecDepth 20000 in
theorem gX0_weight_X0_heardVote : GoodIn wsX0_weight (wsV RX0 107 RX0 yX0_heardVote wsX0_heardVote) := goodIn_app (goodIn_of _ (by decide +kernel)) ggX0_weight_X0_heardVote
theorem dX0_weight_0 : decode cX0_weight 0 = .ok (.iload_n 1, 1) := by decide +kernel
theorem dX0_weight_1 : decode cX0_weight 1 = .ok (.iconst 1, 1) := by decide +kernel
theorem dX0_weight_2 : decode cX0_weight 2 = .ok (.if_icmp .eq 18, 3) := by decide +kernel
theorem dX0_weight_5 : decode cX0_weight 5 = .ok (.iload_n 1, 1) := by decide +kernel
theorem dX0_weight_6 : decode cX0_weight 6 = .ok (.iconst 2, 1) := by decide +kernel
theorem dX0_weight_7 : decode cX0_weight 7 = .ok (.if_icmp .eq 13, 3) := by decide +kernel
theorem dX0_weight_10 : decode cX0_weight 10 = .ok (.new 90, 3) := by decide +kernel
theorem dX0_weight_13 : decode cX0_weight 13 = .ok (.dup, 1) := by decide +kernel
theorem dX0_weight_14 : decode cX0_weight 14 = .ok (.ldc 105, 2) := by decide +kernel
theorem dX0_weight_16 : decode cX0_weight 16 = .ok (.invokespecial 94, 3) := by decide +kernel
theorem dX0_weight_19 : decode cX0_weight 19 = .ok (.athrow, 1) := by decide +kernel
theorem dX0_weight_20 : decode cX0_weight 20 = .ok (.iconst 0, 1) := by decide +kernel
theorem dX0_weight_21 : decode cX0_weight 21 = .ok (.istore_n 2, 1) := by decide +kernel
theorem dX0_weight_22 : decode cX0_weight 22 = .ok (.iconst 0, 1) := by decide +kernel
theorem dX0_weight_23 : decode cX0_weight 23 = .ok (.istore_n 3, 1) := by decide +kernel
theorem dX0_weight_24 : decode cX0_weight 24 = .ok (.iload_n 3, 1) := by decide +kernel
theorem dX0_weight_25 : decode cX0_weight 25 = .ok (.bipush 8, 2) := by decide +kernel
theorem dX0_weight_27 : decode cX0_weight 27 = .ok (.if_icmp .ge 27, 3) := by decide +kernel
theorem dX0_weight_30 : decode cX0_weight 30 = .ok (.aload_n 0, 1) := by decide +kernel
theorem dX0_weight_31 : decode cX0_weight 31 = .ok (.iload_n 3, 1) := by decide +kernel
theorem dX0_weight_32 : decode cX0_weight 32 = .ok (.invokevirtual 107, 3) := by decide +kernel
theorem dX0_weight_35 : decode cX0_weight 35 = .ok (.iload_n 1, 1) := by decide +kernel
theorem dX0_weight_36 : decode cX0_weight 36 = .ok (.if_icmp .ne 12, 3) := by decide +kernel
theorem dX0_weight_39 : decode cX0_weight 39 = .ok (.iload_n 2, 1) := by decide +kernel
theorem dX0_weight_40 : decode cX0_weight 40 = .ok (.aload_n 0, 1) := by decide +kernel
theorem dX0_weight_41 : decode cX0_weight 41 = .ok (.getfield 9, 3) := by decide +kernel
theorem dX0_weight_44 : decode cX0_weight 44 = .ok (.iload_n 3, 1) := by decide +kernel
theorem dX0_weight_45 : decode cX0_weight 45 = .ok (.iaload, 1) := by decide +kernel
theorem dX0_weight_46 : decode cX0_weight 46 = .ok (.iadd, 1) := by decide +kernel
theorem dX0_weight_47 : decode cX0_weight 47 = .ok (.istore_n 2, 1) := by decide +kernel
theorem dX0_weight_48 : decode cX0_weight 48 = .ok (.iinc 3 1, 3) := by decide +kernel
theorem dX0_weight_51 : decode cX0_weight 51 = .ok (.goto (-27), 3) := by decide +kernel
theorem dX0_weight_54 : decode cX0_weight 54 = .ok (.iload_n 2, 1) := by decide +kernel
theorem dX0_weight_55 : decode cX0_weight 55 = .ok (.ireturn, 1) := by decide +kernel
set_option maxRecDepth 20000 in
theorem ggX0_share_X0_requireGiver : GoodIn wsX0_share wsX0_requireGiver := goodIn_ca (goodIn_r _ [7, 8, 9, 10, 11, 6, 12] (by decide +kernel) (by decide +kernel)) (goodIn_sub (fun _ h => List.mem_cons_of_mem _ (List.mem_append_left _ (List.mem_append_right _ h))) (by decide +kernel))
set_option maxRecDepth 20000 in
theorem gX0_share_X0_requireGiver : GoodIn wsX0_share (va_wsS RX0 44 yX0_requireGiver wsX0_requireGiver) := goodIn_app (goodIn_of _ (by decide +kernel)) ggX0_share_X0_requireGiver
set_option maxRecDepth 20000 in
theorem ggX0_share_X0_requireCovered : GoodIn wsX0_share wsX0_requireCovered := goodIn_ca (goodIn_r _ [16, 17, 18, 19, 20, 21, 6, 22, 2, 1, 23, 24, 25, 26, 27, 28, 29, 30, 31, 32, 40, 41, 42, 43, 44, 45, 46, 47, 48, 49, 50, 51, 52, 53, 54] (by decide +kernel) (by decide +kernel)) (goodIn_sub (fun _ h => List.mem_cons_of_mem _ (List.mem_append_right _ h)) (by decide +kernel))
set_option maxRecDepth 20000 in
theorem gX0_share_X0_requireCovered : GoodIn wsX0_share (wsV RX0 110 RX0 yX0_requireCovered wsX0_requireCovered) := goodIn_app (goodIn_of _ (by decide +kernel)) ggX0_share_X0_requireCovered
set_option maxRecDepth 20000 in
theorem ggX0_share_X0_findShares : GoodIn wsX0_share wsX0_findShares := goodIn_r _ [36, 3, 32, 28, 29, 30, 6, 31, 37, 38, 39, 40, 41, 42, 43, 44, 45, 46, 47, 48, 49, 50, 51, 52, 53, 54] (by decide +kernel) (by decide +kernel)
set_option maxRecDepth 20000 in
theorem gX0_share_X0_findShares : GoodIn wsX0_share (wsV RX0 113 RX0 yX0_findShares wsX0_findShares) := goodIn_app (goodIn_of _ (by decide +kernel)) ggX0_share_X0_findShares
theorem dX0_share_0 : decode cX0_share 0 = .ok (.iload_n 1, 1) := by decide +kernel
theorem dX0_share_1 : decode cX0_share 1 = .ok (.invokestatic 44, 3) := by decide +kernel
theorem dX0_share_4 : decode cX0_share 4 = .ok (.aload_n 0, 1) := by decide +kernel
theorem dX0_share_5 : decode cX0_share 5 = .ok (.invokevirtual 110, 3) := by decide +kernel
theorem dX0_share_8 : decode cX0_share 8 = .ok (.aload_n 0, 1) := by decide +kernel
theorem dX0_share_9 : decode cX0_share 9 = .ok (.aload_n 0, 1) := by decide +kernel
theorem dX0_share_10 : decode cX0_share 10 = .ok (.getfield 31, 3) := by decide +kernel
theorem dX0_share_13 : decode cX0_share 13 = .ok (.aload_n 0, 1) := by decide +kernel
theorem dX0_share_14 : decode cX0_share 14 = .ok (.getfield 85, 3) := by decide +kernel
theorem dX0_share_17 : decode cX0_share 17 = .ok (.iaload, 1) := by decide +kernel
theorem dX0_share_18 : decode cX0_share 18 = .ok (.invokevirtual 113, 3) := by decide +kernel
theorem dX0_share_21 : decode cX0_share 21 = .ok (.aload_n 0, 1) := by decide +kernel
theorem dX0_share_22 : decode cX0_share 22 = .ok (.getfield 38, 3) := by decide +kernel
theorem dX0_share_25 : decode cX0_share 25 = .ok (.iload_n 1, 1) := by decide +kernel
theorem dX0_share_26 : decode cX0_share 26 = .ok (.iaload, 1) := by decide +kernel
theorem dX0_share_27 : decode cX0_share 27 = .ok (.ireturn, 1) := by decide +kernel
set_option maxRecDepth 20000 in
theorem ggX0_match_X0_requireCovered : GoodIn wsX0_match wsX0_requireCovered := goodIn_ca (goodIn_r _ [5, 6, 7, 8, 9, 10, 4, 11, 12, 13, 14, 15, 16, 17, 18, 19, 20, 21, 22, 23, 65, 66, 67, 68, 69, 70, 71, 72, 73, 74, 75, 76, 77, 78, 79] (by decide +kernel) (by decide +kernel)) (goodIn_sub (fun _ h => List.mem_cons_of_mem _ (List.mem_append_right _ h)) (by decide +kernel))
set_option maxRecDepth 20000 in
theorem gX0_match_X0_requireCovered : GoodIn wsX0_match (wsV RX0 110 RX0 yX0_requireCovered wsX0_requireCovered) := goodIn_app (goodIn_of _ (by decide +kernel)) ggX0_match_X0_requireCovered
set_option maxRecDepth 20000 in
theorem ggX0_match_X0_currentMatch : GoodIn wsX0_match wsX0_currentMatch := goodIn_r _ [27, 13, 12, 28, 29, 30, 4, 31, 32, 23, 19, 20, 21, 22, 33, 34, 35, 36, 37, 38, 39, 40, 41, 42, 43, 44, 45, 46, 47, 48, 49, 50, 51, 52, 53, 54, 55, 56, 57, 58, 59, 60, 61, 62, 63, 64, 65, 66, 67, 68, 69, 70, 71, 72, 73, 74, 75, 76, 77, 78, 79] (by decide +kernel) (by decide +kernel)
set_option maxRecDepth 20000 in
theorem gX0_match_X0_currentMatch : GoodIn wsX0_match (wsV RX0 116 RX0 yX0_currentMatch wsX0_currentMatch) := goodIn_app (goodIn_of _ (by decide +kernel)) ggX0_match_X0_currentMatch
theorem dX0_match_0 : decode cX0_match 0 = .ok (.aload_n 0, 1) := by decide +kernel
theorem dX0_match_1 : decode cX0_match 1 = .ok (.invokevirtual 110, 3) := by decide +kernel
theorem dX0_match_4 : decode cX0_match 4 = .ok (.aload_n 0, 1) := by decide +kernel
theorem dX0_match_5 : decode cX0_match 5 = .ok (.invokevirtual 116, 3) := by decide +kernel
theorem dX0_match_8 : decode cX0_match 8 = .ok (.ireturn, 1) := by decide +kernel
set_option maxRecDepth 20000 in
theorem ggX0_matchByPairs_X0_requireCovered : GoodIn wsX0_matchByPairs wsX0_requireCovered := goodIn_ca (goodIn_r _ [7, 8, 9, 10, 11, 12, 6, 13, 2, 1, 14, 15, 16, 17, 18, 19, 20, 21, 22, 23, 61, 62, 63, 64, 65, 66, 67, 68, 69, 70, 71, 72, 73, 74, 75] (by decide +kernel) (by decide +kernel)) (goodIn_sub (fun _ h => List.mem_cons_of_mem _ (List.mem_append_right _ h)) (by decide +kernel))
set_option maxRecDepth 20000 in
theorem gX0_matchByPairs_X0_requireCovered : GoodIn wsX0_matchByPairs (wsV RX0 110 RX0 yX0_requireCovered wsX0_requireCovered) := goodIn_app (goodIn_of _ (by decide +kernel)) ggX0_matchByPairs_X0_requireCovered
set_option maxRecDepth 20000 in
theorem ggX0_matchByPairs_X0_findShares : GoodIn wsX0_matchByPairs wsX0_findShares := goodIn_r _ [27, 28, 23, 19, 20, 21, 6, 22, 29, 30, 31, 61, 62, 63, 64, 65, 66, 67, 68, 69, 70, 71, 72, 73, 74, 75] (by decide +kernel) (by decide +kernel)
set_option maxRecDepth 20000 in
theorem gX0_matchByPairs_X0_findShares : GoodIn wsX0_matchByPairs (wsV RX0 113 RX0 yX0_findShares wsX0_findShares) := goodIn_app (goodIn_of _ (by decide +kernel)) ggX0_matchByPairs_X0_findShares
set_option maxRecDepth 20000 in
theorem ggX0_matchByPairs_X0_findRoots : GoodIn wsX0_matchByPairs wsX0_findRoots := goodIn_r _ [35, 36, 37, 38, 39, 6, 40, 41, 28, 42, 43, 44, 61, 62, 63, 64, 65, 66, 67, 68, 69, 70, 71, 72, 73, 74, 75] (by decide +kernel) (by decide +kernel)
set_option maxRecDepth 20000 in
theorem gX0_matchByPairs_X0_findRoots : GoodIn wsX0_matchByPairs (wsV RX0 119 RX0 yX0_findRoots wsX0_findRoots) := goodIn_app (goodIn_of _ (by decide +kernel)) ggX0_matchByPairs_X0_findRoots
set_option maxRecDepth 20000 in
theorem ggX0_matchByPairs_X0_squareByPairs : GoodIn wsX0_matchByPairs wsX0_squareByPairs := goodIn_r _ [48, 36, 61, 62, 63, 64, 65, 66, 67, 68, 69, 70, 71, 72, 73, 74, 75] (by decide +kernel) (by decide +kernel)
set_option maxRecDepth 20000 in
theorem gX0_matchByPairs_X0_squareByPairs : GoodIn wsX0_matchByPairs (wsV RX0 122 RX0 yX0_squareByPairs wsX0_squareByPairs) := goodIn_app (goodIn_of _ (by decide +kernel)) ggX0_matchByPairs_X0_squareByPairs
set_option maxRecDepth 20000 in
theorem ggX0_matchByPairs_X0_withinPot : GoodIn wsX0_matchByPairs wsX0_withinPot := goodIn_r _ [52, 53, 54, 55, 56, 57, 58, 59, 60, 61, 62, 63, 64, 65, 66, 67, 68, 69, 70, 71, 72, 73, 74, 75] (by decide +kernel) (by decide +kernel)
set_option maxRecDepth 20000 in
theorem gX0_matchByPairs_X0_withinPot : GoodIn wsX0_matchByPairs (wsV RX0 125 RX0 yX0_withinPot wsX0_withinPot) := goodIn_app (goodIn_of _ (by decide +kernel)) ggX0_matchByPairs_X0_withinPot
theorem dX0_matchByPairs_0 : decode cX0_matchByPairs 0 = .ok (.aload_n 0, 1) := by decide +kernel
theorem dX0_matchByPairs_1 : decode cX0_matchByPairs 1 = .ok (.invokevirtual 110, 3) := by decide +kernel
theorem dX0_matchByPairs_4 : decode cX0_matchByPairs 4 = .ok (.aload_n 0, 1) := by decide +kernel
theorem dX0_matchByPairs_5 : decode cX0_matchByPairs 5 = .ok (.getfield 31, 3) := by decide +kernel
theorem dX0_matchByPairs_8 : decode cX0_matchByPairs 8 = .ok (.aload_n 0, 1) := by decide +kernel
theorem dX0_matchByPairs_9 : decode cX0_matchByPairs 9 = .ok (.getfield 85, 3) := by decide +kernel
theorem dX0_matchByPairs_12 : decode cX0_matchByPairs 12 = .ok (.iaload, 1) := by decide +kernel
theorem dX0_matchByPairs_13 : decode cX0_matchByPairs 13 = .ok (.istore_n 1, 1) := by decide +kernel
theorem dX0_matchByPairs_14 : decode cX0_matchByPairs 14 = .ok (.aload_n 0, 1) := by decide +kernel
theorem dX0_matchByPairs_15 : decode cX0_matchByPairs 15 = .ok (.iload_n 1, 1) := by decide +kernel
theorem dX0_matchByPairs_16 : decode cX0_matchByPairs 16 = .ok (.invokevirtual 113, 3) := by decide +kernel
theorem dX0_matchByPairs_19 : decode cX0_matchByPairs 19 = .ok (.aload_n 0, 1) := by decide +kernel
theorem dX0_matchByPairs_20 : decode cX0_matchByPairs 20 = .ok (.invokevirtual 119, 3) := by decide +kernel
theorem dX0_matchByPairs_23 : decode cX0_matchByPairs 23 = .ok (.aload_n 0, 1) := by decide +kernel
theorem dX0_matchByPairs_24 : decode cX0_matchByPairs 24 = .ok (.aload_n 0, 1) := by decide +kernel
theorem dX0_matchByPairs_25 : decode cX0_matchByPairs 25 = .ok (.invokevirtual 122, 3) := by decide +kernel
theorem dX0_matchByPairs_28 : decode cX0_matchByPairs 28 = .ok (.iload_n 1, 1) := by decide +kernel
theorem dX0_matchByPairs_29 : decode cX0_matchByPairs 29 = .ok (.isub, 1) := by decide +kernel
theorem dX0_matchByPairs_30 : decode cX0_matchByPairs 30 = .ok (.invokevirtual 125, 3) := by decide +kernel
theorem dX0_matchByPairs_33 : decode cX0_matchByPairs 33 = .ok (.ireturn, 1) := by decide +kernel
set_option maxRecDepth 20000 in
theorem ggX0_release_X0_isCovered : GoodIn wsX0_release wsX0_isCovered := goodIn_r _ [12, 4, 5, 13, 14, 15, 11, 16, 17, 18, 19, 20, 21, 22, 91, 92, 93, 94, 95, 96, 97, 98, 99, 100, 101, 102, 103, 104, 105] (by decide +kernel) (by decide +kernel)
set_option maxRecDepth 20000 in
theorem gX0_release_X0_isCovered : GoodIn wsX0_release (wsV RX0 128 RX0 yX0_isCovered wsX0_isCovered) := goodIn_app (goodIn_of _ (by decide +kernel)) ggX0_release_X0_isCovered
set_option maxRecDepth 20000 in
theorem ggX0_release_X0_weight : GoodIn wsX0_release wsX0_weight := goodIn_ca (goodIn_r _ [26, 27, 28, 22, 29, 30, 31, 11, 32, 33, 34, 35, 36, 37, 38, 39, 40, 41, 91, 92, 93, 94, 95, 96, 97, 98, 99, 100, 101, 102, 103, 104, 105] (by decide +kernel) (by decide +kernel)) (goodIn_sub (fun _ h => List.mem_cons_of_mem _ (List.mem_append_right _ h)) (by decide +kernel))
set_option maxRecDepth 20000 in
theorem gX0_release_X0_weight : GoodIn wsX0_release (wsV RX0 134 RX0 yX0_weight wsX0_weight) := goodIn_app (goodIn_of _ (by decide +kernel)) ggX0_release_X0_weight
set_option maxRecDepth 20000 in
theorem ggX0_release_X0_total : GoodIn wsX0_release wsX0_total := goodIn_r _ [21, 22, 91, 92, 93, 94, 95, 96, 97, 98, 99, 100, 101, 102, 103, 104, 105] (by decide +kernel) (by decide +kernel)
set_option maxRecDepth 20000 in
theorem gX0_release_X0_total : GoodIn wsX0_release (wsV RX0 137 RX0 yX0_total wsX0_total) := goodIn_app (goodIn_of _ (by decide +kernel)) ggX0_release_X0_total
set_option maxRecDepth 20000 in
theorem ggX0_release_X0_currentMatch : GoodIn wsX0_release wsX0_currentMatch := goodIn_r _ [45, 5, 4, 46, 47, 48, 11, 49, 50, 22, 18, 19, 20, 21, 51, 52, 53, 54, 55, 56, 57, 58, 59, 60, 61, 62, 63, 64, 65, 66, 67, 68, 69, 70, 71, 72, 73, 74, 75, 76, 77, 78, 6, 79, 80, 81, 91, 92, 93, 94, 95, 96, 97, 98, 99, 100, 101, 102, 103, 104, 105] (by decide +kernel) (by decide +kernel)
set_option maxRecDepth 20000 in
theorem gX0_release_X0_currentMatch : GoodIn wsX0_release (wsV RX0 116 RX0 yX0_currentMatch wsX0_currentMatch) := goodIn_app (goodIn_of _ (by decide +kernel)) ggX0_release_X0_currentMatch
set_option maxRecDepth 20000 in
theorem ggX0_release_X0_payShares : GoodIn wsX0_release wsX0_payShares := goodIn_r _ [85, 22, 50, 86, 91, 92, 93, 94, 95, 96, 97, 98, 99, 100, 101, 102, 103, 104, 105] (by decide +kernel) (by decide +kernel)
set_option maxRecDepth 20000 in
theorem gX0_release_X0_payShares : GoodIn wsX0_release (wsV RX0 142 RX0 yX0_payShares wsX0_payShares) := goodIn_app (goodIn_of _ (by decide +kernel)) ggX0_release_X0_payShares
set_option maxRecDepth 20000 in
theorem ggX0_release_X0_clearVotes : GoodIn wsX0_release wsX0_clearVotes := goodIn_r _ [90, 33, 91, 92, 93, 94, 95, 96, 97, 98, 99, 100, 101, 102, 103, 104, 105] (by decide +kernel) (by decide +kernel)
set_option maxRecDepth 20000 in
theorem gX0_release_X0_clearVotes : GoodIn wsX0_release (wsV RX0 148 RX0 yX0_clearVotes wsX0_clearVotes) := goodIn_app (goodIn_of _ (by decide +kernel)) ggX0_release_X0_clearVotes
theorem dX0_release_0 : decode cX0_release 0 = .ok (.aload_n 0, 1) := by decide +kernel
theorem dX0_release_1 : decode cX0_release 1 = .ok (.invokevirtual 128, 3) := by decide +kernel
theorem dX0_release_4 : decode cX0_release 4 = .ok (.ifCond .eq 15, 3) := by decide +kernel
theorem dX0_release_7 : decode cX0_release 7 = .ok (.aload_n 0, 1) := by decide +kernel
theorem dX0_release_8 : decode cX0_release 8 = .ok (.getfield 34, 3) := by decide +kernel
theorem dX0_release_11 : decode cX0_release 11 = .ok (.aload_n 0, 1) := by decide +kernel
theorem dX0_release_12 : decode cX0_release 12 = .ok (.getfield 85, 3) := by decide +kernel
theorem dX0_release_15 : decode cX0_release 15 = .ok (.baload, 1) := by decide +kernel
theorem dX0_release_16 : decode cX0_release 16 = .ok (.ifCond .ne 13, 3) := by decide +kernel
theorem dX0_release_19 : decode cX0_release 19 = .ok (.new 53, 3) := by decide +kernel
theorem dX0_release_22 : decode cX0_release 22 = .ok (.dup, 1) := by decide +kernel
theorem dX0_release_23 : decode cX0_release 23 = .ok (.ldc 132, 2) := by decide +kernel
theorem dX0_release_25 : decode cX0_release 25 = .ok (.invokespecial 57, 3) := by decide +kernel
theorem dX0_release_28 : decode cX0_release 28 = .ok (.athrow, 1) := by decide +kernel
theorem dX0_release_29 : decode cX0_release 29 = .ok (.iconst 2, 1) := by decide +kernel
theorem dX0_release_30 : decode cX0_release 30 = .ok (.aload_n 0, 1) := by decide +kernel
theorem dX0_release_31 : decode cX0_release 31 = .ok (.iconst 1, 1) := by decide +kernel
theorem dX0_release_32 : decode cX0_release 32 = .ok (.invokevirtual 134, 3) := by decide +kernel
theorem dX0_release_35 : decode cX0_release 35 = .ok (.imul, 1) := by decide +kernel
theorem dX0_release_36 : decode cX0_release 36 = .ok (.aload_n 0, 1) := by decide +kernel
theorem dX0_release_37 : decode cX0_release 37 = .ok (.invokevirtual 137, 3) := by decide +kernel
theorem dX0_release_40 : decode cX0_release 40 = .ok (.if_icmp .gt 13, 3) := by decide +kernel
theorem dX0_release_43 : decode cX0_release 43 = .ok (.new 53, 3) := by decide +kernel
theorem dX0_release_46 : decode cX0_release 46 = .ok (.dup, 1) := by decide +kernel
theorem dX0_release_47 : decode cX0_release 47 = .ok (.ldc 140, 2) := by decide +kernel
theorem dX0_release_49 : decode cX0_release 49 = .ok (.invokespecial 57, 3) := by decide +kernel
theorem dX0_release_52 : decode cX0_release 52 = .ok (.athrow, 1) := by decide +kernel
theorem dX0_release_53 : decode cX0_release 53 = .ok (.aload_n 0, 1) := by decide +kernel
theorem dX0_release_54 : decode cX0_release 54 = .ok (.getfield 31, 3) := by decide +kernel
theorem dX0_release_57 : decode cX0_release 57 = .ok (.aload_n 0, 1) := by decide +kernel
theorem dX0_release_58 : decode cX0_release 58 = .ok (.getfield 85, 3) := by decide +kernel
theorem dX0_release_61 : decode cX0_release 61 = .ok (.iaload, 1) := by decide +kernel
theorem dX0_release_62 : decode cX0_release 62 = .ok (.istore_n 1, 1) := by decide +kernel
theorem dX0_release_63 : decode cX0_release 63 = .ok (.aload_n 0, 1) := by decide +kernel
theorem dX0_release_64 : decode cX0_release 64 = .ok (.invokevirtual 116, 3) := by decide +kernel
theorem dX0_release_67 : decode cX0_release 67 = .ok (.istore_n 2, 1) := by decide +kernel
theorem dX0_release_68 : decode cX0_release 68 = .ok (.aload_n 0, 1) := by decide +kernel
theorem dX0_release_69 : decode cX0_release 69 = .ok (.invokevirtual 142, 3) := by decide +kernel
theorem dX0_release_72 : decode cX0_release 72 = .ok (.aload_n 0, 1) := by decide +kernel
theorem dX0_release_73 : decode cX0_release 73 = .ok (.dup, 1) := by decide +kernel
theorem dX0_release_74 : decode cX0_release 74 = .ok (.getfield 71, 3) := by decide +kernel
theorem dX0_release_77 : decode cX0_release 77 = .ok (.iload_n 2, 1) := by decide +kernel
theorem dX0_release_78 : decode cX0_release 78 = .ok (.isub, 1) := by decide +kernel
theorem dX0_release_79 : decode cX0_release 79 = .ok (.putfield 71, 3) := by decide +kernel
theorem dX0_release_82 : decode cX0_release 82 = .ok (.aload_n 0, 1) := by decide +kernel
theorem dX0_release_83 : decode cX0_release 83 = .ok (.dup, 1) := by decide +kernel
theorem dX0_release_84 : decode cX0_release 84 = .ok (.getfield 145, 3) := by decide +kernel
theorem dX0_release_87 : decode cX0_release 87 = .ok (.iload_n 1, 1) := by decide +kernel
theorem dX0_release_88 : decode cX0_release 88 = .ok (.iload_n 2, 1) := by decide +kernel
theorem dX0_release_89 : decode cX0_release 89 = .ok (.iadd, 1) := by decide +kernel
theorem dX0_release_90 : decode cX0_release 90 = .ok (.iadd, 1) := by decide +kernel
theorem dX0_release_91 : decode cX0_release 91 = .ok (.putfield 145, 3) := by decide +kernel
theorem dX0_release_94 : decode cX0_release 94 = .ok (.aload_n 0, 1) := by decide +kernel
theorem dX0_release_95 : decode cX0_release 95 = .ok (.dup, 1) := by decide +kernel
theorem dX0_release_96 : decode cX0_release 96 = .ok (.getfield 85, 3) := by decide +kernel
theorem dX0_release_99 : decode cX0_release 99 = .ok (.iconst 1, 1) := by decide +kernel
theorem dX0_release_100 : decode cX0_release 100 = .ok (.iadd, 1) := by decide +kernel
theorem dX0_release_101 : decode cX0_release 101 = .ok (.putfield 85, 3) := by decide +kernel
theorem dX0_release_104 : decode cX0_release 104 = .ok (.aload_n 0, 1) := by decide +kernel
theorem dX0_release_105 : decode cX0_release 105 = .ok (.invokevirtual 148, 3) := by decide +kernel
theorem dX0_release_108 : decode cX0_release 108 = .ok (.iload_n 1, 1) := by decide +kernel
theorem dX0_release_109 : decode cX0_release 109 = .ok (.iload_n 2, 1) := by decide +kernel
theorem dX0_release_110 : decode cX0_release 110 = .ok (.iadd, 1) := by decide +kernel
theorem dX0_release_111 : decode cX0_release 111 = .ok (.ireturn, 1) := by decide +kernel
theorem dX0_out_0 : decode cX0_out 0 = .ok (.aload_n 0, 1) := by decide +kernel
theorem dX0_out_1 : decode cX0_out 1 = .ok (.getfield 145, 3) := by decide +kernel
theorem dX0_out_4 : decode cX0_out 4 = .ok (.ireturn, 1) := by decide +kernel
theorem dX0_isGiver_0 : decode cX0_isGiver 0 = .ok (.iload_n 0, 1) := by decide +kernel
theorem dX0_isGiver_1 : decode cX0_isGiver 1 = .ok (.ifCond .lt 13, 3) := by decide +kernel
theorem dX0_isGiver_4 : decode cX0_isGiver 4 = .ok (.iload_n 0, 1) := by decide +kernel
theorem dX0_isGiver_5 : decode cX0_isGiver 5 = .ok (.bipush 8, 2) := by decide +kernel
theorem dX0_isGiver_7 : decode cX0_isGiver 7 = .ok (.if_icmp .ge 7, 3) := by decide +kernel
theorem dX0_isGiver_10 : decode cX0_isGiver 10 = .ok (.iconst 1, 1) := by decide +kernel
theorem dX0_isGiver_11 : decode cX0_isGiver 11 = .ok (.goto 4, 3) := by decide +kernel
theorem dX0_isGiver_14 : decode cX0_isGiver 14 = .ok (.iconst 0, 1) := by decide +kernel
theorem dX0_isGiver_15 : decode cX0_isGiver 15 = .ok (.ireturn, 1) := by decide +kernel
set_option maxRecDepth 20000 in
theorem ggX0_requireGiver_X0_isGiver : GoodIn wsX0_requireGiver wsX0_isGiver := goodIn_r _ [6] (by decide +kernel) (by decide +kernel)
set_option maxRecDepth 20000 in
theorem gX0_requireGiver_X0_isGiver : GoodIn wsX0_requireGiver (va_wsS RX0 151 yX0_isGiver wsX0_isGiver) := goodIn_app (goodIn_of _ (by decide +kernel)) ggX0_requireGiver_X0_isGiver
theorem dX0_requireGiver_0 : decode cX0_requireGiver 0 = .ok (.iload_n 0, 1) := by decide +kernel
theorem dX0_requireGiver_1 : decode cX0_requireGiver 1 = .ok (.invokestatic 151, 3) := by decide +kernel
theorem dX0_requireGiver_4 : decode cX0_requireGiver 4 = .ok (.ifCond .ne 13, 3) := by decide +kernel
theorem dX0_requireGiver_7 : decode cX0_requireGiver 7 = .ok (.new 66, 3) := by decide +kernel
theorem dX0_requireGiver_10 : decode cX0_requireGiver 10 = .ok (.dup, 1) := by decide +kernel
theorem dX0_requireGiver_11 : decode cX0_requireGiver 11 = .ok (.ldc 155, 2) := by decide +kernel
theorem dX0_requireGiver_13 : decode cX0_requireGiver 13 = .ok (.invokespecial 70, 3) := by decide +kernel
theorem dX0_requireGiver_16 : decode cX0_requireGiver 16 = .ok (.athrow, 1) := by decide +kernel
theorem dX0_requireGiver_17 : decode cX0_requireGiver 17 = .ok (.return_, 1) := by decide +kernel
theorem dX0_requireAmount_0 : decode cX0_requireAmount 0 = .ok (.iload_n 0, 1) := by decide +kernel
theorem dX0_requireAmount_1 : decode cX0_requireAmount 1 = .ok (.iconst 1, 1) := by decide +kernel
theorem dX0_requireAmount_2 : decode cX0_requireAmount 2 = .ok (.if_icmp .lt 8, 3) := by decide +kernel
theorem dX0_requireAmount_5 : decode cX0_requireAmount 5 = .ok (.iload_n 0, 1) := by decide +kernel
theorem dX0_requireAmount_6 : decode cX0_requireAmount 6 = .ok (.iload_n 1, 1) := by decide +kernel
theorem dX0_requireAmount_7 : decode cX0_requireAmount 7 = .ok (.if_icmp .le 13, 3) := by decide +kernel
theorem dX0_requireAmount_10 : decode cX0_requireAmount 10 = .ok (.new 90, 3) := by decide +kernel
theorem dX0_requireAmount_13 : decode cX0_requireAmount 13 = .ok (.dup, 1) := by decide +kernel
theorem dX0_requireAmount_14 : decode cX0_requireAmount 14 = .ok (.ldc 157, 2) := by decide +kernel
theorem dX0_requireAmount_16 : decode cX0_requireAmount 16 = .ok (.invokespecial 94, 3) := by decide +kernel
theorem dX0_requireAmount_19 : decode cX0_requireAmount 19 = .ok (.athrow, 1) := by decide +kernel
theorem dX0_requireAmount_20 : decode cX0_requireAmount 20 = .ok (.return_, 1) := by decide +kernel
set_option maxRecDepth 20000 in
theorem ggX0_leadsTo_X0_isGiver : GoodIn wsX0_leadsTo wsX0_isGiver := goodIn_r _ [5] (by decide +kernel) (by decide +kernel)
set_option maxRecDepth 20000 in
theorem gX0_leadsTo_X0_isGiver : GoodIn wsX0_leadsTo (va_wsS RX0 151 yX0_isGiver wsX0_isGiver) := goodIn_app (goodIn_of _ (by decide +kernel)) ggX0_leadsTo_X0_isGiver
theorem dX0_leadsTo_0 : decode cX0_leadsTo 0 = .ok (.iload_n 1, 1) := by decide +kernel
theorem dX0_leadsTo_1 : decode cX0_leadsTo 1 = .ok (.istore_n 3, 1) := by decide +kernel
theorem dX0_leadsTo_2 : decode cX0_leadsTo 2 = .ok (.iconst 0, 1) := by decide +kernel
theorem dX0_leadsTo_3 : decode cX0_leadsTo 3 = .ok (.istore 4, 2) := by decide +kernel
theorem dX0_leadsTo_5 : decode cX0_leadsTo 5 = .ok (.iload 4, 2) := by decide +kernel
theorem dX0_leadsTo_7 : decode cX0_leadsTo 7 = .ok (.bipush 8, 2) := by decide +kernel
theorem dX0_leadsTo_9 : decode cX0_leadsTo 9 = .ok (.if_icmp .ge 30, 3) := by decide +kernel
theorem dX0_leadsTo_12 : decode cX0_leadsTo 12 = .ok (.iload_n 3, 1) := by decide +kernel
theorem dX0_leadsTo_13 : decode cX0_leadsTo 13 = .ok (.invokestatic 151, 3) := by decide +kernel
theorem dX0_leadsTo_16 : decode cX0_leadsTo 16 = .ok (.ifCond .eq 23, 3) := by decide +kernel
theorem dX0_leadsTo_19 : decode cX0_leadsTo 19 = .ok (.iload_n 3, 1) := by decide +kernel
theorem dX0_leadsTo_20 : decode cX0_leadsTo 20 = .ok (.iload_n 2, 1) := by decide +kernel
theorem dX0_leadsTo_21 : decode cX0_leadsTo 21 = .ok (.if_icmp .ne 5, 3) := by decide +kernel
theorem dX0_leadsTo_24 : decode cX0_leadsTo 24 = .ok (.iconst 1, 1) := by decide +kernel
theorem dX0_leadsTo_25 : decode cX0_leadsTo 25 = .ok (.ireturn, 1) := by decide +kernel
theorem dX0_leadsTo_26 : decode cX0_leadsTo 26 = .ok (.aload_n 0, 1) := by decide +kernel
theorem dX0_leadsTo_27 : decode cX0_leadsTo 27 = .ok (.getfield 22, 3) := by decide +kernel
theorem dX0_leadsTo_30 : decode cX0_leadsTo 30 = .ok (.iload_n 3, 1) := by decide +kernel
theorem dX0_leadsTo_31 : decode cX0_leadsTo 31 = .ok (.iaload, 1) := by decide +kernel
theorem dX0_leadsTo_32 : decode cX0_leadsTo 32 = .ok (.istore_n 3, 1) := by decide +kernel
theorem dX0_leadsTo_33 : decode cX0_leadsTo 33 = .ok (.iinc 4 1, 3) := by decide +kernel
theorem dX0_leadsTo_36 : decode cX0_leadsTo 36 = .ok (.goto (-31), 3) := by decide +kernel
theorem dX0_leadsTo_39 : decode cX0_leadsTo 39 = .ok (.iconst 0, 1) := by decide +kernel
theorem dX0_leadsTo_40 : decode cX0_leadsTo 40 = .ok (.ireturn, 1) := by decide +kernel
set_option maxRecDepth 20000 in
theorem ggX0_firstVoterFrom_X0_isGiver : GoodIn wsX0_firstVoterFrom wsX0_isGiver := goodIn_r _ [6] (by decide +kernel) (by decide +kernel)
set_option maxRecDepth 20000 in
theorem gX0_firstVoterFrom_X0_isGiver : GoodIn wsX0_firstVoterFrom (va_wsS RX0 151 yX0_isGiver wsX0_isGiver) := goodIn_app (goodIn_of _ (by decide +kernel)) ggX0_firstVoterFrom_X0_isGiver
theorem dX0_firstVoterFrom_0 : decode cX0_firstVoterFrom 0 = .ok (.iload_n 1, 1) := by decide +kernel
theorem dX0_firstVoterFrom_1 : decode cX0_firstVoterFrom 1 = .ok (.istore_n 2, 1) := by decide +kernel
theorem dX0_firstVoterFrom_2 : decode cX0_firstVoterFrom 2 = .ok (.iconst 0, 1) := by decide +kernel
theorem dX0_firstVoterFrom_3 : decode cX0_firstVoterFrom 3 = .ok (.istore_n 3, 1) := by decide +kernel
theorem dX0_firstVoterFrom_4 : decode cX0_firstVoterFrom 4 = .ok (.iload_n 3, 1) := by decide +kernel
theorem dX0_firstVoterFrom_5 : decode cX0_firstVoterFrom 5 = .ok (.bipush 8, 2) := by decide +kernel
theorem dX0_firstVoterFrom_7 : decode cX0_firstVoterFrom 7 = .ok (.if_icmp .ge 34, 3) := by decide +kernel
theorem dX0_firstVoterFrom_10 : decode cX0_firstVoterFrom 10 = .ok (.iload_n 2, 1) := by decide +kernel
theorem dX0_firstVoterFrom_11 : decode cX0_firstVoterFrom 11 = .ok (.invokestatic 151, 3) := by decide +kernel
theorem dX0_firstVoterFrom_14 : decode cX0_firstVoterFrom 14 = .ok (.ifCond .eq 27, 3) := by decide +kernel
theorem dX0_firstVoterFrom_17 : decode cX0_firstVoterFrom 17 = .ok (.aload_n 0, 1) := by decide +kernel
theorem dX0_firstVoterFrom_18 : decode cX0_firstVoterFrom 18 = .ok (.getfield 28, 3) := by decide +kernel
theorem dX0_firstVoterFrom_21 : decode cX0_firstVoterFrom 21 = .ok (.iload_n 2, 1) := by decide +kernel
theorem dX0_firstVoterFrom_22 : decode cX0_firstVoterFrom 22 = .ok (.iaload, 1) := by decide +kernel
theorem dX0_firstVoterFrom_23 : decode cX0_firstVoterFrom 23 = .ok (.ifCond .eq 5, 3) := by decide +kernel
theorem dX0_firstVoterFrom_26 : decode cX0_firstVoterFrom 26 = .ok (.iload_n 2, 1) := by decide +kernel
theorem dX0_firstVoterFrom_27 : decode cX0_firstVoterFrom 27 = .ok (.ireturn, 1) := by decide +kernel
theorem dX0_firstVoterFrom_28 : decode cX0_firstVoterFrom 28 = .ok (.aload_n 0, 1) := by decide +kernel
theorem dX0_firstVoterFrom_29 : decode cX0_firstVoterFrom 29 = .ok (.getfield 22, 3) := by decide +kernel
theorem dX0_firstVoterFrom_32 : decode cX0_firstVoterFrom 32 = .ok (.iload_n 2, 1) := by decide +kernel
theorem dX0_firstVoterFrom_33 : decode cX0_firstVoterFrom 33 = .ok (.iaload, 1) := by decide +kernel
theorem dX0_firstVoterFrom_34 : decode cX0_firstVoterFrom 34 = .ok (.istore_n 2, 1) := by decide +kernel
theorem dX0_firstVoterFrom_35 : decode cX0_firstVoterFrom 35 = .ok (.iinc 3 1, 3) := by decide +kernel
theorem dX0_firstVoterFrom_38 : decode cX0_firstVoterFrom 38 = .ok (.goto (-34), 3) := by decide +kernel
theorem dX0_firstVoterFrom_41 : decode cX0_firstVoterFrom 41 = .ok (.iconst (-1), 1) := by decide +kernel
theorem dX0_firstVoterFrom_42 : decode cX0_firstVoterFrom 42 = .ok (.ireturn, 1) := by decide +kernel
set_option maxRecDepth 20000 in
theorem ggX0_heardVote_X0_firstVoterFrom : GoodIn wsX0_heardVote wsX0_firstVoterFrom := goodIn_r _ [6, 1, 7, 8, 9, 5, 10, 11, 12, 13, 14, 15, 16, 17, 18, 19, 20, 21, 22, 23, 24, 25] (by decide +kernel) (by decide +kernel)
set_option maxRecDepth 20000 in
theorem gX0_heardVote_X0_firstVoterFrom : GoodIn wsX0_heardVote (wsV RX0 101 RX0 yX0_firstVoterFrom wsX0_firstVoterFrom) := goodIn_app (goodIn_of _ (by decide +kernel)) ggX0_heardVote_X0_firstVoterFrom
set_option maxRecDepth 20000 in
theorem ggX0_heardVote_X0_isGiver : GoodIn wsX0_heardVote wsX0_isGiver := goodIn_r _ [10] (by decide +kernel) (by decide +kernel)
set_option maxRecDepth 20000 in
theorem gX0_heardVote_X0_isGiver : GoodIn wsX0_heardVote (va_wsS RX0 151 yX0_isGiver wsX0_isGiver) := goodIn_app (goodIn_of _ (by decide +kernel)) ggX0_heardVote_X0_isGiver
theorem dX0_heardVote_0 : decode cX0_heardVote 0 = .ok (.aload_n 0, 1) := by decide +kernel
theorem dX0_heardVote_1 : decode cX0_heardVote 1 = .ok (.iload_n 1, 1) := by decide +kernel
theorem dX0_heardVote_2 : decode cX0_heardVote 2 = .ok (.invokevirtual 101, 3) := by decide +kernel
theorem dX0_heardVote_5 : decode cX0_heardVote 5 = .ok (.istore_n 2, 1) := by decide +kernel
theorem dX0_heardVote_6 : decode cX0_heardVote 6 = .ok (.iload_n 2, 1) := by decide +kernel
theorem dX0_heardVote_7 : decode cX0_heardVote 7 = .ok (.invokestatic 151, 3) := by decide +kernel
theorem dX0_heardVote_10 : decode cX0_heardVote 10 = .ok (.ifCond .eq 12, 3) := by decide +kernel
theorem dX0_heardVote_13 : decode cX0_heardVote 13 = .ok (.aload_n 0, 1) := by decide +kernel
theorem dX0_heardVote_14 : decode cX0_heardVote 14 = .ok (.getfield 28, 3) := by decide +kernel
theorem dX0_heardVote_17 : decode cX0_heardVote 17 = .ok (.iload_n 2, 1) := by decide +kernel
theorem dX0_heardVote_18 : decode cX0_heardVote 18 = .ok (.iaload, 1) := by decide +kernel
theorem dX0_heardVote_19 : decode cX0_heardVote 19 = .ok (.goto 4, 3) := by decide +kernel
theorem dX0_heardVote_22 : decode cX0_heardVote 22 = .ok (.iconst 0, 1) := by decide +kernel
theorem dX0_heardVote_23 : decode cX0_heardVote 23 = .ok (.ireturn, 1) := by decide +kernel
theorem dX0_clearVotes_0 : decode cX0_clearVotes 0 = .ok (.iconst 0, 1) := by decide +kernel
theorem dX0_clearVotes_1 : decode cX0_clearVotes 1 = .ok (.istore_n 1, 1) := by decide +kernel
theorem dX0_clearVotes_2 : decode cX0_clearVotes 2 = .ok (.iload_n 1, 1) := by decide +kernel
theorem dX0_clearVotes_3 : decode cX0_clearVotes 3 = .ok (.bipush 8, 2) := by decide +kernel
theorem dX0_clearVotes_5 : decode cX0_clearVotes 5 = .ok (.if_icmp .ge 16, 3) := by decide +kernel
theorem dX0_clearVotes_8 : decode cX0_clearVotes 8 = .ok (.aload_n 0, 1) := by decide +kernel
theorem dX0_clearVotes_9 : decode cX0_clearVotes 9 = .ok (.getfield 28, 3) := by decide +kernel
theorem dX0_clearVotes_12 : decode cX0_clearVotes 12 = .ok (.iload_n 1, 1) := by decide +kernel
theorem dX0_clearVotes_13 : decode cX0_clearVotes 13 = .ok (.iconst 0, 1) := by decide +kernel
theorem dX0_clearVotes_14 : decode cX0_clearVotes 14 = .ok (.iastore, 1) := by decide +kernel
theorem dX0_clearVotes_15 : decode cX0_clearVotes 15 = .ok (.iinc 1 1, 3) := by decide +kernel
theorem dX0_clearVotes_18 : decode cX0_clearVotes 18 = .ok (.goto (-16), 3) := by decide +kernel
theorem dX0_clearVotes_21 : decode cX0_clearVotes 21 = .ok (.return_, 1) := by decide +kernel
set_option maxRecDepth 20000 in
theorem ggX0_isCovered_X0_current : GoodIn wsX0_isCovered wsX0_current := goodIn_r _ [7, 1, 8, 14, 15, 16, 17, 18, 19, 20, 21, 22, 23, 24, 25, 26, 27, 28] (by decide +kernel) (by decide +kernel)
set_option maxRecDepth 20000 in
theorem gX0_isCovered_X0_current : GoodIn wsX0_isCovered (wsV RX0 95 RX0 yX0_current wsX0_current) := goodIn_app (goodIn_of _ (by decide +kernel)) ggX0_isCovered_X0_current
set_option maxRecDepth 20000 in
theorem ggX0_isCovered_X0_total : GoodIn wsX0_isCovered wsX0_total := goodIn_r _ [12, 13, 14, 15, 16, 17, 18, 19, 20, 21, 22, 23, 24, 25, 26, 27, 28] (by decide +kernel) (by decide +kernel)
set_option maxRecDepth 20000 in
theorem gX0_isCovered_X0_total : GoodIn wsX0_isCovered (wsV RX0 137 RX0 yX0_total wsX0_total) := goodIn_app (goodIn_of _ (by decide +kernel)) ggX0_isCovered_X0_total
theorem dX0_isCovered_0 : decode cX0_isCovered 0 = .ok (.aload_n 0, 1) := by decide +kernel
theorem dX0_isCovered_1 : decode cX0_isCovered 1 = .ok (.invokevirtual 95, 3) := by decide +kernel
theorem dX0_isCovered_4 : decode cX0_isCovered 4 = .ok (.iconst (-1), 1) := by decide +kernel
theorem dX0_isCovered_5 : decode cX0_isCovered 5 = .ok (.if_icmp .eq 32, 3) := by decide +kernel
theorem dX0_isCovered_8 : decode cX0_isCovered 8 = .ok (.aload_n 0, 1) := by decide +kernel
theorem dX0_isCovered_9 : decode cX0_isCovered 9 = .ok (.getfield 85, 3) := by decide +kernel
theorem dX0_isCovered_12 : decode cX0_isCovered 12 = .ok (.bipush 6, 2) := by decide +kernel
theorem dX0_isCovered_14 : decode cX0_isCovered 14 = .ok (.if_icmp .ge 23, 3) := by decide +kernel
theorem dX0_isCovered_17 : decode cX0_isCovered 17 = .ok (.aload_n 0, 1) := by decide +kernel
theorem dX0_isCovered_18 : decode cX0_isCovered 18 = .ok (.invokevirtual 137, 3) := by decide +kernel
theorem dX0_isCovered_21 : decode cX0_isCovered 21 = .ok (.aload_n 0, 1) := by decide +kernel
theorem dX0_isCovered_22 : decode cX0_isCovered 22 = .ok (.getfield 31, 3) := by decide +kernel
theorem dX0_isCovered_25 : decode cX0_isCovered 25 = .ok (.aload_n 0, 1) := by decide +kernel
theorem dX0_isCovered_26 : decode cX0_isCovered 26 = .ok (.getfield 85, 3) := by decide +kernel
theorem dX0_isCovered_29 : decode cX0_isCovered 29 = .ok (.iaload, 1) := by decide +kernel
theorem dX0_isCovered_30 : decode cX0_isCovered 30 = .ok (.if_icmp .lt 7, 3) := by decide +kernel
theorem dX0_isCovered_33 : decode cX0_isCovered 33 = .ok (.iconst 1, 1) := by decide +kernel
theorem dX0_isCovered_34 : decode cX0_isCovered 34 = .ok (.goto 4, 3) := by decide +kernel
theorem dX0_isCovered_37 : decode cX0_isCovered 37 = .ok (.iconst 0, 1) := by decide +kernel
theorem dX0_isCovered_38 : decode cX0_isCovered 38 = .ok (.ireturn, 1) := by decide +kernel
set_option maxRecDepth 20000 in
theorem ggX0_requireCovered_X0_isCovered : GoodIn wsX0_requireCovered wsX0_isCovered := goodIn_r _ [7, 8, 9, 10, 11, 12, 6, 13, 14, 15, 16, 17, 18, 19, 20, 21, 22, 23, 24, 25, 26, 27, 28, 29, 30, 31, 32, 33, 34] (by decide +kernel) (by decide +kernel)
set_option maxRecDepth 20000 in
theorem gX0_requireCovered_X0_isCovered : GoodIn wsX0_requireCovered (wsV RX0 128 RX0 yX0_isCovered wsX0_isCovered) := goodIn_app (goodIn_of _ (by decide +kernel)) ggX0_requireCovered_X0_isCovered
theorem dX0_requireCovered_0 : decode cX0_requireCovered 0 = .ok (.aload_n 0, 1) := by decide +kernel
theorem dX0_requireCovered_1 : decode cX0_requireCovered 1 = .ok (.invokevirtual 128, 3) := by decide +kernel
theorem dX0_requireCovered_4 : decode cX0_requireCovered 4 = .ok (.ifCond .ne 13, 3) := by decide +kernel
theorem dX0_requireCovered_7 : decode cX0_requireCovered 7 = .ok (.new 159, 3) := by decide +kernel
theorem dX0_requireCovered_10 : decode cX0_requireCovered 10 = .ok (.dup, 1) := by decide +kernel
theorem dX0_requireCovered_11 : decode cX0_requireCovered 11 = .ok (.ldc 161, 2) := by decide +kernel
theorem dX0_requireCovered_13 : decode cX0_requireCovered 13 = .ok (.invokespecial 163, 3) := by decide +kernel
theorem dX0_requireCovered_16 : decode cX0_requireCovered 16 = .ok (.athrow, 1) := by decide +kernel
theorem dX0_requireCovered_17 : decode cX0_requireCovered 17 = .ok (.return_, 1) := by decide +kernel
set_option maxRecDepth 20000 in
theorem ggX0_findShares_X0_total : GoodIn wsX0_findShares wsX0_total := goodIn_r _ [7, 2, 11, 12, 13, 14, 15, 16, 17, 18, 19, 20, 21, 22, 23, 24, 25] (by decide +kernel) (by decide +kernel)
set_option maxRecDepth 20000 in
theorem gX0_findShares_X0_total : GoodIn wsX0_findShares (wsV RX0 137 RX0 yX0_total wsX0_total) := goodIn_app (goodIn_of _ (by decide +kernel)) ggX0_findShares_X0_total
set_option maxRecDepth 20000 in
theorem ggX0_findShares_X0_roundedPart : GoodIn wsX0_findShares wsX0_roundedPart := goodIn_r _ [10] (by decide +kernel) (by decide +kernel)
set_option maxRecDepth 20000 in
theorem gX0_findShares_X0_roundedPart : GoodIn wsX0_findShares (va_wsS RX0 164 yX0_roundedPart wsX0_roundedPart) := goodIn_app (goodIn_of _ (by decide +kernel)) ggX0_findShares_X0_roundedPart
theorem dX0_findShares_0 : decode cX0_findShares 0 = .ok (.aload_n 0, 1) := by decide +kernel
theorem dX0_findShares_1 : decode cX0_findShares 1 = .ok (.invokevirtual 137, 3) := by decide +kernel
theorem dX0_findShares_4 : decode cX0_findShares 4 = .ok (.istore_n 2, 1) := by decide +kernel
theorem dX0_findShares_5 : decode cX0_findShares 5 = .ok (.iload_n 1, 1) := by decide +kernel
theorem dX0_findShares_6 : decode cX0_findShares 6 = .ok (.istore_n 3, 1) := by decide +kernel
theorem dX0_findShares_7 : decode cX0_findShares 7 = .ok (.iconst 0, 1) := by decide +kernel
theorem dX0_findShares_8 : decode cX0_findShares 8 = .ok (.istore 4, 2) := by decide +kernel
theorem dX0_findShares_10 : decode cX0_findShares 10 = .ok (.iload 4, 2) := by decide +kernel
theorem dX0_findShares_12 : decode cX0_findShares 12 = .ok (.bipush 8, 2) := by decide +kernel
theorem dX0_findShares_14 : decode cX0_findShares 14 = .ok (.if_icmp .ge 38, 3) := by decide +kernel
theorem dX0_findShares_17 : decode cX0_findShares 17 = .ok (.aload_n 0, 1) := by decide +kernel
theorem dX0_findShares_18 : decode cX0_findShares 18 = .ok (.getfield 38, 3) := by decide +kernel
theorem dX0_findShares_21 : decode cX0_findShares 21 = .ok (.iload 4, 2) := by decide +kernel
theorem dX0_findShares_23 : decode cX0_findShares 23 = .ok (.iload_n 1, 1) := by decide +kernel
theorem dX0_findShares_24 : decode cX0_findShares 24 = .ok (.aload_n 0, 1) := by decide +kernel
theorem dX0_findShares_25 : decode cX0_findShares 25 = .ok (.getfield 9, 3) := by decide +kernel
theorem dX0_findShares_28 : decode cX0_findShares 28 = .ok (.iload 4, 2) := by decide +kernel
theorem dX0_findShares_30 : decode cX0_findShares 30 = .ok (.iaload, 1) := by decide +kernel
theorem dX0_findShares_31 : decode cX0_findShares 31 = .ok (.iload_n 2, 1) := by decide +kernel
theorem dX0_findShares_32 : decode cX0_findShares 32 = .ok (.invokestatic 164, 3) := by decide +kernel
theorem dX0_findShares_35 : decode cX0_findShares 35 = .ok (.iastore, 1) := by decide +kernel
theorem dX0_findShares_36 : decode cX0_findShares 36 = .ok (.iload_n 3, 1) := by decide +kernel
theorem dX0_findShares_37 : decode cX0_findShares 37 = .ok (.aload_n 0, 1) := by decide +kernel
theorem dX0_findShares_38 : decode cX0_findShares 38 = .ok (.getfield 38, 3) := by decide +kernel
theorem dX0_findShares_41 : decode cX0_findShares 41 = .ok (.iload 4, 2) := by decide +kernel
theorem dX0_findShares_43 : decode cX0_findShares 43 = .ok (.iaload, 1) := by decide +kernel
theorem dX0_findShares_44 : decode cX0_findShares 44 = .ok (.isub, 1) := by decide +kernel
theorem dX0_findShares_45 : decode cX0_findShares 45 = .ok (.istore_n 3, 1) := by decide +kernel
theorem dX0_findShares_46 : decode cX0_findShares 46 = .ok (.iinc 4 1, 3) := by decide +kernel
theorem dX0_findShares_49 : decode cX0_findShares 49 = .ok (.goto (-39), 3) := by decide +kernel
theorem dX0_findShares_52 : decode cX0_findShares 52 = .ok (.iconst 0, 1) := by decide +kernel
theorem dX0_findShares_53 : decode cX0_findShares 53 = .ok (.istore 4, 2) := by decide +kernel
theorem dX0_findShares_55 : decode cX0_findShares 55 = .ok (.iload 4, 2) := by decide +kernel
theorem dX0_findShares_57 : decode cX0_findShares 57 = .ok (.bipush 8, 2) := by decide +kernel
theorem dX0_findShares_59 : decode cX0_findShares 59 = .ok (.if_icmp .ge 44, 3) := by decide +kernel
theorem dX0_findShares_62 : decode cX0_findShares 62 = .ok (.iload_n 3, 1) := by decide +kernel
theorem dX0_findShares_63 : decode cX0_findShares 63 = .ok (.ifCond .le 40, 3) := by decide +kernel
theorem dX0_findShares_66 : decode cX0_findShares 66 = .ok (.aload_n 0, 1) := by decide +kernel
theorem dX0_findShares_67 : decode cX0_findShares 67 = .ok (.getfield 9, 3) := by decide +kernel
theorem dX0_findShares_70 : decode cX0_findShares 70 = .ok (.iload 4, 2) := by decide +kernel
theorem dX0_findShares_72 : decode cX0_findShares 72 = .ok (.iaload, 1) := by decide +kernel
theorem dX0_findShares_73 : decode cX0_findShares 73 = .ok (.aload_n 0, 1) := by decide +kernel
theorem dX0_findShares_74 : decode cX0_findShares 74 = .ok (.getfield 38, 3) := by decide +kernel
theorem dX0_findShares_77 : decode cX0_findShares 77 = .ok (.iload 4, 2) := by decide +kernel
theorem dX0_findShares_79 : decode cX0_findShares 79 = .ok (.iaload, 1) := by decide +kernel
theorem dX0_findShares_80 : decode cX0_findShares 80 = .ok (.if_icmp .le 17, 3) := by decide +kernel
theorem dX0_findShares_83 : decode cX0_findShares 83 = .ok (.aload_n 0, 1) := by decide +kernel
theorem dX0_findShares_84 : decode cX0_findShares 84 = .ok (.getfield 38, 3) := by decide +kernel
theorem dX0_findShares_87 : decode cX0_findShares 87 = .ok (.iload 4, 2) := by decide +kernel
theorem dX0_findShares_89 : decode cX0_findShares 89 = .ok (.dup2, 1) := by decide +kernel
theorem dX0_findShares_90 : decode cX0_findShares 90 = .ok (.iaload, 1) := by decide +kernel
theorem dX0_findShares_91 : decode cX0_findShares 91 = .ok (.iconst 1, 1) := by decide +kernel
theorem dX0_findShares_92 : decode cX0_findShares 92 = .ok (.iadd, 1) := by decide +kernel
theorem dX0_findShares_93 : decode cX0_findShares 93 = .ok (.iastore, 1) := by decide +kernel
theorem dX0_findShares_94 : decode cX0_findShares 94 = .ok (.iinc 3 (-1), 3) := by decide +kernel
theorem dX0_findShares_97 : decode cX0_findShares 97 = .ok (.iinc 4 1, 3) := by decide +kernel
theorem dX0_findShares_100 : decode cX0_findShares 100 = .ok (.goto (-45), 3) := by decide +kernel
theorem dX0_findShares_103 : decode cX0_findShares 103 = .ok (.return_, 1) := by decide +kernel
theorem dX0_roundedPart_0 : decode cX0_roundedPart 0 = .ok (.iload_n 2, 1) := by decide +kernel
theorem dX0_roundedPart_1 : decode cX0_roundedPart 1 = .ok (.ifCond .le 15, 3) := by decide +kernel
theorem dX0_roundedPart_4 : decode cX0_roundedPart 4 = .ok (.iload_n 0, 1) := by decide +kernel
theorem dX0_roundedPart_5 : decode cX0_roundedPart 5 = .ok (.i2l, 1) := by decide +kernel
theorem dX0_roundedPart_6 : decode cX0_roundedPart 6 = .ok (.iload_n 1, 1) := by decide +kernel
theorem dX0_roundedPart_7 : decode cX0_roundedPart 7 = .ok (.i2l, 1) := by decide +kernel
theorem dX0_roundedPart_8 : decode cX0_roundedPart 8 = .ok (.lmul, 1) := by decide +kernel
theorem dX0_roundedPart_9 : decode cX0_roundedPart 9 = .ok (.iload_n 2, 1) := by decide +kernel
theorem dX0_roundedPart_10 : decode cX0_roundedPart 10 = .ok (.i2l, 1) := by decide +kernel
theorem dX0_roundedPart_11 : decode cX0_roundedPart 11 = .ok (.ldiv, 1) := by decide +kernel
theorem dX0_roundedPart_12 : decode cX0_roundedPart 12 = .ok (.l2i, 1) := by decide +kernel
theorem dX0_roundedPart_13 : decode cX0_roundedPart 13 = .ok (.goto 4, 3) := by decide +kernel
theorem dX0_roundedPart_16 : decode cX0_roundedPart 16 = .ok (.iconst 0, 1) := by decide +kernel
theorem dX0_roundedPart_17 : decode cX0_roundedPart 17 = .ok (.ireturn, 1) := by decide +kernel
theorem dX0_payShares_0 : decode cX0_payShares 0 = .ok (.iconst 0, 1) := by decide +kernel
theorem dX0_payShares_1 : decode cX0_payShares 1 = .ok (.istore_n 1, 1) := by decide +kernel
theorem dX0_payShares_2 : decode cX0_payShares 2 = .ok (.iload_n 1, 1) := by decide +kernel
theorem dX0_payShares_3 : decode cX0_payShares 3 = .ok (.bipush 8, 2) := by decide +kernel
theorem dX0_payShares_5 : decode cX0_payShares 5 = .ok (.if_icmp .ge 39, 3) := by decide +kernel
theorem dX0_payShares_8 : decode cX0_payShares 8 = .ok (.aload_n 0, 1) := by decide +kernel
theorem dX0_payShares_9 : decode cX0_payShares 9 = .ok (.getfield 9, 3) := by decide +kernel
theorem dX0_payShares_12 : decode cX0_payShares 12 = .ok (.iload_n 1, 1) := by decide +kernel
theorem dX0_payShares_13 : decode cX0_payShares 13 = .ok (.dup2, 1) := by decide +kernel
theorem dX0_payShares_14 : decode cX0_payShares 14 = .ok (.iaload, 1) := by decide +kernel
theorem dX0_payShares_15 : decode cX0_payShares 15 = .ok (.aload_n 0, 1) := by decide +kernel
theorem dX0_payShares_16 : decode cX0_payShares 16 = .ok (.getfield 38, 3) := by decide +kernel
theorem dX0_payShares_19 : decode cX0_payShares 19 = .ok (.iload_n 1, 1) := by decide +kernel
theorem dX0_payShares_20 : decode cX0_payShares 20 = .ok (.iaload, 1) := by decide +kernel
theorem dX0_payShares_21 : decode cX0_payShares 21 = .ok (.isub, 1) := by decide +kernel
theorem dX0_payShares_22 : decode cX0_payShares 22 = .ok (.iastore, 1) := by decide +kernel
theorem dX0_payShares_23 : decode cX0_payShares 23 = .ok (.aload_n 0, 1) := by decide +kernel
theorem dX0_payShares_24 : decode cX0_payShares 24 = .ok (.getfield 19, 3) := by decide +kernel
theorem dX0_payShares_27 : decode cX0_payShares 27 = .ok (.iload_n 1, 1) := by decide +kernel
theorem dX0_payShares_28 : decode cX0_payShares 28 = .ok (.dup2, 1) := by decide +kernel
theorem dX0_payShares_29 : decode cX0_payShares 29 = .ok (.iaload, 1) := by decide +kernel
theorem dX0_payShares_30 : decode cX0_payShares 30 = .ok (.aload_n 0, 1) := by decide +kernel
theorem dX0_payShares_31 : decode cX0_payShares 31 = .ok (.getfield 38, 3) := by decide +kernel
theorem dX0_payShares_34 : decode cX0_payShares 34 = .ok (.iload_n 1, 1) := by decide +kernel
theorem dX0_payShares_35 : decode cX0_payShares 35 = .ok (.iaload, 1) := by decide +kernel
theorem dX0_payShares_36 : decode cX0_payShares 36 = .ok (.iadd, 1) := by decide +kernel
theorem dX0_payShares_37 : decode cX0_payShares 37 = .ok (.iastore, 1) := by decide +kernel
theorem dX0_payShares_38 : decode cX0_payShares 38 = .ok (.iinc 1 1, 3) := by decide +kernel
theorem dX0_payShares_41 : decode cX0_payShares 41 = .ok (.goto (-39), 3) := by decide +kernel
theorem dX0_payShares_44 : decode cX0_payShares 44 = .ok (.return_, 1) := by decide +kernel
set_option maxRecDepth 20000 in
theorem ggX0_currentMatch_X0_findShares : GoodIn wsX0_currentMatch wsX0_findShares := goodIn_r _ [7, 8, 9, 10, 11, 12, 6, 13, 14, 15, 16, 46, 47, 48, 49, 50, 51, 52, 53, 54, 55, 56, 57, 58, 59, 60] (by decide +kernel) (by decide +kernel)
set_option maxRecDepth 20000 in
theorem gX0_currentMatch_X0_findShares : GoodIn wsX0_currentMatch (wsV RX0 113 RX0 yX0_findShares wsX0_findShares) := goodIn_app (goodIn_of _ (by decide +kernel)) ggX0_currentMatch_X0_findShares
set_option maxRecDepth 20000 in
theorem ggX0_currentMatch_X0_findRoots : GoodIn wsX0_currentMatch wsX0_findRoots := goodIn_r _ [20, 21, 22, 23, 24, 6, 25, 26, 8, 27, 28, 29, 46, 47, 48, 49, 50, 51, 52, 53, 54, 55, 56, 57, 58, 59, 60] (by decide +kernel) (by decide +kernel)
set_option maxRecDepth 20000 in
theorem gX0_currentMatch_X0_findRoots : GoodIn wsX0_currentMatch (wsV RX0 119 RX0 yX0_findRoots wsX0_findRoots) := goodIn_app (goodIn_of _ (by decide +kernel)) ggX0_currentMatch_X0_findRoots
set_option maxRecDepth 20000 in
theorem ggX0_currentMatch_X0_squareOfSum : GoodIn wsX0_currentMatch wsX0_squareOfSum := goodIn_r _ [33, 21, 46, 47, 48, 49, 50, 51, 52, 53, 54, 55, 56, 57, 58, 59, 60] (by decide +kernel) (by decide +kernel)
set_option maxRecDepth 20000 in
theorem gX0_currentMatch_X0_squareOfSum : GoodIn wsX0_currentMatch (wsV RX0 168 RX0 yX0_squareOfSum wsX0_squareOfSum) := goodIn_app (goodIn_of _ (by decide +kernel)) ggX0_currentMatch_X0_squareOfSum
set_option maxRecDepth 20000 in
theorem ggX0_currentMatch_X0_withinPot : GoodIn wsX0_currentMatch wsX0_withinPot := goodIn_r _ [37, 38, 39, 40, 41, 42, 43, 44, 45, 46, 47, 48, 49, 50, 51, 52, 53, 54, 55, 56, 57, 58, 59, 60] (by decide +kernel) (by decide +kernel)
set_option maxRecDepth 20000 in
theorem gX0_currentMatch_X0_withinPot : GoodIn wsX0_currentMatch (wsV RX0 125 RX0 yX0_withinPot wsX0_withinPot) := goodIn_app (goodIn_of _ (by decide +kernel)) ggX0_currentMatch_X0_withinPot
theorem dX0_currentMatch_0 : decode cX0_currentMatch 0 = .ok (.aload_n 0, 1) := by decide +kernel
theorem dX0_currentMatch_1 : decode cX0_currentMatch 1 = .ok (.getfield 31, 3) := by decide +kernel
theorem dX0_currentMatch_4 : decode cX0_currentMatch 4 = .ok (.aload_n 0, 1) := by decide +kernel
theorem dX0_currentMatch_5 : decode cX0_currentMatch 5 = .ok (.getfield 85, 3) := by decide +kernel
theorem dX0_currentMatch_8 : decode cX0_currentMatch 8 = .ok (.iaload, 1) := by decide +kernel
theorem dX0_currentMatch_9 : decode cX0_currentMatch 9 = .ok (.istore_n 1, 1) := by decide +kernel
theorem dX0_currentMatch_10 : decode cX0_currentMatch 10 = .ok (.aload_n 0, 1) := by decide +kernel
theorem dX0_currentMatch_11 : decode cX0_currentMatch 11 = .ok (.iload_n 1, 1) := by decide +kernel
theorem dX0_currentMatch_12 : decode cX0_currentMatch 12 = .ok (.invokevirtual 113, 3) := by decide +kernel
theorem dX0_currentMatch_15 : decode cX0_currentMatch 15 = .ok (.aload_n 0, 1) := by decide +kernel
theorem dX0_currentMatch_16 : decode cX0_currentMatch 16 = .ok (.invokevirtual 119, 3) := by decide +kernel
theorem dX0_currentMatch_19 : decode cX0_currentMatch 19 = .ok (.aload_n 0, 1) := by decide +kernel
theorem dX0_currentMatch_20 : decode cX0_currentMatch 20 = .ok (.aload_n 0, 1) := by decide +kernel
theorem dX0_currentMatch_21 : decode cX0_currentMatch 21 = .ok (.invokevirtual 168, 3) := by decide +kernel
theorem dX0_currentMatch_24 : decode cX0_currentMatch 24 = .ok (.iload_n 1, 1) := by decide +kernel
theorem dX0_currentMatch_25 : decode cX0_currentMatch 25 = .ok (.isub, 1) := by decide +kernel
theorem dX0_currentMatch_26 : decode cX0_currentMatch 26 = .ok (.invokevirtual 125, 3) := by decide +kernel
theorem dX0_currentMatch_29 : decode cX0_currentMatch 29 = .ok (.ireturn, 1) := by decide +kernel
set_option maxRecDepth 20000 in
theorem ggX0_findRoots_X0_partOf : GoodIn wsX0_findRoots wsX0_partOf := goodIn_r _ [6, 7, 8, 12, 13, 14, 15, 16, 17, 18, 19, 20, 21, 22, 23, 24, 25, 26] (by decide +kernel) (by decide +kernel)
set_option maxRecDepth 20000 in
theorem gX0_findRoots_X0_partOf : GoodIn wsX0_findRoots (wsV RX0 171 RX0 yX0_partOf wsX0_partOf) := goodIn_app (goodIn_of _ (by decide +kernel)) ggX0_findRoots_X0_partOf
set_option maxRecDepth 20000 in
theorem ggX0_findRoots_X0_rootOf : GoodIn wsX0_findRoots wsX0_rootOf := goodIn_r _ [11] (by decide +kernel) (by decide +kernel)
set_option maxRecDepth 20000 in
theorem gX0_findRoots_X0_rootOf : GoodIn wsX0_findRoots (va_wsS RX0 174 yX0_rootOf wsX0_rootOf) := goodIn_app (goodIn_of _ (by decide +kernel)) ggX0_findRoots_X0_rootOf
theorem dX0_findRoots_0 : decode cX0_findRoots 0 = .ok (.iconst 0, 1) := by decide +kernel
theorem dX0_findRoots_1 : decode cX0_findRoots 1 = .ok (.istore_n 1, 1) := by decide +kernel
theorem dX0_findRoots_2 : decode cX0_findRoots 2 = .ok (.iload_n 1, 1) := by decide +kernel
theorem dX0_findRoots_3 : decode cX0_findRoots 3 = .ok (.bipush 8, 2) := by decide +kernel
theorem dX0_findRoots_5 : decode cX0_findRoots 5 = .ok (.if_icmp .ge 23, 3) := by decide +kernel
theorem dX0_findRoots_8 : decode cX0_findRoots 8 = .ok (.aload_n 0, 1) := by decide +kernel
theorem dX0_findRoots_9 : decode cX0_findRoots 9 = .ok (.getfield 41, 3) := by decide +kernel
theorem dX0_findRoots_12 : decode cX0_findRoots 12 = .ok (.iload_n 1, 1) := by decide +kernel
theorem dX0_findRoots_13 : decode cX0_findRoots 13 = .ok (.aload_n 0, 1) := by decide +kernel
theorem dX0_findRoots_14 : decode cX0_findRoots 14 = .ok (.iload_n 1, 1) := by decide +kernel
theorem dX0_findRoots_15 : decode cX0_findRoots 15 = .ok (.invokevirtual 171, 3) := by decide +kernel
theorem dX0_findRoots_18 : decode cX0_findRoots 18 = .ok (.invokestatic 174, 3) := by decide +kernel
theorem dX0_findRoots_21 : decode cX0_findRoots 21 = .ok (.iastore, 1) := by decide +kernel
theorem dX0_findRoots_22 : decode cX0_findRoots 22 = .ok (.iinc 1 1, 3) := by decide +kernel
theorem dX0_findRoots_25 : decode cX0_findRoots 25 = .ok (.goto (-23), 3) := by decide +kernel
theorem dX0_findRoots_28 : decode cX0_findRoots 28 = .ok (.return_, 1) := by decide +kernel
theorem dX0_partOf_0 : decode cX0_partOf 0 = .ok (.iconst 0, 1) := by decide +kernel
theorem dX0_partOf_1 : decode cX0_partOf 1 = .ok (.istore_n 2, 1) := by decide +kernel
theorem dX0_partOf_2 : decode cX0_partOf 2 = .ok (.iconst 0, 1) := by decide +kernel
theorem dX0_partOf_3 : decode cX0_partOf 3 = .ok (.istore_n 3, 1) := by decide +kernel
theorem dX0_partOf_4 : decode cX0_partOf 4 = .ok (.iload_n 3, 1) := by decide +kernel
theorem dX0_partOf_5 : decode cX0_partOf 5 = .ok (.bipush 8, 2) := by decide +kernel
theorem dX0_partOf_7 : decode cX0_partOf 7 = .ok (.if_icmp .ge 28, 3) := by decide +kernel
theorem dX0_partOf_10 : decode cX0_partOf 10 = .ok (.aload_n 0, 1) := by decide +kernel
theorem dX0_partOf_11 : decode cX0_partOf 11 = .ok (.getfield 25, 3) := by decide +kernel
theorem dX0_partOf_14 : decode cX0_partOf 14 = .ok (.iload_n 3, 1) := by decide +kernel
theorem dX0_partOf_15 : decode cX0_partOf 15 = .ok (.iaload, 1) := by decide +kernel
theorem dX0_partOf_16 : decode cX0_partOf 16 = .ok (.iload_n 1, 1) := by decide +kernel
theorem dX0_partOf_17 : decode cX0_partOf 17 = .ok (.if_icmp .ne 12, 3) := by decide +kernel
theorem dX0_partOf_20 : decode cX0_partOf 20 = .ok (.iload_n 2, 1) := by decide +kernel
theorem dX0_partOf_21 : decode cX0_partOf 21 = .ok (.aload_n 0, 1) := by decide +kernel
theorem dX0_partOf_22 : decode cX0_partOf 22 = .ok (.getfield 38, 3) := by decide +kernel
theorem dX0_partOf_25 : decode cX0_partOf 25 = .ok (.iload_n 3, 1) := by decide +kernel
theorem dX0_partOf_26 : decode cX0_partOf 26 = .ok (.iaload, 1) := by decide +kernel
theorem dX0_partOf_27 : decode cX0_partOf 27 = .ok (.iadd, 1) := by decide +kernel
theorem dX0_partOf_28 : decode cX0_partOf 28 = .ok (.istore_n 2, 1) := by decide +kernel
theorem dX0_partOf_29 : decode cX0_partOf 29 = .ok (.iinc 3 1, 3) := by decide +kernel
theorem dX0_partOf_32 : decode cX0_partOf 32 = .ok (.goto (-28), 3) := by decide +kernel
theorem dX0_partOf_35 : decode cX0_partOf 35 = .ok (.iload_n 2, 1) := by decide +kernel
theorem dX0_partOf_36 : decode cX0_partOf 36 = .ok (.ireturn, 1) := by decide +kernel
theorem dX0_rootOf_0 : decode cX0_rootOf 0 = .ok (.iconst 0, 1) := by decide +kernel
theorem dX0_rootOf_1 : decode cX0_rootOf 1 = .ok (.istore_n 1, 1) := by decide +kernel
theorem dX0_rootOf_2 : decode cX0_rootOf 2 = .ok (.bipush 8, 2) := by decide +kernel
theorem dX0_rootOf_4 : decode cX0_rootOf 4 = .ok (.istore_n 2, 1) := by decide +kernel
theorem dX0_rootOf_5 : decode cX0_rootOf 5 = .ok (.iload_n 2, 1) := by decide +kernel
theorem dX0_rootOf_6 : decode cX0_rootOf 6 = .ok (.ifCond .lt 24, 3) := by decide +kernel
theorem dX0_rootOf_9 : decode cX0_rootOf 9 = .ok (.iload_n 1, 1) := by decide +kernel
theorem dX0_rootOf_10 : decode cX0_rootOf 10 = .ok (.iconst 1, 1) := by decide +kernel
theorem dX0_rootOf_11 : decode cX0_rootOf 11 = .ok (.iload_n 2, 1) := by decide +kernel
theorem dX0_rootOf_12 : decode cX0_rootOf 12 = .ok (.ishl, 1) := by decide +kernel
theorem dX0_rootOf_13 : decode cX0_rootOf 13 = .ok (.iadd, 1) := by decide +kernel
theorem dX0_rootOf_14 : decode cX0_rootOf 14 = .ok (.istore_n 3, 1) := by decide +kernel
theorem dX0_rootOf_15 : decode cX0_rootOf 15 = .ok (.iload_n 3, 1) := by decide +kernel
theorem dX0_rootOf_16 : decode cX0_rootOf 16 = .ok (.iload_n 3, 1) := by decide +kernel
theorem dX0_rootOf_17 : decode cX0_rootOf 17 = .ok (.imul, 1) := by decide +kernel
theorem dX0_rootOf_18 : decode cX0_rootOf 18 = .ok (.iload_n 0, 1) := by decide +kernel
theorem dX0_rootOf_19 : decode cX0_rootOf 19 = .ok (.if_icmp .gt 5, 3) := by decide +kernel
theorem dX0_rootOf_22 : decode cX0_rootOf 22 = .ok (.iload_n 3, 1) := by decide +kernel
theorem dX0_rootOf_23 : decode cX0_rootOf 23 = .ok (.istore_n 1, 1) := by decide +kernel
theorem dX0_rootOf_24 : decode cX0_rootOf 24 = .ok (.iinc 2 (-1), 3) := by decide +kernel
theorem dX0_rootOf_27 : decode cX0_rootOf 27 = .ok (.goto (-22), 3) := by decide +kernel
theorem dX0_rootOf_30 : decode cX0_rootOf 30 = .ok (.iload_n 1, 1) := by decide +kernel
theorem dX0_rootOf_31 : decode cX0_rootOf 31 = .ok (.ireturn, 1) := by decide +kernel
theorem dX0_squareOfSum_0 : decode cX0_squareOfSum 0 = .ok (.iconst 0, 1) := by decide +kernel
theorem dX0_squareOfSum_1 : decode cX0_squareOfSum 1 = .ok (.istore_n 1, 1) := by decide +kernel
theorem dX0_squareOfSum_2 : decode cX0_squareOfSum 2 = .ok (.iconst 0, 1) := by decide +kernel
theorem dX0_squareOfSum_3 : decode cX0_squareOfSum 3 = .ok (.istore_n 2, 1) := by decide +kernel
theorem dX0_squareOfSum_4 : decode cX0_squareOfSum 4 = .ok (.iload_n 2, 1) := by decide +kernel
theorem dX0_squareOfSum_5 : decode cX0_squareOfSum 5 = .ok (.bipush 8, 2) := by decide +kernel
theorem dX0_squareOfSum_7 : decode cX0_squareOfSum 7 = .ok (.if_icmp .ge 18, 3) := by decide +kernel
theorem dX0_squareOfSum_10 : decode cX0_squareOfSum 10 = .ok (.iload_n 1, 1) := by decide +kernel
theorem dX0_squareOfSum_11 : decode cX0_squareOfSum 11 = .ok (.aload_n 0, 1) := by decide +kernel
theorem dX0_squareOfSum_12 : decode cX0_squareOfSum 12 = .ok (.getfield 41, 3) := by decide +kernel
theorem dX0_squareOfSum_15 : decode cX0_squareOfSum 15 = .ok (.iload_n 2, 1) := by decide +kernel
theorem dX0_squareOfSum_16 : decode cX0_squareOfSum 16 = .ok (.iaload, 1) := by decide +kernel
theorem dX0_squareOfSum_17 : decode cX0_squareOfSum 17 = .ok (.iadd, 1) := by decide +kernel
theorem dX0_squareOfSum_18 : decode cX0_squareOfSum 18 = .ok (.istore_n 1, 1) := by decide +kernel
theorem dX0_squareOfSum_19 : decode cX0_squareOfSum 19 = .ok (.iinc 2 1, 3) := by decide +kernel
theorem dX0_squareOfSum_22 : decode cX0_squareOfSum 22 = .ok (.goto (-18), 3) := by decide +kernel
theorem dX0_squareOfSum_25 : decode cX0_squareOfSum 25 = .ok (.iload_n 1, 1) := by decide +kernel
theorem dX0_squareOfSum_26 : decode cX0_squareOfSum 26 = .ok (.iload_n 1, 1) := by decide +kernel
theorem dX0_squareOfSum_27 : decode cX0_squareOfSum 27 = .ok (.imul, 1) := by decide +kernel
theorem dX0_squareOfSum_28 : decode cX0_squareOfSum 28 = .ok (.ireturn, 1) := by decide +kernel
theorem dX0_squareByPairs_0 : decode cX0_squareByPairs 0 = .ok (.iconst 0, 1) := by decide +kernel
theorem dX0_squareByPairs_1 : decode cX0_squareByPairs 1 = .ok (.istore_n 1, 1) := by decide +kernel
theorem dX0_squareByPairs_2 : decode cX0_squareByPairs 2 = .ok (.iconst 0, 1) := by decide +kernel
theorem dX0_squareByPairs_3 : decode cX0_squareByPairs 3 = .ok (.istore_n 2, 1) := by decide +kernel
theorem dX0_squareByPairs_4 : decode cX0_squareByPairs 4 = .ok (.iload_n 2, 1) := by decide +kernel
theorem dX0_squareByPairs_5 : decode cX0_squareByPairs 5 = .ok (.bipush 8, 2) := by decide +kernel
theorem dX0_squareByPairs_7 : decode cX0_squareByPairs 7 = .ok (.if_icmp .ge 59, 3) := by decide +kernel
theorem dX0_squareByPairs_10 : decode cX0_squareByPairs 10 = .ok (.iload_n 1, 1) := by decide +kernel
theorem dX0_squareByPairs_11 : decode cX0_squareByPairs 11 = .ok (.aload_n 0, 1) := by decide +kernel
theorem dX0_squareByPairs_12 : decode cX0_squareByPairs 12 = .ok (.getfield 41, 3) := by decide +kernel
theorem dX0_squareByPairs_15 : decode cX0_squareByPairs 15 = .ok (.iload_n 2, 1) := by decide +kernel
theorem dX0_squareByPairs_16 : decode cX0_squareByPairs 16 = .ok (.iaload, 1) := by decide +kernel
theorem dX0_squareByPairs_17 : decode cX0_squareByPairs 17 = .ok (.aload_n 0, 1) := by decide +kernel
theorem dX0_squareByPairs_18 : decode cX0_squareByPairs 18 = .ok (.getfield 41, 3) := by decide +kernel
theorem dX0_squareByPairs_21 : decode cX0_squareByPairs 21 = .ok (.iload_n 2, 1) := by decide +kernel
theorem dX0_squareByPairs_22 : decode cX0_squareByPairs 22 = .ok (.iaload, 1) := by decide +kernel
theorem dX0_squareByPairs_23 : decode cX0_squareByPairs 23 = .ok (.imul, 1) := by decide +kernel
theorem dX0_squareByPairs_24 : decode cX0_squareByPairs 24 = .ok (.iadd, 1) := by decide +kernel
theorem dX0_squareByPairs_25 : decode cX0_squareByPairs 25 = .ok (.istore_n 1, 1) := by decide +kernel
theorem dX0_squareByPairs_26 : decode cX0_squareByPairs 26 = .ok (.iload_n 2, 1) := by decide +kernel
theorem dX0_squareByPairs_27 : decode cX0_squareByPairs 27 = .ok (.iconst 1, 1) := by decide +kernel
theorem dX0_squareByPairs_28 : decode cX0_squareByPairs 28 = .ok (.iadd, 1) := by decide +kernel
theorem dX0_squareByPairs_29 : decode cX0_squareByPairs 29 = .ok (.istore_n 3, 1) := by decide +kernel
theorem dX0_squareByPairs_30 : decode cX0_squareByPairs 30 = .ok (.iload_n 3, 1) := by decide +kernel
theorem dX0_squareByPairs_31 : decode cX0_squareByPairs 31 = .ok (.bipush 8, 2) := by decide +kernel
theorem dX0_squareByPairs_33 : decode cX0_squareByPairs 33 = .ok (.if_icmp .ge 27, 3) := by decide +kernel
theorem dX0_squareByPairs_36 : decode cX0_squareByPairs 36 = .ok (.iload_n 1, 1) := by decide +kernel
theorem dX0_squareByPairs_37 : decode cX0_squareByPairs 37 = .ok (.iconst 2, 1) := by decide +kernel
theorem dX0_squareByPairs_38 : decode cX0_squareByPairs 38 = .ok (.aload_n 0, 1) := by decide +kernel
theorem dX0_squareByPairs_39 : decode cX0_squareByPairs 39 = .ok (.getfield 41, 3) := by decide +kernel
theorem dX0_squareByPairs_42 : decode cX0_squareByPairs 42 = .ok (.iload_n 2, 1) := by decide +kernel
theorem dX0_squareByPairs_43 : decode cX0_squareByPairs 43 = .ok (.iaload, 1) := by decide +kernel
theorem dX0_squareByPairs_44 : decode cX0_squareByPairs 44 = .ok (.imul, 1) := by decide +kernel
theorem dX0_squareByPairs_45 : decode cX0_squareByPairs 45 = .ok (.aload_n 0, 1) := by decide +kernel
theorem dX0_squareByPairs_46 : decode cX0_squareByPairs 46 = .ok (.getfield 41, 3) := by decide +kernel
theorem dX0_squareByPairs_49 : decode cX0_squareByPairs 49 = .ok (.iload_n 3, 1) := by decide +kernel
theorem dX0_squareByPairs_50 : decode cX0_squareByPairs 50 = .ok (.iaload, 1) := by decide +kernel
theorem dX0_squareByPairs_51 : decode cX0_squareByPairs 51 = .ok (.imul, 1) := by decide +kernel
theorem dX0_squareByPairs_52 : decode cX0_squareByPairs 52 = .ok (.iadd, 1) := by decide +kernel
theorem dX0_squareByPairs_53 : decode cX0_squareByPairs 53 = .ok (.istore_n 1, 1) := by decide +kernel
theorem dX0_squareByPairs_54 : decode cX0_squareByPairs 54 = .ok (.iinc 3 1, 3) := by decide +kernel
theorem dX0_squareByPairs_57 : decode cX0_squareByPairs 57 = .ok (.goto (-27), 3) := by decide +kernel
theorem dX0_squareByPairs_60 : decode cX0_squareByPairs 60 = .ok (.iinc 2 1, 3) := by decide +kernel
theorem dX0_squareByPairs_63 : decode cX0_squareByPairs 63 = .ok (.goto (-59), 3) := by decide +kernel
theorem dX0_squareByPairs_66 : decode cX0_squareByPairs 66 = .ok (.iload_n 1, 1) := by decide +kernel
theorem dX0_squareByPairs_67 : decode cX0_squareByPairs 67 = .ok (.ireturn, 1) := by decide +kernel
theorem dX0_withinPot_0 : decode cX0_withinPot 0 = .ok (.iload_n 1, 1) := by decide +kernel
theorem dX0_withinPot_1 : decode cX0_withinPot 1 = .ok (.iconst 0, 1) := by decide +kernel
theorem dX0_withinPot_2 : decode cX0_withinPot 2 = .ok (.invokestatic 177, 3) := by decide +kernel
theorem dX0_withinPot_5 : decode cX0_withinPot 5 = .ok (.aload_n 0, 1) := by decide +kernel
theorem dX0_withinPot_6 : decode cX0_withinPot 6 = .ok (.getfield 71, 3) := by decide +kernel
theorem dX0_withinPot_9 : decode cX0_withinPot 9 = .ok (.invokestatic 183, 3) := by decide +kernel
theorem dX0_withinPot_12 : decode cX0_withinPot 12 = .ok (.ireturn, 1) := by decide +kernel
end
section
theorem dX1_init_0 : decode cX1_init 0 = .ok (.aload_n 0, 1) := by decide +kernel
theorem dX1_init_1 : decode cX1_init 1 = .ok (.invokespecial 1, 3) := by decide +kernel
theorem dX1_init_4 : decode cX1_init 4 = .ok (.aload_n 0, 1) := by decide +kernel
theorem dX1_init_5 : decode cX1_init 5 = .ok (.bipush 8, 2) := by decide +kernel
theorem dX1_init_7 : decode cX1_init 7 = .ok (.newarray .int, 2) := by decide +kernel
theorem dX1_init_9 : decode cX1_init 9 = .ok (.putfield 7, 3) := by decide +kernel
theorem dX1_init_12 : decode cX1_init 12 = .ok (.aload_n 0, 1) := by decide +kernel
theorem dX1_init_13 : decode cX1_init 13 = .ok (.bipush 8, 2) := by decide +kernel
theorem dX1_init_15 : decode cX1_init 15 = .ok (.newarray .int, 2) := by decide +kernel
theorem dX1_init_17 : decode cX1_init 17 = .ok (.putfield 13, 3) := by decide +kernel
theorem dX1_init_20 : decode cX1_init 20 = .ok (.aload_n 0, 1) := by decide +kernel
theorem dX1_init_21 : decode cX1_init 21 = .ok (.bipush 8, 2) := by decide +kernel
theorem dX1_init_23 : decode cX1_init 23 = .ok (.newarray .int, 2) := by decide +kernel
theorem dX1_init_25 : decode cX1_init 25 = .ok (.putfield 16, 3) := by decide +kernel
theorem dX1_init_28 : decode cX1_init 28 = .ok (.aload_n 0, 1) := by decide +kernel
theorem dX1_init_29 : decode cX1_init 29 = .ok (.bipush 8, 2) := by decide +kernel
theorem dX1_init_31 : decode cX1_init 31 = .ok (.newarray .int, 2) := by decide +kernel
theorem dX1_init_33 : decode cX1_init 33 = .ok (.putfield 19, 3) := by decide +kernel
theorem dX1_init_36 : decode cX1_init 36 = .ok (.aload_n 0, 1) := by decide +kernel
theorem dX1_init_37 : decode cX1_init 37 = .ok (.bipush 6, 2) := by decide +kernel
theorem dX1_init_39 : decode cX1_init 39 = .ok (.newarray .int, 2) := by decide +kernel
theorem dX1_init_41 : decode cX1_init 41 = .ok (.putfield 22, 3) := by decide +kernel
theorem dX1_init_44 : decode cX1_init 44 = .ok (.aload_n 0, 1) := by decide +kernel
theorem dX1_init_45 : decode cX1_init 45 = .ok (.bipush 6, 2) := by decide +kernel
theorem dX1_init_47 : decode cX1_init 47 = .ok (.newarray .boolean, 2) := by decide +kernel
theorem dX1_init_49 : decode cX1_init 49 = .ok (.putfield 25, 3) := by decide +kernel
theorem dX1_init_52 : decode cX1_init 52 = .ok (.aload_n 0, 1) := by decide +kernel
theorem dX1_init_53 : decode cX1_init 53 = .ok (.bipush 8, 2) := by decide +kernel
theorem dX1_init_55 : decode cX1_init 55 = .ok (.newarray .int, 2) := by decide +kernel
theorem dX1_init_57 : decode cX1_init 57 = .ok (.putfield 29, 3) := by decide +kernel
theorem dX1_init_60 : decode cX1_init 60 = .ok (.iconst 0, 1) := by decide +kernel
theorem dX1_init_61 : decode cX1_init 61 = .ok (.istore_n 1, 1) := by decide +kernel
theorem dX1_init_62 : decode cX1_init 62 = .ok (.iload_n 1, 1) := by decide +kernel
theorem dX1_init_63 : decode cX1_init 63 = .ok (.bipush 8, 2) := by decide +kernel
theorem dX1_init_65 : decode cX1_init 65 = .ok (.if_icmp .ge 23, 3) := by decide +kernel
theorem dX1_init_68 : decode cX1_init 68 = .ok (.aload_n 0, 1) := by decide +kernel
theorem dX1_init_69 : decode cX1_init 69 = .ok (.getfield 13, 3) := by decide +kernel
theorem dX1_init_72 : decode cX1_init 72 = .ok (.iload_n 1, 1) := by decide +kernel
theorem dX1_init_73 : decode cX1_init 73 = .ok (.iconst (-1), 1) := by decide +kernel
theorem dX1_init_74 : decode cX1_init 74 = .ok (.iastore, 1) := by decide +kernel
theorem dX1_init_75 : decode cX1_init 75 = .ok (.aload_n 0, 1) := by decide +kernel
theorem dX1_init_76 : decode cX1_init 76 = .ok (.getfield 16, 3) := by decide +kernel
theorem dX1_init_79 : decode cX1_init 79 = .ok (.iload_n 1, 1) := by decide +kernel
theorem dX1_init_80 : decode cX1_init 80 = .ok (.iload_n 1, 1) := by decide +kernel
theorem dX1_init_81 : decode cX1_init 81 = .ok (.iastore, 1) := by decide +kernel
theorem dX1_init_82 : decode cX1_init 82 = .ok (.iinc 1 1, 3) := by decide +kernel
theorem dX1_init_85 : decode cX1_init 85 = .ok (.goto (-23), 3) := by decide +kernel
theorem dX1_init_88 : decode cX1_init 88 = .ok (.return_, 1) := by decide +kernel
theorem dX1_thrown_0 : decode cX1_thrown 0 = .ok (.aload_n 0, 1) := by decide +kernel
theorem dX1_thrown_1 : decode cX1_thrown 1 = .ok (.getfield 32, 3) := by decide +kernel
theorem dX1_thrown_4 : decode cX1_thrown 4 = .ok (.ireturn, 1) := by decide +kernel
theorem dX1_goes_0 : decode cX1_goes 0 = .ok (.aload_n 0, 1) := by decide +kernel
theorem dX1_goes_1 : decode cX1_goes 1 = .ok (.iload_n 1, 1) := by decide +kernel
theorem dX1_goes_2 : decode cX1_goes 2 = .ok (.putfield 32, 3) := by decide +kernel
theorem dX1_goes_5 : decode cX1_goes 5 = .ok (.iload_n 1, 1) := by decide +kernel
theorem dX1_goes_6 : decode cX1_goes 6 = .ok (.ifCond .ne 7, 3) := by decide +kernel
theorem dX1_goes_9 : decode cX1_goes 9 = .ok (.iconst 1, 1) := by decide +kernel
theorem dX1_goes_10 : decode cX1_goes 10 = .ok (.goto 4, 3) := by decide +kernel
theorem dX1_goes_13 : decode cX1_goes 13 = .ok (.iconst 0, 1) := by decide +kernel
theorem dX1_goes_14 : decode cX1_goes 14 = .ok (.ireturn, 1) := by decide +kernel
theorem dX1_isIn_0 : decode cX1_isIn 0 = .ok (.iload_n 0, 1) := by decide +kernel
theorem dX1_isIn_1 : decode cX1_isIn 1 = .ok (.iload_n 1, 1) := by decide +kernel
theorem dX1_isIn_2 : decode cX1_isIn 2 = .ok (.if_icmp .lt 12, 3) := by decide +kernel
theorem dX1_isIn_5 : decode cX1_isIn 5 = .ok (.iload_n 0, 1) := by decide +kernel
theorem dX1_isIn_6 : decode cX1_isIn 6 = .ok (.iload_n 2, 1) := by decide +kernel
theorem dX1_isIn_7 : decode cX1_isIn 7 = .ok (.if_icmp .gt 7, 3) := by decide +kernel
theorem dX1_isIn_10 : decode cX1_isIn 10 = .ok (.iconst 1, 1) := by decide +kernel
theorem dX1_isIn_11 : decode cX1_isIn 11 = .ok (.goto 4, 3) := by decide +kernel
theorem dX1_isIn_14 : decode cX1_isIn 14 = .ok (.iconst 0, 1) := by decide +kernel
theorem dX1_isIn_15 : decode cX1_isIn 15 = .ok (.ireturn, 1) := by decide +kernel
set_option maxRecDepth 20000 in
theorem ggX1_isGiver_X1_isIn : GoodIn wsX1_isGiver wsX1_isIn := goodIn_r _ [4] (by decide +kernel) (by decide +kernel)
set_option maxRecDepth 20000 in
theorem gX1_isGiver_X1_isIn : GoodIn wsX1_isGiver (va_wsS RX1 36 yX1_isIn wsX1_isIn) := goodIn_app (goodIn_of _ (by decide +kernel)) ggX1_isGiver_X1_isIn
theorem dX1_isGiver_0 : decode cX1_isGiver 0 = .ok (.iload_n 0, 1) := by decide +kernel
theorem dX1_isGiver_1 : decode cX1_isGiver 1 = .ok (.iconst 0, 1) := by decide +kernel
theorem dX1_isGiver_2 : decode cX1_isGiver 2 = .ok (.bipush 7, 2) := by decide +kernel
theorem dX1_isGiver_4 : decode cX1_isGiver 4 = .ok (.invokestatic 36, 3) := by decide +kernel
theorem dX1_isGiver_7 : decode cX1_isGiver 7 = .ok (.ireturn, 1) := by decide +kernel
set_option maxRecDepth 20000 in
theorem ggX1_give_X1_isIn : GoodIn wsX1_give wsX1_isIn := goodIn_r _ [6] (by decide +kernel) (by decide +kernel)
set_option maxRecDepth 20000 in
theorem gX1_give_X1_isIn : GoodIn wsX1_give (va_wsS RX1 36 yX1_isIn wsX1_isIn) := goodIn_app (goodIn_of _ (by decide +kernel)) ggX1_give_X1_isIn
set_option maxRecDepth 20000 in
theorem ggX1_give_X1_isGiver : GoodIn wsX1_give wsX1_isGiver := goodIn_r _ [9, 3, 4, 5, 6] (by decide +kernel) (by decide +kernel)
set_option maxRecDepth 20000 in
theorem gX1_give_X1_isGiver : GoodIn wsX1_give (va_wsS RX1 40 yX1_isGiver wsX1_isGiver) := goodIn_app (goodIn_of _ (by decide +kernel)) ggX1_give_X1_isGiver
set_option maxRecDepth 20000 in
theorem ggX1_give_X1_goes : GoodIn wsX1_give wsX1_goes := goodIn_r _ [13, 14, 15, 16, 17, 18, 19, 20, 21, 22, 23, 24, 25, 26] (by decide +kernel) (by decide +kernel)
set_option maxRecDepth 20000 in
theorem gX1_give_X1_goes : GoodIn wsX1_give (wsV RX1 45 RX1 yX1_goes wsX1_goes) := goodIn_app (goodIn_of _ (by decide +kernel)) ggX1_give_X1_goes
theorem dX1_give_0 : decode cX1_give 0 = .ok (.iload_n 2, 1) := by decide +kernel
theorem dX1_give_1 : decode cX1_give 1 = .ok (.iconst 1, 1) := by decide +kernel
theorem dX1_give_2 : decode cX1_give 2 = .ok (.sipush 10000, 3) := by decide +kernel
theorem dX1_give_5 : decode cX1_give 5 = .ok (.invokestatic 36, 3) := by decide +kernel
theorem dX1_give_8 : decode cX1_give 8 = .ok (.istore_n 3, 1) := by decide +kernel
theorem dX1_give_9 : decode cX1_give 9 = .ok (.aload_n 0, 1) := by decide +kernel
theorem dX1_give_10 : decode cX1_give 10 = .ok (.iload_n 1, 1) := by decide +kernel
theorem dX1_give_11 : decode cX1_give 11 = .ok (.invokestatic 40, 3) := by decide +kernel
theorem dX1_give_14 : decode cX1_give 14 = .ok (.ifCond .ne 7, 3) := by decide +kernel
theorem dX1_give_17 : decode cX1_give 17 = .ok (.iconst 1, 1) := by decide +kernel
theorem dX1_give_18 : decode cX1_give 18 = .ok (.goto 29, 3) := by decide +kernel
theorem dX1_give_21 : decode cX1_give 21 = .ok (.iload_n 3, 1) := by decide +kernel
theorem dX1_give_22 : decode cX1_give 22 = .ok (.ifCond .ne 7, 3) := by decide +kernel
theorem dX1_give_25 : decode cX1_give 25 = .ok (.iconst 2, 1) := by decide +kernel
theorem dX1_give_26 : decode cX1_give 26 = .ok (.goto 21, 3) := by decide +kernel
theorem dX1_give_29 : decode cX1_give 29 = .ok (.aload_n 0, 1) := by decide +kernel
theorem dX1_give_30 : decode cX1_give 30 = .ok (.getfield 7, 3) := by decide +kernel
theorem dX1_give_33 : decode cX1_give 33 = .ok (.iload_n 1, 1) := by decide +kernel
theorem dX1_give_34 : decode cX1_give 34 = .ok (.iaload, 1) := by decide +kernel
theorem dX1_give_35 : decode cX1_give 35 = .ok (.iload_n 2, 1) := by decide +kernel
theorem dX1_give_36 : decode cX1_give 36 = .ok (.iadd, 1) := by decide +kernel
theorem dX1_give_37 : decode cX1_give 37 = .ok (.ldc 44, 2) := by decide +kernel
theorem dX1_give_39 : decode cX1_give 39 = .ok (.if_icmp .le 7, 3) := by decide +kernel
theorem dX1_give_42 : decode cX1_give 42 = .ok (.iconst 3, 1) := by decide +kernel
theorem dX1_give_43 : decode cX1_give 43 = .ok (.goto 4, 3) := by decide +kernel
theorem dX1_give_46 : decode cX1_give 46 = .ok (.iconst 0, 1) := by decide +kernel
theorem dX1_give_47 : decode cX1_give 47 = .ok (.invokevirtual 45, 3) := by decide +kernel
theorem dX1_give_50 : decode cX1_give 50 = .ok (.ifCond .ne 5, 3) := by decide +kernel
theorem dX1_give_53 : decode cX1_give 53 = .ok (.iconst 0, 1) := by decide +kernel
theorem dX1_give_54 : decode cX1_give 54 = .ok (.ireturn, 1) := by decide +kernel
theorem dX1_give_55 : decode cX1_give 55 = .ok (.aload_n 0, 1) := by decide +kernel
theorem dX1_give_56 : decode cX1_give 56 = .ok (.getfield 7, 3) := by decide +kernel
theorem dX1_give_59 : decode cX1_give 59 = .ok (.iload_n 1, 1) := by decide +kernel
theorem dX1_give_60 : decode cX1_give 60 = .ok (.dup2, 1) := by decide +kernel
theorem dX1_give_61 : decode cX1_give 61 = .ok (.iaload, 1) := by decide +kernel
theorem dX1_give_62 : decode cX1_give 62 = .ok (.iload_n 2, 1) := by decide +kernel
theorem dX1_give_63 : decode cX1_give 63 = .ok (.iadd, 1) := by decide +kernel
theorem dX1_give_64 : decode cX1_give 64 = .ok (.iastore, 1) := by decide +kernel
theorem dX1_give_65 : decode cX1_give 65 = .ok (.aload_n 0, 1) := by decide +kernel
theorem dX1_give_66 : decode cX1_give 66 = .ok (.getfield 7, 3) := by decide +kernel
theorem dX1_give_69 : decode cX1_give 69 = .ok (.iload_n 1, 1) := by decide +kernel
theorem dX1_give_70 : decode cX1_give 70 = .ok (.iaload, 1) := by decide +kernel
theorem dX1_give_71 : decode cX1_give 71 = .ok (.ireturn, 1) := by decide +kernel
set_option maxRecDepth 20000 in
theorem ggX1_leave_X1_isGiver : GoodIn wsX1_leave wsX1_isGiver := goodIn_r _ [6, 7, 8, 5, 9] (by decide +kernel) (by decide +kernel)
set_option maxRecDepth 20000 in
theorem gX1_leave_X1_isGiver : GoodIn wsX1_leave (va_wsS RX1 40 yX1_isGiver wsX1_isGiver) := goodIn_app (goodIn_of _ (by decide +kernel)) ggX1_leave_X1_isGiver
set_option maxRecDepth 20000 in
theorem ggX1_leave_X1_goes : GoodIn wsX1_leave wsX1_goes := goodIn_r _ [13, 14, 15, 16, 17, 18, 19, 20, 21, 22, 23, 24, 25, 26] (by decide +kernel) (by decide +kernel)
set_option maxRecDepth 20000 in
theorem gX1_leave_X1_goes : GoodIn wsX1_leave (wsV RX1 45 RX1 yX1_goes wsX1_goes) := goodIn_app (goodIn_of _ (by decide +kernel)) ggX1_leave_X1_goes
theorem dX1_leave_0 : decode cX1_leave 0 = .ok (.aload_n 0, 1) := by decide +kernel
theorem dX1_leave_1 : decode cX1_leave 1 = .ok (.iload_n 1, 1) := by decide +kernel
theorem dX1_leave_2 : decode cX1_leave 2 = .ok (.invokestatic 40, 3) := by decide +kernel
theorem dX1_leave_5 : decode cX1_leave 5 = .ok (.ifCond .eq 7, 3) := by decide +kernel
theorem dX1_leave_8 : decode cX1_leave 8 = .ok (.iconst 0, 1) := by decide +kernel
theorem dX1_leave_9 : decode cX1_leave 9 = .ok (.goto 4, 3) := by decide +kernel
theorem dX1_leave_12 : decode cX1_leave 12 = .ok (.iconst 1, 1) := by decide +kernel
theorem dX1_leave_13 : decode cX1_leave 13 = .ok (.invokevirtual 45, 3) := by decide +kernel
theorem dX1_leave_16 : decode cX1_leave 16 = .ok (.ifCond .ne 5, 3) := by decide +kernel
theorem dX1_leave_19 : decode cX1_leave 19 = .ok (.iconst 0, 1) := by decide +kernel
theorem dX1_leave_20 : decode cX1_leave 20 = .ok (.ireturn, 1) := by decide +kernel
theorem dX1_leave_21 : decode cX1_leave 21 = .ok (.aload_n 0, 1) := by decide +kernel
theorem dX1_leave_22 : decode cX1_leave 22 = .ok (.getfield 7, 3) := by decide +kernel
theorem dX1_leave_25 : decode cX1_leave 25 = .ok (.iload_n 1, 1) := by decide +kernel
theorem dX1_leave_26 : decode cX1_leave 26 = .ok (.iaload, 1) := by decide +kernel
theorem dX1_leave_27 : decode cX1_leave 27 = .ok (.istore_n 2, 1) := by decide +kernel
theorem dX1_leave_28 : decode cX1_leave 28 = .ok (.aload_n 0, 1) := by decide +kernel
theorem dX1_leave_29 : decode cX1_leave 29 = .ok (.getfield 7, 3) := by decide +kernel
theorem dX1_leave_32 : decode cX1_leave 32 = .ok (.iload_n 1, 1) := by decide +kernel
theorem dX1_leave_33 : decode cX1_leave 33 = .ok (.iconst 0, 1) := by decide +kernel
theorem dX1_leave_34 : decode cX1_leave 34 = .ok (.iastore, 1) := by decide +kernel
theorem dX1_leave_35 : decode cX1_leave 35 = .ok (.aload_n 0, 1) := by decide +kernel
theorem dX1_leave_36 : decode cX1_leave 36 = .ok (.getfield 19, 3) := by decide +kernel
theorem dX1_leave_39 : decode cX1_leave 39 = .ok (.iload_n 1, 1) := by decide +kernel
theorem dX1_leave_40 : decode cX1_leave 40 = .ok (.iconst 0, 1) := by decide +kernel
theorem dX1_leave_41 : decode cX1_leave 41 = .ok (.iastore, 1) := by decide +kernel
theorem dX1_leave_42 : decode cX1_leave 42 = .ok (.iload_n 2, 1) := by decide +kernel
theorem dX1_leave_43 : decode cX1_leave 43 = .ok (.ireturn, 1) := by decide +kernel
theorem dX1_isInRow_0 : decode cX1_isInRow 0 = .ok (.iconst 0, 1) := by decide +kernel
theorem dX1_isInRow_1 : decode cX1_isInRow 1 = .ok (.istore_n 3, 1) := by decide +kernel
theorem dX1_isInRow_2 : decode cX1_isInRow 2 = .ok (.iload_n 2, 1) := by decide +kernel
theorem dX1_isInRow_3 : decode cX1_isInRow 3 = .ok (.istore 4, 2) := by decide +kernel
theorem dX1_isInRow_5 : decode cX1_isInRow 5 = .ok (.iload 4, 2) := by decide +kernel
theorem dX1_isInRow_7 : decode cX1_isInRow 7 = .ok (.iconst (-1), 1) := by decide +kernel
theorem dX1_isInRow_8 : decode cX1_isInRow 8 = .ok (.if_icmp .eq 31, 3) := by decide +kernel
theorem dX1_isInRow_11 : decode cX1_isInRow 11 = .ok (.iload_n 3, 1) := by decide +kernel
theorem dX1_isInRow_12 : decode cX1_isInRow 12 = .ok (.ifCond .ne 9, 3) := by decide +kernel
theorem dX1_isInRow_15 : decode cX1_isInRow 15 = .ok (.iload 4, 2) := by decide +kernel
theorem dX1_isInRow_17 : decode cX1_isInRow 17 = .ok (.iload_n 1, 1) := by decide +kernel
theorem dX1_isInRow_18 : decode cX1_isInRow 18 = .ok (.if_icmp .ne 7, 3) := by decide +kernel
theorem dX1_isInRow_21 : decode cX1_isInRow 21 = .ok (.iconst 1, 1) := by decide +kernel
theorem dX1_isInRow_22 : decode cX1_isInRow 22 = .ok (.goto 4, 3) := by decide +kernel
theorem dX1_isInRow_25 : decode cX1_isInRow 25 = .ok (.iconst 0, 1) := by decide +kernel
theorem dX1_isInRow_26 : decode cX1_isInRow 26 = .ok (.istore_n 3, 1) := by decide +kernel
theorem dX1_isInRow_27 : decode cX1_isInRow 27 = .ok (.aload_n 0, 1) := by decide +kernel
theorem dX1_isInRow_28 : decode cX1_isInRow 28 = .ok (.getfield 13, 3) := by decide +kernel
theorem dX1_isInRow_31 : decode cX1_isInRow 31 = .ok (.iload 4, 2) := by decide +kernel
theorem dX1_isInRow_33 : decode cX1_isInRow 33 = .ok (.iaload, 1) := by decide +kernel
theorem dX1_isInRow_34 : decode cX1_isInRow 34 = .ok (.istore 4, 2) := by decide +kernel
theorem dX1_isInRow_36 : decode cX1_isInRow 36 = .ok (.goto (-31), 3) := by decide +kernel
theorem dX1_isInRow_39 : decode cX1_isInRow 39 = .ok (.iload_n 3, 1) := by decide +kernel
theorem dX1_isInRow_40 : decode cX1_isInRow 40 = .ok (.ireturn, 1) := by decide +kernel
set_option maxRecDepth 20000 in
theorem ggX1_trust_X1_isGiver : GoodIn wsX1_trust wsX1_isGiver := goodIn_r _ [5, 6, 7, 4, 8] (by decide +kernel) (by decide +kernel)
set_option maxRecDepth 20000 in
theorem gX1_trust_X1_isGiver : GoodIn wsX1_trust (va_wsS RX1 40 yX1_isGiver wsX1_isGiver) := goodIn_app (goodIn_of _ (by decide +kernel)) ggX1_trust_X1_isGiver
set_option maxRecDepth 20000 in
theorem ggX1_trust_X1_isInRow : GoodIn wsX1_trust wsX1_isInRow := goodIn_r _ [12, 1, 18, 19, 20, 21, 22, 23, 24, 25, 26, 27, 28, 29] (by decide +kernel) (by decide +kernel)
set_option maxRecDepth 20000 in
theorem gX1_trust_X1_isInRow : GoodIn wsX1_trust (wsV RX1 48 RX1 yX1_isInRow wsX1_isInRow) := goodIn_app (goodIn_of _ (by decide +kernel)) ggX1_trust_X1_isInRow
set_option maxRecDepth 20000 in
theorem ggX1_trust_X1_goes : GoodIn wsX1_trust wsX1_goes := goodIn_r _ [16, 17, 18, 19, 20, 21, 22, 23, 24, 25, 26, 27, 28, 29] (by decide +kernel) (by decide +kernel)
set_option maxRecDepth 20000 in
theorem gX1_trust_X1_goes : GoodIn wsX1_trust (wsV RX1 45 RX1 yX1_goes wsX1_goes) := goodIn_app (goodIn_of _ (by decide +kernel)) ggX1_trust_X1_goes
theorem dX1_trust_0 : decode cX1_trust 0 = .ok (.iload_n 1, 1) := by decide +kernel
theorem dX1_trust_1 : decode cX1_trust 1 = .ok (.invokestatic 40, 3) := by decide +kernel
theorem dX1_trust_4 : decode cX1_trust 4 = .ok (.ifCond .eq 19, 3) := by decide +kernel
theorem dX1_trust_7 : decode cX1_trust 7 = .ok (.iload_n 2, 1) := by decide +kernel
theorem dX1_trust_8 : decode cX1_trust 8 = .ok (.iconst (-1), 1) := by decide +kernel
theorem dX1_trust_9 : decode cX1_trust 9 = .ok (.if_icmp .eq 10, 3) := by decide +kernel
theorem dX1_trust_12 : decode cX1_trust 12 = .ok (.iload_n 2, 1) := by decide +kernel
theorem dX1_trust_13 : decode cX1_trust 13 = .ok (.invokestatic 40, 3) := by decide +kernel
theorem dX1_trust_16 : decode cX1_trust 16 = .ok (.ifCond .eq 7, 3) := by decide +kernel
theorem dX1_trust_19 : decode cX1_trust 19 = .ok (.iconst 1, 1) := by decide +kernel
theorem dX1_trust_20 : decode cX1_trust 20 = .ok (.goto 4, 3) := by decide +kernel
theorem dX1_trust_23 : decode cX1_trust 23 = .ok (.iconst 0, 1) := by decide +kernel
theorem dX1_trust_24 : decode cX1_trust 24 = .ok (.istore_n 3, 1) := by decide +kernel
theorem dX1_trust_25 : decode cX1_trust 25 = .ok (.aload_n 0, 1) := by decide +kernel
theorem dX1_trust_26 : decode cX1_trust 26 = .ok (.iload_n 3, 1) := by decide +kernel
theorem dX1_trust_27 : decode cX1_trust 27 = .ok (.ifCond .ne 7, 3) := by decide +kernel
theorem dX1_trust_30 : decode cX1_trust 30 = .ok (.iconst 1, 1) := by decide +kernel
theorem dX1_trust_31 : decode cX1_trust 31 = .ok (.goto 17, 3) := by decide +kernel
theorem dX1_trust_34 : decode cX1_trust 34 = .ok (.aload_n 0, 1) := by decide +kernel
theorem dX1_trust_35 : decode cX1_trust 35 = .ok (.iload_n 1, 1) := by decide +kernel
theorem dX1_trust_36 : decode cX1_trust 36 = .ok (.iload_n 2, 1) := by decide +kernel
theorem dX1_trust_37 : decode cX1_trust 37 = .ok (.invokevirtual 48, 3) := by decide +kernel
theorem dX1_trust_40 : decode cX1_trust 40 = .ok (.ifCond .eq 7, 3) := by decide +kernel
theorem dX1_trust_43 : decode cX1_trust 43 = .ok (.iconst 2, 1) := by decide +kernel
theorem dX1_trust_44 : decode cX1_trust 44 = .ok (.goto 4, 3) := by decide +kernel
theorem dX1_trust_47 : decode cX1_trust 47 = .ok (.iconst 0, 1) := by decide +kernel
theorem dX1_trust_48 : decode cX1_trust 48 = .ok (.invokevirtual 45, 3) := by decide +kernel
theorem dX1_trust_51 : decode cX1_trust 51 = .ok (.ifCond .ne 5, 3) := by decide +kernel
theorem dX1_trust_54 : decode cX1_trust 54 = .ok (.iconst 0, 1) := by decide +kernel
theorem dX1_trust_55 : decode cX1_trust 55 = .ok (.ireturn, 1) := by decide +kernel
theorem dX1_trust_56 : decode cX1_trust 56 = .ok (.aload_n 0, 1) := by decide +kernel
theorem dX1_trust_57 : decode cX1_trust 57 = .ok (.getfield 13, 3) := by decide +kernel
theorem dX1_trust_60 : decode cX1_trust 60 = .ok (.iload_n 1, 1) := by decide +kernel
theorem dX1_trust_61 : decode cX1_trust 61 = .ok (.iaload, 1) := by decide +kernel
theorem dX1_trust_62 : decode cX1_trust 62 = .ok (.istore 4, 2) := by decide +kernel
theorem dX1_trust_64 : decode cX1_trust 64 = .ok (.aload_n 0, 1) := by decide +kernel
theorem dX1_trust_65 : decode cX1_trust 65 = .ok (.getfield 13, 3) := by decide +kernel
theorem dX1_trust_68 : decode cX1_trust 68 = .ok (.iload_n 1, 1) := by decide +kernel
theorem dX1_trust_69 : decode cX1_trust 69 = .ok (.iload_n 2, 1) := by decide +kernel
theorem dX1_trust_70 : decode cX1_trust 70 = .ok (.iastore, 1) := by decide +kernel
theorem dX1_trust_71 : decode cX1_trust 71 = .ok (.iload 4, 2) := by decide +kernel
theorem dX1_trust_73 : decode cX1_trust 73 = .ok (.ireturn, 1) := by decide +kernel
set_option maxRecDepth 20000 in
theorem ggX1_setPerson_X1_isGiver : GoodIn wsX1_setPerson wsX1_isGiver := goodIn_r _ [5, 6, 7, 4, 8] (by decide +kernel) (by decide +kernel)
set_option maxRecDepth 20000 in
theorem gX1_setPerson_X1_isGiver : GoodIn wsX1_setPerson (va_wsS RX1 40 yX1_isGiver wsX1_isGiver) := goodIn_app (goodIn_of _ (by decide +kernel)) ggX1_setPerson_X1_isGiver
set_option maxRecDepth 20000 in
theorem ggX1_setPerson_X1_goes : GoodIn wsX1_setPerson wsX1_goes := goodIn_r _ [12, 13, 14, 15, 16, 17, 18, 19, 20, 21, 22, 23, 24, 25] (by decide +kernel) (by decide +kernel)
set_option maxRecDepth 20000 in
theorem gX1_setPerson_X1_goes : GoodIn wsX1_setPerson (wsV RX1 45 RX1 yX1_goes wsX1_goes) := goodIn_app (goodIn_of _ (by decide +kernel)) ggX1_setPerson_X1_goes
theorem dX1_setPerson_0 : decode cX1_setPerson 0 = .ok (.aload_n 0, 1) := by decide +kernel
theorem dX1_setPerson_1 : decode cX1_setPerson 1 = .ok (.iload_n 1, 1) := by decide +kernel
theorem dX1_setPerson_2 : decode cX1_setPerson 2 = .ok (.invokestatic 40, 3) := by decide +kernel
theorem dX1_setPerson_5 : decode cX1_setPerson 5 = .ok (.ifCond .eq 14, 3) := by decide +kernel
theorem dX1_setPerson_8 : decode cX1_setPerson 8 = .ok (.iload_n 2, 1) := by decide +kernel
theorem dX1_setPerson_9 : decode cX1_setPerson 9 = .ok (.invokestatic 40, 3) := by decide +kernel
theorem dX1_setPerson_12 : decode cX1_setPerson 12 = .ok (.ifCond .eq 7, 3) := by decide +kernel
theorem dX1_setPerson_15 : decode cX1_setPerson 15 = .ok (.iconst 0, 1) := by decide +kernel
theorem dX1_setPerson_16 : decode cX1_setPerson 16 = .ok (.goto 4, 3) := by decide +kernel
theorem dX1_setPerson_19 : decode cX1_setPerson 19 = .ok (.iconst 1, 1) := by decide +kernel
theorem dX1_setPerson_20 : decode cX1_setPerson 20 = .ok (.invokevirtual 45, 3) := by decide +kernel
theorem dX1_setPerson_23 : decode cX1_setPerson 23 = .ok (.ifCond .ne 5, 3) := by decide +kernel
theorem dX1_setPerson_26 : decode cX1_setPerson 26 = .ok (.iconst 0, 1) := by decide +kernel
theorem dX1_setPerson_27 : decode cX1_setPerson 27 = .ok (.ireturn, 1) := by decide +kernel
theorem dX1_setPerson_28 : decode cX1_setPerson 28 = .ok (.aload_n 0, 1) := by decide +kernel
theorem dX1_setPerson_29 : decode cX1_setPerson 29 = .ok (.getfield 16, 3) := by decide +kernel
theorem dX1_setPerson_32 : decode cX1_setPerson 32 = .ok (.iload_n 1, 1) := by decide +kernel
theorem dX1_setPerson_33 : decode cX1_setPerson 33 = .ok (.iaload, 1) := by decide +kernel
theorem dX1_setPerson_34 : decode cX1_setPerson 34 = .ok (.istore_n 3, 1) := by decide +kernel
theorem dX1_setPerson_35 : decode cX1_setPerson 35 = .ok (.aload_n 0, 1) := by decide +kernel
theorem dX1_setPerson_36 : decode cX1_setPerson 36 = .ok (.getfield 16, 3) := by decide +kernel
theorem dX1_setPerson_39 : decode cX1_setPerson 39 = .ok (.iload_n 1, 1) := by decide +kernel
theorem dX1_setPerson_40 : decode cX1_setPerson 40 = .ok (.iload_n 2, 1) := by decide +kernel
theorem dX1_setPerson_41 : decode cX1_setPerson 41 = .ok (.iastore, 1) := by decide +kernel
theorem dX1_setPerson_42 : decode cX1_setPerson 42 = .ok (.iload_n 3, 1) := by decide +kernel
theorem dX1_setPerson_43 : decode cX1_setPerson 43 = .ok (.ireturn, 1) := by decide +kernel
set_option maxRecDepth 20000 in
theorem ggX1_in_X1_isGiver : GoodIn wsX1_in wsX1_isGiver := goodIn_r _ [5, 6, 7, 4, 8] (by decide +kernel) (by decide +kernel)
set_option maxRecDepth 20000 in
theorem gX1_in_X1_isGiver : GoodIn wsX1_in (va_wsS RX1 40 yX1_isGiver wsX1_isGiver) := goodIn_app (goodIn_of _ (by decide +kernel)) ggX1_in_X1_isGiver
set_option maxRecDepth 20000 in
theorem ggX1_in_X1_goes : GoodIn wsX1_in wsX1_goes := goodIn_r _ [12, 13, 14, 15, 16, 17, 18, 19, 20, 21, 22, 23, 24, 25] (by decide +kernel) (by decide +kernel)
set_option maxRecDepth 20000 in
theorem gX1_in_X1_goes : GoodIn wsX1_in (wsV RX1 45 RX1 yX1_goes wsX1_goes) := goodIn_app (goodIn_of _ (by decide +kernel)) ggX1_in_X1_goes
theorem dX1_in_0 : decode cX1_in 0 = .ok (.aload_n 0, 1) := by decide +kernel
theorem dX1_in_1 : decode cX1_in 1 = .ok (.iload_n 1, 1) := by decide +kernel
theorem dX1_in_2 : decode cX1_in 2 = .ok (.invokestatic 40, 3) := by decide +kernel
theorem dX1_in_5 : decode cX1_in 5 = .ok (.ifCond .eq 7, 3) := by decide +kernel
theorem dX1_in_8 : decode cX1_in 8 = .ok (.iconst 0, 1) := by decide +kernel
theorem dX1_in_9 : decode cX1_in 9 = .ok (.goto 4, 3) := by decide +kernel
theorem dX1_in_12 : decode cX1_in 12 = .ok (.iconst 1, 1) := by decide +kernel
theorem dX1_in_13 : decode cX1_in 13 = .ok (.invokevirtual 45, 3) := by decide +kernel
theorem dX1_in_16 : decode cX1_in 16 = .ok (.ifCond .eq 12, 3) := by decide +kernel
theorem dX1_in_19 : decode cX1_in 19 = .ok (.aload_n 0, 1) := by decide +kernel
theorem dX1_in_20 : decode cX1_in 20 = .ok (.getfield 7, 3) := by decide +kernel
theorem dX1_in_23 : decode cX1_in 23 = .ok (.iload_n 1, 1) := by decide +kernel
theorem dX1_in_24 : decode cX1_in 24 = .ok (.iaload, 1) := by decide +kernel
theorem dX1_in_25 : decode cX1_in 25 = .ok (.goto 4, 3) := by decide +kernel
theorem dX1_in_28 : decode cX1_in 28 = .ok (.iconst 0, 1) := by decide +kernel
theorem dX1_in_29 : decode cX1_in 29 = .ok (.ireturn, 1) := by decide +kernel
set_option maxRecDepth 20000 in
theorem ggX1_inByBook_X1_isGiver : GoodIn wsX1_inByBook wsX1_isGiver := goodIn_r _ [5, 6, 7, 4, 8] (by decide +kernel) (by decide +kernel)
set_option maxRecDepth 20000 in
theorem gX1_inByBook_X1_isGiver : GoodIn wsX1_inByBook (va_wsS RX1 40 yX1_isGiver wsX1_isGiver) := goodIn_app (goodIn_of _ (by decide +kernel)) ggX1_inByBook_X1_isGiver
set_option maxRecDepth 20000 in
theorem ggX1_inByBook_X1_goes : GoodIn wsX1_inByBook wsX1_goes := goodIn_r _ [12, 13, 14, 15, 16, 17, 18, 19, 20, 21, 22, 23, 24, 25] (by decide +kernel) (by decide +kernel)
set_option maxRecDepth 20000 in
theorem gX1_inByBook_X1_goes : GoodIn wsX1_inByBook (wsV RX1 45 RX1 yX1_goes wsX1_goes) := goodIn_app (goodIn_of _ (by decide +kernel)) ggX1_inByBook_X1_goes
theorem dX1_inByBook_0 : decode cX1_inByBook 0 = .ok (.aload_n 0, 1) := by decide +kernel
theorem dX1_inByBook_1 : decode cX1_inByBook 1 = .ok (.iload_n 1, 1) := by decide +kernel
theorem dX1_inByBook_2 : decode cX1_inByBook 2 = .ok (.invokestatic 40, 3) := by decide +kernel
theorem dX1_inByBook_5 : decode cX1_inByBook 5 = .ok (.ifCond .eq 7, 3) := by decide +kernel
theorem dX1_inByBook_8 : decode cX1_inByBook 8 = .ok (.iconst 0, 1) := by decide +kernel
theorem dX1_inByBook_9 : decode cX1_inByBook 9 = .ok (.goto 4, 3) := by decide +kernel
theorem dX1_inByBook_12 : decode cX1_inByBook 12 = .ok (.iconst 1, 1) := by decide +kernel
theorem dX1_inByBook_13 : decode cX1_inByBook 13 = .ok (.invokevirtual 45, 3) := by decide +kernel
theorem dX1_inByBook_16 : decode cX1_inByBook 16 = .ok (.ifCond .eq 12, 3) := by decide +kernel
theorem dX1_inByBook_19 : decode cX1_inByBook 19 = .ok (.aload_n 0, 1) := by decide +kernel
theorem dX1_inByBook_20 : decode cX1_inByBook 20 = .ok (.getfield 7, 3) := by decide +kernel
theorem dX1_inByBook_23 : decode cX1_inByBook 23 = .ok (.iload_n 1, 1) := by decide +kernel
theorem dX1_inByBook_24 : decode cX1_inByBook 24 = .ok (.iaload, 1) := by decide +kernel
theorem dX1_inByBook_25 : decode cX1_inByBook 25 = .ok (.goto 4, 3) := by decide +kernel
theorem dX1_inByBook_28 : decode cX1_inByBook 28 = .ok (.iconst 0, 1) := by decide +kernel
theorem dX1_inByBook_29 : decode cX1_inByBook 29 = .ok (.ireturn, 1) := by decide +kernel
theorem dX1_all_0 : decode cX1_all 0 = .ok (.iconst 0, 1) := by decide +kernel
theorem dX1_all_1 : decode cX1_all 1 = .ok (.istore_n 1, 1) := by decide +kernel
theorem dX1_all_2 : decode cX1_all 2 = .ok (.iconst 0, 1) := by decide +kernel
theorem dX1_all_3 : decode cX1_all 3 = .ok (.istore_n 2, 1) := by decide +kernel
theorem dX1_all_4 : decode cX1_all 4 = .ok (.iload_n 2, 1) := by decide +kernel
theorem dX1_all_5 : decode cX1_all 5 = .ok (.bipush 8, 2) := by decide +kernel
theorem dX1_all_7 : decode cX1_all 7 = .ok (.if_icmp .ge 18, 3) := by decide +kernel
theorem dX1_all_10 : decode cX1_all 10 = .ok (.iload_n 1, 1) := by decide +kernel
theorem dX1_all_11 : decode cX1_all 11 = .ok (.aload_n 0, 1) := by decide +kernel
theorem dX1_all_12 : decode cX1_all 12 = .ok (.getfield 7, 3) := by decide +kernel
theorem dX1_all_15 : decode cX1_all 15 = .ok (.iload_n 2, 1) := by decide +kernel
theorem dX1_all_16 : decode cX1_all 16 = .ok (.iaload, 1) := by decide +kernel
theorem dX1_all_17 : decode cX1_all 17 = .ok (.iadd, 1) := by decide +kernel
theorem dX1_all_18 : decode cX1_all 18 = .ok (.istore_n 1, 1) := by decide +kernel
theorem dX1_all_19 : decode cX1_all 19 = .ok (.iinc 2 1, 3) := by decide +kernel
theorem dX1_all_22 : decode cX1_all 22 = .ok (.goto (-18), 3) := by decide +kernel
theorem dX1_all_25 : decode cX1_all 25 = .ok (.iload_n 1, 1) := by decide +kernel
theorem dX1_all_26 : decode cX1_all 26 = .ok (.ireturn, 1) := by decide +kernel
set_option maxRecDepth 20000 in
theorem ggX1_total_X1_all : GoodIn wsX1_total wsX1_all := goodIn_r _ [6, 7, 8, 9, 10, 11, 12, 13, 14, 15, 16, 17, 18, 19] (by decide +kernel) (by decide +kernel)
set_option maxRecDepth 20000 in
theorem gX1_total_X1_all : GoodIn wsX1_total (wsV RX1 52 RX1 yX1_all wsX1_all) := goodIn_app (goodIn_of _ (by decide +kernel)) ggX1_total_X1_all
theorem dX1_total_0 : decode cX1_total 0 = .ok (.aload_n 0, 1) := by decide +kernel
theorem dX1_total_1 : decode cX1_total 1 = .ok (.iconst 0, 1) := by decide +kernel
theorem dX1_total_2 : decode cX1_total 2 = .ok (.putfield 32, 3) := by decide +kernel
theorem dX1_total_5 : decode cX1_total 5 = .ok (.aload_n 0, 1) := by decide +kernel
theorem dX1_total_6 : decode cX1_total 6 = .ok (.invokevirtual 52, 3) := by decide +kernel
theorem dX1_total_9 : decode cX1_total 9 = .ok (.ireturn, 1) := by decide +kernel
set_option maxRecDepth 20000 in
theorem ggX1_fillPot_X1_isIn : GoodIn wsX1_fillPot wsX1_isIn := goodIn_r _ [7] (by decide +kernel) (by decide +kernel)
set_option maxRecDepth 20000 in
theorem gX1_fillPot_X1_isIn : GoodIn wsX1_fillPot (va_wsS RX1 36 yX1_isIn wsX1_isIn) := goodIn_app (goodIn_of _ (by decide +kernel)) ggX1_fillPot_X1_isIn
set_option maxRecDepth 20000 in
theorem ggX1_fillPot_X1_goes : GoodIn wsX1_fillPot wsX1_goes := goodIn_r _ [11, 12, 13, 14, 15, 16, 17, 18, 19, 20, 21, 22, 23, 24] (by decide +kernel) (by decide +kernel)
set_option maxRecDepth 20000 in
theorem gX1_fillPot_X1_goes : GoodIn wsX1_fillPot (wsV RX1 45 RX1 yX1_goes wsX1_goes) := goodIn_app (goodIn_of _ (by decide +kernel)) ggX1_fillPot_X1_goes
theorem dX1_fillPot_0 : decode cX1_fillPot 0 = .ok (.aload_n 0, 1) := by decide +kernel
theorem dX1_fillPot_1 : decode cX1_fillPot 1 = .ok (.iload_n 1, 1) := by decide +kernel
theorem dX1_fillPot_2 : decode cX1_fillPot 2 = .ok (.iconst 1, 1) := by decide +kernel
theorem dX1_fillPot_3 : decode cX1_fillPot 3 = .ok (.ldc 44, 2) := by decide +kernel
theorem dX1_fillPot_5 : decode cX1_fillPot 5 = .ok (.invokestatic 36, 3) := by decide +kernel
theorem dX1_fillPot_8 : decode cX1_fillPot 8 = .ok (.ifCond .ne 7, 3) := by decide +kernel
theorem dX1_fillPot_11 : decode cX1_fillPot 11 = .ok (.iconst 1, 1) := by decide +kernel
theorem dX1_fillPot_12 : decode cX1_fillPot 12 = .ok (.goto 19, 3) := by decide +kernel
theorem dX1_fillPot_15 : decode cX1_fillPot 15 = .ok (.aload_n 0, 1) := by decide +kernel
theorem dX1_fillPot_16 : decode cX1_fillPot 16 = .ok (.getfield 56, 3) := by decide +kernel
theorem dX1_fillPot_19 : decode cX1_fillPot 19 = .ok (.iload_n 1, 1) := by decide +kernel
theorem dX1_fillPot_20 : decode cX1_fillPot 20 = .ok (.iadd, 1) := by decide +kernel
theorem dX1_fillPot_21 : decode cX1_fillPot 21 = .ok (.ldc 59, 2) := by decide +kernel
theorem dX1_fillPot_23 : decode cX1_fillPot 23 = .ok (.if_icmp .le 7, 3) := by decide +kernel
theorem dX1_fillPot_26 : decode cX1_fillPot 26 = .ok (.iconst 2, 1) := by decide +kernel
theorem dX1_fillPot_27 : decode cX1_fillPot 27 = .ok (.goto 4, 3) := by decide +kernel
theorem dX1_fillPot_30 : decode cX1_fillPot 30 = .ok (.iconst 0, 1) := by decide +kernel
theorem dX1_fillPot_31 : decode cX1_fillPot 31 = .ok (.invokevirtual 45, 3) := by decide +kernel
theorem dX1_fillPot_34 : decode cX1_fillPot 34 = .ok (.ifCond .ne 5, 3) := by decide +kernel
theorem dX1_fillPot_37 : decode cX1_fillPot 37 = .ok (.iconst 0, 1) := by decide +kernel
theorem dX1_fillPot_38 : decode cX1_fillPot 38 = .ok (.ireturn, 1) := by decide +kernel
theorem dX1_fillPot_39 : decode cX1_fillPot 39 = .ok (.aload_n 0, 1) := by decide +kernel
theorem dX1_fillPot_40 : decode cX1_fillPot 40 = .ok (.dup, 1) := by decide +kernel
theorem dX1_fillPot_41 : decode cX1_fillPot 41 = .ok (.getfield 56, 3) := by decide +kernel
theorem dX1_fillPot_44 : decode cX1_fillPot 44 = .ok (.iload_n 1, 1) := by decide +kernel
theorem dX1_fillPot_45 : decode cX1_fillPot 45 = .ok (.iadd, 1) := by decide +kernel
theorem dX1_fillPot_46 : decode cX1_fillPot 46 = .ok (.putfield 56, 3) := by decide +kernel
theorem dX1_fillPot_49 : decode cX1_fillPot 49 = .ok (.aload_n 0, 1) := by decide +kernel
theorem dX1_fillPot_50 : decode cX1_fillPot 50 = .ok (.getfield 56, 3) := by decide +kernel
theorem dX1_fillPot_53 : decode cX1_fillPot 53 = .ok (.ireturn, 1) := by decide +kernel
theorem dX1_pot_0 : decode cX1_pot 0 = .ok (.aload_n 0, 1) := by decide +kernel
theorem dX1_pot_1 : decode cX1_pot 1 = .ok (.iconst 0, 1) := by decide +kernel
theorem dX1_pot_2 : decode cX1_pot 2 = .ok (.putfield 32, 3) := by decide +kernel
theorem dX1_pot_5 : decode cX1_pot 5 = .ok (.aload_n 0, 1) := by decide +kernel
theorem dX1_pot_6 : decode cX1_pot 6 = .ok (.getfield 56, 3) := by decide +kernel
theorem dX1_pot_9 : decode cX1_pot 9 = .ok (.ireturn, 1) := by decide +kernel
set_option maxRecDepth 20000 in
theorem ggX1_addMilestone_X1_isIn : GoodIn wsX1_addMilestone wsX1_isIn := goodIn_r _ [8] (by decide +kernel) (by decide +kernel)
set_option maxRecDepth 20000 in
theorem gX1_addMilestone_X1_isIn : GoodIn wsX1_addMilestone (va_wsS RX1 36 yX1_isIn wsX1_isIn) := goodIn_app (goodIn_of _ (by decide +kernel)) ggX1_addMilestone_X1_isIn
set_option maxRecDepth 20000 in
theorem ggX1_addMilestone_X1_goes : GoodIn wsX1_addMilestone wsX1_goes := goodIn_r _ [12, 13, 14, 15, 16, 17, 18, 19, 20, 21, 22, 23, 24, 25] (by decide +kernel) (by decide +kernel)
set_option maxRecDepth 20000 in
theorem gX1_addMilestone_X1_goes : GoodIn wsX1_addMilestone (wsV RX1 45 RX1 yX1_goes wsX1_goes) := goodIn_app (goodIn_of _ (by decide +kernel)) ggX1_addMilestone_X1_goes
theorem dX1_addMilestone_0 : decode cX1_addMilestone 0 = .ok (.aload_n 0, 1) := by decide +kernel
theorem dX1_addMilestone_1 : decode cX1_addMilestone 1 = .ok (.iload_n 1, 1) := by decide +kernel
theorem dX1_addMilestone_2 : decode cX1_addMilestone 2 = .ok (.iconst 1, 1) := by decide +kernel
theorem dX1_addMilestone_3 : decode cX1_addMilestone 3 = .ok (.ldc 44, 2) := by decide +kernel
theorem dX1_addMilestone_5 : decode cX1_addMilestone 5 = .ok (.invokestatic 36, 3) := by decide +kernel
theorem dX1_addMilestone_8 : decode cX1_addMilestone 8 = .ok (.ifCond .ne 7, 3) := by decide +kernel
theorem dX1_addMilestone_11 : decode cX1_addMilestone 11 = .ok (.iconst 1, 1) := by decide +kernel
theorem dX1_addMilestone_12 : decode cX1_addMilestone 12 = .ok (.goto 17, 3) := by decide +kernel
theorem dX1_addMilestone_15 : decode cX1_addMilestone 15 = .ok (.aload_n 0, 1) := by decide +kernel
theorem dX1_addMilestone_16 : decode cX1_addMilestone 16 = .ok (.getfield 60, 3) := by decide +kernel
theorem dX1_addMilestone_19 : decode cX1_addMilestone 19 = .ok (.bipush 6, 2) := by decide +kernel
theorem dX1_addMilestone_21 : decode cX1_addMilestone 21 = .ok (.if_icmp .ne 7, 3) := by decide +kernel
theorem dX1_addMilestone_24 : decode cX1_addMilestone 24 = .ok (.iconst 2, 1) := by decide +kernel
theorem dX1_addMilestone_25 : decode cX1_addMilestone 25 = .ok (.goto 4, 3) := by decide +kernel
theorem dX1_addMilestone_28 : decode cX1_addMilestone 28 = .ok (.iconst 0, 1) := by decide +kernel
theorem dX1_addMilestone_29 : decode cX1_addMilestone 29 = .ok (.invokevirtual 45, 3) := by decide +kernel
theorem dX1_addMilestone_32 : decode cX1_addMilestone 32 = .ok (.ifCond .ne 5, 3) := by decide +kernel
theorem dX1_addMilestone_35 : decode cX1_addMilestone 35 = .ok (.iconst 0, 1) := by decide +kernel
theorem dX1_addMilestone_36 : decode cX1_addMilestone 36 = .ok (.ireturn, 1) := by decide +kernel
theorem dX1_addMilestone_37 : decode cX1_addMilestone 37 = .ok (.aload_n 0, 1) := by decide +kernel
theorem dX1_addMilestone_38 : decode cX1_addMilestone 38 = .ok (.getfield 22, 3) := by decide +kernel
theorem dX1_addMilestone_41 : decode cX1_addMilestone 41 = .ok (.aload_n 0, 1) := by decide +kernel
theorem dX1_addMilestone_42 : decode cX1_addMilestone 42 = .ok (.getfield 60, 3) := by decide +kernel
theorem dX1_addMilestone_45 : decode cX1_addMilestone 45 = .ok (.iload_n 1, 1) := by decide +kernel
theorem dX1_addMilestone_46 : decode cX1_addMilestone 46 = .ok (.iastore, 1) := by decide +kernel
theorem dX1_addMilestone_47 : decode cX1_addMilestone 47 = .ok (.aload_n 0, 1) := by decide +kernel
theorem dX1_addMilestone_48 : decode cX1_addMilestone 48 = .ok (.getfield 25, 3) := by decide +kernel
theorem dX1_addMilestone_51 : decode cX1_addMilestone 51 = .ok (.aload_n 0, 1) := by decide +kernel
theorem dX1_addMilestone_52 : decode cX1_addMilestone 52 = .ok (.getfield 60, 3) := by decide +kernel
theorem dX1_addMilestone_55 : decode cX1_addMilestone 55 = .ok (.iconst 0, 1) := by decide +kernel
theorem dX1_addMilestone_56 : decode cX1_addMilestone 56 = .ok (.bastore, 1) := by decide +kernel
theorem dX1_addMilestone_57 : decode cX1_addMilestone 57 = .ok (.aload_n 0, 1) := by decide +kernel
theorem dX1_addMilestone_58 : decode cX1_addMilestone 58 = .ok (.dup, 1) := by decide +kernel
theorem dX1_addMilestone_59 : decode cX1_addMilestone 59 = .ok (.getfield 60, 3) := by decide +kernel
theorem dX1_addMilestone_62 : decode cX1_addMilestone 62 = .ok (.iconst 1, 1) := by decide +kernel
theorem dX1_addMilestone_63 : decode cX1_addMilestone 63 = .ok (.iadd, 1) := by decide +kernel
theorem dX1_addMilestone_64 : decode cX1_addMilestone 64 = .ok (.putfield 60, 3) := by decide +kernel
theorem dX1_addMilestone_67 : decode cX1_addMilestone 67 = .ok (.aload_n 0, 1) := by decide +kernel
theorem dX1_addMilestone_68 : decode cX1_addMilestone 68 = .ok (.getfield 60, 3) := by decide +kernel
theorem dX1_addMilestone_71 : decode cX1_addMilestone 71 = .ok (.iconst 1, 1) := by decide +kernel
theorem dX1_addMilestone_72 : decode cX1_addMilestone 72 = .ok (.isub, 1) := by decide +kernel
theorem dX1_addMilestone_73 : decode cX1_addMilestone 73 = .ok (.ireturn, 1) := by decide +kernel
set_option maxRecDepth 20000 in
theorem ggX1_prove_X1_isIn : GoodIn wsX1_prove wsX1_isIn := goodIn_r _ [7] (by decide +kernel) (by decide +kernel)
set_option maxRecDepth 20000 in
theorem gX1_prove_X1_isIn : GoodIn wsX1_prove (va_wsS RX1 36 yX1_isIn wsX1_isIn) := goodIn_app (goodIn_of _ (by decide +kernel)) ggX1_prove_X1_isIn
set_option maxRecDepth 20000 in
theorem ggX1_prove_X1_goes : GoodIn wsX1_prove wsX1_goes := goodIn_r _ [11, 12, 13, 14, 15, 16, 17, 18, 19, 20, 21, 22, 23, 24] (by decide +kernel) (by decide +kernel)
set_option maxRecDepth 20000 in
theorem gX1_prove_X1_goes : GoodIn wsX1_prove (wsV RX1 45 RX1 yX1_goes wsX1_goes) := goodIn_app (goodIn_of _ (by decide +kernel)) ggX1_prove_X1_goes
theorem dX1_prove_0 : decode cX1_prove 0 = .ok (.aload_n 0, 1) := by decide +kernel
theorem dX1_prove_1 : decode cX1_prove 1 = .ok (.iload_n 1, 1) := by decide +kernel
theorem dX1_prove_2 : decode cX1_prove 2 = .ok (.iconst 0, 1) := by decide +kernel
theorem dX1_prove_3 : decode cX1_prove 3 = .ok (.aload_n 0, 1) := by decide +kernel
theorem dX1_prove_4 : decode cX1_prove 4 = .ok (.getfield 60, 3) := by decide +kernel
theorem dX1_prove_7 : decode cX1_prove 7 = .ok (.iconst 1, 1) := by decide +kernel
theorem dX1_prove_8 : decode cX1_prove 8 = .ok (.isub, 1) := by decide +kernel
theorem dX1_prove_9 : decode cX1_prove 9 = .ok (.invokestatic 36, 3) := by decide +kernel
theorem dX1_prove_12 : decode cX1_prove 12 = .ok (.ifCond .ne 7, 3) := by decide +kernel
theorem dX1_prove_15 : decode cX1_prove 15 = .ok (.iconst 1, 1) := by decide +kernel
theorem dX1_prove_16 : decode cX1_prove 16 = .ok (.goto 16, 3) := by decide +kernel
theorem dX1_prove_19 : decode cX1_prove 19 = .ok (.iload_n 1, 1) := by decide +kernel
theorem dX1_prove_20 : decode cX1_prove 20 = .ok (.aload_n 0, 1) := by decide +kernel
theorem dX1_prove_21 : decode cX1_prove 21 = .ok (.getfield 63, 3) := by decide +kernel
theorem dX1_prove_24 : decode cX1_prove 24 = .ok (.if_icmp .ge 7, 3) := by decide +kernel
theorem dX1_prove_27 : decode cX1_prove 27 = .ok (.iconst 2, 1) := by decide +kernel
theorem dX1_prove_28 : decode cX1_prove 28 = .ok (.goto 4, 3) := by decide +kernel
theorem dX1_prove_31 : decode cX1_prove 31 = .ok (.iconst 0, 1) := by decide +kernel
theorem dX1_prove_32 : decode cX1_prove 32 = .ok (.invokevirtual 45, 3) := by decide +kernel
theorem dX1_prove_35 : decode cX1_prove 35 = .ok (.ifCond .ne 5, 3) := by decide +kernel
theorem dX1_prove_38 : decode cX1_prove 38 = .ok (.iconst 0, 1) := by decide +kernel
theorem dX1_prove_39 : decode cX1_prove 39 = .ok (.ireturn, 1) := by decide +kernel
theorem dX1_prove_40 : decode cX1_prove 40 = .ok (.aload_n 0, 1) := by decide +kernel
theorem dX1_prove_41 : decode cX1_prove 41 = .ok (.getfield 25, 3) := by decide +kernel
theorem dX1_prove_44 : decode cX1_prove 44 = .ok (.iload_n 1, 1) := by decide +kernel
theorem dX1_prove_45 : decode cX1_prove 45 = .ok (.aload_n 0, 1) := by decide +kernel
theorem dX1_prove_46 : decode cX1_prove 46 = .ok (.getfield 25, 3) := by decide +kernel
theorem dX1_prove_49 : decode cX1_prove 49 = .ok (.iload_n 1, 1) := by decide +kernel
theorem dX1_prove_50 : decode cX1_prove 50 = .ok (.baload, 1) := by decide +kernel
theorem dX1_prove_51 : decode cX1_prove 51 = .ok (.ifCond .ne 7, 3) := by decide +kernel
theorem dX1_prove_54 : decode cX1_prove 54 = .ok (.iconst 1, 1) := by decide +kernel
theorem dX1_prove_55 : decode cX1_prove 55 = .ok (.goto 4, 3) := by decide +kernel
theorem dX1_prove_58 : decode cX1_prove 58 = .ok (.iconst 0, 1) := by decide +kernel
theorem dX1_prove_59 : decode cX1_prove 59 = .ok (.bastore, 1) := by decide +kernel
theorem dX1_prove_60 : decode cX1_prove 60 = .ok (.aload_n 0, 1) := by decide +kernel
theorem dX1_prove_61 : decode cX1_prove 61 = .ok (.getfield 25, 3) := by decide +kernel
theorem dX1_prove_64 : decode cX1_prove 64 = .ok (.iload_n 1, 1) := by decide +kernel
theorem dX1_prove_65 : decode cX1_prove 65 = .ok (.baload, 1) := by decide +kernel
theorem dX1_prove_66 : decode cX1_prove 66 = .ok (.ireturn, 1) := by decide +kernel
theorem dX1_hasCurrent_0 : decode cX1_hasCurrent 0 = .ok (.aload_n 0, 1) := by decide +kernel
theorem dX1_hasCurrent_1 : decode cX1_hasCurrent 1 = .ok (.getfield 63, 3) := by decide +kernel
theorem dX1_hasCurrent_4 : decode cX1_hasCurrent 4 = .ok (.aload_n 0, 1) := by decide +kernel
theorem dX1_hasCurrent_5 : decode cX1_hasCurrent 5 = .ok (.getfield 60, 3) := by decide +kernel
theorem dX1_hasCurrent_8 : decode cX1_hasCurrent 8 = .ok (.if_icmp .ge 7, 3) := by decide +kernel
theorem dX1_hasCurrent_11 : decode cX1_hasCurrent 11 = .ok (.iconst 1, 1) := by decide +kernel
theorem dX1_hasCurrent_12 : decode cX1_hasCurrent 12 = .ok (.goto 4, 3) := by decide +kernel
theorem dX1_hasCurrent_15 : decode cX1_hasCurrent 15 = .ok (.iconst 0, 1) := by decide +kernel
theorem dX1_hasCurrent_16 : decode cX1_hasCurrent 16 = .ok (.ireturn, 1) := by decide +kernel
set_option maxRecDepth 20000 in
theorem ggX1_current_X1_hasCurrent : GoodIn wsX1_current wsX1_hasCurrent := goodIn_r _ [7, 2, 8, 9, 10, 11, 12, 13, 14, 15, 16, 17, 18, 19, 20] (by decide +kernel) (by decide +kernel)
set_option maxRecDepth 20000 in
theorem gX1_current_X1_hasCurrent : GoodIn wsX1_current (wsV RX1 66 RX1 yX1_hasCurrent wsX1_hasCurrent) := goodIn_app (goodIn_of _ (by decide +kernel)) ggX1_current_X1_hasCurrent
theorem dX1_current_0 : decode cX1_current 0 = .ok (.aload_n 0, 1) := by decide +kernel
theorem dX1_current_1 : decode cX1_current 1 = .ok (.iconst 0, 1) := by decide +kernel
theorem dX1_current_2 : decode cX1_current 2 = .ok (.putfield 32, 3) := by decide +kernel
theorem dX1_current_5 : decode cX1_current 5 = .ok (.aload_n 0, 1) := by decide +kernel
theorem dX1_current_6 : decode cX1_current 6 = .ok (.invokevirtual 66, 3) := by decide +kernel
theorem dX1_current_9 : decode cX1_current 9 = .ok (.ifCond .eq 10, 3) := by decide +kernel
theorem dX1_current_12 : decode cX1_current 12 = .ok (.aload_n 0, 1) := by decide +kernel
theorem dX1_current_13 : decode cX1_current 13 = .ok (.getfield 63, 3) := by decide +kernel
theorem dX1_current_16 : decode cX1_current 16 = .ok (.goto 4, 3) := by decide +kernel
theorem dX1_current_19 : decode cX1_current 19 = .ok (.iconst (-1), 1) := by decide +kernel
theorem dX1_current_20 : decode cX1_current 20 = .ok (.ireturn, 1) := by decide +kernel
set_option maxRecDepth 20000 in
theorem ggX1_vote_X1_isGiver : GoodIn wsX1_vote wsX1_isGiver := goodIn_r _ [5, 6, 7, 4, 8] (by decide +kernel) (by decide +kernel)
set_option maxRecDepth 20000 in
theorem gX1_vote_X1_isGiver : GoodIn wsX1_vote (va_wsS RX1 40 yX1_isGiver wsX1_isGiver) := goodIn_app (goodIn_of _ (by decide +kernel)) ggX1_vote_X1_isGiver
set_option maxRecDepth 20000 in
theorem ggX1_vote_X1_isIn : GoodIn wsX1_vote wsX1_isIn := goodIn_r _ [8] (by decide +kernel) (by decide +kernel)
set_option maxRecDepth 20000 in
theorem gX1_vote_X1_isIn : GoodIn wsX1_vote (va_wsS RX1 36 yX1_isIn wsX1_isIn) := goodIn_app (goodIn_of _ (by decide +kernel)) ggX1_vote_X1_isIn
set_option maxRecDepth 20000 in
theorem ggX1_vote_X1_hasCurrent : GoodIn wsX1_vote wsX1_hasCurrent := goodIn_r _ [12, 13, 14, 20, 21, 22, 23, 24, 25, 26, 27, 28, 29, 30, 31] (by decide +kernel) (by decide +kernel)
set_option maxRecDepth 20000 in
theorem gX1_vote_X1_hasCurrent : GoodIn wsX1_vote (wsV RX1 66 RX1 yX1_hasCurrent wsX1_hasCurrent) := goodIn_app (goodIn_of _ (by decide +kernel)) ggX1_vote_X1_hasCurrent
set_option maxRecDepth 20000 in
theorem ggX1_vote_X1_goes : GoodIn wsX1_vote wsX1_goes := goodIn_r _ [18, 19, 20, 21, 22, 23, 24, 25, 26, 27, 28, 29, 30, 31] (by decide +kernel) (by decide +kernel)
set_option maxRecDepth 20000 in
theorem gX1_vote_X1_goes : GoodIn wsX1_vote (wsV RX1 45 RX1 yX1_goes wsX1_goes) := goodIn_app (goodIn_of _ (by decide +kernel)) ggX1_vote_X1_goes
theorem dX1_vote_0 : decode cX1_vote 0 = .ok (.aload_n 0, 1) := by decide +kernel
theorem dX1_vote_1 : decode cX1_vote 1 = .ok (.iload_n 1, 1) := by decide +kernel
theorem dX1_vote_2 : decode cX1_vote 2 = .ok (.invokestatic 40, 3) := by decide +kernel
theorem dX1_vote_5 : decode cX1_vote 5 = .ok (.ifCond .ne 7, 3) := by decide +kernel
theorem dX1_vote_8 : decode cX1_vote 8 = .ok (.iconst 1, 1) := by decide +kernel
theorem dX1_vote_9 : decode cX1_vote 9 = .ok (.goto 28, 3) := by decide +kernel
theorem dX1_vote_12 : decode cX1_vote 12 = .ok (.iload_n 2, 1) := by decide +kernel
theorem dX1_vote_13 : decode cX1_vote 13 = .ok (.iconst 0, 1) := by decide +kernel
theorem dX1_vote_14 : decode cX1_vote 14 = .ok (.iconst 2, 1) := by decide +kernel
theorem dX1_vote_15 : decode cX1_vote 15 = .ok (.invokestatic 36, 3) := by decide +kernel
theorem dX1_vote_18 : decode cX1_vote 18 = .ok (.ifCond .ne 7, 3) := by decide +kernel
theorem dX1_vote_21 : decode cX1_vote 21 = .ok (.iconst 2, 1) := by decide +kernel
theorem dX1_vote_22 : decode cX1_vote 22 = .ok (.goto 15, 3) := by decide +kernel
theorem dX1_vote_25 : decode cX1_vote 25 = .ok (.aload_n 0, 1) := by decide +kernel
theorem dX1_vote_26 : decode cX1_vote 26 = .ok (.invokevirtual 66, 3) := by decide +kernel
theorem dX1_vote_29 : decode cX1_vote 29 = .ok (.ifCond .eq 7, 3) := by decide +kernel
theorem dX1_vote_32 : decode cX1_vote 32 = .ok (.iconst 0, 1) := by decide +kernel
theorem dX1_vote_33 : decode cX1_vote 33 = .ok (.goto 4, 3) := by decide +kernel
theorem dX1_vote_36 : decode cX1_vote 36 = .ok (.iconst 3, 1) := by decide +kernel
theorem dX1_vote_37 : decode cX1_vote 37 = .ok (.invokevirtual 45, 3) := by decide +kernel
theorem dX1_vote_40 : decode cX1_vote 40 = .ok (.ifCond .ne 5, 3) := by decide +kernel
theorem dX1_vote_43 : decode cX1_vote 43 = .ok (.iconst 0, 1) := by decide +kernel
theorem dX1_vote_44 : decode cX1_vote 44 = .ok (.ireturn, 1) := by decide +kernel
theorem dX1_vote_45 : decode cX1_vote 45 = .ok (.aload_n 0, 1) := by decide +kernel
theorem dX1_vote_46 : decode cX1_vote 46 = .ok (.getfield 19, 3) := by decide +kernel
theorem dX1_vote_49 : decode cX1_vote 49 = .ok (.iload_n 1, 1) := by decide +kernel
theorem dX1_vote_50 : decode cX1_vote 50 = .ok (.iaload, 1) := by decide +kernel
theorem dX1_vote_51 : decode cX1_vote 51 = .ok (.istore_n 3, 1) := by decide +kernel
theorem dX1_vote_52 : decode cX1_vote 52 = .ok (.aload_n 0, 1) := by decide +kernel
theorem dX1_vote_53 : decode cX1_vote 53 = .ok (.getfield 19, 3) := by decide +kernel
theorem dX1_vote_56 : decode cX1_vote 56 = .ok (.iload_n 1, 1) := by decide +kernel
theorem dX1_vote_57 : decode cX1_vote 57 = .ok (.iload_n 2, 1) := by decide +kernel
theorem dX1_vote_58 : decode cX1_vote 58 = .ok (.iastore, 1) := by decide +kernel
theorem dX1_vote_59 : decode cX1_vote 59 = .ok (.iload_n 3, 1) := by decide +kernel
theorem dX1_vote_60 : decode cX1_vote 60 = .ok (.ireturn, 1) := by decide +kernel
theorem dX1_speakerOf_0 : decode cX1_speakerOf 0 = .ok (.iload_n 1, 1) := by decide +kernel
theorem dX1_speakerOf_1 : decode cX1_speakerOf 1 = .ok (.istore_n 2, 1) := by decide +kernel
theorem dX1_speakerOf_2 : decode cX1_speakerOf 2 = .ok (.iload_n 2, 1) := by decide +kernel
theorem dX1_speakerOf_3 : decode cX1_speakerOf 3 = .ok (.iconst (-1), 1) := by decide +kernel
theorem dX1_speakerOf_4 : decode cX1_speakerOf 4 = .ok (.if_icmp .eq 22, 3) := by decide +kernel
theorem dX1_speakerOf_7 : decode cX1_speakerOf 7 = .ok (.aload_n 0, 1) := by decide +kernel
theorem dX1_speakerOf_8 : decode cX1_speakerOf 8 = .ok (.getfield 19, 3) := by decide +kernel
theorem dX1_speakerOf_11 : decode cX1_speakerOf 11 = .ok (.iload_n 2, 1) := by decide +kernel
theorem dX1_speakerOf_12 : decode cX1_speakerOf 12 = .ok (.iaload, 1) := by decide +kernel
theorem dX1_speakerOf_13 : decode cX1_speakerOf 13 = .ok (.ifCond .ne 13, 3) := by decide +kernel
theorem dX1_speakerOf_16 : decode cX1_speakerOf 16 = .ok (.aload_n 0, 1) := by decide +kernel
theorem dX1_speakerOf_17 : decode cX1_speakerOf 17 = .ok (.getfield 13, 3) := by decide +kernel
theorem dX1_speakerOf_20 : decode cX1_speakerOf 20 = .ok (.iload_n 2, 1) := by decide +kernel
theorem dX1_speakerOf_21 : decode cX1_speakerOf 21 = .ok (.iaload, 1) := by decide +kernel
theorem dX1_speakerOf_22 : decode cX1_speakerOf 22 = .ok (.istore_n 2, 1) := by decide +kernel
theorem dX1_speakerOf_23 : decode cX1_speakerOf 23 = .ok (.goto (-21), 3) := by decide +kernel
theorem dX1_speakerOf_26 : decode cX1_speakerOf 26 = .ok (.iload_n 2, 1) := by decide +kernel
theorem dX1_speakerOf_27 : decode cX1_speakerOf 27 = .ok (.ireturn, 1) := by decide +kernel
set_option maxRecDepth 20000 in
theorem ggX1_speaker_X1_isGiver : GoodIn wsX1_speaker wsX1_isGiver := goodIn_r _ [4, 5, 6, 3, 7] (by decide +kernel) (by decide +kernel)
set_option maxRecDepth 20000 in
theorem gX1_speaker_X1_isGiver : GoodIn wsX1_speaker (va_wsS RX1 40 yX1_isGiver wsX1_isGiver) := goodIn_app (goodIn_of _ (by decide +kernel)) ggX1_speaker_X1_isGiver
set_option maxRecDepth 20000 in
theorem ggX1_speaker_X1_goes : GoodIn wsX1_speaker wsX1_goes := goodIn_r _ [11, 12, 19, 20, 21, 22, 23, 24, 25, 26, 27, 28, 29, 30] (by decide +kernel) (by decide +kernel)
set_option maxRecDepth 20000 in
theorem gX1_speaker_X1_goes : GoodIn wsX1_speaker (wsV RX1 45 RX1 yX1_goes wsX1_goes) := goodIn_app (goodIn_of _ (by decide +kernel)) ggX1_speaker_X1_goes
set_option maxRecDepth 20000 in
theorem ggX1_speaker_X1_speakerOf : GoodIn wsX1_speaker wsX1_speakerOf := goodIn_r _ [16, 17, 18, 19, 20, 21, 22, 23, 24, 25, 26, 27, 28, 29, 30] (by decide +kernel) (by decide +kernel)
set_option maxRecDepth 20000 in
theorem gX1_speaker_X1_speakerOf : GoodIn wsX1_speaker (wsV RX1 70 RX1 yX1_speakerOf wsX1_speakerOf) := goodIn_app (goodIn_of _ (by decide +kernel)) ggX1_speaker_X1_speakerOf
theorem dX1_speaker_0 : decode cX1_speaker 0 = .ok (.aload_n 0, 1) := by decide +kernel
theorem dX1_speaker_1 : decode cX1_speaker 1 = .ok (.iload_n 1, 1) := by decide +kernel
theorem dX1_speaker_2 : decode cX1_speaker 2 = .ok (.invokestatic 40, 3) := by decide +kernel
theorem dX1_speaker_5 : decode cX1_speaker 5 = .ok (.ifCond .eq 7, 3) := by decide +kernel
theorem dX1_speaker_8 : decode cX1_speaker 8 = .ok (.iconst 0, 1) := by decide +kernel
theorem dX1_speaker_9 : decode cX1_speaker 9 = .ok (.goto 4, 3) := by decide +kernel
theorem dX1_speaker_12 : decode cX1_speaker 12 = .ok (.iconst 1, 1) := by decide +kernel
theorem dX1_speaker_13 : decode cX1_speaker 13 = .ok (.invokevirtual 45, 3) := by decide +kernel
theorem dX1_speaker_16 : decode cX1_speaker 16 = .ok (.ifCond .eq 11, 3) := by decide +kernel
theorem dX1_speaker_19 : decode cX1_speaker 19 = .ok (.aload_n 0, 1) := by decide +kernel
theorem dX1_speaker_20 : decode cX1_speaker 20 = .ok (.iload_n 1, 1) := by decide +kernel
theorem dX1_speaker_21 : decode cX1_speaker 21 = .ok (.invokevirtual 70, 3) := by decide +kernel
theorem dX1_speaker_24 : decode cX1_speaker 24 = .ok (.goto 4, 3) := by decide +kernel
theorem dX1_speaker_27 : decode cX1_speaker 27 = .ok (.iconst 0, 1) := by decide +kernel
theorem dX1_speaker_28 : decode cX1_speaker 28 = .ok (.ireturn, 1) := by decide +kernel
set_option maxRecDepth 20000 in
theorem ggX1_weightOf_X1_speakerOf : GoodIn wsX1_weightOf wsX1_speakerOf := goodIn_r _ [7, 1, 8, 9, 10, 11, 12, 13, 14, 15, 16, 17, 18, 19, 20] (by decide +kernel) (by decide +kernel)
set_option maxRecDepth 20000 in
theorem gX1_weightOf_X1_speakerOf : GoodIn wsX1_weightOf (wsV RX1 70 RX1 yX1_speakerOf wsX1_speakerOf) := goodIn_app (goodIn_of _ (by decide +kernel)) ggX1_weightOf_X1_speakerOf
theorem dX1_weightOf_0 : decode cX1_weightOf 0 = .ok (.iconst 0, 1) := by decide +kernel
theorem dX1_weightOf_1 : decode cX1_weightOf 1 = .ok (.istore_n 2, 1) := by decide +kernel
theorem dX1_weightOf_2 : decode cX1_weightOf 2 = .ok (.iconst 0, 1) := by decide +kernel
theorem dX1_weightOf_3 : decode cX1_weightOf 3 = .ok (.istore_n 3, 1) := by decide +kernel
theorem dX1_weightOf_4 : decode cX1_weightOf 4 = .ok (.iload_n 3, 1) := by decide +kernel
theorem dX1_weightOf_5 : decode cX1_weightOf 5 = .ok (.bipush 8, 2) := by decide +kernel
theorem dX1_weightOf_7 : decode cX1_weightOf 7 = .ok (.if_icmp .ge 46, 3) := by decide +kernel
theorem dX1_weightOf_10 : decode cX1_weightOf 10 = .ok (.aload_n 0, 1) := by decide +kernel
theorem dX1_weightOf_11 : decode cX1_weightOf 11 = .ok (.iload_n 3, 1) := by decide +kernel
theorem dX1_weightOf_12 : decode cX1_weightOf 12 = .ok (.invokevirtual 70, 3) := by decide +kernel
theorem dX1_weightOf_15 : decode cX1_weightOf 15 = .ok (.istore 4, 2) := by decide +kernel
theorem dX1_weightOf_17 : decode cX1_weightOf 17 = .ok (.iload_n 2, 1) := by decide +kernel
theorem dX1_weightOf_18 : decode cX1_weightOf 18 = .ok (.iload 4, 2) := by decide +kernel
theorem dX1_weightOf_20 : decode cX1_weightOf 20 = .ok (.iconst (-1), 1) := by decide +kernel
theorem dX1_weightOf_21 : decode cX1_weightOf 21 = .ok (.if_icmp .eq 23, 3) := by decide +kernel
theorem dX1_weightOf_24 : decode cX1_weightOf 24 = .ok (.aload_n 0, 1) := by decide +kernel
theorem dX1_weightOf_25 : decode cX1_weightOf 25 = .ok (.getfield 19, 3) := by decide +kernel
theorem dX1_weightOf_28 : decode cX1_weightOf 28 = .ok (.iload 4, 2) := by decide +kernel
theorem dX1_weightOf_30 : decode cX1_weightOf 30 = .ok (.iaload, 1) := by decide +kernel
theorem dX1_weightOf_31 : decode cX1_weightOf 31 = .ok (.iload_n 1, 1) := by decide +kernel
theorem dX1_weightOf_32 : decode cX1_weightOf 32 = .ok (.if_icmp .ne 12, 3) := by decide +kernel
theorem dX1_weightOf_35 : decode cX1_weightOf 35 = .ok (.aload_n 0, 1) := by decide +kernel
theorem dX1_weightOf_36 : decode cX1_weightOf 36 = .ok (.getfield 7, 3) := by decide +kernel
theorem dX1_weightOf_39 : decode cX1_weightOf 39 = .ok (.iload_n 3, 1) := by decide +kernel
theorem dX1_weightOf_40 : decode cX1_weightOf 40 = .ok (.iaload, 1) := by decide +kernel
theorem dX1_weightOf_41 : decode cX1_weightOf 41 = .ok (.goto 4, 3) := by decide +kernel
theorem dX1_weightOf_44 : decode cX1_weightOf 44 = .ok (.iconst 0, 1) := by decide +kernel
theorem dX1_weightOf_45 : decode cX1_weightOf 45 = .ok (.iadd, 1) := by decide +kernel
theorem dX1_weightOf_46 : decode cX1_weightOf 46 = .ok (.istore_n 2, 1) := by decide +kernel
theorem dX1_weightOf_47 : decode cX1_weightOf 47 = .ok (.iinc 3 1, 3) := by decide +kernel
theorem dX1_weightOf_50 : decode cX1_weightOf 50 = .ok (.goto (-46), 3) := by decide +kernel
theorem dX1_weightOf_53 : decode cX1_weightOf 53 = .ok (.iload_n 2, 1) := by decide +kernel
theorem dX1_weightOf_54 : decode cX1_weightOf 54 = .ok (.ireturn, 1) := by decide +kernel
set_option maxRecDepth 20000 in
theorem ggX1_weight_X1_isIn : GoodIn wsX1_weight wsX1_isIn := goodIn_r _ [4] (by decide +kernel) (by decide +kernel)
set_option maxRecDepth 20000 in
theorem gX1_weight_X1_isIn : GoodIn wsX1_weight (va_wsS RX1 36 yX1_isIn wsX1_isIn) := goodIn_app (goodIn_of _ (by decide +kernel)) ggX1_weight_X1_isIn
set_option maxRecDepth 20000 in
theorem ggX1_weight_X1_goes : GoodIn wsX1_weight wsX1_goes := goodIn_r _ [8, 9, 21, 22, 23, 24, 25, 26, 27, 28, 29, 30, 31, 32] (by decide +kernel) (by decide +kernel)
set_option maxRecDepth 20000 in
theorem gX1_weight_X1_goes : GoodIn wsX1_weight (wsV RX1 45 RX1 yX1_goes wsX1_goes) := goodIn_app (goodIn_of _ (by decide +kernel)) ggX1_weight_X1_goes
set_option maxRecDepth 20000 in
theorem ggX1_weight_X1_weightOf : GoodIn wsX1_weight wsX1_weightOf := goodIn_r _ [13, 14, 15, 16, 17, 18, 3, 19, 20, 21, 22, 23, 24, 25, 26, 27, 28, 29, 30, 31, 32] (by decide +kernel) (by decide +kernel)
set_option maxRecDepth 20000 in
theorem gX1_weight_X1_weightOf : GoodIn wsX1_weight (wsV RX1 74 RX1 yX1_weightOf wsX1_weightOf) := goodIn_app (goodIn_of _ (by decide +kernel)) ggX1_weight_X1_weightOf
theorem dX1_weight_0 : decode cX1_weight 0 = .ok (.aload_n 0, 1) := by decide +kernel
theorem dX1_weight_1 : decode cX1_weight 1 = .ok (.iload_n 1, 1) := by decide +kernel
theorem dX1_weight_2 : decode cX1_weight 2 = .ok (.iconst 1, 1) := by decide +kernel
theorem dX1_weight_3 : decode cX1_weight 3 = .ok (.iconst 2, 1) := by decide +kernel
theorem dX1_weight_4 : decode cX1_weight 4 = .ok (.invokestatic 36, 3) := by decide +kernel
theorem dX1_weight_7 : decode cX1_weight 7 = .ok (.ifCond .eq 7, 3) := by decide +kernel
theorem dX1_weight_10 : decode cX1_weight 10 = .ok (.iconst 0, 1) := by decide +kernel
theorem dX1_weight_11 : decode cX1_weight 11 = .ok (.goto 4, 3) := by decide +kernel
theorem dX1_weight_14 : decode cX1_weight 14 = .ok (.iconst 1, 1) := by decide +kernel
theorem dX1_weight_15 : decode cX1_weight 15 = .ok (.invokevirtual 45, 3) := by decide +kernel
theorem dX1_weight_18 : decode cX1_weight 18 = .ok (.ifCond .eq 11, 3) := by decide +kernel
theorem dX1_weight_21 : decode cX1_weight 21 = .ok (.aload_n 0, 1) := by decide +kernel
theorem dX1_weight_22 : decode cX1_weight 22 = .ok (.iload_n 1, 1) := by decide +kernel
theorem dX1_weight_23 : decode cX1_weight 23 = .ok (.invokevirtual 74, 3) := by decide +kernel
theorem dX1_weight_26 : decode cX1_weight 26 = .ok (.goto 4, 3) := by decide +kernel
theorem dX1_weight_29 : decode cX1_weight 29 = .ok (.iconst 0, 1) := by decide +kernel
theorem dX1_weight_30 : decode cX1_weight 30 = .ok (.ireturn, 1) := by decide +kernel
set_option maxRecDepth 20000 in
theorem ggX1_canGoOut_X1_hasCurrent : GoodIn wsX1_canGoOut wsX1_hasCurrent := goodIn_r _ [7, 2, 8, 14, 15, 16, 17, 18, 19, 20, 21, 22, 23, 24, 25] (by decide +kernel) (by decide +kernel)
set_option maxRecDepth 20000 in
theorem gX1_canGoOut_X1_hasCurrent : GoodIn wsX1_canGoOut (wsV RX1 66 RX1 yX1_hasCurrent wsX1_hasCurrent) := goodIn_app (goodIn_of _ (by decide +kernel)) ggX1_canGoOut_X1_hasCurrent
set_option maxRecDepth 20000 in
theorem ggX1_canGoOut_X1_all : GoodIn wsX1_canGoOut wsX1_all := goodIn_r _ [12, 13, 14, 15, 16, 17, 18, 19, 20, 21, 22, 23, 24, 25] (by decide +kernel) (by decide +kernel)
set_option maxRecDepth 20000 in
theorem gX1_canGoOut_X1_all : GoodIn wsX1_canGoOut (wsV RX1 52 RX1 yX1_all wsX1_all) := goodIn_app (goodIn_of _ (by decide +kernel)) ggX1_canGoOut_X1_all
theorem dX1_canGoOut_0 : decode cX1_canGoOut 0 = .ok (.aload_n 0, 1) := by decide +kernel
theorem dX1_canGoOut_1 : decode cX1_canGoOut 1 = .ok (.invokevirtual 66, 3) := by decide +kernel
theorem dX1_canGoOut_4 : decode cX1_canGoOut 4 = .ok (.ifCond .eq 23, 3) := by decide +kernel
theorem dX1_canGoOut_7 : decode cX1_canGoOut 7 = .ok (.aload_n 0, 1) := by decide +kernel
theorem dX1_canGoOut_8 : decode cX1_canGoOut 8 = .ok (.invokevirtual 52, 3) := by decide +kernel
theorem dX1_canGoOut_11 : decode cX1_canGoOut 11 = .ok (.aload_n 0, 1) := by decide +kernel
theorem dX1_canGoOut_12 : decode cX1_canGoOut 12 = .ok (.getfield 22, 3) := by decide +kernel
theorem dX1_canGoOut_15 : decode cX1_canGoOut 15 = .ok (.aload_n 0, 1) := by decide +kernel
theorem dX1_canGoOut_16 : decode cX1_canGoOut 16 = .ok (.getfield 63, 3) := by decide +kernel
theorem dX1_canGoOut_19 : decode cX1_canGoOut 19 = .ok (.iaload, 1) := by decide +kernel
theorem dX1_canGoOut_20 : decode cX1_canGoOut 20 = .ok (.if_icmp .lt 7, 3) := by decide +kernel
theorem dX1_canGoOut_23 : decode cX1_canGoOut 23 = .ok (.iconst 1, 1) := by decide +kernel
theorem dX1_canGoOut_24 : decode cX1_canGoOut 24 = .ok (.goto 4, 3) := by decide +kernel
theorem dX1_canGoOut_27 : decode cX1_canGoOut 27 = .ok (.iconst 0, 1) := by decide +kernel
theorem dX1_canGoOut_28 : decode cX1_canGoOut 28 = .ok (.ireturn, 1) := by decide +kernel
set_option maxRecDepth 20000 in
theorem ggX1_laysShares_X1_all : GoodIn wsX1_laysShares wsX1_all := goodIn_r _ [9, 4, 10, 11, 12, 13, 14, 15, 16, 17, 18, 19, 20, 21] (by decide +kernel) (by decide +kernel)
set_option maxRecDepth 20000 in
theorem gX1_laysShares_X1_all : GoodIn wsX1_laysShares (wsV RX1 52 RX1 yX1_all wsX1_all) := goodIn_app (goodIn_of _ (by decide +kernel)) ggX1_laysShares_X1_all
theorem dX1_laysShares_0 : decode cX1_laysShares 0 = .ok (.aload_n 0, 1) := by decide +kernel
theorem dX1_laysShares_1 : decode cX1_laysShares 1 = .ok (.invokevirtual 52, 3) := by decide +kernel
theorem dX1_laysShares_4 : decode cX1_laysShares 4 = .ok (.istore_n 1, 1) := by decide +kernel
theorem dX1_laysShares_5 : decode cX1_laysShares 5 = .ok (.aload_n 0, 1) := by decide +kernel
theorem dX1_laysShares_6 : decode cX1_laysShares 6 = .ok (.getfield 22, 3) := by decide +kernel
theorem dX1_laysShares_9 : decode cX1_laysShares 9 = .ok (.aload_n 0, 1) := by decide +kernel
theorem dX1_laysShares_10 : decode cX1_laysShares 10 = .ok (.getfield 63, 3) := by decide +kernel
theorem dX1_laysShares_13 : decode cX1_laysShares 13 = .ok (.iaload, 1) := by decide +kernel
theorem dX1_laysShares_14 : decode cX1_laysShares 14 = .ok (.istore_n 2, 1) := by decide +kernel
theorem dX1_laysShares_15 : decode cX1_laysShares 15 = .ok (.iload_n 2, 1) := by decide +kernel
theorem dX1_laysShares_16 : decode cX1_laysShares 16 = .ok (.istore_n 3, 1) := by decide +kernel
theorem dX1_laysShares_17 : decode cX1_laysShares 17 = .ok (.iconst 0, 1) := by decide +kernel
theorem dX1_laysShares_18 : decode cX1_laysShares 18 = .ok (.istore 4, 2) := by decide +kernel
theorem dX1_laysShares_20 : decode cX1_laysShares 20 = .ok (.iload 4, 2) := by decide +kernel
theorem dX1_laysShares_22 : decode cX1_laysShares 22 = .ok (.bipush 8, 2) := by decide +kernel
theorem dX1_laysShares_24 : decode cX1_laysShares 24 = .ok (.if_icmp .ge 41, 3) := by decide +kernel
theorem dX1_laysShares_27 : decode cX1_laysShares 27 = .ok (.aload_n 0, 1) := by decide +kernel
theorem dX1_laysShares_28 : decode cX1_laysShares 28 = .ok (.getfield 29, 3) := by decide +kernel
theorem dX1_laysShares_31 : decode cX1_laysShares 31 = .ok (.iload 4, 2) := by decide +kernel
theorem dX1_laysShares_33 : decode cX1_laysShares 33 = .ok (.iload_n 2, 1) := by decide +kernel
theorem dX1_laysShares_34 : decode cX1_laysShares 34 = .ok (.i2l, 1) := by decide +kernel
theorem dX1_laysShares_35 : decode cX1_laysShares 35 = .ok (.aload_n 0, 1) := by decide +kernel
theorem dX1_laysShares_36 : decode cX1_laysShares 36 = .ok (.getfield 7, 3) := by decide +kernel
theorem dX1_laysShares_39 : decode cX1_laysShares 39 = .ok (.iload 4, 2) := by decide +kernel
theorem dX1_laysShares_41 : decode cX1_laysShares 41 = .ok (.iaload, 1) := by decide +kernel
theorem dX1_laysShares_42 : decode cX1_laysShares 42 = .ok (.i2l, 1) := by decide +kernel
theorem dX1_laysShares_43 : decode cX1_laysShares 43 = .ok (.lmul, 1) := by decide +kernel
theorem dX1_laysShares_44 : decode cX1_laysShares 44 = .ok (.iload_n 1, 1) := by decide +kernel
theorem dX1_laysShares_45 : decode cX1_laysShares 45 = .ok (.i2l, 1) := by decide +kernel
theorem dX1_laysShares_46 : decode cX1_laysShares 46 = .ok (.ldiv, 1) := by decide +kernel
theorem dX1_laysShares_47 : decode cX1_laysShares 47 = .ok (.l2i, 1) := by decide +kernel
theorem dX1_laysShares_48 : decode cX1_laysShares 48 = .ok (.iastore, 1) := by decide +kernel
theorem dX1_laysShares_49 : decode cX1_laysShares 49 = .ok (.iload_n 3, 1) := by decide +kernel
theorem dX1_laysShares_50 : decode cX1_laysShares 50 = .ok (.aload_n 0, 1) := by decide +kernel
theorem dX1_laysShares_51 : decode cX1_laysShares 51 = .ok (.getfield 29, 3) := by decide +kernel
theorem dX1_laysShares_54 : decode cX1_laysShares 54 = .ok (.iload 4, 2) := by decide +kernel
theorem dX1_laysShares_56 : decode cX1_laysShares 56 = .ok (.iaload, 1) := by decide +kernel
theorem dX1_laysShares_57 : decode cX1_laysShares 57 = .ok (.isub, 1) := by decide +kernel
theorem dX1_laysShares_58 : decode cX1_laysShares 58 = .ok (.istore_n 3, 1) := by decide +kernel
theorem dX1_laysShares_59 : decode cX1_laysShares 59 = .ok (.iinc 4 1, 3) := by decide +kernel
theorem dX1_laysShares_62 : decode cX1_laysShares 62 = .ok (.goto (-42), 3) := by decide +kernel
theorem dX1_laysShares_65 : decode cX1_laysShares 65 = .ok (.iconst 0, 1) := by decide +kernel
theorem dX1_laysShares_66 : decode cX1_laysShares 66 = .ok (.istore 4, 2) := by decide +kernel
theorem dX1_laysShares_68 : decode cX1_laysShares 68 = .ok (.iload 4, 2) := by decide +kernel
theorem dX1_laysShares_70 : decode cX1_laysShares 70 = .ok (.bipush 8, 2) := by decide +kernel
theorem dX1_laysShares_72 : decode cX1_laysShares 72 = .ok (.if_icmp .ge 54, 3) := by decide +kernel
theorem dX1_laysShares_75 : decode cX1_laysShares 75 = .ok (.iload_n 3, 1) := by decide +kernel
theorem dX1_laysShares_76 : decode cX1_laysShares 76 = .ok (.ifCond .le 24, 3) := by decide +kernel
theorem dX1_laysShares_79 : decode cX1_laysShares 79 = .ok (.aload_n 0, 1) := by decide +kernel
theorem dX1_laysShares_80 : decode cX1_laysShares 80 = .ok (.getfield 7, 3) := by decide +kernel
theorem dX1_laysShares_83 : decode cX1_laysShares 83 = .ok (.iload 4, 2) := by decide +kernel
theorem dX1_laysShares_85 : decode cX1_laysShares 85 = .ok (.iaload, 1) := by decide +kernel
theorem dX1_laysShares_86 : decode cX1_laysShares 86 = .ok (.aload_n 0, 1) := by decide +kernel
theorem dX1_laysShares_87 : decode cX1_laysShares 87 = .ok (.getfield 29, 3) := by decide +kernel
theorem dX1_laysShares_90 : decode cX1_laysShares 90 = .ok (.iload 4, 2) := by decide +kernel
theorem dX1_laysShares_92 : decode cX1_laysShares 92 = .ok (.iaload, 1) := by decide +kernel
theorem dX1_laysShares_93 : decode cX1_laysShares 93 = .ok (.if_icmp .le 7, 3) := by decide +kernel
theorem dX1_laysShares_96 : decode cX1_laysShares 96 = .ok (.iconst 1, 1) := by decide +kernel
theorem dX1_laysShares_97 : decode cX1_laysShares 97 = .ok (.goto 4, 3) := by decide +kernel
theorem dX1_laysShares_100 : decode cX1_laysShares 100 = .ok (.iconst 0, 1) := by decide +kernel
theorem dX1_laysShares_101 : decode cX1_laysShares 101 = .ok (.istore 5, 2) := by decide +kernel
theorem dX1_laysShares_103 : decode cX1_laysShares 103 = .ok (.aload_n 0, 1) := by decide +kernel
theorem dX1_laysShares_104 : decode cX1_laysShares 104 = .ok (.getfield 29, 3) := by decide +kernel
theorem dX1_laysShares_107 : decode cX1_laysShares 107 = .ok (.iload 4, 2) := by decide +kernel
theorem dX1_laysShares_109 : decode cX1_laysShares 109 = .ok (.dup2, 1) := by decide +kernel
theorem dX1_laysShares_110 : decode cX1_laysShares 110 = .ok (.iaload, 1) := by decide +kernel
theorem dX1_laysShares_111 : decode cX1_laysShares 111 = .ok (.iload 5, 2) := by decide +kernel
theorem dX1_laysShares_113 : decode cX1_laysShares 113 = .ok (.iadd, 1) := by decide +kernel
theorem dX1_laysShares_114 : decode cX1_laysShares 114 = .ok (.iastore, 1) := by decide +kernel
theorem dX1_laysShares_115 : decode cX1_laysShares 115 = .ok (.iload_n 3, 1) := by decide +kernel
theorem dX1_laysShares_116 : decode cX1_laysShares 116 = .ok (.iload 5, 2) := by decide +kernel
theorem dX1_laysShares_118 : decode cX1_laysShares 118 = .ok (.isub, 1) := by decide +kernel
theorem dX1_laysShares_119 : decode cX1_laysShares 119 = .ok (.istore_n 3, 1) := by decide +kernel
theorem dX1_laysShares_120 : decode cX1_laysShares 120 = .ok (.iinc 4 1, 3) := by decide +kernel
theorem dX1_laysShares_123 : decode cX1_laysShares 123 = .ok (.goto (-55), 3) := by decide +kernel
theorem dX1_laysShares_126 : decode cX1_laysShares 126 = .ok (.return_, 1) := by decide +kernel
set_option maxRecDepth 20000 in
theorem ggX1_share_X1_isGiver : GoodIn wsX1_share wsX1_isGiver := goodIn_r _ [5, 6, 7, 4, 8] (by decide +kernel) (by decide +kernel)
set_option maxRecDepth 20000 in
theorem gX1_share_X1_isGiver : GoodIn wsX1_share (va_wsS RX1 40 yX1_isGiver wsX1_isGiver) := goodIn_app (goodIn_of _ (by decide +kernel)) ggX1_share_X1_isGiver
set_option maxRecDepth 20000 in
theorem ggX1_share_X1_canGoOut : GoodIn wsX1_share wsX1_canGoOut := goodIn_r _ [12, 13, 14, 15, 16, 17, 4, 18, 19, 20, 21, 22, 23, 24, 34, 35, 36, 37, 38, 39, 40, 41, 42, 43, 44, 45] (by decide +kernel) (by decide +kernel)
set_option maxRecDepth 20000 in
theorem gX1_share_X1_canGoOut : GoodIn wsX1_share (wsV RX1 77 RX1 yX1_canGoOut wsX1_canGoOut) := goodIn_app (goodIn_of _ (by decide +kernel)) ggX1_share_X1_canGoOut
set_option maxRecDepth 20000 in
theorem ggX1_share_X1_goes : GoodIn wsX1_share wsX1_goes := goodIn_r _ [28, 29, 34, 35, 36, 37, 38, 39, 40, 41, 42, 43, 44, 45] (by decide +kernel) (by decide +kernel)
set_option maxRecDepth 20000 in
theorem gX1_share_X1_goes : GoodIn wsX1_share (wsV RX1 45 RX1 yX1_goes wsX1_goes) := goodIn_app (goodIn_of _ (by decide +kernel)) ggX1_share_X1_goes
set_option maxRecDepth 20000 in
theorem ggX1_share_X1_laysShares : GoodIn wsX1_share wsX1_laysShares := goodIn_r _ [33, 13, 14, 1, 24, 20, 21, 22, 4, 23, 34, 35, 36, 37, 38, 39, 40, 41, 42, 43, 44, 45] (by decide +kernel) (by decide +kernel)
set_option maxRecDepth 20000 in
theorem gX1_share_X1_laysShares : GoodIn wsX1_share (wsV RX1 80 RX1 yX1_laysShares wsX1_laysShares) := goodIn_app (goodIn_of _ (by decide +kernel)) ggX1_share_X1_laysShares
theorem dX1_share_0 : decode cX1_share 0 = .ok (.aload_n 0, 1) := by decide +kernel
theorem dX1_share_1 : decode cX1_share 1 = .ok (.iload_n 1, 1) := by decide +kernel
theorem dX1_share_2 : decode cX1_share 2 = .ok (.invokestatic 40, 3) := by decide +kernel
theorem dX1_share_5 : decode cX1_share 5 = .ok (.ifCond .ne 7, 3) := by decide +kernel
theorem dX1_share_8 : decode cX1_share 8 = .ok (.iconst 1, 1) := by decide +kernel
theorem dX1_share_9 : decode cX1_share 9 = .ok (.goto 15, 3) := by decide +kernel
theorem dX1_share_12 : decode cX1_share 12 = .ok (.aload_n 0, 1) := by decide +kernel
theorem dX1_share_13 : decode cX1_share 13 = .ok (.invokevirtual 77, 3) := by decide +kernel
theorem dX1_share_16 : decode cX1_share 16 = .ok (.ifCond .eq 7, 3) := by decide +kernel
theorem dX1_share_19 : decode cX1_share 19 = .ok (.iconst 0, 1) := by decide +kernel
theorem dX1_share_20 : decode cX1_share 20 = .ok (.goto 4, 3) := by decide +kernel
theorem dX1_share_23 : decode cX1_share 23 = .ok (.iconst 2, 1) := by decide +kernel
theorem dX1_share_24 : decode cX1_share 24 = .ok (.invokevirtual 45, 3) := by decide +kernel
theorem dX1_share_27 : decode cX1_share 27 = .ok (.ifCond .ne 5, 3) := by decide +kernel
theorem dX1_share_30 : decode cX1_share 30 = .ok (.iconst 0, 1) := by decide +kernel
theorem dX1_share_31 : decode cX1_share 31 = .ok (.ireturn, 1) := by decide +kernel
theorem dX1_share_32 : decode cX1_share 32 = .ok (.aload_n 0, 1) := by decide +kernel
theorem dX1_share_33 : decode cX1_share 33 = .ok (.invokevirtual 80, 3) := by decide +kernel
theorem dX1_share_36 : decode cX1_share 36 = .ok (.aload_n 0, 1) := by decide +kernel
theorem dX1_share_37 : decode cX1_share 37 = .ok (.getfield 29, 3) := by decide +kernel
theorem dX1_share_40 : decode cX1_share 40 = .ok (.iload_n 1, 1) := by decide +kernel
theorem dX1_share_41 : decode cX1_share 41 = .ok (.iaload, 1) := by decide +kernel
theorem dX1_share_42 : decode cX1_share 42 = .ok (.ireturn, 1) := by decide +kernel
theorem dX1_root_0 : decode cX1_root 0 = .ok (.iconst 0, 1) := by decide +kernel
theorem dX1_root_1 : decode cX1_root 1 = .ok (.istore_n 1, 1) := by decide +kernel
theorem dX1_root_2 : decode cX1_root 2 = .ok (.iload_n 1, 1) := by decide +kernel
theorem dX1_root_3 : decode cX1_root 3 = .ok (.iconst 1, 1) := by decide +kernel
theorem dX1_root_4 : decode cX1_root 4 = .ok (.iadd, 1) := by decide +kernel
theorem dX1_root_5 : decode cX1_root 5 = .ok (.iload_n 1, 1) := by decide +kernel
theorem dX1_root_6 : decode cX1_root 6 = .ok (.iconst 1, 1) := by decide +kernel
theorem dX1_root_7 : decode cX1_root 7 = .ok (.iadd, 1) := by decide +kernel
theorem dX1_root_8 : decode cX1_root 8 = .ok (.imul, 1) := by decide +kernel
theorem dX1_root_9 : decode cX1_root 9 = .ok (.iload_n 0, 1) := by decide +kernel
theorem dX1_root_10 : decode cX1_root 10 = .ok (.if_icmp .gt 9, 3) := by decide +kernel
theorem dX1_root_13 : decode cX1_root 13 = .ok (.iinc 1 1, 3) := by decide +kernel
theorem dX1_root_16 : decode cX1_root 16 = .ok (.goto (-14), 3) := by decide +kernel
theorem dX1_root_19 : decode cX1_root 19 = .ok (.iload_n 1, 1) := by decide +kernel
theorem dX1_root_20 : decode cX1_root 20 = .ok (.ireturn, 1) := by decide +kernel
set_option maxRecDepth 20000 in
theorem ggX1_matched_X1_root : GoodIn wsX1_matched wsX1_root := goodIn_r _ [9] (by decide +kernel) (by decide +kernel)
set_option maxRecDepth 20000 in
theorem gX1_matched_X1_root : GoodIn wsX1_matched (va_wsS RX1 83 yX1_root wsX1_root) := goodIn_app (goodIn_of _ (by decide +kernel)) ggX1_matched_X1_root
theorem dX1_matched_0 : decode cX1_matched 0 = .ok (.iconst 0, 1) := by decide +kernel
theorem dX1_matched_1 : decode cX1_matched 1 = .ok (.istore_n 1, 1) := by decide +kernel
theorem dX1_matched_2 : decode cX1_matched 2 = .ok (.iconst 0, 1) := by decide +kernel
theorem dX1_matched_3 : decode cX1_matched 3 = .ok (.istore_n 2, 1) := by decide +kernel
theorem dX1_matched_4 : decode cX1_matched 4 = .ok (.iload_n 2, 1) := by decide +kernel
theorem dX1_matched_5 : decode cX1_matched 5 = .ok (.bipush 8, 2) := by decide +kernel
theorem dX1_matched_7 : decode cX1_matched 7 = .ok (.if_icmp .ge 59, 3) := by decide +kernel
theorem dX1_matched_10 : decode cX1_matched 10 = .ok (.iconst 0, 1) := by decide +kernel
theorem dX1_matched_11 : decode cX1_matched 11 = .ok (.istore_n 3, 1) := by decide +kernel
theorem dX1_matched_12 : decode cX1_matched 12 = .ok (.iconst 0, 1) := by decide +kernel
theorem dX1_matched_13 : decode cX1_matched 13 = .ok (.istore 4, 2) := by decide +kernel
theorem dX1_matched_15 : decode cX1_matched 15 = .ok (.iload 4, 2) := by decide +kernel
theorem dX1_matched_17 : decode cX1_matched 17 = .ok (.bipush 8, 2) := by decide +kernel
theorem dX1_matched_19 : decode cX1_matched 19 = .ok (.if_icmp .ge 34, 3) := by decide +kernel
theorem dX1_matched_22 : decode cX1_matched 22 = .ok (.iload_n 3, 1) := by decide +kernel
theorem dX1_matched_23 : decode cX1_matched 23 = .ok (.aload_n 0, 1) := by decide +kernel
theorem dX1_matched_24 : decode cX1_matched 24 = .ok (.getfield 16, 3) := by decide +kernel
theorem dX1_matched_27 : decode cX1_matched 27 = .ok (.iload 4, 2) := by decide +kernel
theorem dX1_matched_29 : decode cX1_matched 29 = .ok (.iaload, 1) := by decide +kernel
theorem dX1_matched_30 : decode cX1_matched 30 = .ok (.iload_n 2, 1) := by decide +kernel
theorem dX1_matched_31 : decode cX1_matched 31 = .ok (.if_icmp .ne 13, 3) := by decide +kernel
theorem dX1_matched_34 : decode cX1_matched 34 = .ok (.aload_n 0, 1) := by decide +kernel
theorem dX1_matched_35 : decode cX1_matched 35 = .ok (.getfield 29, 3) := by decide +kernel
theorem dX1_matched_38 : decode cX1_matched 38 = .ok (.iload 4, 2) := by decide +kernel
theorem dX1_matched_40 : decode cX1_matched 40 = .ok (.iaload, 1) := by decide +kernel
theorem dX1_matched_41 : decode cX1_matched 41 = .ok (.goto 4, 3) := by decide +kernel
theorem dX1_matched_44 : decode cX1_matched 44 = .ok (.iconst 0, 1) := by decide +kernel
theorem dX1_matched_45 : decode cX1_matched 45 = .ok (.iadd, 1) := by decide +kernel
theorem dX1_matched_46 : decode cX1_matched 46 = .ok (.istore_n 3, 1) := by decide +kernel
theorem dX1_matched_47 : decode cX1_matched 47 = .ok (.iinc 4 1, 3) := by decide +kernel
theorem dX1_matched_50 : decode cX1_matched 50 = .ok (.goto (-35), 3) := by decide +kernel
theorem dX1_matched_53 : decode cX1_matched 53 = .ok (.iload_n 1, 1) := by decide +kernel
theorem dX1_matched_54 : decode cX1_matched 54 = .ok (.iload_n 3, 1) := by decide +kernel
theorem dX1_matched_55 : decode cX1_matched 55 = .ok (.invokestatic 83, 3) := by decide +kernel
theorem dX1_matched_58 : decode cX1_matched 58 = .ok (.iadd, 1) := by decide +kernel
theorem dX1_matched_59 : decode cX1_matched 59 = .ok (.istore_n 1, 1) := by decide +kernel
theorem dX1_matched_60 : decode cX1_matched 60 = .ok (.iinc 2 1, 3) := by decide +kernel
theorem dX1_matched_63 : decode cX1_matched 63 = .ok (.goto (-59), 3) := by decide +kernel
theorem dX1_matched_66 : decode cX1_matched 66 = .ok (.iload_n 1, 1) := by decide +kernel
theorem dX1_matched_67 : decode cX1_matched 67 = .ok (.iload_n 1, 1) := by decide +kernel
theorem dX1_matched_68 : decode cX1_matched 68 = .ok (.imul, 1) := by decide +kernel
theorem dX1_matched_69 : decode cX1_matched 69 = .ok (.aload_n 0, 1) := by decide +kernel
theorem dX1_matched_70 : decode cX1_matched 70 = .ok (.getfield 22, 3) := by decide +kernel
theorem dX1_matched_73 : decode cX1_matched 73 = .ok (.aload_n 0, 1) := by decide +kernel
theorem dX1_matched_74 : decode cX1_matched 74 = .ok (.getfield 63, 3) := by decide +kernel
theorem dX1_matched_77 : decode cX1_matched 77 = .ok (.iaload, 1) := by decide +kernel
theorem dX1_matched_78 : decode cX1_matched 78 = .ok (.isub, 1) := by decide +kernel
theorem dX1_matched_79 : decode cX1_matched 79 = .ok (.istore_n 2, 1) := by decide +kernel
theorem dX1_matched_80 : decode cX1_matched 80 = .ok (.iload_n 2, 1) := by decide +kernel
theorem dX1_matched_81 : decode cX1_matched 81 = .ok (.ifCond .ge 7, 3) := by decide +kernel
theorem dX1_matched_84 : decode cX1_matched 84 = .ok (.iconst 0, 1) := by decide +kernel
theorem dX1_matched_85 : decode cX1_matched 85 = .ok (.goto 19, 3) := by decide +kernel
theorem dX1_matched_88 : decode cX1_matched 88 = .ok (.iload_n 2, 1) := by decide +kernel
theorem dX1_matched_89 : decode cX1_matched 89 = .ok (.aload_n 0, 1) := by decide +kernel
theorem dX1_matched_90 : decode cX1_matched 90 = .ok (.getfield 56, 3) := by decide +kernel
theorem dX1_matched_93 : decode cX1_matched 93 = .ok (.if_icmp .le 10, 3) := by decide +kernel
theorem dX1_matched_96 : decode cX1_matched 96 = .ok (.aload_n 0, 1) := by decide +kernel
theorem dX1_matched_97 : decode cX1_matched 97 = .ok (.getfield 56, 3) := by decide +kernel
theorem dX1_matched_100 : decode cX1_matched 100 = .ok (.goto 4, 3) := by decide +kernel
theorem dX1_matched_103 : decode cX1_matched 103 = .ok (.iload_n 2, 1) := by decide +kernel
theorem dX1_matched_104 : decode cX1_matched 104 = .ok (.ireturn, 1) := by decide +kernel
set_option maxRecDepth 20000 in
theorem ggX1_matchNow_X1_canGoOut : GoodIn wsX1_matchNow wsX1_canGoOut := goodIn_r _ [5, 6, 7, 8, 9, 10, 4, 11, 12, 13, 14, 15, 16, 17, 37, 38, 39, 40, 41, 42, 43, 44, 45, 46, 47, 48] (by decide +kernel) (by decide +kernel)
set_option maxRecDepth 20000 in
theorem gX1_matchNow_X1_canGoOut : GoodIn wsX1_matchNow (wsV RX1 77 RX1 yX1_canGoOut wsX1_canGoOut) := goodIn_app (goodIn_of _ (by decide +kernel)) ggX1_matchNow_X1_canGoOut
set_option maxRecDepth 20000 in
theorem ggX1_matchNow_X1_goes : GoodIn wsX1_matchNow wsX1_goes := goodIn_r _ [21, 22, 37, 38, 39, 40, 41, 42, 43, 44, 45, 46, 47, 48] (by decide +kernel) (by decide +kernel)
set_option maxRecDepth 20000 in
theorem gX1_matchNow_X1_goes : GoodIn wsX1_matchNow (wsV RX1 45 RX1 yX1_goes wsX1_goes) := goodIn_app (goodIn_of _ (by decide +kernel)) ggX1_matchNow_X1_goes
set_option maxRecDepth 20000 in
theorem ggX1_matchNow_X1_laysShares : GoodIn wsX1_matchNow wsX1_laysShares := goodIn_r _ [26, 6, 7, 27, 17, 13, 14, 15, 4, 16, 37, 38, 39, 40, 41, 42, 43, 44, 45, 46, 47, 48] (by decide +kernel) (by decide +kernel)
set_option maxRecDepth 20000 in
theorem gX1_matchNow_X1_laysShares : GoodIn wsX1_matchNow (wsV RX1 80 RX1 yX1_laysShares wsX1_laysShares) := goodIn_app (goodIn_of _ (by decide +kernel)) ggX1_matchNow_X1_laysShares
set_option maxRecDepth 20000 in
theorem ggX1_matchNow_X1_matched : GoodIn wsX1_matchNow wsX1_matched := goodIn_r _ [31, 32, 27, 6, 7, 33, 34, 35, 4, 36, 37, 38, 39, 40, 41, 42, 43, 44, 45, 46, 47, 48] (by decide +kernel) (by decide +kernel)
set_option maxRecDepth 20000 in
theorem gX1_matchNow_X1_matched : GoodIn wsX1_matchNow (wsV RX1 86 RX1 yX1_matched wsX1_matched) := goodIn_app (goodIn_of _ (by decide +kernel)) ggX1_matchNow_X1_matched
theorem dX1_matchNow_0 : decode cX1_matchNow 0 = .ok (.aload_n 0, 1) := by decide +kernel
theorem dX1_matchNow_1 : decode cX1_matchNow 1 = .ok (.aload_n 0, 1) := by decide +kernel
theorem dX1_matchNow_2 : decode cX1_matchNow 2 = .ok (.invokevirtual 77, 3) := by decide +kernel
theorem dX1_matchNow_5 : decode cX1_matchNow 5 = .ok (.ifCond .eq 7, 3) := by decide +kernel
theorem dX1_matchNow_8 : decode cX1_matchNow 8 = .ok (.iconst 0, 1) := by decide +kernel
theorem dX1_matchNow_9 : decode cX1_matchNow 9 = .ok (.goto 4, 3) := by decide +kernel
theorem dX1_matchNow_12 : decode cX1_matchNow 12 = .ok (.iconst 1, 1) := by decide +kernel
theorem dX1_matchNow_13 : decode cX1_matchNow 13 = .ok (.invokevirtual 45, 3) := by decide +kernel
theorem dX1_matchNow_16 : decode cX1_matchNow 16 = .ok (.ifCond .ne 5, 3) := by decide +kernel
theorem dX1_matchNow_19 : decode cX1_matchNow 19 = .ok (.iconst 0, 1) := by decide +kernel
theorem dX1_matchNow_20 : decode cX1_matchNow 20 = .ok (.ireturn, 1) := by decide +kernel
theorem dX1_matchNow_21 : decode cX1_matchNow 21 = .ok (.aload_n 0, 1) := by decide +kernel
theorem dX1_matchNow_22 : decode cX1_matchNow 22 = .ok (.invokevirtual 80, 3) := by decide +kernel
theorem dX1_matchNow_25 : decode cX1_matchNow 25 = .ok (.aload_n 0, 1) := by decide +kernel
theorem dX1_matchNow_26 : decode cX1_matchNow 26 = .ok (.invokevirtual 86, 3) := by decide +kernel
theorem dX1_matchNow_29 : decode cX1_matchNow 29 = .ok (.ireturn, 1) := by decide +kernel
set_option maxRecDepth 20000 in
theorem ggX1_match_X1_matchNow : GoodIn wsX1_match wsX1_matchNow := goodIn_r _ [5, 6, 7, 8, 4, 9, 10, 11, 12, 13, 14, 15, 16, 17, 18, 19, 20, 21, 22, 23, 24, 25, 26, 27, 28, 29, 30, 31, 32, 33, 34, 35, 36, 37, 38, 39, 40, 41, 42, 43, 44, 45, 46, 47, 48, 49, 50, 51, 52] (by decide +kernel) (by decide +kernel)
set_option maxRecDepth 20000 in
theorem gX1_match_X1_matchNow : GoodIn wsX1_match (wsV RX1 89 RX1 yX1_matchNow wsX1_matchNow) := goodIn_app (goodIn_of _ (by decide +kernel)) ggX1_match_X1_matchNow
theorem dX1_match_0 : decode cX1_match 0 = .ok (.aload_n 0, 1) := by decide +kernel
theorem dX1_match_1 : decode cX1_match 1 = .ok (.invokevirtual 89, 3) := by decide +kernel
theorem dX1_match_4 : decode cX1_match 4 = .ok (.ireturn, 1) := by decide +kernel
set_option maxRecDepth 20000 in
theorem ggX1_matchByPairs_X1_matchNow : GoodIn wsX1_matchByPairs wsX1_matchNow := goodIn_r _ [5, 6, 7, 8, 4, 9, 10, 11, 12, 13, 14, 15, 16, 17, 18, 19, 20, 21, 22, 23, 24, 25, 26, 27, 28, 29, 30, 31, 32, 33, 34, 35, 36, 37, 38, 39, 40, 41, 42, 43, 44, 45, 46, 47, 48, 49, 50, 51, 52] (by decide +kernel) (by decide +kernel)
set_option maxRecDepth 20000 in
theorem gX1_matchByPairs_X1_matchNow : GoodIn wsX1_matchByPairs (wsV RX1 89 RX1 yX1_matchNow wsX1_matchNow) := goodIn_app (goodIn_of _ (by decide +kernel)) ggX1_matchByPairs_X1_matchNow
theorem dX1_matchByPairs_0 : decode cX1_matchByPairs 0 = .ok (.aload_n 0, 1) := by decide +kernel
theorem dX1_matchByPairs_1 : decode cX1_matchByPairs 1 = .ok (.invokevirtual 89, 3) := by decide +kernel
theorem dX1_matchByPairs_4 : decode cX1_matchByPairs 4 = .ok (.ireturn, 1) := by decide +kernel
set_option maxRecDepth 20000 in
theorem ggX1_release_X1_canGoOut : GoodIn wsX1_release wsX1_canGoOut := goodIn_r _ [13, 3, 2, 14, 15, 16, 12, 17, 18, 19, 20, 21, 22, 4, 49, 50, 51, 52, 53, 54, 55, 56, 57, 58, 59, 60] (by decide +kernel) (by decide +kernel)
set_option maxRecDepth 20000 in
theorem gX1_release_X1_canGoOut : GoodIn wsX1_release (wsV RX1 77 RX1 yX1_canGoOut wsX1_canGoOut) := goodIn_app (goodIn_of _ (by decide +kernel)) ggX1_release_X1_canGoOut
set_option maxRecDepth 20000 in
theorem ggX1_release_X1_weightOf : GoodIn wsX1_release wsX1_weightOf := goodIn_r _ [26, 6, 4, 27, 28, 29, 12, 30, 31, 49, 50, 51, 52, 53, 54, 55, 56, 57, 58, 59, 60] (by decide +kernel) (by decide +kernel)
set_option maxRecDepth 20000 in
theorem gX1_release_X1_weightOf : GoodIn wsX1_release (wsV RX1 74 RX1 yX1_weightOf wsX1_weightOf) := goodIn_app (goodIn_of _ (by decide +kernel)) ggX1_release_X1_weightOf
set_option maxRecDepth 20000 in
theorem ggX1_release_X1_all : GoodIn wsX1_release wsX1_all := goodIn_r _ [22, 4, 49, 50, 51, 52, 53, 54, 55, 56, 57, 58, 59, 60] (by decide +kernel) (by decide +kernel)
set_option maxRecDepth 20000 in
theorem gX1_release_X1_all : GoodIn wsX1_release (wsV RX1 52 RX1 yX1_all wsX1_all) := goodIn_app (goodIn_of _ (by decide +kernel)) ggX1_release_X1_all
set_option maxRecDepth 20000 in
theorem ggX1_release_X1_goes : GoodIn wsX1_release wsX1_goes := goodIn_r _ [35, 36, 49, 50, 51, 52, 53, 54, 55, 56, 57, 58, 59, 60] (by decide +kernel) (by decide +kernel)
set_option maxRecDepth 20000 in
theorem gX1_release_X1_goes : GoodIn wsX1_release (wsV RX1 45 RX1 yX1_goes wsX1_goes) := goodIn_app (goodIn_of _ (by decide +kernel)) ggX1_release_X1_goes
set_option maxRecDepth 20000 in
theorem ggX1_release_X1_laysShares : GoodIn wsX1_release wsX1_laysShares := goodIn_r _ [40, 3, 2, 5, 4, 19, 20, 21, 12, 22, 49, 50, 51, 52, 53, 54, 55, 56, 57, 58, 59, 60] (by decide +kernel) (by decide +kernel)
set_option maxRecDepth 20000 in
theorem gX1_release_X1_laysShares : GoodIn wsX1_release (wsV RX1 80 RX1 yX1_laysShares wsX1_laysShares) := goodIn_app (goodIn_of _ (by decide +kernel)) ggX1_release_X1_laysShares
set_option maxRecDepth 20000 in
theorem ggX1_release_X1_matched : GoodIn wsX1_release wsX1_matched := goodIn_r _ [44, 45, 5, 3, 2, 7, 46, 47, 12, 48, 49, 50, 51, 52, 53, 54, 55, 56, 57, 58, 59, 60] (by decide +kernel) (by decide +kernel)
set_option maxRecDepth 20000 in
theorem gX1_release_X1_matched : GoodIn wsX1_release (wsV RX1 86 RX1 yX1_matched wsX1_matched) := goodIn_app (goodIn_of _ (by decide +kernel)) ggX1_release_X1_matched
theorem dX1_release_0 : decode cX1_release 0 = .ok (.aload_n 0, 1) := by decide +kernel
theorem dX1_release_1 : decode cX1_release 1 = .ok (.invokevirtual 77, 3) := by decide +kernel
theorem dX1_release_4 : decode cX1_release 4 = .ok (.ifCond .eq 33, 3) := by decide +kernel
theorem dX1_release_7 : decode cX1_release 7 = .ok (.aload_n 0, 1) := by decide +kernel
theorem dX1_release_8 : decode cX1_release 8 = .ok (.getfield 25, 3) := by decide +kernel
theorem dX1_release_11 : decode cX1_release 11 = .ok (.aload_n 0, 1) := by decide +kernel
theorem dX1_release_12 : decode cX1_release 12 = .ok (.getfield 63, 3) := by decide +kernel
theorem dX1_release_15 : decode cX1_release 15 = .ok (.baload, 1) := by decide +kernel
theorem dX1_release_16 : decode cX1_release 16 = .ok (.ifCond .eq 21, 3) := by decide +kernel
theorem dX1_release_19 : decode cX1_release 19 = .ok (.iconst 2, 1) := by decide +kernel
theorem dX1_release_20 : decode cX1_release 20 = .ok (.aload_n 0, 1) := by decide +kernel
theorem dX1_release_21 : decode cX1_release 21 = .ok (.iconst 1, 1) := by decide +kernel
theorem dX1_release_22 : decode cX1_release 22 = .ok (.invokevirtual 74, 3) := by decide +kernel
theorem dX1_release_25 : decode cX1_release 25 = .ok (.imul, 1) := by decide +kernel
theorem dX1_release_26 : decode cX1_release 26 = .ok (.aload_n 0, 1) := by decide +kernel
theorem dX1_release_27 : decode cX1_release 27 = .ok (.invokevirtual 52, 3) := by decide +kernel
theorem dX1_release_30 : decode cX1_release 30 = .ok (.if_icmp .le 7, 3) := by decide +kernel
theorem dX1_release_33 : decode cX1_release 33 = .ok (.iconst 1, 1) := by decide +kernel
theorem dX1_release_34 : decode cX1_release 34 = .ok (.goto 4, 3) := by decide +kernel
theorem dX1_release_37 : decode cX1_release 37 = .ok (.iconst 0, 1) := by decide +kernel
theorem dX1_release_38 : decode cX1_release 38 = .ok (.istore_n 1, 1) := by decide +kernel
theorem dX1_release_39 : decode cX1_release 39 = .ok (.aload_n 0, 1) := by decide +kernel
theorem dX1_release_40 : decode cX1_release 40 = .ok (.iload_n 1, 1) := by decide +kernel
theorem dX1_release_41 : decode cX1_release 41 = .ok (.ifCond .eq 7, 3) := by decide +kernel
theorem dX1_release_44 : decode cX1_release 44 = .ok (.iconst 0, 1) := by decide +kernel
theorem dX1_release_45 : decode cX1_release 45 = .ok (.goto 4, 3) := by decide +kernel
theorem dX1_release_48 : decode cX1_release 48 = .ok (.iconst 1, 1) := by decide +kernel
theorem dX1_release_49 : decode cX1_release 49 = .ok (.invokevirtual 45, 3) := by decide +kernel
theorem dX1_release_52 : decode cX1_release 52 = .ok (.ifCond .ne 5, 3) := by decide +kernel
theorem dX1_release_55 : decode cX1_release 55 = .ok (.iconst 0, 1) := by decide +kernel
theorem dX1_release_56 : decode cX1_release 56 = .ok (.ireturn, 1) := by decide +kernel
theorem dX1_release_57 : decode cX1_release 57 = .ok (.aload_n 0, 1) := by decide +kernel
theorem dX1_release_58 : decode cX1_release 58 = .ok (.invokevirtual 80, 3) := by decide +kernel
theorem dX1_release_61 : decode cX1_release 61 = .ok (.aload_n 0, 1) := by decide +kernel
theorem dX1_release_62 : decode cX1_release 62 = .ok (.invokevirtual 86, 3) := by decide +kernel
theorem dX1_release_65 : decode cX1_release 65 = .ok (.istore_n 2, 1) := by decide +kernel
theorem dX1_release_66 : decode cX1_release 66 = .ok (.aload_n 0, 1) := by decide +kernel
theorem dX1_release_67 : decode cX1_release 67 = .ok (.getfield 22, 3) := by decide +kernel
theorem dX1_release_70 : decode cX1_release 70 = .ok (.aload_n 0, 1) := by decide +kernel
theorem dX1_release_71 : decode cX1_release 71 = .ok (.getfield 63, 3) := by decide +kernel
theorem dX1_release_74 : decode cX1_release 74 = .ok (.iaload, 1) := by decide +kernel
theorem dX1_release_75 : decode cX1_release 75 = .ok (.iload_n 2, 1) := by decide +kernel
theorem dX1_release_76 : decode cX1_release 76 = .ok (.iadd, 1) := by decide +kernel
theorem dX1_release_77 : decode cX1_release 77 = .ok (.istore_n 3, 1) := by decide +kernel
theorem dX1_release_78 : decode cX1_release 78 = .ok (.iconst 0, 1) := by decide +kernel
theorem dX1_release_79 : decode cX1_release 79 = .ok (.istore 4, 2) := by decide +kernel
theorem dX1_release_81 : decode cX1_release 81 = .ok (.iload 4, 2) := by decide +kernel
theorem dX1_release_83 : decode cX1_release 83 = .ok (.bipush 8, 2) := by decide +kernel
theorem dX1_release_85 : decode cX1_release 85 = .ok (.if_icmp .ge 34, 3) := by decide +kernel
theorem dX1_release_88 : decode cX1_release 88 = .ok (.aload_n 0, 1) := by decide +kernel
theorem dX1_release_89 : decode cX1_release 89 = .ok (.getfield 7, 3) := by decide +kernel
theorem dX1_release_92 : decode cX1_release 92 = .ok (.iload 4, 2) := by decide +kernel
theorem dX1_release_94 : decode cX1_release 94 = .ok (.dup2, 1) := by decide +kernel
theorem dX1_release_95 : decode cX1_release 95 = .ok (.iaload, 1) := by decide +kernel
theorem dX1_release_96 : decode cX1_release 96 = .ok (.aload_n 0, 1) := by decide +kernel
theorem dX1_release_97 : decode cX1_release 97 = .ok (.getfield 29, 3) := by decide +kernel
theorem dX1_release_100 : decode cX1_release 100 = .ok (.iload 4, 2) := by decide +kernel
theorem dX1_release_102 : decode cX1_release 102 = .ok (.iaload, 1) := by decide +kernel
theorem dX1_release_103 : decode cX1_release 103 = .ok (.isub, 1) := by decide +kernel
theorem dX1_release_104 : decode cX1_release 104 = .ok (.iastore, 1) := by decide +kernel
theorem dX1_release_105 : decode cX1_release 105 = .ok (.aload_n 0, 1) := by decide +kernel
theorem dX1_release_106 : decode cX1_release 106 = .ok (.getfield 19, 3) := by decide +kernel
theorem dX1_release_109 : decode cX1_release 109 = .ok (.iload 4, 2) := by decide +kernel
theorem dX1_release_111 : decode cX1_release 111 = .ok (.iconst 0, 1) := by decide +kernel
theorem dX1_release_112 : decode cX1_release 112 = .ok (.iastore, 1) := by decide +kernel
theorem dX1_release_113 : decode cX1_release 113 = .ok (.iinc 4 1, 3) := by decide +kernel
theorem dX1_release_116 : decode cX1_release 116 = .ok (.goto (-35), 3) := by decide +kernel
theorem dX1_release_119 : decode cX1_release 119 = .ok (.aload_n 0, 1) := by decide +kernel
theorem dX1_release_120 : decode cX1_release 120 = .ok (.dup, 1) := by decide +kernel
theorem dX1_release_121 : decode cX1_release 121 = .ok (.getfield 56, 3) := by decide +kernel
theorem dX1_release_124 : decode cX1_release 124 = .ok (.iload_n 2, 1) := by decide +kernel
theorem dX1_release_125 : decode cX1_release 125 = .ok (.isub, 1) := by decide +kernel
theorem dX1_release_126 : decode cX1_release 126 = .ok (.putfield 56, 3) := by decide +kernel
theorem dX1_release_129 : decode cX1_release 129 = .ok (.aload_n 0, 1) := by decide +kernel
theorem dX1_release_130 : decode cX1_release 130 = .ok (.dup, 1) := by decide +kernel
theorem dX1_release_131 : decode cX1_release 131 = .ok (.getfield 92, 3) := by decide +kernel
theorem dX1_release_134 : decode cX1_release 134 = .ok (.iload_n 3, 1) := by decide +kernel
theorem dX1_release_135 : decode cX1_release 135 = .ok (.iadd, 1) := by decide +kernel
theorem dX1_release_136 : decode cX1_release 136 = .ok (.putfield 92, 3) := by decide +kernel
theorem dX1_release_139 : decode cX1_release 139 = .ok (.aload_n 0, 1) := by decide +kernel
theorem dX1_release_140 : decode cX1_release 140 = .ok (.dup, 1) := by decide +kernel
theorem dX1_release_141 : decode cX1_release 141 = .ok (.getfield 63, 3) := by decide +kernel
theorem dX1_release_144 : decode cX1_release 144 = .ok (.iconst 1, 1) := by decide +kernel
theorem dX1_release_145 : decode cX1_release 145 = .ok (.iadd, 1) := by decide +kernel
theorem dX1_release_146 : decode cX1_release 146 = .ok (.putfield 63, 3) := by decide +kernel
theorem dX1_release_149 : decode cX1_release 149 = .ok (.iload_n 3, 1) := by decide +kernel
theorem dX1_release_150 : decode cX1_release 150 = .ok (.ireturn, 1) := by decide +kernel
theorem dX1_out_0 : decode cX1_out 0 = .ok (.aload_n 0, 1) := by decide +kernel
theorem dX1_out_1 : decode cX1_out 1 = .ok (.iconst 0, 1) := by decide +kernel
theorem dX1_out_2 : decode cX1_out 2 = .ok (.putfield 32, 3) := by decide +kernel
theorem dX1_out_5 : decode cX1_out 5 = .ok (.aload_n 0, 1) := by decide +kernel
theorem dX1_out_6 : decode cX1_out 6 = .ok (.getfield 92, 3) := by decide +kernel
theorem dX1_out_9 : decode cX1_out 9 = .ok (.ireturn, 1) := by decide +kernel
theorem dJ9_max_7cf53_0 : decode cJ9_max_7cf53 0 = .ok (.iload_n 0, 1) := by decide +kernel
theorem dJ9_max_7cf53_1 : decode cJ9_max_7cf53 1 = .ok (.iload_n 1, 1) := by decide +kernel
theorem dJ9_max_7cf53_2 : decode cJ9_max_7cf53 2 = .ok (.if_icmp .lt 7, 3) := by decide +kernel
theorem dJ9_max_7cf53_5 : decode cJ9_max_7cf53 5 = .ok (.iload_n 0, 1) := by decide +kernel
theorem dJ9_max_7cf53_6 : decode cJ9_max_7cf53 6 = .ok (.goto 4, 3) := by decide +kernel
theorem dJ9_max_7cf53_9 : decode cJ9_max_7cf53 9 = .ok (.iload_n 1, 1) := by decide +kernel
theorem dJ9_max_7cf53_10 : decode cJ9_max_7cf53 10 = .ok (.ireturn, 1) := by decide +kernel
theorem dJ9_min_7cf53_0 : decode cJ9_min_7cf53 0 = .ok (.iload_n 0, 1) := by decide +kernel
theorem dJ9_min_7cf53_1 : decode cJ9_min_7cf53 1 = .ok (.iload_n 1, 1) := by decide +kernel
theorem dJ9_min_7cf53_2 : decode cJ9_min_7cf53 2 = .ok (.if_icmp .gt 7, 3) := by decide +kernel
theorem dJ9_min_7cf53_5 : decode cJ9_min_7cf53 5 = .ok (.iload_n 0, 1) := by decide +kernel
theorem dJ9_min_7cf53_6 : decode cJ9_min_7cf53 6 = .ok (.goto 4, 3) := by decide +kernel
theorem dJ9_min_7cf53_9 : decode cJ9_min_7cf53 9 = .ok (.iload_n 1, 1) := by decide +kernel
theorem dJ9_min_7cf53_10 : decode cJ9_min_7cf53 10 = .ok (.ireturn, 1) := by decide +kernel
end
section
set_option maxRecDepth 20000 in
theorem ggL_give_X0_give : GoodIn wsL_give wsX0_give := goodIn_ca (goodIn_ca (goodIn_ca (goodIn_r _ [8, 9, 10, 11, 12, 13, 14, 15, 7, 16, 17, 18, 19, 20, 21, 22, 23, 24, 25, 26, 27, 28, 29, 30, 31, 32, 33, 34, 35, 36, 37, 38, 39, 40, 41] (by decide +kernel) (by decide +kernel)) (goodIn_sub (fun _ h => List.mem_cons_of_mem _ (List.mem_append_left _ (List.mem_append_left _ (List.mem_append_right _ h)))) (by decide +kernel))) (goodIn_sub (fun _ h => List.mem_cons_of_mem _ (List.mem_append_left _ (List.mem_append_right _ h))) (by decide +kernel))) (goodIn_sub (fun _ h => List.mem_cons_of_mem _ (List.mem_append_right _ h)) (by decide +kernel))
set_option maxRecDepth 20000 in
theorem gL_give_X0_give : GoodIn wsL_give (wsV RL 7 RX0 yX0_give wsX0_give) := goodIn_app (goodIn_of _ (by decide +kernel)) ggL_give_X0_give
theorem dL_give_0 : decode cL_give 0 = .ok (.aload_n 3, 1) := by decide +kernel
theorem dL_give_1 : decode cL_give 1 = .ok (.iconst 0, 1) := by decide +kernel
theorem dL_give_2 : decode cL_give 2 = .ok (.aload_n 0, 1) := by decide +kernel
theorem dL_give_3 : decode cL_give 3 = .ok (.iload_n 1, 1) := by decide +kernel
theorem dL_give_4 : decode cL_give 4 = .ok (.iload_n 2, 1) := by decide +kernel
theorem dL_give_5 : decode cL_give 5 = .ok (.invokevirtual 7, 3) := by decide +kernel
theorem dL_give_8 : decode cL_give 8 = .ok (.i2l, 1) := by decide +kernel
theorem dL_give_9 : decode cL_give 9 = .ok (.lastore, 1) := by decide +kernel
theorem dL_give_10 : decode cL_give 10 = .ok (.goto 15, 3) := by decide +kernel
theorem dL_give_13 : decode cL_give 13 = .ok (.astore 4, 2) := by decide +kernel
theorem dL_give_15 : decode cL_give 15 = .ok (.iconst 1, 1) := by decide +kernel
theorem dL_give_16 : decode cL_give 16 = .ok (.ireturn, 1) := by decide +kernel
theorem dL_give_17 : decode cL_give 17 = .ok (.astore 4, 2) := by decide +kernel
theorem dL_give_19 : decode cL_give 19 = .ok (.iconst 2, 1) := by decide +kernel
theorem dL_give_20 : decode cL_give 20 = .ok (.ireturn, 1) := by decide +kernel
theorem dL_give_21 : decode cL_give 21 = .ok (.astore 4, 2) := by decide +kernel
theorem dL_give_23 : decode cL_give 23 = .ok (.iconst 3, 1) := by decide +kernel
theorem dL_give_24 : decode cL_give 24 = .ok (.ireturn, 1) := by decide +kernel
theorem dL_give_25 : decode cL_give 25 = .ok (.iconst 0, 1) := by decide +kernel
theorem dL_give_26 : decode cL_give 26 = .ok (.ireturn, 1) := by decide +kernel
set_option maxRecDepth 20000 in
theorem ggL_leave_X0_leave : GoodIn wsL_leave wsX0_leave := goodIn_ca (goodIn_r _ [6, 7, 8, 9, 10, 11, 5, 12, 13, 14, 15, 16, 17, 18, 19, 20, 21, 22, 23, 24, 25, 26, 27, 28, 29, 30, 31, 32] (by decide +kernel) (by decide +kernel)) (goodIn_sub (fun _ h => List.mem_cons_of_mem _ (List.mem_append_right _ h)) (by decide +kernel))
set_option maxRecDepth 20000 in
theorem gL_leave_X0_leave : GoodIn wsL_leave (wsV RL 19 RX0 yX0_leave wsX0_leave) := goodIn_app (goodIn_of _ (by decide +kernel)) ggL_leave_X0_leave
theorem dL_leave_0 : decode cL_leave 0 = .ok (.aload_n 2, 1) := by decide +kernel
theorem dL_leave_1 : decode cL_leave 1 = .ok (.iconst 0, 1) := by decide +kernel
theorem dL_leave_2 : decode cL_leave 2 = .ok (.aload_n 0, 1) := by decide +kernel
theorem dL_leave_3 : decode cL_leave 3 = .ok (.iload_n 1, 1) := by decide +kernel
theorem dL_leave_4 : decode cL_leave 4 = .ok (.invokevirtual 19, 3) := by decide +kernel
theorem dL_leave_7 : decode cL_leave 7 = .ok (.i2l, 1) := by decide +kernel
theorem dL_leave_8 : decode cL_leave 8 = .ok (.lastore, 1) := by decide +kernel
theorem dL_leave_9 : decode cL_leave 9 = .ok (.goto 6, 3) := by decide +kernel
theorem dL_leave_12 : decode cL_leave 12 = .ok (.astore_n 3, 1) := by decide +kernel
theorem dL_leave_13 : decode cL_leave 13 = .ok (.iconst 1, 1) := by decide +kernel
theorem dL_leave_14 : decode cL_leave 14 = .ok (.ireturn, 1) := by decide +kernel
theorem dL_leave_15 : decode cL_leave 15 = .ok (.iconst 0, 1) := by decide +kernel
theorem dL_leave_16 : decode cL_leave 16 = .ok (.ireturn, 1) := by decide +kernel
set_option maxRecDepth 20000 in
theorem ggL_trust_X0_trust : GoodIn wsL_trust wsX0_trust := goodIn_ca (goodIn_ca (goodIn_r _ [7, 8, 9, 10, 11, 12, 6, 13, 14, 15, 16, 17, 18, 19, 20, 21, 22, 23, 24, 25, 26, 27, 28, 29, 30, 31, 32, 33, 34, 35, 36, 37] (by decide +kernel) (by decide +kernel)) (goodIn_sub (fun _ h => List.mem_cons_of_mem _ (List.mem_append_left _ (List.mem_append_right _ h))) (by decide +kernel))) (goodIn_sub (fun _ h => List.mem_cons_of_mem _ (List.mem_append_right _ h)) (by decide +kernel))
set_option maxRecDepth 20000 in
theorem gL_trust_X0_trust : GoodIn wsL_trust (wsV RL 23 RX0 yX0_trust wsX0_trust) := goodIn_app (goodIn_of _ (by decide +kernel)) ggL_trust_X0_trust
theorem dL_trust_0 : decode cL_trust 0 = .ok (.aload_n 3, 1) := by decide +kernel
theorem dL_trust_1 : decode cL_trust 1 = .ok (.iconst 0, 1) := by decide +kernel
theorem dL_trust_2 : decode cL_trust 2 = .ok (.aload_n 0, 1) := by decide +kernel
theorem dL_trust_3 : decode cL_trust 3 = .ok (.iload_n 1, 1) := by decide +kernel
theorem dL_trust_4 : decode cL_trust 4 = .ok (.iload_n 2, 1) := by decide +kernel
theorem dL_trust_5 : decode cL_trust 5 = .ok (.invokevirtual 23, 3) := by decide +kernel
theorem dL_trust_8 : decode cL_trust 8 = .ok (.i2l, 1) := by decide +kernel
theorem dL_trust_9 : decode cL_trust 9 = .ok (.lastore, 1) := by decide +kernel
theorem dL_trust_10 : decode cL_trust 10 = .ok (.goto 11, 3) := by decide +kernel
theorem dL_trust_13 : decode cL_trust 13 = .ok (.astore 4, 2) := by decide +kernel
theorem dL_trust_15 : decode cL_trust 15 = .ok (.iconst 1, 1) := by decide +kernel
theorem dL_trust_16 : decode cL_trust 16 = .ok (.ireturn, 1) := by decide +kernel
theorem dL_trust_17 : decode cL_trust 17 = .ok (.astore 4, 2) := by decide +kernel
theorem dL_trust_19 : decode cL_trust 19 = .ok (.iconst 2, 1) := by decide +kernel
theorem dL_trust_20 : decode cL_trust 20 = .ok (.ireturn, 1) := by decide +kernel
theorem dL_trust_21 : decode cL_trust 21 = .ok (.iconst 0, 1) := by decide +kernel
theorem dL_trust_22 : decode cL_trust 22 = .ok (.ireturn, 1) := by decide +kernel
set_option maxRecDepth 20000 in
theorem ggL_setPerson_X0_setPerson : GoodIn wsL_setPerson wsX0_setPerson := goodIn_ca (goodIn_r _ [6, 7, 8, 9, 10, 11, 5, 12, 13, 14, 15, 16, 17, 18, 19, 20, 21, 22, 23, 24, 25, 26, 27, 28, 29, 30] (by decide +kernel) (by decide +kernel)) (goodIn_sub (fun _ h => List.mem_cons_of_mem _ (List.mem_append_right _ h)) (by decide +kernel))
set_option maxRecDepth 20000 in
theorem gL_setPerson_X0_setPerson : GoodIn wsL_setPerson (wsV RL 26 RX0 yX0_setPerson wsX0_setPerson) := goodIn_app (goodIn_of _ (by decide +kernel)) ggL_setPerson_X0_setPerson
theorem dL_setPerson_0 : decode cL_setPerson 0 = .ok (.aload_n 3, 1) := by decide +kernel
theorem dL_setPerson_1 : decode cL_setPerson 1 = .ok (.iconst 0, 1) := by decide +kernel
theorem dL_setPerson_2 : decode cL_setPerson 2 = .ok (.aload_n 0, 1) := by decide +kernel
theorem dL_setPerson_3 : decode cL_setPerson 3 = .ok (.iload_n 1, 1) := by decide +kernel
theorem dL_setPerson_4 : decode cL_setPerson 4 = .ok (.iload_n 2, 1) := by decide +kernel
theorem dL_setPerson_5 : decode cL_setPerson 5 = .ok (.invokevirtual 26, 3) := by decide +kernel
theorem dL_setPerson_8 : decode cL_setPerson 8 = .ok (.i2l, 1) := by decide +kernel
theorem dL_setPerson_9 : decode cL_setPerson 9 = .ok (.lastore, 1) := by decide +kernel
theorem dL_setPerson_10 : decode cL_setPerson 10 = .ok (.goto 7, 3) := by decide +kernel
theorem dL_setPerson_13 : decode cL_setPerson 13 = .ok (.astore 4, 2) := by decide +kernel
theorem dL_setPerson_15 : decode cL_setPerson 15 = .ok (.iconst 1, 1) := by decide +kernel
theorem dL_setPerson_16 : decode cL_setPerson 16 = .ok (.ireturn, 1) := by decide +kernel
theorem dL_setPerson_17 : decode cL_setPerson 17 = .ok (.iconst 0, 1) := by decide +kernel
theorem dL_setPerson_18 : decode cL_setPerson 18 = .ok (.ireturn, 1) := by decide +kernel
set_option maxRecDepth 20000 in
theorem ggL_in_X0_in : GoodIn wsL_in wsX0_in := goodIn_ca (goodIn_r _ [6, 7, 8, 9, 5, 10, 11, 12, 13, 14, 15, 16, 17, 18, 19, 20, 21, 22, 23, 24, 25, 26, 27, 28, 29, 30] (by decide +kernel) (by decide +kernel)) (goodIn_sub (fun _ h => List.mem_cons_of_mem _ (List.mem_append_right _ h)) (by decide +kernel))
set_option maxRecDepth 20000 in
theorem gL_in_X0_in : GoodIn wsL_in (wsV RL 29 RX0 yX0_in wsX0_in) := goodIn_app (goodIn_of _ (by decide +kernel)) ggL_in_X0_in
theorem dL_in_0 : decode cL_in 0 = .ok (.aload_n 2, 1) := by decide +kernel
theorem dL_in_1 : decode cL_in 1 = .ok (.iconst 0, 1) := by decide +kernel
theorem dL_in_2 : decode cL_in 2 = .ok (.aload_n 0, 1) := by decide +kernel
theorem dL_in_3 : decode cL_in 3 = .ok (.iload_n 1, 1) := by decide +kernel
theorem dL_in_4 : decode cL_in 4 = .ok (.invokevirtual 29, 3) := by decide +kernel
theorem dL_in_7 : decode cL_in 7 = .ok (.i2l, 1) := by decide +kernel
theorem dL_in_8 : decode cL_in 8 = .ok (.lastore, 1) := by decide +kernel
theorem dL_in_9 : decode cL_in 9 = .ok (.goto 6, 3) := by decide +kernel
theorem dL_in_12 : decode cL_in 12 = .ok (.astore_n 3, 1) := by decide +kernel
theorem dL_in_13 : decode cL_in 13 = .ok (.iconst 1, 1) := by decide +kernel
theorem dL_in_14 : decode cL_in 14 = .ok (.ireturn, 1) := by decide +kernel
theorem dL_in_15 : decode cL_in 15 = .ok (.iconst 0, 1) := by decide +kernel
theorem dL_in_16 : decode cL_in 16 = .ok (.ireturn, 1) := by decide +kernel
set_option maxRecDepth 20000 in
theorem ggL_inByBook_X0_inByBook : GoodIn wsL_inByBook wsX0_inByBook := goodIn_ca (goodIn_r _ [6, 7, 8, 9, 10, 11, 5, 12, 13, 14, 15, 16, 17, 18, 19, 20, 21, 22, 23, 24, 25, 26, 27, 28, 29, 30, 31, 32] (by decide +kernel) (by decide +kernel)) (goodIn_sub (fun _ h => List.mem_cons_of_mem _ (List.mem_append_right _ h)) (by decide +kernel))
set_option maxRecDepth 20000 in
theorem gL_inByBook_X0_inByBook : GoodIn wsL_inByBook (wsV RL 32 RX0 yX0_inByBook wsX0_inByBook) := goodIn_app (goodIn_of _ (by decide +kernel)) ggL_inByBook_X0_inByBook
theorem dL_inByBook_0 : decode cL_inByBook 0 = .ok (.aload_n 2, 1) := by decide +kernel
theorem dL_inByBook_1 : decode cL_inByBook 1 = .ok (.iconst 0, 1) := by decide +kernel
theorem dL_inByBook_2 : decode cL_inByBook 2 = .ok (.aload_n 0, 1) := by decide +kernel
theorem dL_inByBook_3 : decode cL_inByBook 3 = .ok (.iload_n 1, 1) := by decide +kernel
theorem dL_inByBook_4 : decode cL_inByBook 4 = .ok (.invokevirtual 32, 3) := by decide +kernel
theorem dL_inByBook_7 : decode cL_inByBook 7 = .ok (.i2l, 1) := by decide +kernel
theorem dL_inByBook_8 : decode cL_inByBook 8 = .ok (.lastore, 1) := by decide +kernel
theorem dL_inByBook_9 : decode cL_inByBook 9 = .ok (.goto 6, 3) := by decide +kernel
theorem dL_inByBook_12 : decode cL_inByBook 12 = .ok (.astore_n 3, 1) := by decide +kernel
theorem dL_inByBook_13 : decode cL_inByBook 13 = .ok (.iconst 1, 1) := by decide +kernel
theorem dL_inByBook_14 : decode cL_inByBook 14 = .ok (.ireturn, 1) := by decide +kernel
theorem dL_inByBook_15 : decode cL_inByBook 15 = .ok (.iconst 0, 1) := by decide +kernel
theorem dL_inByBook_16 : decode cL_inByBook 16 = .ok (.ireturn, 1) := by decide +kernel
set_option maxRecDepth 20000 in
theorem ggL_fillPot_X0_fillPot : GoodIn wsL_fillPot wsX0_fillPot := goodIn_ca (goodIn_ca (goodIn_r _ [7, 8, 9, 10, 11, 12, 13, 14, 6, 15, 16, 17, 18, 19, 20, 21, 22, 23, 24, 25, 26, 27, 28, 29, 30, 31, 32] (by decide +kernel) (by decide +kernel)) (goodIn_sub (fun _ h => List.mem_cons_of_mem _ (List.mem_append_left _ (List.mem_append_right _ h))) (by decide +kernel))) (goodIn_sub (fun _ h => List.mem_cons_of_mem _ (List.mem_append_right _ h)) (by decide +kernel))
set_option maxRecDepth 20000 in
theorem gL_fillPot_X0_fillPot : GoodIn wsL_fillPot (wsV RL 35 RX0 yX0_fillPot wsX0_fillPot) := goodIn_app (goodIn_of _ (by decide +kernel)) ggL_fillPot_X0_fillPot
theorem dL_fillPot_0 : decode cL_fillPot 0 = .ok (.aload_n 2, 1) := by decide +kernel
theorem dL_fillPot_1 : decode cL_fillPot 1 = .ok (.iconst 0, 1) := by decide +kernel
theorem dL_fillPot_2 : decode cL_fillPot 2 = .ok (.aload_n 0, 1) := by decide +kernel
theorem dL_fillPot_3 : decode cL_fillPot 3 = .ok (.iload_n 1, 1) := by decide +kernel
theorem dL_fillPot_4 : decode cL_fillPot 4 = .ok (.invokevirtual 35, 3) := by decide +kernel
theorem dL_fillPot_7 : decode cL_fillPot 7 = .ok (.i2l, 1) := by decide +kernel
theorem dL_fillPot_8 : decode cL_fillPot 8 = .ok (.lastore, 1) := by decide +kernel
theorem dL_fillPot_9 : decode cL_fillPot 9 = .ok (.goto 9, 3) := by decide +kernel
theorem dL_fillPot_12 : decode cL_fillPot 12 = .ok (.astore_n 3, 1) := by decide +kernel
theorem dL_fillPot_13 : decode cL_fillPot 13 = .ok (.iconst 1, 1) := by decide +kernel
theorem dL_fillPot_14 : decode cL_fillPot 14 = .ok (.ireturn, 1) := by decide +kernel
theorem dL_fillPot_15 : decode cL_fillPot 15 = .ok (.astore_n 3, 1) := by decide +kernel
theorem dL_fillPot_16 : decode cL_fillPot 16 = .ok (.iconst 2, 1) := by decide +kernel
theorem dL_fillPot_17 : decode cL_fillPot 17 = .ok (.ireturn, 1) := by decide +kernel
theorem dL_fillPot_18 : decode cL_fillPot 18 = .ok (.iconst 0, 1) := by decide +kernel
theorem dL_fillPot_19 : decode cL_fillPot 19 = .ok (.ireturn, 1) := by decide +kernel
set_option maxRecDepth 20000 in
theorem ggL_addMilestone_X0_addMilestone : GoodIn wsL_addMilestone wsX0_addMilestone := goodIn_ca (goodIn_ca (goodIn_r _ [7, 8, 9, 10, 11, 12, 13, 14, 6, 15, 16, 17, 18, 19, 20, 21, 22, 23, 24, 25, 26, 27, 28, 29, 30, 31, 32] (by decide +kernel) (by decide +kernel)) (goodIn_sub (fun _ h => List.mem_cons_of_mem _ (List.mem_append_left _ (List.mem_append_right _ h))) (by decide +kernel))) (goodIn_sub (fun _ h => List.mem_cons_of_mem _ (List.mem_append_right _ h)) (by decide +kernel))
set_option maxRecDepth 20000 in
theorem gL_addMilestone_X0_addMilestone : GoodIn wsL_addMilestone (wsV RL 38 RX0 yX0_addMilestone wsX0_addMilestone) := goodIn_app (goodIn_of _ (by decide +kernel)) ggL_addMilestone_X0_addMilestone
theorem dL_addMilestone_0 : decode cL_addMilestone 0 = .ok (.aload_n 2, 1) := by decide +kernel
theorem dL_addMilestone_1 : decode cL_addMilestone 1 = .ok (.iconst 0, 1) := by decide +kernel
theorem dL_addMilestone_2 : decode cL_addMilestone 2 = .ok (.aload_n 0, 1) := by decide +kernel
theorem dL_addMilestone_3 : decode cL_addMilestone 3 = .ok (.iload_n 1, 1) := by decide +kernel
theorem dL_addMilestone_4 : decode cL_addMilestone 4 = .ok (.invokevirtual 38, 3) := by decide +kernel
theorem dL_addMilestone_7 : decode cL_addMilestone 7 = .ok (.i2l, 1) := by decide +kernel
theorem dL_addMilestone_8 : decode cL_addMilestone 8 = .ok (.lastore, 1) := by decide +kernel
theorem dL_addMilestone_9 : decode cL_addMilestone 9 = .ok (.goto 9, 3) := by decide +kernel
theorem dL_addMilestone_12 : decode cL_addMilestone 12 = .ok (.astore_n 3, 1) := by decide +kernel
theorem dL_addMilestone_13 : decode cL_addMilestone 13 = .ok (.iconst 1, 1) := by decide +kernel
theorem dL_addMilestone_14 : decode cL_addMilestone 14 = .ok (.ireturn, 1) := by decide +kernel
theorem dL_addMilestone_15 : decode cL_addMilestone 15 = .ok (.astore_n 3, 1) := by decide +kernel
theorem dL_addMilestone_16 : decode cL_addMilestone 16 = .ok (.iconst 2, 1) := by decide +kernel
theorem dL_addMilestone_17 : decode cL_addMilestone 17 = .ok (.ireturn, 1) := by decide +kernel
theorem dL_addMilestone_18 : decode cL_addMilestone 18 = .ok (.iconst 0, 1) := by decide +kernel
theorem dL_addMilestone_19 : decode cL_addMilestone 19 = .ok (.ireturn, 1) := by decide +kernel
set_option maxRecDepth 20000 in
theorem ggL_prove_X0_prove : GoodIn wsL_prove wsX0_prove := goodIn_ca (goodIn_ca (goodIn_r _ [7, 8, 9, 10, 11, 12, 13, 14, 15, 16, 17, 18, 19, 20, 21, 22, 23, 24, 25, 26, 27, 28, 29] (by decide +kernel) (by decide +kernel)) (goodIn_sub (fun _ h => List.mem_cons_of_mem _ (List.mem_append_left _ (List.mem_append_right _ h))) (by decide +kernel))) (goodIn_sub (fun _ h => List.mem_cons_of_mem _ (List.mem_append_right _ h)) (by decide +kernel))
set_option maxRecDepth 20000 in
theorem gL_prove_X0_prove : GoodIn wsL_prove (wsV RL 41 RX0 yX0_prove wsX0_prove) := goodIn_app (goodIn_of _ (by decide +kernel)) ggL_prove_X0_prove
theorem dL_prove_0 : decode cL_prove 0 = .ok (.aload_n 2, 1) := by decide +kernel
theorem dL_prove_1 : decode cL_prove 1 = .ok (.iconst 0, 1) := by decide +kernel
theorem dL_prove_2 : decode cL_prove 2 = .ok (.aload_n 0, 1) := by decide +kernel
theorem dL_prove_3 : decode cL_prove 3 = .ok (.iload_n 1, 1) := by decide +kernel
theorem dL_prove_4 : decode cL_prove 4 = .ok (.invokevirtual 41, 3) := by decide +kernel
theorem dL_prove_7 : decode cL_prove 7 = .ok (.ifCond .eq 7, 3) := by decide +kernel
theorem dL_prove_10 : decode cL_prove 10 = .ok (.lconst 1, 1) := by decide +kernel
theorem dL_prove_11 : decode cL_prove 11 = .ok (.goto 4, 3) := by decide +kernel
theorem dL_prove_14 : decode cL_prove 14 = .ok (.lconst 0, 1) := by decide +kernel
theorem dL_prove_15 : decode cL_prove 15 = .ok (.lastore, 1) := by decide +kernel
theorem dL_prove_16 : decode cL_prove 16 = .ok (.goto 9, 3) := by decide +kernel
theorem dL_prove_19 : decode cL_prove 19 = .ok (.astore_n 3, 1) := by decide +kernel
theorem dL_prove_20 : decode cL_prove 20 = .ok (.iconst 1, 1) := by decide +kernel
theorem dL_prove_21 : decode cL_prove 21 = .ok (.ireturn, 1) := by decide +kernel
theorem dL_prove_22 : decode cL_prove 22 = .ok (.astore_n 3, 1) := by decide +kernel
theorem dL_prove_23 : decode cL_prove 23 = .ok (.iconst 2, 1) := by decide +kernel
theorem dL_prove_24 : decode cL_prove 24 = .ok (.ireturn, 1) := by decide +kernel
theorem dL_prove_25 : decode cL_prove 25 = .ok (.iconst 0, 1) := by decide +kernel
theorem dL_prove_26 : decode cL_prove 26 = .ok (.ireturn, 1) := by decide +kernel
set_option maxRecDepth 20000 in
theorem ggL_vote_X0_vote : GoodIn wsL_vote wsX0_vote := goodIn_ca (goodIn_ca (goodIn_ca (goodIn_r _ [8, 9, 10, 11, 12, 13, 14, 15, 7, 16, 17, 18, 19, 20, 21, 22, 23, 24, 25, 26, 27, 28, 29, 30, 31, 32, 33, 34, 35, 36, 37, 38, 39, 40, 41, 42] (by decide +kernel) (by decide +kernel)) (goodIn_sub (fun _ h => List.mem_cons_of_mem _ (List.mem_append_left _ (List.mem_append_left _ (List.mem_append_right _ h)))) (by decide +kernel))) (goodIn_sub (fun _ h => List.mem_cons_of_mem _ (List.mem_append_left _ (List.mem_append_right _ h))) (by decide +kernel))) (goodIn_sub (fun _ h => List.mem_cons_of_mem _ (List.mem_append_right _ h)) (by decide +kernel))
set_option maxRecDepth 20000 in
theorem gL_vote_X0_vote : GoodIn wsL_vote (wsV RL 45 RX0 yX0_vote wsX0_vote) := goodIn_app (goodIn_of _ (by decide +kernel)) ggL_vote_X0_vote
theorem dL_vote_0 : decode cL_vote 0 = .ok (.aload_n 3, 1) := by decide +kernel
theorem dL_vote_1 : decode cL_vote 1 = .ok (.iconst 0, 1) := by decide +kernel
theorem dL_vote_2 : decode cL_vote 2 = .ok (.aload_n 0, 1) := by decide +kernel
theorem dL_vote_3 : decode cL_vote 3 = .ok (.iload_n 1, 1) := by decide +kernel
theorem dL_vote_4 : decode cL_vote 4 = .ok (.iload_n 2, 1) := by decide +kernel
theorem dL_vote_5 : decode cL_vote 5 = .ok (.invokevirtual 45, 3) := by decide +kernel
theorem dL_vote_8 : decode cL_vote 8 = .ok (.i2l, 1) := by decide +kernel
theorem dL_vote_9 : decode cL_vote 9 = .ok (.lastore, 1) := by decide +kernel
theorem dL_vote_10 : decode cL_vote 10 = .ok (.goto 15, 3) := by decide +kernel
theorem dL_vote_13 : decode cL_vote 13 = .ok (.astore 4, 2) := by decide +kernel
theorem dL_vote_15 : decode cL_vote 15 = .ok (.iconst 1, 1) := by decide +kernel
theorem dL_vote_16 : decode cL_vote 16 = .ok (.ireturn, 1) := by decide +kernel
theorem dL_vote_17 : decode cL_vote 17 = .ok (.astore 4, 2) := by decide +kernel
theorem dL_vote_19 : decode cL_vote 19 = .ok (.iconst 2, 1) := by decide +kernel
theorem dL_vote_20 : decode cL_vote 20 = .ok (.ireturn, 1) := by decide +kernel
theorem dL_vote_21 : decode cL_vote 21 = .ok (.astore 4, 2) := by decide +kernel
theorem dL_vote_23 : decode cL_vote 23 = .ok (.iconst 3, 1) := by decide +kernel
theorem dL_vote_24 : decode cL_vote 24 = .ok (.ireturn, 1) := by decide +kernel
theorem dL_vote_25 : decode cL_vote 25 = .ok (.iconst 0, 1) := by decide +kernel
theorem dL_vote_26 : decode cL_vote 26 = .ok (.ireturn, 1) := by decide +kernel
set_option maxRecDepth 20000 in
theorem ggL_speaker_X0_speaker : GoodIn wsL_speaker wsX0_speaker := goodIn_ca (goodIn_r _ [6, 7, 8, 5, 9, 10, 11, 12, 13, 14, 15, 16, 17, 18, 19, 20, 21, 22, 23, 24, 25, 26, 27, 28, 29, 30, 31, 32, 33, 34, 35] (by decide +kernel) (by decide +kernel)) (goodIn_sub (fun _ h => List.mem_cons_of_mem _ (List.mem_append_right _ h)) (by decide +kernel))
set_option maxRecDepth 20000 in
theorem gL_speaker_X0_speaker : GoodIn wsL_speaker (wsV RL 48 RX0 yX0_speaker wsX0_speaker) := goodIn_app (goodIn_of _ (by decide +kernel)) ggL_speaker_X0_speaker
theorem dL_speaker_0 : decode cL_speaker 0 = .ok (.aload_n 2, 1) := by decide +kernel
theorem dL_speaker_1 : decode cL_speaker 1 = .ok (.iconst 0, 1) := by decide +kernel
theorem dL_speaker_2 : decode cL_speaker 2 = .ok (.aload_n 0, 1) := by decide +kernel
theorem dL_speaker_3 : decode cL_speaker 3 = .ok (.iload_n 1, 1) := by decide +kernel
theorem dL_speaker_4 : decode cL_speaker 4 = .ok (.invokevirtual 48, 3) := by decide +kernel
theorem dL_speaker_7 : decode cL_speaker 7 = .ok (.i2l, 1) := by decide +kernel
theorem dL_speaker_8 : decode cL_speaker 8 = .ok (.lastore, 1) := by decide +kernel
theorem dL_speaker_9 : decode cL_speaker 9 = .ok (.goto 6, 3) := by decide +kernel
theorem dL_speaker_12 : decode cL_speaker 12 = .ok (.astore_n 3, 1) := by decide +kernel
theorem dL_speaker_13 : decode cL_speaker 13 = .ok (.iconst 1, 1) := by decide +kernel
theorem dL_speaker_14 : decode cL_speaker 14 = .ok (.ireturn, 1) := by decide +kernel
theorem dL_speaker_15 : decode cL_speaker 15 = .ok (.iconst 0, 1) := by decide +kernel
theorem dL_speaker_16 : decode cL_speaker 16 = .ok (.ireturn, 1) := by decide +kernel
set_option maxRecDepth 20000 in
theorem ggL_weight_X0_weight : GoodIn wsL_weight wsX0_weight := goodIn_ca (goodIn_r _ [6, 7, 8, 9, 10, 11, 12, 5, 13, 14, 15, 16, 17, 18, 19, 20, 21, 22, 23, 24, 25, 26, 27, 28, 29, 30, 31, 32, 33, 34, 35, 36, 37] (by decide +kernel) (by decide +kernel)) (goodIn_sub (fun _ h => List.mem_cons_of_mem _ (List.mem_append_right _ h)) (by decide +kernel))
set_option maxRecDepth 20000 in
theorem gL_weight_X0_weight : GoodIn wsL_weight (wsV RL 51 RX0 yX0_weight wsX0_weight) := goodIn_app (goodIn_of _ (by decide +kernel)) ggL_weight_X0_weight
theorem dL_weight_0 : decode cL_weight 0 = .ok (.aload_n 2, 1) := by decide +kernel
theorem dL_weight_1 : decode cL_weight 1 = .ok (.iconst 0, 1) := by decide +kernel
theorem dL_weight_2 : decode cL_weight 2 = .ok (.aload_n 0, 1) := by decide +kernel
theorem dL_weight_3 : decode cL_weight 3 = .ok (.iload_n 1, 1) := by decide +kernel
theorem dL_weight_4 : decode cL_weight 4 = .ok (.invokevirtual 51, 3) := by decide +kernel
theorem dL_weight_7 : decode cL_weight 7 = .ok (.i2l, 1) := by decide +kernel
theorem dL_weight_8 : decode cL_weight 8 = .ok (.lastore, 1) := by decide +kernel
theorem dL_weight_9 : decode cL_weight 9 = .ok (.goto 6, 3) := by decide +kernel
theorem dL_weight_12 : decode cL_weight 12 = .ok (.astore_n 3, 1) := by decide +kernel
theorem dL_weight_13 : decode cL_weight 13 = .ok (.iconst 1, 1) := by decide +kernel
theorem dL_weight_14 : decode cL_weight 14 = .ok (.ireturn, 1) := by decide +kernel
theorem dL_weight_15 : decode cL_weight 15 = .ok (.iconst 0, 1) := by decide +kernel
theorem dL_weight_16 : decode cL_weight 16 = .ok (.ireturn, 1) := by decide +kernel
set_option maxRecDepth 20000 in
theorem ggL_share_X0_share : GoodIn wsL_share wsX0_share := goodIn_ca (goodIn_ca (goodIn_r _ [7, 8, 9, 10, 11, 12, 6, 13, 14, 15, 16, 17, 18, 19, 20, 21, 22, 23, 24, 25, 26, 27, 28, 29, 30, 31, 32, 33, 34, 35, 36, 37, 38, 39, 40, 41, 42, 43, 44, 45, 46, 47, 48, 49, 50, 51, 52, 53, 54, 55, 56, 57, 58, 59, 60] (by decide +kernel) (by decide +kernel)) (goodIn_sub (fun _ h => List.mem_cons_of_mem _ (List.mem_append_left _ (List.mem_append_right _ h))) (by decide +kernel))) (goodIn_sub (fun _ h => List.mem_cons_of_mem _ (List.mem_append_right _ h)) (by decide +kernel))
set_option maxRecDepth 20000 in
theorem gL_share_X0_share : GoodIn wsL_share (wsV RL 54 RX0 yX0_share wsX0_share) := goodIn_app (goodIn_of _ (by decide +kernel)) ggL_share_X0_share
theorem dL_share_0 : decode cL_share 0 = .ok (.aload_n 2, 1) := by decide +kernel
theorem dL_share_1 : decode cL_share 1 = .ok (.iconst 0, 1) := by decide +kernel
theorem dL_share_2 : decode cL_share 2 = .ok (.aload_n 0, 1) := by decide +kernel
theorem dL_share_3 : decode cL_share 3 = .ok (.iload_n 1, 1) := by decide +kernel
theorem dL_share_4 : decode cL_share 4 = .ok (.invokevirtual 54, 3) := by decide +kernel
theorem dL_share_7 : decode cL_share 7 = .ok (.i2l, 1) := by decide +kernel
theorem dL_share_8 : decode cL_share 8 = .ok (.lastore, 1) := by decide +kernel
theorem dL_share_9 : decode cL_share 9 = .ok (.goto 9, 3) := by decide +kernel
theorem dL_share_12 : decode cL_share 12 = .ok (.astore_n 3, 1) := by decide +kernel
theorem dL_share_13 : decode cL_share 13 = .ok (.iconst 1, 1) := by decide +kernel
theorem dL_share_14 : decode cL_share 14 = .ok (.ireturn, 1) := by decide +kernel
theorem dL_share_15 : decode cL_share 15 = .ok (.astore_n 3, 1) := by decide +kernel
theorem dL_share_16 : decode cL_share 16 = .ok (.iconst 2, 1) := by decide +kernel
theorem dL_share_17 : decode cL_share 17 = .ok (.ireturn, 1) := by decide +kernel
theorem dL_share_18 : decode cL_share 18 = .ok (.iconst 0, 1) := by decide +kernel
theorem dL_share_19 : decode cL_share 19 = .ok (.ireturn, 1) := by decide +kernel
set_option maxRecDepth 20000 in
theorem ggL_match_X0_match : GoodIn wsL_match wsX0_match := goodIn_ca (goodIn_r _ [6, 7, 8, 9, 5, 10, 11, 12, 13, 14, 15, 16, 17, 18, 19, 20, 21, 22, 23, 24, 25, 26, 27, 28, 29, 30, 31, 32, 33, 34, 35, 36, 37, 38, 39, 40, 41, 42, 43, 44, 45, 46, 47, 48, 49, 50, 51, 52, 53, 54, 55, 56, 57, 58, 59, 60, 61, 62, 63, 64, 65, 66, 67, 68, 69, 70, 71, 72, 73, 74, 75, 76, 77, 78, 79, 80, 81, 82, 83, 84] (by decide +kernel) (by decide +kernel)) (goodIn_sub (fun _ h => List.mem_cons_of_mem _ (List.mem_append_right _ h)) (by decide +kernel))
set_option maxRecDepth 20000 in
theorem gL_match_X0_match : GoodIn wsL_match (wsV RL 59 RX0 yX0_match wsX0_match) := goodIn_app (goodIn_of _ (by decide +kernel)) ggL_match_X0_match
theorem dL_match_0 : decode cL_match 0 = .ok (.aload_n 1, 1) := by decide +kernel
theorem dL_match_1 : decode cL_match 1 = .ok (.iconst 0, 1) := by decide +kernel
theorem dL_match_2 : decode cL_match 2 = .ok (.aload_n 0, 1) := by decide +kernel
theorem dL_match_3 : decode cL_match 3 = .ok (.invokevirtual 59, 3) := by decide +kernel
theorem dL_match_6 : decode cL_match 6 = .ok (.i2l, 1) := by decide +kernel
theorem dL_match_7 : decode cL_match 7 = .ok (.lastore, 1) := by decide +kernel
theorem dL_match_8 : decode cL_match 8 = .ok (.goto 6, 3) := by decide +kernel
theorem dL_match_11 : decode cL_match 11 = .ok (.astore_n 2, 1) := by decide +kernel
theorem dL_match_12 : decode cL_match 12 = .ok (.iconst 1, 1) := by decide +kernel
theorem dL_match_13 : decode cL_match 13 = .ok (.ireturn, 1) := by decide +kernel
theorem dL_match_14 : decode cL_match 14 = .ok (.iconst 0, 1) := by decide +kernel
theorem dL_match_15 : decode cL_match 15 = .ok (.ireturn, 1) := by decide +kernel
set_option maxRecDepth 20000 in
theorem ggL_matchByPairs_X0_matchByPairs : GoodIn wsL_matchByPairs wsX0_matchByPairs := goodIn_ca (goodIn_r _ [6, 7, 8, 9, 10, 11, 5, 12, 13, 14, 15, 16, 17, 18, 19, 20, 21, 22, 23, 24, 25, 26, 27, 28, 29, 30, 31, 32, 33, 34, 35, 36, 37, 38, 39, 40, 41, 42, 43, 44, 45, 46, 47, 48, 49, 50, 51, 52, 53, 54, 55, 56, 57, 58, 59, 60, 61, 62, 63, 64, 65, 66, 67, 68, 69, 70, 71, 72, 73, 74, 75, 76, 77, 78, 79, 80] (by decide +kernel) (by decide +kernel)) (goodIn_sub (fun _ h => List.mem_cons_of_mem _ (List.mem_append_right _ h)) (by decide +kernel))
set_option maxRecDepth 20000 in
theorem gL_matchByPairs_X0_matchByPairs : GoodIn wsL_matchByPairs (wsV RL 63 RX0 yX0_matchByPairs wsX0_matchByPairs) := goodIn_app (goodIn_of _ (by decide +kernel)) ggL_matchByPairs_X0_matchByPairs
theorem dL_matchByPairs_0 : decode cL_matchByPairs 0 = .ok (.aload_n 1, 1) := by decide +kernel
theorem dL_matchByPairs_1 : decode cL_matchByPairs 1 = .ok (.iconst 0, 1) := by decide +kernel
theorem dL_matchByPairs_2 : decode cL_matchByPairs 2 = .ok (.aload_n 0, 1) := by decide +kernel
theorem dL_matchByPairs_3 : decode cL_matchByPairs 3 = .ok (.invokevirtual 63, 3) := by decide +kernel
theorem dL_matchByPairs_6 : decode cL_matchByPairs 6 = .ok (.i2l, 1) := by decide +kernel
theorem dL_matchByPairs_7 : decode cL_matchByPairs 7 = .ok (.lastore, 1) := by decide +kernel
theorem dL_matchByPairs_8 : decode cL_matchByPairs 8 = .ok (.goto 6, 3) := by decide +kernel
theorem dL_matchByPairs_11 : decode cL_matchByPairs 11 = .ok (.astore_n 2, 1) := by decide +kernel
theorem dL_matchByPairs_12 : decode cL_matchByPairs 12 = .ok (.iconst 1, 1) := by decide +kernel
theorem dL_matchByPairs_13 : decode cL_matchByPairs 13 = .ok (.ireturn, 1) := by decide +kernel
theorem dL_matchByPairs_14 : decode cL_matchByPairs 14 = .ok (.iconst 0, 1) := by decide +kernel
theorem dL_matchByPairs_15 : decode cL_matchByPairs 15 = .ok (.ireturn, 1) := by decide +kernel
set_option maxRecDepth 20000 in
theorem ggL_release_X0_release : GoodIn wsL_release wsX0_release := goodIn_ca (goodIn_ca (goodIn_r _ [6, 7, 8, 9, 10, 11, 12, 13, 14, 15, 16, 5, 17, 18, 19, 20, 21, 22, 23, 24, 25, 26, 27, 28, 29, 30, 31, 32, 33, 34, 35, 36, 37, 38, 39, 40, 41, 42, 43, 44, 45, 46, 47, 48, 49, 50, 51, 52, 53, 54, 55, 56, 57, 58, 59, 60, 61, 62, 63, 64, 65, 66, 67, 68, 69, 70, 71, 72, 73, 74, 75, 76, 77, 78, 79, 80, 81, 82, 83, 84, 85, 86, 87, 88, 89, 90, 91, 92, 93, 94, 95, 96, 97, 98, 99, 100, 101, 102, 103, 104, 105, 106, 107, 108, 109, 110] (by decide +kernel) (by decide +kernel)) (goodIn_sub (fun _ h => List.mem_cons_of_mem _ (List.mem_append_left _ (List.mem_append_right _ h))) (by decide +kernel))) (goodIn_sub (fun _ h => List.mem_cons_of_mem _ (List.mem_append_right _ h)) (by decide +kernel))
set_option maxRecDepth 20000 in
theorem gL_release_X0_release : GoodIn wsL_release (wsV RL 66 RX0 yX0_release wsX0_release) := goodIn_app (goodIn_of _ (by decide +kernel)) ggL_release_X0_release
theorem dL_release_0 : decode cL_release 0 = .ok (.aload_n 1, 1) := by decide +kernel
theorem dL_release_1 : decode cL_release 1 = .ok (.iconst 0, 1) := by decide +kernel
theorem dL_release_2 : decode cL_release 2 = .ok (.aload_n 0, 1) := by decide +kernel
theorem dL_release_3 : decode cL_release 3 = .ok (.invokevirtual 66, 3) := by decide +kernel
theorem dL_release_6 : decode cL_release 6 = .ok (.i2l, 1) := by decide +kernel
theorem dL_release_7 : decode cL_release 7 = .ok (.lastore, 1) := by decide +kernel
theorem dL_release_8 : decode cL_release 8 = .ok (.goto 6, 3) := by decide +kernel
theorem dL_release_11 : decode cL_release 11 = .ok (.astore_n 2, 1) := by decide +kernel
theorem dL_release_12 : decode cL_release 12 = .ok (.iconst 1, 1) := by decide +kernel
theorem dL_release_13 : decode cL_release 13 = .ok (.ireturn, 1) := by decide +kernel
theorem dL_release_14 : decode cL_release 14 = .ok (.iconst 0, 1) := by decide +kernel
theorem dL_release_15 : decode cL_release 15 = .ok (.ireturn, 1) := by decide +kernel
set_option maxRecDepth 20000 in
theorem ggL_law_X0_init : GoodIn wsL_law wsX0_init := goodIn_r _ [9, 10, 11, 12, 13, 14, 15, 16, 17, 18, 19, 20, 21, 22, 23, 24, 25, 405, 406, 407, 408, 409, 410, 411, 412, 413, 414, 415, 416, 417, 418, 419] (by decide +kernel) (by decide +kernel)
set_option maxRecDepth 20000 in
theorem gL_law_X0_init : GoodIn wsL_law (wsX0_init) := ggL_law_X0_init
set_option maxRecDepth 20000 in
theorem ggL_law_X1_init : GoodIn wsL_law wsX1_init := goodIn_r _ [28, 29, 11, 12, 13, 30, 31, 32, 33, 34, 22, 35, 36, 420, 421, 422, 423, 424, 425, 426, 427, 428, 429, 430, 431] (by decide +kernel) (by decide +kernel)
set_option maxRecDepth 20000 in
theorem gL_law_X1_init : GoodIn wsL_law (wsX1_init) := ggL_law_X1_init
set_option maxRecDepth 20000 in
theorem ggL_law_L_give : GoodIn wsL_law wsL_give := goodIn_ca (goodIn_ca (goodIn_ca (goodIn_r _ [40, 41, 42, 43, 44, 45, 46, 2, 47, 48, 49, 14, 50, 15, 51, 52, 53, 54, 55, 56, 57, 58, 59, 60, 61, 62, 63, 405, 406, 407, 408, 409, 410, 411, 412, 413, 414, 415, 416, 417, 418, 419] (by decide +kernel) (by decide +kernel)) (goodIn_sub (fun _ h => List.mem_append_left _ (List.mem_append_left _ (List.mem_append_left _ (List.mem_append_right _ h)))) (by decide +kernel))) (goodIn_sub (fun _ h => List.mem_append_left _ (List.mem_append_left _ (List.mem_append_right _ h))) (by decide +kernel))) (goodIn_sub (fun _ h => List.mem_append_left _ (List.mem_append_right _ h)) (by decide +kernel))
set_option maxRecDepth 20000 in
theorem gL_law_L_give : GoodIn wsL_law (va_wsS RL 73 yL_give wsL_give) := goodIn_app (goodIn_of _ (by decide +kernel)) ggL_law_L_give
set_option maxRecDepth 20000 in
theorem ggL_law_X1_give : GoodIn wsL_law wsX1_give := goodIn_r _ [67, 30, 68, 69, 70, 5, 71, 72, 73, 74, 75, 76, 77, 78, 79, 420, 421, 422, 423, 424, 425, 426, 427, 428, 429, 430, 431] (by decide +kernel) (by decide +kernel)
set_option maxRecDepth 20000 in
theorem gL_law_X1_give : GoodIn wsL_law (wsV RL 78 RX1 yX1_give wsX1_give) := goodIn_app (goodIn_of _ (by decide +kernel)) ggL_law_X1_give
set_option maxRecDepth 20000 in
theorem ggL_law_X1_thrown : GoodIn wsL_law wsX1_thrown := goodIn_r _ [83, 79, 420, 421, 422, 423, 424, 425, 426, 427, 428, 429, 430, 431] (by decide +kernel) (by decide +kernel)
set_option maxRecDepth 20000 in
theorem gL_law_X1_thrown : GoodIn wsL_law (wsV RL 79 RX1 yX1_thrown wsX1_thrown) := goodIn_app (goodIn_of _ (by decide +kernel)) ggL_law_X1_thrown
set_option maxRecDepth 20000 in
theorem ggL_law_L_leave : GoodIn wsL_law wsL_leave := goodIn_ca (goodIn_r _ [86, 41, 87, 88, 89, 2, 90, 14, 16, 20, 51, 52, 53, 54, 55, 56, 57, 58, 405, 406, 407, 408, 409, 410, 411, 412, 413, 414, 415, 416, 417, 418, 419] (by decide +kernel) (by decide +kernel)) (goodIn_sub (fun _ h => List.mem_append_left _ (List.mem_append_left _ (List.mem_append_right _ h))) (by decide +kernel))
set_option maxRecDepth 20000 in
theorem gL_law_L_leave : GoodIn wsL_law (va_wsS RL 82 yL_leave wsL_leave) := goodIn_app (goodIn_of _ (by decide +kernel)) ggL_law_L_leave
set_option maxRecDepth 20000 in
theorem ggL_law_X1_leave : GoodIn wsL_law wsX1_leave := goodIn_r _ [94, 30, 33, 72, 73, 5, 74, 69, 70, 71, 75, 76, 77, 78, 79, 420, 421, 422, 423, 424, 425, 426, 427, 428, 429, 430, 431] (by decide +kernel) (by decide +kernel)
set_option maxRecDepth 20000 in
theorem gL_law_X1_leave : GoodIn wsL_law (wsV RL 85 RX1 yX1_leave wsX1_leave) := goodIn_app (goodIn_of _ (by decide +kernel)) ggL_law_X1_leave
set_option maxRecDepth 20000 in
theorem ggL_law_L_trust : GoodIn wsL_law wsL_trust := goodIn_ca (goodIn_ca (goodIn_r _ [97, 41, 43, 98, 99, 100, 2, 101, 48, 49, 18, 51, 52, 53, 54, 55, 56, 57, 58, 102, 103, 104, 105, 405, 406, 407, 408, 409, 410, 411, 412, 413, 414, 415, 416, 417, 418, 419] (by decide +kernel) (by decide +kernel)) (goodIn_sub (fun _ h => List.mem_append_left _ (List.mem_append_left _ (List.mem_append_left _ (List.mem_append_right _ h)))) (by decide +kernel))) (goodIn_sub (fun _ h => List.mem_append_left _ (List.mem_append_left _ (List.mem_append_right _ h))) (by decide +kernel))
set_option maxRecDepth 20000 in
theorem gL_law_L_trust : GoodIn wsL_law (va_wsS RL 86 yL_trust wsL_trust) := goodIn_app (goodIn_of _ (by decide +kernel)) ggL_law_L_trust
set_option maxRecDepth 20000 in
theorem ggL_law_X1_trust : GoodIn wsL_law wsX1_trust := goodIn_r _ [109, 31, 72, 73, 5, 74, 69, 70, 71, 110, 111, 112, 113, 75, 76, 77, 78, 79, 420, 421, 422, 423, 424, 425, 426, 427, 428, 429, 430, 431] (by decide +kernel) (by decide +kernel)
set_option maxRecDepth 20000 in
theorem gL_law_X1_trust : GoodIn wsL_law (wsV RL 88 RX1 yX1_trust wsX1_trust) := goodIn_app (goodIn_of _ (by decide +kernel)) ggL_law_X1_trust
set_option maxRecDepth 20000 in
theorem ggL_law_L_setPerson : GoodIn wsL_law wsL_setPerson := goodIn_ca (goodIn_r _ [116, 41, 117, 118, 119, 2, 120, 54, 55, 19, 51, 52, 53, 56, 57, 58, 405, 406, 407, 408, 409, 410, 411, 412, 413, 414, 415, 416, 417, 418, 419] (by decide +kernel) (by decide +kernel)) (goodIn_sub (fun _ h => List.mem_append_left _ (List.mem_append_left _ (List.mem_append_right _ h))) (by decide +kernel))
set_option maxRecDepth 20000 in
theorem gL_law_L_setPerson : GoodIn wsL_law (va_wsS RL 89 yL_setPerson wsL_setPerson) := goodIn_app (goodIn_of _ (by decide +kernel)) ggL_law_L_setPerson
set_option maxRecDepth 20000 in
theorem ggL_law_X1_setPerson : GoodIn wsL_law wsX1_setPerson := goodIn_r _ [124, 32, 72, 73, 5, 74, 69, 70, 71, 75, 76, 77, 78, 79, 420, 421, 422, 423, 424, 425, 426, 427, 428, 429, 430, 431] (by decide +kernel) (by decide +kernel)
set_option maxRecDepth 20000 in
theorem gL_law_X1_setPerson : GoodIn wsL_law (wsV RL 91 RX1 yX1_setPerson wsX1_setPerson) := goodIn_app (goodIn_of _ (by decide +kernel)) ggL_law_X1_setPerson
set_option maxRecDepth 20000 in
theorem ggL_law_L_in : GoodIn wsL_law wsL_in := goodIn_ca (goodIn_r _ [127, 41, 128, 129, 130, 2, 131, 14, 51, 52, 53, 54, 55, 56, 57, 58, 405, 406, 407, 408, 409, 410, 411, 412, 413, 414, 415, 416, 417, 418, 419] (by decide +kernel) (by decide +kernel)) (goodIn_sub (fun _ h => List.mem_append_left _ (List.mem_append_left _ (List.mem_append_right _ h))) (by decide +kernel))
set_option maxRecDepth 20000 in
theorem gL_law_L_in : GoodIn wsL_law (va_wsS RL 92 yL_in wsL_in) := goodIn_app (goodIn_of _ (by decide +kernel)) ggL_law_L_in
set_option maxRecDepth 20000 in
theorem ggL_law_X1_in : GoodIn wsL_law wsX1_in := goodIn_r _ [135, 30, 72, 73, 5, 74, 69, 70, 71, 75, 76, 77, 78, 79, 420, 421, 422, 423, 424, 425, 426, 427, 428, 429, 430, 431] (by decide +kernel) (by decide +kernel)
set_option maxRecDepth 20000 in
theorem gL_law_X1_in : GoodIn wsL_law (wsV RL 94 RX1 yX1_in wsX1_in) := goodIn_app (goodIn_of _ (by decide +kernel)) ggL_law_X1_in
set_option maxRecDepth 20000 in
theorem ggL_law_L_inByBook : GoodIn wsL_law wsL_inByBook := goodIn_ca (goodIn_r _ [138, 41, 139, 140, 141, 2, 142, 15, 16, 17, 51, 52, 53, 54, 55, 56, 57, 58, 405, 406, 407, 408, 409, 410, 411, 412, 413, 414, 415, 416, 417, 418, 419] (by decide +kernel) (by decide +kernel)) (goodIn_sub (fun _ h => List.mem_append_left _ (List.mem_append_left _ (List.mem_append_right _ h))) (by decide +kernel))
set_option maxRecDepth 20000 in
theorem gL_law_L_inByBook : GoodIn wsL_law (va_wsS RL 95 yL_inByBook wsL_inByBook) := goodIn_app (goodIn_of _ (by decide +kernel)) ggL_law_L_inByBook
set_option maxRecDepth 20000 in
theorem ggL_law_X1_inByBook : GoodIn wsL_law wsX1_inByBook := goodIn_r _ [146, 30, 72, 73, 5, 74, 69, 70, 71, 75, 76, 77, 78, 79, 420, 421, 422, 423, 424, 425, 426, 427, 428, 429, 430, 431] (by decide +kernel) (by decide +kernel)
set_option maxRecDepth 20000 in
theorem gL_law_X1_inByBook : GoodIn wsL_law (wsV RL 97 RX1 yX1_inByBook wsX1_inByBook) := goodIn_app (goodIn_of _ (by decide +kernel)) ggL_law_X1_inByBook
set_option maxRecDepth 20000 in
theorem ggL_law_X0_total : GoodIn wsL_law wsX0_total := goodIn_r _ [150, 14, 405, 406, 407, 408, 409, 410, 411, 412, 413, 414, 415, 416, 417, 418, 419] (by decide +kernel) (by decide +kernel)
set_option maxRecDepth 20000 in
theorem gL_law_X0_total : GoodIn wsL_law (wsV RL 98 RX0 yX0_total wsX0_total) := goodIn_app (goodIn_of _ (by decide +kernel)) ggL_law_X0_total
set_option maxRecDepth 20000 in
theorem ggL_law_X1_total : GoodIn wsL_law wsX1_total := goodIn_r _ [154, 79, 155, 156, 157, 5, 158, 30, 420, 421, 422, 423, 424, 425, 426, 427, 428, 429, 430, 431] (by decide +kernel) (by decide +kernel)
set_option maxRecDepth 20000 in
theorem gL_law_X1_total : GoodIn wsL_law (wsV RL 101 RX1 yX1_total wsX1_total) := goodIn_app (goodIn_of _ (by decide +kernel)) ggL_law_X1_total
set_option maxRecDepth 20000 in
theorem ggL_law_L_fillPot : GoodIn wsL_law wsL_fillPot := goodIn_ca (goodIn_ca (goodIn_r _ [161, 42, 43, 162, 163, 164, 2, 165, 48, 49, 50, 166, 167, 59, 60, 61, 62, 63, 405, 406, 407, 408, 409, 410, 411, 412, 413, 414, 415, 416, 417, 418, 419] (by decide +kernel) (by decide +kernel)) (goodIn_sub (fun _ h => List.mem_append_left _ (List.mem_append_left _ (List.mem_append_left _ (List.mem_append_right _ h)))) (by decide +kernel))) (goodIn_sub (fun _ h => List.mem_append_left _ (List.mem_append_right _ h)) (by decide +kernel))
set_option maxRecDepth 20000 in
theorem gL_law_L_fillPot : GoodIn wsL_law (va_wsS RL 102 yL_fillPot wsL_fillPot) := goodIn_app (goodIn_of _ (by decide +kernel)) ggL_law_L_fillPot
set_option maxRecDepth 20000 in
theorem ggL_law_X1_fillPot : GoodIn wsL_law wsX1_fillPot := goodIn_r _ [171, 68, 172, 173, 69, 70, 5, 71, 75, 76, 77, 78, 79, 420, 421, 422, 423, 424, 425, 426, 427, 428, 429, 430, 431] (by decide +kernel) (by decide +kernel)
set_option maxRecDepth 20000 in
theorem gL_law_X1_fillPot : GoodIn wsL_law (wsV RL 104 RX1 yX1_fillPot wsX1_fillPot) := goodIn_app (goodIn_of _ (by decide +kernel)) ggL_law_X1_fillPot
set_option maxRecDepth 20000 in
theorem ggL_law_X0_pot : GoodIn wsL_law wsX0_pot := goodIn_r _ [177, 166, 405, 406, 407, 408, 409, 410, 411, 412, 413, 414, 415, 416, 417, 418, 419] (by decide +kernel) (by decide +kernel)
set_option maxRecDepth 20000 in
theorem gL_law_X0_pot : GoodIn wsL_law (wsV RL 105 RX0 yX0_pot wsX0_pot) := goodIn_app (goodIn_of _ (by decide +kernel)) ggL_law_X0_pot
set_option maxRecDepth 20000 in
theorem ggL_law_X1_pot : GoodIn wsL_law wsX1_pot := goodIn_r _ [181, 79, 172, 420, 421, 422, 423, 424, 425, 426, 427, 428, 429, 430, 431] (by decide +kernel) (by decide +kernel)
set_option maxRecDepth 20000 in
theorem gL_law_X1_pot : GoodIn wsL_law (wsV RL 108 RX1 yX1_pot wsX1_pot) := goodIn_app (goodIn_of _ (by decide +kernel)) ggL_law_X1_pot
set_option maxRecDepth 20000 in
theorem ggL_law_L_addMilestone : GoodIn wsL_law wsL_addMilestone := goodIn_ca (goodIn_ca (goodIn_r _ [184, 42, 43, 185, 186, 187, 2, 188, 48, 49, 50, 189, 21, 59, 60, 61, 62, 63, 405, 406, 407, 408, 409, 410, 411, 412, 413, 414, 415, 416, 417, 418, 419] (by decide +kernel) (by decide +kernel)) (goodIn_sub (fun _ h => List.mem_append_left _ (List.mem_append_left _ (List.mem_append_left _ (List.mem_append_right _ h)))) (by decide +kernel))) (goodIn_sub (fun _ h => List.mem_append_left _ (List.mem_append_right _ h)) (by decide +kernel))
set_option maxRecDepth 20000 in
theorem gL_law_L_addMilestone : GoodIn wsL_law (va_wsS RL 109 yL_addMilestone wsL_addMilestone) := goodIn_app (goodIn_of _ (by decide +kernel)) ggL_law_L_addMilestone
set_option maxRecDepth 20000 in
theorem ggL_law_X1_addMilestone : GoodIn wsL_law wsX1_addMilestone := goodIn_r _ [193, 68, 194, 34, 35, 69, 70, 5, 71, 75, 76, 77, 78, 79, 420, 421, 422, 423, 424, 425, 426, 427, 428, 429, 430, 431] (by decide +kernel) (by decide +kernel)
set_option maxRecDepth 20000 in
theorem gL_law_X1_addMilestone : GoodIn wsL_law (wsV RL 111 RX1 yX1_addMilestone wsX1_addMilestone) := goodIn_app (goodIn_of _ (by decide +kernel)) ggL_law_X1_addMilestone
set_option maxRecDepth 20000 in
theorem ggL_law_L_prove : GoodIn wsL_law wsL_prove := goodIn_ca (goodIn_ca (goodIn_r _ [197, 41, 43, 198, 199, 200, 2, 201, 54, 55, 48, 49, 189, 202, 23, 405, 406, 407, 408, 409, 410, 411, 412, 413, 414, 415, 416, 417, 418, 419] (by decide +kernel) (by decide +kernel)) (goodIn_sub (fun _ h => List.mem_append_left _ (List.mem_append_left _ (List.mem_append_right _ h))) (by decide +kernel))) (goodIn_sub (fun _ h => List.mem_append_left _ (List.mem_append_left _ (List.mem_append_left _ (List.mem_append_right _ h)))) (by decide +kernel))
set_option maxRecDepth 20000 in
theorem gL_law_L_prove : GoodIn wsL_law (va_wsS RL 112 yL_prove wsL_prove) := goodIn_app (goodIn_of _ (by decide +kernel)) ggL_law_L_prove
set_option maxRecDepth 20000 in
theorem ggL_law_X1_prove : GoodIn wsL_law wsX1_prove := goodIn_r _ [206, 194, 207, 35, 69, 70, 5, 71, 75, 76, 77, 78, 79, 420, 421, 422, 423, 424, 425, 426, 427, 428, 429, 430, 431] (by decide +kernel) (by decide +kernel)
set_option maxRecDepth 20000 in
theorem gL_law_X1_prove : GoodIn wsL_law (wsV RL 114 RX1 yX1_prove wsX1_prove) := goodIn_app (goodIn_of _ (by decide +kernel)) ggL_law_X1_prove
set_option maxRecDepth 20000 in
theorem ggL_law_X0_current : GoodIn wsL_law wsX0_current := goodIn_r _ [211, 202, 189, 405, 406, 407, 408, 409, 410, 411, 412, 413, 414, 415, 416, 417, 418, 419] (by decide +kernel) (by decide +kernel)
set_option maxRecDepth 20000 in
theorem gL_law_X0_current : GoodIn wsL_law (wsV RL 115 RX0 yX0_current wsX0_current) := goodIn_app (goodIn_of _ (by decide +kernel)) ggL_law_X0_current
set_option maxRecDepth 20000 in
theorem ggL_law_X1_current : GoodIn wsL_law wsX1_current := goodIn_r _ [215, 79, 207, 216, 217, 218, 5, 219, 194, 420, 421, 422, 423, 424, 425, 426, 427, 428, 429, 430, 431] (by decide +kernel) (by decide +kernel)
set_option maxRecDepth 20000 in
theorem gL_law_X1_current : GoodIn wsL_law (wsV RL 118 RX1 yX1_current wsX1_current) := goodIn_app (goodIn_of _ (by decide +kernel)) ggL_law_X1_current
set_option maxRecDepth 20000 in
theorem ggL_law_L_vote : GoodIn wsL_law wsL_vote := goodIn_ca (goodIn_ca (goodIn_ca (goodIn_r _ [222, 41, 42, 43, 223, 224, 225, 2, 226, 62, 63, 48, 49, 20, 51, 52, 53, 54, 55, 56, 57, 58, 227, 209, 210, 211, 202, 189, 405, 406, 407, 408, 409, 410, 411, 412, 413, 414, 415, 416, 417, 418, 419] (by decide +kernel) (by decide +kernel)) (goodIn_sub (fun _ h => List.mem_append_left _ (List.mem_append_right _ h)) (by decide +kernel))) (goodIn_sub (fun _ h => List.mem_append_left _ (List.mem_append_left _ (List.mem_append_left _ (List.mem_append_right _ h)))) (by decide +kernel))) (goodIn_sub (fun _ h => List.mem_append_left _ (List.mem_append_left _ (List.mem_append_right _ h))) (by decide +kernel))
set_option maxRecDepth 20000 in
theorem gL_law_L_vote : GoodIn wsL_law (va_wsS RL 119 yL_vote wsL_vote) := goodIn_app (goodIn_of _ (by decide +kernel)) ggL_law_L_vote
set_option maxRecDepth 20000 in
theorem ggL_law_X1_vote : GoodIn wsL_law wsX1_vote := goodIn_r _ [231, 33, 72, 73, 5, 74, 69, 70, 71, 216, 217, 218, 219, 207, 194, 75, 76, 77, 78, 79, 420, 421, 422, 423, 424, 425, 426, 427, 428, 429, 430, 431] (by decide +kernel) (by decide +kernel)
set_option maxRecDepth 20000 in
theorem gL_law_X1_vote : GoodIn wsL_law (wsV RL 121 RX1 yX1_vote wsX1_vote) := goodIn_app (goodIn_of _ (by decide +kernel)) ggL_law_X1_vote
set_option maxRecDepth 20000 in
theorem ggL_law_L_speaker : GoodIn wsL_law wsL_speaker := goodIn_ca (goodIn_r _ [234, 41, 235, 236, 237, 2, 238, 51, 52, 53, 54, 55, 56, 57, 58, 239, 240, 241, 242, 20, 18, 405, 406, 407, 408, 409, 410, 411, 412, 413, 414, 415, 416, 417, 418, 419] (by decide +kernel) (by decide +kernel)) (goodIn_sub (fun _ h => List.mem_append_left _ (List.mem_append_left _ (List.mem_append_right _ h))) (by decide +kernel))
set_option maxRecDepth 20000 in
theorem gL_law_L_speaker : GoodIn wsL_law (va_wsS RL 122 yL_speaker wsL_speaker) := goodIn_app (goodIn_of _ (by decide +kernel)) ggL_law_L_speaker
set_option maxRecDepth 20000 in
theorem ggL_law_X1_speaker : GoodIn wsL_law wsX1_speaker := goodIn_r _ [246, 72, 73, 5, 74, 69, 70, 71, 75, 76, 77, 78, 79, 247, 248, 249, 250, 33, 31, 420, 421, 422, 423, 424, 425, 426, 427, 428, 429, 430, 431] (by decide +kernel) (by decide +kernel)
set_option maxRecDepth 20000 in
theorem gL_law_X1_speaker : GoodIn wsL_law (wsV RL 124 RX1 yX1_speaker wsX1_speaker) := goodIn_app (goodIn_of _ (by decide +kernel)) ggL_law_X1_speaker
set_option maxRecDepth 20000 in
theorem ggL_law_L_weight : GoodIn wsL_law wsL_weight := goodIn_ca (goodIn_r _ [253, 42, 254, 255, 256, 2, 257, 62, 63, 14, 258, 259, 260, 261, 20, 239, 240, 241, 242, 18, 56, 57, 58, 405, 406, 407, 408, 409, 410, 411, 412, 413, 414, 415, 416, 417, 418, 419] (by decide +kernel) (by decide +kernel)) (goodIn_sub (fun _ h => List.mem_append_left _ (List.mem_append_right _ h)) (by decide +kernel))
set_option maxRecDepth 20000 in
theorem gL_law_L_weight : GoodIn wsL_law (va_wsS RL 125 yL_weight wsL_weight) := goodIn_app (goodIn_of _ (by decide +kernel)) ggL_law_L_weight
set_option maxRecDepth 20000 in
theorem ggL_law_X1_weight : GoodIn wsL_law wsX1_weight := goodIn_r _ [265, 69, 70, 5, 71, 75, 76, 77, 78, 79, 266, 267, 268, 269, 33, 30, 247, 248, 249, 250, 31, 420, 421, 422, 423, 424, 425, 426, 427, 428, 429, 430, 431] (by decide +kernel) (by decide +kernel)
set_option maxRecDepth 20000 in
theorem gL_law_X1_weight : GoodIn wsL_law (wsV RL 127 RX1 yX1_weight wsX1_weight) := goodIn_app (goodIn_of _ (by decide +kernel)) ggL_law_X1_weight
set_option maxRecDepth 20000 in
theorem ggL_law_L_share : GoodIn wsL_law wsL_share := goodIn_ca (goodIn_ca (goodIn_r _ [272, 41, 273, 274, 275, 276, 2, 277, 21, 202, 24, 51, 52, 53, 54, 55, 56, 57, 58, 278, 279, 280, 281, 282, 283, 284, 285, 286, 287, 227, 209, 210, 211, 189, 288, 148, 149, 150, 14, 289, 290, 291, 292, 293, 294, 295, 405, 406, 407, 408, 409, 410, 411, 412, 413, 414, 415, 416, 417, 418, 419] (by decide +kernel) (by decide +kernel)) (goodIn_sub (fun _ h => List.mem_append_left _ (List.mem_append_left _ (List.mem_append_right _ h))) (by decide +kernel))) (goodIn_sub (fun _ h => List.mem_append_right _ h) (by decide +kernel))
set_option maxRecDepth 20000 in
theorem gL_law_L_share : GoodIn wsL_law (va_wsS RL 128 yL_share wsL_share) := goodIn_app (goodIn_of _ (by decide +kernel)) ggL_law_L_share
set_option maxRecDepth 20000 in
theorem ggL_law_X1_share : GoodIn wsL_law wsX1_share := goodIn_r _ [299, 36, 72, 73, 5, 74, 69, 70, 71, 300, 301, 302, 303, 34, 207, 216, 217, 218, 219, 194, 155, 156, 157, 158, 30, 75, 76, 77, 78, 79, 304, 305, 306, 307, 420, 421, 422, 423, 424, 425, 426, 427, 428, 429, 430, 431] (by decide +kernel) (by decide +kernel)
set_option maxRecDepth 20000 in
theorem gL_law_X1_share : GoodIn wsL_law (wsV RL 130 RX1 yX1_share wsX1_share) := goodIn_app (goodIn_of _ (by decide +kernel)) ggL_law_X1_share
set_option maxRecDepth 20000 in
theorem ggL_law_L_match : GoodIn wsL_law wsL_match := goodIn_ca (goodIn_r _ [310, 273, 311, 312, 313, 2, 314, 278, 279, 280, 281, 282, 283, 284, 285, 286, 287, 202, 21, 227, 209, 210, 211, 189, 288, 148, 149, 150, 14, 315, 316, 317, 318, 289, 290, 291, 292, 24, 293, 294, 295, 319, 320, 321, 322, 25, 323, 324, 325, 326, 19, 327, 328, 329, 330, 331, 332, 333, 334, 335, 336, 337, 338, 339, 340, 341, 166, 342, 343, 344, 405, 406, 407, 408, 409, 410, 411, 412, 413, 414, 415, 416, 417, 418, 419] (by decide +kernel) (by decide +kernel)) (goodIn_sub (fun _ h => List.mem_append_right _ h) (by decide +kernel))
set_option maxRecDepth 20000 in
theorem gL_law_L_match : GoodIn wsL_law (va_wsS RL 131 yL_match wsL_match) := goodIn_app (goodIn_of _ (by decide +kernel)) ggL_law_L_match
set_option maxRecDepth 20000 in
theorem ggL_law_X1_match : GoodIn wsL_law wsX1_match := goodIn_r _ [348, 349, 350, 351, 5, 352, 300, 301, 302, 303, 34, 207, 216, 217, 218, 219, 194, 155, 156, 157, 158, 30, 75, 76, 77, 78, 79, 304, 305, 306, 307, 36, 353, 354, 355, 356, 32, 172, 357, 358, 359, 420, 421, 422, 423, 424, 425, 426, 427, 428, 429, 430, 431] (by decide +kernel) (by decide +kernel)
set_option maxRecDepth 20000 in
theorem gL_law_X1_match : GoodIn wsL_law (wsV RL 134 RX1 yX1_match wsX1_match) := goodIn_app (goodIn_of _ (by decide +kernel)) ggL_law_X1_match
set_option maxRecDepth 20000 in
theorem ggL_law_L_matchByPairs : GoodIn wsL_law wsL_matchByPairs := goodIn_ca (goodIn_r _ [362, 273, 363, 364, 365, 2, 366, 21, 202, 278, 279, 280, 281, 282, 283, 284, 285, 286, 287, 227, 209, 210, 211, 189, 288, 148, 149, 150, 14, 289, 290, 291, 292, 24, 293, 294, 295, 319, 320, 321, 322, 25, 323, 324, 325, 326, 19, 327, 328, 329, 367, 368, 369, 370, 334, 335, 336, 337, 338, 339, 340, 341, 166, 342, 343, 344, 405, 406, 407, 408, 409, 410, 411, 412, 413, 414, 415, 416, 417, 418, 419] (by decide +kernel) (by decide +kernel)) (goodIn_sub (fun _ h => List.mem_append_right _ h) (by decide +kernel))
set_option maxRecDepth 20000 in
theorem gL_law_L_matchByPairs : GoodIn wsL_law (va_wsS RL 135 yL_matchByPairs wsL_matchByPairs) := goodIn_app (goodIn_of _ (by decide +kernel)) ggL_law_L_matchByPairs
set_option maxRecDepth 20000 in
theorem ggL_law_X1_matchByPairs : GoodIn wsL_law wsX1_matchByPairs := goodIn_r _ [374, 349, 350, 351, 5, 352, 300, 301, 302, 303, 34, 207, 216, 217, 218, 219, 194, 155, 156, 157, 158, 30, 75, 76, 77, 78, 79, 304, 305, 306, 307, 36, 353, 354, 355, 356, 32, 172, 357, 358, 359, 420, 421, 422, 423, 424, 425, 426, 427, 428, 429, 430, 431] (by decide +kernel) (by decide +kernel)
set_option maxRecDepth 20000 in
theorem gL_law_X1_matchByPairs : GoodIn wsL_law (wsV RL 137 RX1 yX1_matchByPairs wsX1_matchByPairs) := goodIn_app (goodIn_of _ (by decide +kernel)) ggL_law_X1_matchByPairs
set_option maxRecDepth 20000 in
theorem ggL_law_L_release : GoodIn wsL_law wsL_release := goodIn_ca (goodIn_ca (goodIn_r _ [377, 43, 378, 379, 380, 2, 381, 48, 49, 23, 202, 21, 166, 382, 284, 285, 286, 287, 227, 209, 210, 211, 189, 288, 148, 149, 150, 14, 383, 255, 256, 257, 62, 63, 258, 259, 260, 261, 20, 239, 240, 241, 242, 18, 56, 57, 58, 315, 316, 317, 318, 289, 290, 291, 292, 24, 293, 294, 295, 319, 320, 321, 322, 25, 323, 324, 325, 326, 19, 327, 328, 329, 330, 331, 332, 333, 334, 335, 336, 337, 338, 339, 340, 341, 342, 343, 344, 384, 385, 386, 387, 17, 388, 389, 390, 391, 405, 406, 407, 408, 409, 410, 411, 412, 413, 414, 415, 416, 417, 418, 419] (by decide +kernel) (by decide +kernel)) (goodIn_sub (fun _ h => List.mem_append_left _ (List.mem_append_left _ (List.mem_append_left _ (List.mem_append_right _ h)))) (by decide +kernel))) (goodIn_sub (fun _ h => List.mem_append_left _ (List.mem_append_right _ h)) (by decide +kernel))
set_option maxRecDepth 20000 in
theorem gL_law_L_release : GoodIn wsL_law (va_wsS RL 138 yL_release wsL_release) := goodIn_app (goodIn_of _ (by decide +kernel)) ggL_law_L_release
set_option maxRecDepth 20000 in
theorem ggL_law_X1_release : GoodIn wsL_law wsX1_release := goodIn_r _ [395, 35, 207, 34, 30, 36, 33, 172, 396, 300, 301, 302, 5, 303, 216, 217, 218, 219, 194, 155, 156, 157, 158, 266, 267, 268, 269, 247, 248, 249, 250, 31, 75, 76, 77, 78, 79, 304, 305, 306, 307, 353, 354, 355, 356, 32, 357, 358, 359, 420, 421, 422, 423, 424, 425, 426, 427, 428, 429, 430, 431] (by decide +kernel) (by decide +kernel)
set_option maxRecDepth 20000 in
theorem gL_law_X1_release : GoodIn wsL_law (wsV RL 140 RX1 yX1_release wsX1_release) := goodIn_app (goodIn_of _ (by decide +kernel)) ggL_law_X1_release
set_option maxRecDepth 20000 in
theorem ggL_law_X0_out : GoodIn wsL_law wsX0_out := goodIn_r _ [400, 382, 405, 406, 407, 408, 409, 410, 411, 412, 413, 414, 415, 416, 417, 418, 419] (by decide +kernel) (by decide +kernel)
set_option maxRecDepth 20000 in
theorem gL_law_X0_out : GoodIn wsL_law (wsV RL 141 RX0 yX0_out wsX0_out) := goodIn_app (goodIn_of _ (by decide +kernel)) ggL_law_X0_out
set_option maxRecDepth 20000 in
theorem ggL_law_X1_out : GoodIn wsL_law wsX1_out := goodIn_r _ [404, 79, 396, 420, 421, 422, 423, 424, 425, 426, 427, 428, 429, 430, 431] (by decide +kernel) (by decide +kernel)
set_option maxRecDepth 20000 in
theorem gL_law_X1_out : GoodIn wsL_law (wsV RL 144 RX1 yX1_out wsX1_out) := goodIn_app (goodIn_of _ (by decide +kernel)) ggL_law_X1_out
theorem dL_law_0 : decode cL_law 0 = .ok (.new 8, 3) := by decide +kernel
theorem dL_law_3 : decode cL_law 3 = .ok (.dup, 1) := by decide +kernel
theorem dL_law_4 : decode cL_law 4 = .ok (.invokespecial 69, 3) := by decide +kernel
theorem dL_law_7 : decode cL_law 7 = .ok (.astore_n 1, 1) := by decide +kernel
theorem dL_law_8 : decode cL_law 8 = .ok (.new 70, 3) := by decide +kernel
theorem dL_law_11 : decode cL_law 11 = .ok (.dup, 1) := by decide +kernel
theorem dL_law_12 : decode cL_law 12 = .ok (.invokespecial 72, 3) := by decide +kernel
theorem dL_law_15 : decode cL_law 15 = .ok (.astore_n 2, 1) := by decide +kernel
theorem dL_law_16 : decode cL_law 16 = .ok (.iconst 1, 1) := by decide +kernel
theorem dL_law_17 : decode cL_law 17 = .ok (.newarray .long, 2) := by decide +kernel
theorem dL_law_19 : decode cL_law 19 = .ok (.astore_n 3, 1) := by decide +kernel
theorem dL_law_20 : decode cL_law 20 = .ok (.iconst 0, 1) := by decide +kernel
theorem dL_law_21 : decode cL_law 21 = .ok (.istore 4, 2) := by decide +kernel
theorem dL_law_23 : decode cL_law 23 = .ok (.iload 4, 2) := by decide +kernel
theorem dL_law_25 : decode cL_law 25 = .ok (.aload_n 0, 1) := by decide +kernel
theorem dL_law_26 : decode cL_law 26 = .ok (.arraylength, 1) := by decide +kernel
theorem dL_law_27 : decode cL_law 27 = .ok (.iconst 3, 1) := by decide +kernel
theorem dL_law_28 : decode cL_law 28 = .ok (.isub, 1) := by decide +kernel
theorem dL_law_29 : decode cL_law 29 = .ok (.if_icmp .gt 1076, 3) := by decide +kernel
theorem dL_law_32 : decode cL_law 32 = .ok (.aload_n 0, 1) := by decide +kernel
theorem dL_law_33 : decode cL_law 33 = .ok (.iload 4, 2) := by decide +kernel
theorem dL_law_35 : decode cL_law 35 = .ok (.iaload, 1) := by decide +kernel
theorem dL_law_36 : decode cL_law 36 = .ok (.bipush 31, 2) := by decide +kernel
theorem dL_law_38 : decode cL_law 38 = .ok (.iand, 1) := by decide +kernel
theorem dL_law_39 : decode cL_law 39 = .ok (.tableswitch 1060 0 19 #[93, 161, 217, 285, 353, 409, 465, 478, 534, 547, 603, 666, 679, 747, 803, 859, 915, 959, 1003, 1047], 93) := by decide +kernel
theorem dL_law_132 : decode cL_law 132 = .ok (.aload_n 1, 1) := by decide +kernel
theorem dL_law_133 : decode cL_law 133 = .ok (.aload_n 0, 1) := by decide +kernel
theorem dL_law_134 : decode cL_law 134 = .ok (.iload 4, 2) := by decide +kernel
theorem dL_law_136 : decode cL_law 136 = .ok (.iconst 1, 1) := by decide +kernel
theorem dL_law_137 : decode cL_law 137 = .ok (.iadd, 1) := by decide +kernel
theorem dL_law_138 : decode cL_law 138 = .ok (.iaload, 1) := by decide +kernel
theorem dL_law_139 : decode cL_law 139 = .ok (.aload_n 0, 1) := by decide +kernel
theorem dL_law_140 : decode cL_law 140 = .ok (.iload 4, 2) := by decide +kernel
theorem dL_law_142 : decode cL_law 142 = .ok (.iconst 2, 1) := by decide +kernel
theorem dL_law_143 : decode cL_law 143 = .ok (.iadd, 1) := by decide +kernel
theorem dL_law_144 : decode cL_law 144 = .ok (.iaload, 1) := by decide +kernel
theorem dL_law_145 : decode cL_law 145 = .ok (.aload_n 3, 1) := by decide +kernel
theorem dL_law_146 : decode cL_law 146 = .ok (.invokestatic 73, 3) := by decide +kernel
theorem dL_law_149 : decode cL_law 149 = .ok (.istore 5, 2) := by decide +kernel
theorem dL_law_151 : decode cL_law 151 = .ok (.aload_n 2, 1) := by decide +kernel
theorem dL_law_152 : decode cL_law 152 = .ok (.aload_n 0, 1) := by decide +kernel
theorem dL_law_153 : decode cL_law 153 = .ok (.iload 4, 2) := by decide +kernel
theorem dL_law_155 : decode cL_law 155 = .ok (.iconst 1, 1) := by decide +kernel
theorem dL_law_156 : decode cL_law 156 = .ok (.iadd, 1) := by decide +kernel
theorem dL_law_157 : decode cL_law 157 = .ok (.iaload, 1) := by decide +kernel
theorem dL_law_158 : decode cL_law 158 = .ok (.aload_n 0, 1) := by decide +kernel
theorem dL_law_159 : decode cL_law 159 = .ok (.iload 4, 2) := by decide +kernel
theorem dL_law_161 : decode cL_law 161 = .ok (.iconst 2, 1) := by decide +kernel
theorem dL_law_162 : decode cL_law 162 = .ok (.iadd, 1) := by decide +kernel
theorem dL_law_163 : decode cL_law 163 = .ok (.iaload, 1) := by decide +kernel
theorem dL_law_164 : decode cL_law 164 = .ok (.invokevirtual 78, 3) := by decide +kernel
theorem dL_law_167 : decode cL_law 167 = .ok (.istore 6, 2) := by decide +kernel
theorem dL_law_169 : decode cL_law 169 = .ok (.aload_n 2, 1) := by decide +kernel
theorem dL_law_170 : decode cL_law 170 = .ok (.invokevirtual 79, 3) := by decide +kernel
theorem dL_law_173 : decode cL_law 173 = .ok (.iload 5, 2) := by decide +kernel
theorem dL_law_175 : decode cL_law 175 = .ok (.if_icmp .eq 5, 3) := by decide +kernel
theorem dL_law_178 : decode cL_law 178 = .ok (.iconst 0, 1) := by decide +kernel
theorem dL_law_179 : decode cL_law 179 = .ok (.ireturn, 1) := by decide +kernel
theorem dL_law_180 : decode cL_law 180 = .ok (.iload 5, 2) := by decide +kernel
theorem dL_law_182 : decode cL_law 182 = .ok (.ifCond .ne 15, 3) := by decide +kernel
theorem dL_law_185 : decode cL_law 185 = .ok (.aload_n 3, 1) := by decide +kernel
theorem dL_law_186 : decode cL_law 186 = .ok (.iconst 0, 1) := by decide +kernel
theorem dL_law_187 : decode cL_law 187 = .ok (.laload, 1) := by decide +kernel
theorem dL_law_188 : decode cL_law 188 = .ok (.iload 6, 2) := by decide +kernel
theorem dL_law_190 : decode cL_law 190 = .ok (.i2l, 1) := by decide +kernel
theorem dL_law_191 : decode cL_law 191 = .ok (.lcmp, 1) := by decide +kernel
theorem dL_law_192 : decode cL_law 192 = .ok (.ifCond .eq 5, 3) := by decide +kernel
theorem dL_law_195 : decode cL_law 195 = .ok (.iconst 0, 1) := by decide +kernel
theorem dL_law_196 : decode cL_law 196 = .ok (.ireturn, 1) := by decide +kernel
theorem dL_law_197 : decode cL_law 197 = .ok (.goto 902, 3) := by decide +kernel
theorem dL_law_200 : decode cL_law 200 = .ok (.aload_n 1, 1) := by decide +kernel
theorem dL_law_201 : decode cL_law 201 = .ok (.aload_n 0, 1) := by decide +kernel
theorem dL_law_202 : decode cL_law 202 = .ok (.iload 4, 2) := by decide +kernel
theorem dL_law_204 : decode cL_law 204 = .ok (.iconst 1, 1) := by decide +kernel
theorem dL_law_205 : decode cL_law 205 = .ok (.iadd, 1) := by decide +kernel
theorem dL_law_206 : decode cL_law 206 = .ok (.iaload, 1) := by decide +kernel
theorem dL_law_207 : decode cL_law 207 = .ok (.aload_n 3, 1) := by decide +kernel
theorem dL_law_208 : decode cL_law 208 = .ok (.invokestatic 82, 3) := by decide +kernel
theorem dL_law_211 : decode cL_law 211 = .ok (.istore 5, 2) := by decide +kernel
theorem dL_law_213 : decode cL_law 213 = .ok (.aload_n 2, 1) := by decide +kernel
theorem dL_law_214 : decode cL_law 214 = .ok (.aload_n 0, 1) := by decide +kernel
theorem dL_law_215 : decode cL_law 215 = .ok (.iload 4, 2) := by decide +kernel
theorem dL_law_217 : decode cL_law 217 = .ok (.iconst 1, 1) := by decide +kernel
theorem dL_law_218 : decode cL_law 218 = .ok (.iadd, 1) := by decide +kernel
theorem dL_law_219 : decode cL_law 219 = .ok (.iaload, 1) := by decide +kernel
theorem dL_law_220 : decode cL_law 220 = .ok (.invokevirtual 85, 3) := by decide +kernel
theorem dL_law_223 : decode cL_law 223 = .ok (.istore 6, 2) := by decide +kernel
theorem dL_law_225 : decode cL_law 225 = .ok (.aload_n 2, 1) := by decide +kernel
theorem dL_law_226 : decode cL_law 226 = .ok (.invokevirtual 79, 3) := by decide +kernel
theorem dL_law_229 : decode cL_law 229 = .ok (.iload 5, 2) := by decide +kernel
theorem dL_law_231 : decode cL_law 231 = .ok (.if_icmp .eq 5, 3) := by decide +kernel
theorem dL_law_234 : decode cL_law 234 = .ok (.iconst 0, 1) := by decide +kernel
theorem dL_law_235 : decode cL_law 235 = .ok (.ireturn, 1) := by decide +kernel
theorem dL_law_236 : decode cL_law 236 = .ok (.iload 5, 2) := by decide +kernel
theorem dL_law_238 : decode cL_law 238 = .ok (.ifCond .ne 15, 3) := by decide +kernel
theorem dL_law_241 : decode cL_law 241 = .ok (.aload_n 3, 1) := by decide +kernel
theorem dL_law_242 : decode cL_law 242 = .ok (.iconst 0, 1) := by decide +kernel
theorem dL_law_243 : decode cL_law 243 = .ok (.laload, 1) := by decide +kernel
theorem dL_law_244 : decode cL_law 244 = .ok (.iload 6, 2) := by decide +kernel
theorem dL_law_246 : decode cL_law 246 = .ok (.i2l, 1) := by decide +kernel
theorem dL_law_247 : decode cL_law 247 = .ok (.lcmp, 1) := by decide +kernel
theorem dL_law_248 : decode cL_law 248 = .ok (.ifCond .eq 5, 3) := by decide +kernel
theorem dL_law_251 : decode cL_law 251 = .ok (.iconst 0, 1) := by decide +kernel
theorem dL_law_252 : decode cL_law 252 = .ok (.ireturn, 1) := by decide +kernel
theorem dL_law_253 : decode cL_law 253 = .ok (.goto 846, 3) := by decide +kernel
theorem dL_law_256 : decode cL_law 256 = .ok (.aload_n 1, 1) := by decide +kernel
theorem dL_law_257 : decode cL_law 257 = .ok (.aload_n 0, 1) := by decide +kernel
theorem dL_law_258 : decode cL_law 258 = .ok (.iload 4, 2) := by decide +kernel
theorem dL_law_260 : decode cL_law 260 = .ok (.iconst 1, 1) := by decide +kernel
theorem dL_law_261 : decode cL_law 261 = .ok (.iadd, 1) := by decide +kernel
theorem dL_law_262 : decode cL_law 262 = .ok (.iaload, 1) := by decide +kernel
theorem dL_law_263 : decode cL_law 263 = .ok (.aload_n 0, 1) := by decide +kernel
theorem dL_law_264 : decode cL_law 264 = .ok (.iload 4, 2) := by decide +kernel
theorem dL_law_266 : decode cL_law 266 = .ok (.iconst 2, 1) := by decide +kernel
theorem dL_law_267 : decode cL_law 267 = .ok (.iadd, 1) := by decide +kernel
theorem dL_law_268 : decode cL_law 268 = .ok (.iaload, 1) := by decide +kernel
theorem dL_law_269 : decode cL_law 269 = .ok (.aload_n 3, 1) := by decide +kernel
theorem dL_law_270 : decode cL_law 270 = .ok (.invokestatic 86, 3) := by decide +kernel
theorem dL_law_273 : decode cL_law 273 = .ok (.istore 5, 2) := by decide +kernel
theorem dL_law_275 : decode cL_law 275 = .ok (.aload_n 2, 1) := by decide +kernel
theorem dL_law_276 : decode cL_law 276 = .ok (.aload_n 0, 1) := by decide +kernel
theorem dL_law_277 : decode cL_law 277 = .ok (.iload 4, 2) := by decide +kernel
theorem dL_law_279 : decode cL_law 279 = .ok (.iconst 1, 1) := by decide +kernel
theorem dL_law_280 : decode cL_law 280 = .ok (.iadd, 1) := by decide +kernel
theorem dL_law_281 : decode cL_law 281 = .ok (.iaload, 1) := by decide +kernel
theorem dL_law_282 : decode cL_law 282 = .ok (.aload_n 0, 1) := by decide +kernel
theorem dL_law_283 : decode cL_law 283 = .ok (.iload 4, 2) := by decide +kernel
theorem dL_law_285 : decode cL_law 285 = .ok (.iconst 2, 1) := by decide +kernel
theorem dL_law_286 : decode cL_law 286 = .ok (.iadd, 1) := by decide +kernel
theorem dL_law_287 : decode cL_law 287 = .ok (.iaload, 1) := by decide +kernel
theorem dL_law_288 : decode cL_law 288 = .ok (.invokevirtual 88, 3) := by decide +kernel
theorem dL_law_291 : decode cL_law 291 = .ok (.istore 6, 2) := by decide +kernel
theorem dL_law_293 : decode cL_law 293 = .ok (.aload_n 2, 1) := by decide +kernel
theorem dL_law_294 : decode cL_law 294 = .ok (.invokevirtual 79, 3) := by decide +kernel
theorem dL_law_297 : decode cL_law 297 = .ok (.iload 5, 2) := by decide +kernel
theorem dL_law_299 : decode cL_law 299 = .ok (.if_icmp .eq 5, 3) := by decide +kernel
theorem dL_law_302 : decode cL_law 302 = .ok (.iconst 0, 1) := by decide +kernel
theorem dL_law_303 : decode cL_law 303 = .ok (.ireturn, 1) := by decide +kernel
theorem dL_law_304 : decode cL_law 304 = .ok (.iload 5, 2) := by decide +kernel
theorem dL_law_306 : decode cL_law 306 = .ok (.ifCond .ne 15, 3) := by decide +kernel
theorem dL_law_309 : decode cL_law 309 = .ok (.aload_n 3, 1) := by decide +kernel
theorem dL_law_310 : decode cL_law 310 = .ok (.iconst 0, 1) := by decide +kernel
theorem dL_law_311 : decode cL_law 311 = .ok (.laload, 1) := by decide +kernel
theorem dL_law_312 : decode cL_law 312 = .ok (.iload 6, 2) := by decide +kernel
theorem dL_law_314 : decode cL_law 314 = .ok (.i2l, 1) := by decide +kernel
theorem dL_law_315 : decode cL_law 315 = .ok (.lcmp, 1) := by decide +kernel
theorem dL_law_316 : decode cL_law 316 = .ok (.ifCond .eq 5, 3) := by decide +kernel
theorem dL_law_319 : decode cL_law 319 = .ok (.iconst 0, 1) := by decide +kernel
theorem dL_law_320 : decode cL_law 320 = .ok (.ireturn, 1) := by decide +kernel
theorem dL_law_321 : decode cL_law 321 = .ok (.goto 778, 3) := by decide +kernel
theorem dL_law_324 : decode cL_law 324 = .ok (.aload_n 1, 1) := by decide +kernel
theorem dL_law_325 : decode cL_law 325 = .ok (.aload_n 0, 1) := by decide +kernel
theorem dL_law_326 : decode cL_law 326 = .ok (.iload 4, 2) := by decide +kernel
theorem dL_law_328 : decode cL_law 328 = .ok (.iconst 1, 1) := by decide +kernel
theorem dL_law_329 : decode cL_law 329 = .ok (.iadd, 1) := by decide +kernel
theorem dL_law_330 : decode cL_law 330 = .ok (.iaload, 1) := by decide +kernel
theorem dL_law_331 : decode cL_law 331 = .ok (.aload_n 0, 1) := by decide +kernel
theorem dL_law_332 : decode cL_law 332 = .ok (.iload 4, 2) := by decide +kernel
theorem dL_law_334 : decode cL_law 334 = .ok (.iconst 2, 1) := by decide +kernel
theorem dL_law_335 : decode cL_law 335 = .ok (.iadd, 1) := by decide +kernel
theorem dL_law_336 : decode cL_law 336 = .ok (.iaload, 1) := by decide +kernel
theorem dL_law_337 : decode cL_law 337 = .ok (.aload_n 3, 1) := by decide +kernel
theorem dL_law_338 : decode cL_law 338 = .ok (.invokestatic 89, 3) := by decide +kernel
theorem dL_law_341 : decode cL_law 341 = .ok (.istore 5, 2) := by decide +kernel
theorem dL_law_343 : decode cL_law 343 = .ok (.aload_n 2, 1) := by decide +kernel
theorem dL_law_344 : decode cL_law 344 = .ok (.aload_n 0, 1) := by decide +kernel
theorem dL_law_345 : decode cL_law 345 = .ok (.iload 4, 2) := by decide +kernel
theorem dL_law_347 : decode cL_law 347 = .ok (.iconst 1, 1) := by decide +kernel
theorem dL_law_348 : decode cL_law 348 = .ok (.iadd, 1) := by decide +kernel
theorem dL_law_349 : decode cL_law 349 = .ok (.iaload, 1) := by decide +kernel
theorem dL_law_350 : decode cL_law 350 = .ok (.aload_n 0, 1) := by decide +kernel
theorem dL_law_351 : decode cL_law 351 = .ok (.iload 4, 2) := by decide +kernel
theorem dL_law_353 : decode cL_law 353 = .ok (.iconst 2, 1) := by decide +kernel
theorem dL_law_354 : decode cL_law 354 = .ok (.iadd, 1) := by decide +kernel
theorem dL_law_355 : decode cL_law 355 = .ok (.iaload, 1) := by decide +kernel
theorem dL_law_356 : decode cL_law 356 = .ok (.invokevirtual 91, 3) := by decide +kernel
theorem dL_law_359 : decode cL_law 359 = .ok (.istore 6, 2) := by decide +kernel
theorem dL_law_361 : decode cL_law 361 = .ok (.aload_n 2, 1) := by decide +kernel
theorem dL_law_362 : decode cL_law 362 = .ok (.invokevirtual 79, 3) := by decide +kernel
theorem dL_law_365 : decode cL_law 365 = .ok (.iload 5, 2) := by decide +kernel
theorem dL_law_367 : decode cL_law 367 = .ok (.if_icmp .eq 5, 3) := by decide +kernel
theorem dL_law_370 : decode cL_law 370 = .ok (.iconst 0, 1) := by decide +kernel
theorem dL_law_371 : decode cL_law 371 = .ok (.ireturn, 1) := by decide +kernel
theorem dL_law_372 : decode cL_law 372 = .ok (.iload 5, 2) := by decide +kernel
theorem dL_law_374 : decode cL_law 374 = .ok (.ifCond .ne 15, 3) := by decide +kernel
theorem dL_law_377 : decode cL_law 377 = .ok (.aload_n 3, 1) := by decide +kernel
theorem dL_law_378 : decode cL_law 378 = .ok (.iconst 0, 1) := by decide +kernel
theorem dL_law_379 : decode cL_law 379 = .ok (.laload, 1) := by decide +kernel
theorem dL_law_380 : decode cL_law 380 = .ok (.iload 6, 2) := by decide +kernel
theorem dL_law_382 : decode cL_law 382 = .ok (.i2l, 1) := by decide +kernel
theorem dL_law_383 : decode cL_law 383 = .ok (.lcmp, 1) := by decide +kernel
theorem dL_law_384 : decode cL_law 384 = .ok (.ifCond .eq 5, 3) := by decide +kernel
theorem dL_law_387 : decode cL_law 387 = .ok (.iconst 0, 1) := by decide +kernel
theorem dL_law_388 : decode cL_law 388 = .ok (.ireturn, 1) := by decide +kernel
theorem dL_law_389 : decode cL_law 389 = .ok (.goto 710, 3) := by decide +kernel
theorem dL_law_392 : decode cL_law 392 = .ok (.aload_n 1, 1) := by decide +kernel
theorem dL_law_393 : decode cL_law 393 = .ok (.aload_n 0, 1) := by decide +kernel
theorem dL_law_394 : decode cL_law 394 = .ok (.iload 4, 2) := by decide +kernel
theorem dL_law_396 : decode cL_law 396 = .ok (.iconst 1, 1) := by decide +kernel
theorem dL_law_397 : decode cL_law 397 = .ok (.iadd, 1) := by decide +kernel
theorem dL_law_398 : decode cL_law 398 = .ok (.iaload, 1) := by decide +kernel
theorem dL_law_399 : decode cL_law 399 = .ok (.aload_n 3, 1) := by decide +kernel
theorem dL_law_400 : decode cL_law 400 = .ok (.invokestatic 92, 3) := by decide +kernel
theorem dL_law_403 : decode cL_law 403 = .ok (.istore 5, 2) := by decide +kernel
theorem dL_law_405 : decode cL_law 405 = .ok (.aload_n 2, 1) := by decide +kernel
theorem dL_law_406 : decode cL_law 406 = .ok (.aload_n 0, 1) := by decide +kernel
theorem dL_law_407 : decode cL_law 407 = .ok (.iload 4, 2) := by decide +kernel
theorem dL_law_409 : decode cL_law 409 = .ok (.iconst 1, 1) := by decide +kernel
theorem dL_law_410 : decode cL_law 410 = .ok (.iadd, 1) := by decide +kernel
theorem dL_law_411 : decode cL_law 411 = .ok (.iaload, 1) := by decide +kernel
theorem dL_law_412 : decode cL_law 412 = .ok (.invokevirtual 94, 3) := by decide +kernel
theorem dL_law_415 : decode cL_law 415 = .ok (.istore 6, 2) := by decide +kernel
theorem dL_law_417 : decode cL_law 417 = .ok (.aload_n 2, 1) := by decide +kernel
theorem dL_law_418 : decode cL_law 418 = .ok (.invokevirtual 79, 3) := by decide +kernel
theorem dL_law_421 : decode cL_law 421 = .ok (.iload 5, 2) := by decide +kernel
theorem dL_law_423 : decode cL_law 423 = .ok (.if_icmp .eq 5, 3) := by decide +kernel
theorem dL_law_426 : decode cL_law 426 = .ok (.iconst 0, 1) := by decide +kernel
theorem dL_law_427 : decode cL_law 427 = .ok (.ireturn, 1) := by decide +kernel
theorem dL_law_428 : decode cL_law 428 = .ok (.iload 5, 2) := by decide +kernel
theorem dL_law_430 : decode cL_law 430 = .ok (.ifCond .ne 15, 3) := by decide +kernel
theorem dL_law_433 : decode cL_law 433 = .ok (.aload_n 3, 1) := by decide +kernel
theorem dL_law_434 : decode cL_law 434 = .ok (.iconst 0, 1) := by decide +kernel
theorem dL_law_435 : decode cL_law 435 = .ok (.laload, 1) := by decide +kernel
theorem dL_law_436 : decode cL_law 436 = .ok (.iload 6, 2) := by decide +kernel
theorem dL_law_438 : decode cL_law 438 = .ok (.i2l, 1) := by decide +kernel
theorem dL_law_439 : decode cL_law 439 = .ok (.lcmp, 1) := by decide +kernel
theorem dL_law_440 : decode cL_law 440 = .ok (.ifCond .eq 5, 3) := by decide +kernel
theorem dL_law_443 : decode cL_law 443 = .ok (.iconst 0, 1) := by decide +kernel
theorem dL_law_444 : decode cL_law 444 = .ok (.ireturn, 1) := by decide +kernel
theorem dL_law_445 : decode cL_law 445 = .ok (.goto 654, 3) := by decide +kernel
theorem dL_law_448 : decode cL_law 448 = .ok (.aload_n 1, 1) := by decide +kernel
theorem dL_law_449 : decode cL_law 449 = .ok (.aload_n 0, 1) := by decide +kernel
theorem dL_law_450 : decode cL_law 450 = .ok (.iload 4, 2) := by decide +kernel
theorem dL_law_452 : decode cL_law 452 = .ok (.iconst 1, 1) := by decide +kernel
theorem dL_law_453 : decode cL_law 453 = .ok (.iadd, 1) := by decide +kernel
theorem dL_law_454 : decode cL_law 454 = .ok (.iaload, 1) := by decide +kernel
theorem dL_law_455 : decode cL_law 455 = .ok (.aload_n 3, 1) := by decide +kernel
theorem dL_law_456 : decode cL_law 456 = .ok (.invokestatic 95, 3) := by decide +kernel
theorem dL_law_459 : decode cL_law 459 = .ok (.istore 5, 2) := by decide +kernel
theorem dL_law_461 : decode cL_law 461 = .ok (.aload_n 2, 1) := by decide +kernel
theorem dL_law_462 : decode cL_law 462 = .ok (.aload_n 0, 1) := by decide +kernel
theorem dL_law_463 : decode cL_law 463 = .ok (.iload 4, 2) := by decide +kernel
theorem dL_law_465 : decode cL_law 465 = .ok (.iconst 1, 1) := by decide +kernel
theorem dL_law_466 : decode cL_law 466 = .ok (.iadd, 1) := by decide +kernel
theorem dL_law_467 : decode cL_law 467 = .ok (.iaload, 1) := by decide +kernel
theorem dL_law_468 : decode cL_law 468 = .ok (.invokevirtual 97, 3) := by decide +kernel
theorem dL_law_471 : decode cL_law 471 = .ok (.istore 6, 2) := by decide +kernel
theorem dL_law_473 : decode cL_law 473 = .ok (.aload_n 2, 1) := by decide +kernel
theorem dL_law_474 : decode cL_law 474 = .ok (.invokevirtual 79, 3) := by decide +kernel
theorem dL_law_477 : decode cL_law 477 = .ok (.iload 5, 2) := by decide +kernel
theorem dL_law_479 : decode cL_law 479 = .ok (.if_icmp .eq 5, 3) := by decide +kernel
theorem dL_law_482 : decode cL_law 482 = .ok (.iconst 0, 1) := by decide +kernel
theorem dL_law_483 : decode cL_law 483 = .ok (.ireturn, 1) := by decide +kernel
theorem dL_law_484 : decode cL_law 484 = .ok (.iload 5, 2) := by decide +kernel
theorem dL_law_486 : decode cL_law 486 = .ok (.ifCond .ne 15, 3) := by decide +kernel
theorem dL_law_489 : decode cL_law 489 = .ok (.aload_n 3, 1) := by decide +kernel
theorem dL_law_490 : decode cL_law 490 = .ok (.iconst 0, 1) := by decide +kernel
theorem dL_law_491 : decode cL_law 491 = .ok (.laload, 1) := by decide +kernel
theorem dL_law_492 : decode cL_law 492 = .ok (.iload 6, 2) := by decide +kernel
theorem dL_law_494 : decode cL_law 494 = .ok (.i2l, 1) := by decide +kernel
theorem dL_law_495 : decode cL_law 495 = .ok (.lcmp, 1) := by decide +kernel
theorem dL_law_496 : decode cL_law 496 = .ok (.ifCond .eq 5, 3) := by decide +kernel
theorem dL_law_499 : decode cL_law 499 = .ok (.iconst 0, 1) := by decide +kernel
theorem dL_law_500 : decode cL_law 500 = .ok (.ireturn, 1) := by decide +kernel
theorem dL_law_501 : decode cL_law 501 = .ok (.goto 598, 3) := by decide +kernel
theorem dL_law_504 : decode cL_law 504 = .ok (.aload_n 1, 1) := by decide +kernel
theorem dL_law_505 : decode cL_law 505 = .ok (.invokevirtual 98, 3) := by decide +kernel
theorem dL_law_508 : decode cL_law 508 = .ok (.aload_n 2, 1) := by decide +kernel
theorem dL_law_509 : decode cL_law 509 = .ok (.invokevirtual 101, 3) := by decide +kernel
theorem dL_law_512 : decode cL_law 512 = .ok (.if_icmp .eq 587, 3) := by decide +kernel
theorem dL_law_515 : decode cL_law 515 = .ok (.iconst 0, 1) := by decide +kernel
theorem dL_law_516 : decode cL_law 516 = .ok (.ireturn, 1) := by decide +kernel
theorem dL_law_517 : decode cL_law 517 = .ok (.aload_n 1, 1) := by decide +kernel
theorem dL_law_518 : decode cL_law 518 = .ok (.aload_n 0, 1) := by decide +kernel
theorem dL_law_519 : decode cL_law 519 = .ok (.iload 4, 2) := by decide +kernel
theorem dL_law_521 : decode cL_law 521 = .ok (.iconst 1, 1) := by decide +kernel
theorem dL_law_522 : decode cL_law 522 = .ok (.iadd, 1) := by decide +kernel
theorem dL_law_523 : decode cL_law 523 = .ok (.iaload, 1) := by decide +kernel
theorem dL_law_524 : decode cL_law 524 = .ok (.aload_n 3, 1) := by decide +kernel
theorem dL_law_525 : decode cL_law 525 = .ok (.invokestatic 102, 3) := by decide +kernel
theorem dL_law_528 : decode cL_law 528 = .ok (.istore 5, 2) := by decide +kernel
theorem dL_law_530 : decode cL_law 530 = .ok (.aload_n 2, 1) := by decide +kernel
theorem dL_law_531 : decode cL_law 531 = .ok (.aload_n 0, 1) := by decide +kernel
theorem dL_law_532 : decode cL_law 532 = .ok (.iload 4, 2) := by decide +kernel
theorem dL_law_534 : decode cL_law 534 = .ok (.iconst 1, 1) := by decide +kernel
theorem dL_law_535 : decode cL_law 535 = .ok (.iadd, 1) := by decide +kernel
theorem dL_law_536 : decode cL_law 536 = .ok (.iaload, 1) := by decide +kernel
theorem dL_law_537 : decode cL_law 537 = .ok (.invokevirtual 104, 3) := by decide +kernel
theorem dL_law_540 : decode cL_law 540 = .ok (.istore 6, 2) := by decide +kernel
theorem dL_law_542 : decode cL_law 542 = .ok (.aload_n 2, 1) := by decide +kernel
theorem dL_law_543 : decode cL_law 543 = .ok (.invokevirtual 79, 3) := by decide +kernel
theorem dL_law_546 : decode cL_law 546 = .ok (.iload 5, 2) := by decide +kernel
theorem dL_law_548 : decode cL_law 548 = .ok (.if_icmp .eq 5, 3) := by decide +kernel
theorem dL_law_551 : decode cL_law 551 = .ok (.iconst 0, 1) := by decide +kernel
theorem dL_law_552 : decode cL_law 552 = .ok (.ireturn, 1) := by decide +kernel
theorem dL_law_553 : decode cL_law 553 = .ok (.iload 5, 2) := by decide +kernel
theorem dL_law_555 : decode cL_law 555 = .ok (.ifCond .ne 15, 3) := by decide +kernel
theorem dL_law_558 : decode cL_law 558 = .ok (.aload_n 3, 1) := by decide +kernel
theorem dL_law_559 : decode cL_law 559 = .ok (.iconst 0, 1) := by decide +kernel
theorem dL_law_560 : decode cL_law 560 = .ok (.laload, 1) := by decide +kernel
theorem dL_law_561 : decode cL_law 561 = .ok (.iload 6, 2) := by decide +kernel
theorem dL_law_563 : decode cL_law 563 = .ok (.i2l, 1) := by decide +kernel
theorem dL_law_564 : decode cL_law 564 = .ok (.lcmp, 1) := by decide +kernel
theorem dL_law_565 : decode cL_law 565 = .ok (.ifCond .eq 5, 3) := by decide +kernel
theorem dL_law_568 : decode cL_law 568 = .ok (.iconst 0, 1) := by decide +kernel
theorem dL_law_569 : decode cL_law 569 = .ok (.ireturn, 1) := by decide +kernel
theorem dL_law_570 : decode cL_law 570 = .ok (.goto 529, 3) := by decide +kernel
theorem dL_law_573 : decode cL_law 573 = .ok (.aload_n 1, 1) := by decide +kernel
theorem dL_law_574 : decode cL_law 574 = .ok (.invokevirtual 105, 3) := by decide +kernel
theorem dL_law_577 : decode cL_law 577 = .ok (.aload_n 2, 1) := by decide +kernel
theorem dL_law_578 : decode cL_law 578 = .ok (.invokevirtual 108, 3) := by decide +kernel
theorem dL_law_581 : decode cL_law 581 = .ok (.if_icmp .eq 518, 3) := by decide +kernel
theorem dL_law_584 : decode cL_law 584 = .ok (.iconst 0, 1) := by decide +kernel
theorem dL_law_585 : decode cL_law 585 = .ok (.ireturn, 1) := by decide +kernel
theorem dL_law_586 : decode cL_law 586 = .ok (.aload_n 1, 1) := by decide +kernel
theorem dL_law_587 : decode cL_law 587 = .ok (.aload_n 0, 1) := by decide +kernel
theorem dL_law_588 : decode cL_law 588 = .ok (.iload 4, 2) := by decide +kernel
theorem dL_law_590 : decode cL_law 590 = .ok (.iconst 1, 1) := by decide +kernel
theorem dL_law_591 : decode cL_law 591 = .ok (.iadd, 1) := by decide +kernel
theorem dL_law_592 : decode cL_law 592 = .ok (.iaload, 1) := by decide +kernel
theorem dL_law_593 : decode cL_law 593 = .ok (.aload_n 3, 1) := by decide +kernel
theorem dL_law_594 : decode cL_law 594 = .ok (.invokestatic 109, 3) := by decide +kernel
theorem dL_law_597 : decode cL_law 597 = .ok (.istore 5, 2) := by decide +kernel
theorem dL_law_599 : decode cL_law 599 = .ok (.aload_n 2, 1) := by decide +kernel
theorem dL_law_600 : decode cL_law 600 = .ok (.aload_n 0, 1) := by decide +kernel
theorem dL_law_601 : decode cL_law 601 = .ok (.iload 4, 2) := by decide +kernel
theorem dL_law_603 : decode cL_law 603 = .ok (.iconst 1, 1) := by decide +kernel
theorem dL_law_604 : decode cL_law 604 = .ok (.iadd, 1) := by decide +kernel
theorem dL_law_605 : decode cL_law 605 = .ok (.iaload, 1) := by decide +kernel
theorem dL_law_606 : decode cL_law 606 = .ok (.invokevirtual 111, 3) := by decide +kernel
theorem dL_law_609 : decode cL_law 609 = .ok (.istore 6, 2) := by decide +kernel
theorem dL_law_611 : decode cL_law 611 = .ok (.aload_n 2, 1) := by decide +kernel
theorem dL_law_612 : decode cL_law 612 = .ok (.invokevirtual 79, 3) := by decide +kernel
theorem dL_law_615 : decode cL_law 615 = .ok (.iload 5, 2) := by decide +kernel
theorem dL_law_617 : decode cL_law 617 = .ok (.if_icmp .eq 5, 3) := by decide +kernel
theorem dL_law_620 : decode cL_law 620 = .ok (.iconst 0, 1) := by decide +kernel
theorem dL_law_621 : decode cL_law 621 = .ok (.ireturn, 1) := by decide +kernel
theorem dL_law_622 : decode cL_law 622 = .ok (.iload 5, 2) := by decide +kernel
theorem dL_law_624 : decode cL_law 624 = .ok (.ifCond .ne 15, 3) := by decide +kernel
theorem dL_law_627 : decode cL_law 627 = .ok (.aload_n 3, 1) := by decide +kernel
theorem dL_law_628 : decode cL_law 628 = .ok (.iconst 0, 1) := by decide +kernel
theorem dL_law_629 : decode cL_law 629 = .ok (.laload, 1) := by decide +kernel
theorem dL_law_630 : decode cL_law 630 = .ok (.iload 6, 2) := by decide +kernel
theorem dL_law_632 : decode cL_law 632 = .ok (.i2l, 1) := by decide +kernel
theorem dL_law_633 : decode cL_law 633 = .ok (.lcmp, 1) := by decide +kernel
theorem dL_law_634 : decode cL_law 634 = .ok (.ifCond .eq 5, 3) := by decide +kernel
theorem dL_law_637 : decode cL_law 637 = .ok (.iconst 0, 1) := by decide +kernel
theorem dL_law_638 : decode cL_law 638 = .ok (.ireturn, 1) := by decide +kernel
theorem dL_law_639 : decode cL_law 639 = .ok (.goto 460, 3) := by decide +kernel
theorem dL_law_642 : decode cL_law 642 = .ok (.aload_n 1, 1) := by decide +kernel
theorem dL_law_643 : decode cL_law 643 = .ok (.aload_n 0, 1) := by decide +kernel
theorem dL_law_644 : decode cL_law 644 = .ok (.iload 4, 2) := by decide +kernel
theorem dL_law_646 : decode cL_law 646 = .ok (.iconst 1, 1) := by decide +kernel
theorem dL_law_647 : decode cL_law 647 = .ok (.iadd, 1) := by decide +kernel
theorem dL_law_648 : decode cL_law 648 = .ok (.iaload, 1) := by decide +kernel
theorem dL_law_649 : decode cL_law 649 = .ok (.aload_n 3, 1) := by decide +kernel
theorem dL_law_650 : decode cL_law 650 = .ok (.invokestatic 112, 3) := by decide +kernel
theorem dL_law_653 : decode cL_law 653 = .ok (.istore 5, 2) := by decide +kernel
theorem dL_law_655 : decode cL_law 655 = .ok (.aload_n 2, 1) := by decide +kernel
theorem dL_law_656 : decode cL_law 656 = .ok (.aload_n 0, 1) := by decide +kernel
theorem dL_law_657 : decode cL_law 657 = .ok (.iload 4, 2) := by decide +kernel
theorem dL_law_659 : decode cL_law 659 = .ok (.iconst 1, 1) := by decide +kernel
theorem dL_law_660 : decode cL_law 660 = .ok (.iadd, 1) := by decide +kernel
theorem dL_law_661 : decode cL_law 661 = .ok (.iaload, 1) := by decide +kernel
theorem dL_law_662 : decode cL_law 662 = .ok (.invokevirtual 114, 3) := by decide +kernel
theorem dL_law_665 : decode cL_law 665 = .ok (.istore 6, 2) := by decide +kernel
theorem dL_law_667 : decode cL_law 667 = .ok (.aload_n 2, 1) := by decide +kernel
theorem dL_law_668 : decode cL_law 668 = .ok (.invokevirtual 79, 3) := by decide +kernel
theorem dL_law_671 : decode cL_law 671 = .ok (.iload 5, 2) := by decide +kernel
theorem dL_law_673 : decode cL_law 673 = .ok (.if_icmp .eq 5, 3) := by decide +kernel
theorem dL_law_676 : decode cL_law 676 = .ok (.iconst 0, 1) := by decide +kernel
theorem dL_law_677 : decode cL_law 677 = .ok (.ireturn, 1) := by decide +kernel
theorem dL_law_678 : decode cL_law 678 = .ok (.iload 5, 2) := by decide +kernel
theorem dL_law_680 : decode cL_law 680 = .ok (.ifCond .ne 22, 3) := by decide +kernel
theorem dL_law_683 : decode cL_law 683 = .ok (.aload_n 3, 1) := by decide +kernel
theorem dL_law_684 : decode cL_law 684 = .ok (.iconst 0, 1) := by decide +kernel
theorem dL_law_685 : decode cL_law 685 = .ok (.laload, 1) := by decide +kernel
theorem dL_law_686 : decode cL_law 686 = .ok (.iload 6, 2) := by decide +kernel
theorem dL_law_688 : decode cL_law 688 = .ok (.ifCond .eq 7, 3) := by decide +kernel
theorem dL_law_691 : decode cL_law 691 = .ok (.lconst 1, 1) := by decide +kernel
theorem dL_law_692 : decode cL_law 692 = .ok (.goto 4, 3) := by decide +kernel
theorem dL_law_695 : decode cL_law 695 = .ok (.lconst 0, 1) := by decide +kernel
theorem dL_law_696 : decode cL_law 696 = .ok (.lcmp, 1) := by decide +kernel
theorem dL_law_697 : decode cL_law 697 = .ok (.ifCond .eq 5, 3) := by decide +kernel
theorem dL_law_700 : decode cL_law 700 = .ok (.iconst 0, 1) := by decide +kernel
theorem dL_law_701 : decode cL_law 701 = .ok (.ireturn, 1) := by decide +kernel
theorem dL_law_702 : decode cL_law 702 = .ok (.goto 397, 3) := by decide +kernel
theorem dL_law_705 : decode cL_law 705 = .ok (.aload_n 1, 1) := by decide +kernel
theorem dL_law_706 : decode cL_law 706 = .ok (.invokevirtual 115, 3) := by decide +kernel
theorem dL_law_709 : decode cL_law 709 = .ok (.aload_n 2, 1) := by decide +kernel
theorem dL_law_710 : decode cL_law 710 = .ok (.invokevirtual 118, 3) := by decide +kernel
theorem dL_law_713 : decode cL_law 713 = .ok (.if_icmp .eq 386, 3) := by decide +kernel
theorem dL_law_716 : decode cL_law 716 = .ok (.iconst 0, 1) := by decide +kernel
theorem dL_law_717 : decode cL_law 717 = .ok (.ireturn, 1) := by decide +kernel
theorem dL_law_718 : decode cL_law 718 = .ok (.aload_n 1, 1) := by decide +kernel
theorem dL_law_719 : decode cL_law 719 = .ok (.aload_n 0, 1) := by decide +kernel
theorem dL_law_720 : decode cL_law 720 = .ok (.iload 4, 2) := by decide +kernel
theorem dL_law_722 : decode cL_law 722 = .ok (.iconst 1, 1) := by decide +kernel
theorem dL_law_723 : decode cL_law 723 = .ok (.iadd, 1) := by decide +kernel
theorem dL_law_724 : decode cL_law 724 = .ok (.iaload, 1) := by decide +kernel
theorem dL_law_725 : decode cL_law 725 = .ok (.aload_n 0, 1) := by decide +kernel
theorem dL_law_726 : decode cL_law 726 = .ok (.iload 4, 2) := by decide +kernel
theorem dL_law_728 : decode cL_law 728 = .ok (.iconst 2, 1) := by decide +kernel
theorem dL_law_729 : decode cL_law 729 = .ok (.iadd, 1) := by decide +kernel
theorem dL_law_730 : decode cL_law 730 = .ok (.iaload, 1) := by decide +kernel
theorem dL_law_731 : decode cL_law 731 = .ok (.aload_n 3, 1) := by decide +kernel
theorem dL_law_732 : decode cL_law 732 = .ok (.invokestatic 119, 3) := by decide +kernel
theorem dL_law_735 : decode cL_law 735 = .ok (.istore 5, 2) := by decide +kernel
theorem dL_law_737 : decode cL_law 737 = .ok (.aload_n 2, 1) := by decide +kernel
theorem dL_law_738 : decode cL_law 738 = .ok (.aload_n 0, 1) := by decide +kernel
theorem dL_law_739 : decode cL_law 739 = .ok (.iload 4, 2) := by decide +kernel
theorem dL_law_741 : decode cL_law 741 = .ok (.iconst 1, 1) := by decide +kernel
theorem dL_law_742 : decode cL_law 742 = .ok (.iadd, 1) := by decide +kernel
theorem dL_law_743 : decode cL_law 743 = .ok (.iaload, 1) := by decide +kernel
theorem dL_law_744 : decode cL_law 744 = .ok (.aload_n 0, 1) := by decide +kernel
theorem dL_law_745 : decode cL_law 745 = .ok (.iload 4, 2) := by decide +kernel
theorem dL_law_747 : decode cL_law 747 = .ok (.iconst 2, 1) := by decide +kernel
theorem dL_law_748 : decode cL_law 748 = .ok (.iadd, 1) := by decide +kernel
theorem dL_law_749 : decode cL_law 749 = .ok (.iaload, 1) := by decide +kernel
theorem dL_law_750 : decode cL_law 750 = .ok (.invokevirtual 121, 3) := by decide +kernel
theorem dL_law_753 : decode cL_law 753 = .ok (.istore 6, 2) := by decide +kernel
theorem dL_law_755 : decode cL_law 755 = .ok (.aload_n 2, 1) := by decide +kernel
theorem dL_law_756 : decode cL_law 756 = .ok (.invokevirtual 79, 3) := by decide +kernel
theorem dL_law_759 : decode cL_law 759 = .ok (.iload 5, 2) := by decide +kernel
theorem dL_law_761 : decode cL_law 761 = .ok (.if_icmp .eq 5, 3) := by decide +kernel
theorem dL_law_764 : decode cL_law 764 = .ok (.iconst 0, 1) := by decide +kernel
theorem dL_law_765 : decode cL_law 765 = .ok (.ireturn, 1) := by decide +kernel
theorem dL_law_766 : decode cL_law 766 = .ok (.iload 5, 2) := by decide +kernel
theorem dL_law_768 : decode cL_law 768 = .ok (.ifCond .ne 15, 3) := by decide +kernel
theorem dL_law_771 : decode cL_law 771 = .ok (.aload_n 3, 1) := by decide +kernel
theorem dL_law_772 : decode cL_law 772 = .ok (.iconst 0, 1) := by decide +kernel
theorem dL_law_773 : decode cL_law 773 = .ok (.laload, 1) := by decide +kernel
theorem dL_law_774 : decode cL_law 774 = .ok (.iload 6, 2) := by decide +kernel
theorem dL_law_776 : decode cL_law 776 = .ok (.i2l, 1) := by decide +kernel
theorem dL_law_777 : decode cL_law 777 = .ok (.lcmp, 1) := by decide +kernel
theorem dL_law_778 : decode cL_law 778 = .ok (.ifCond .eq 5, 3) := by decide +kernel
theorem dL_law_781 : decode cL_law 781 = .ok (.iconst 0, 1) := by decide +kernel
theorem dL_law_782 : decode cL_law 782 = .ok (.ireturn, 1) := by decide +kernel
theorem dL_law_783 : decode cL_law 783 = .ok (.goto 316, 3) := by decide +kernel
theorem dL_law_786 : decode cL_law 786 = .ok (.aload_n 1, 1) := by decide +kernel
theorem dL_law_787 : decode cL_law 787 = .ok (.aload_n 0, 1) := by decide +kernel
theorem dL_law_788 : decode cL_law 788 = .ok (.iload 4, 2) := by decide +kernel
theorem dL_law_790 : decode cL_law 790 = .ok (.iconst 1, 1) := by decide +kernel
theorem dL_law_791 : decode cL_law 791 = .ok (.iadd, 1) := by decide +kernel
theorem dL_law_792 : decode cL_law 792 = .ok (.iaload, 1) := by decide +kernel
theorem dL_law_793 : decode cL_law 793 = .ok (.aload_n 3, 1) := by decide +kernel
theorem dL_law_794 : decode cL_law 794 = .ok (.invokestatic 122, 3) := by decide +kernel
theorem dL_law_797 : decode cL_law 797 = .ok (.istore 5, 2) := by decide +kernel
theorem dL_law_799 : decode cL_law 799 = .ok (.aload_n 2, 1) := by decide +kernel
theorem dL_law_800 : decode cL_law 800 = .ok (.aload_n 0, 1) := by decide +kernel
theorem dL_law_801 : decode cL_law 801 = .ok (.iload 4, 2) := by decide +kernel
theorem dL_law_803 : decode cL_law 803 = .ok (.iconst 1, 1) := by decide +kernel
theorem dL_law_804 : decode cL_law 804 = .ok (.iadd, 1) := by decide +kernel
theorem dL_law_805 : decode cL_law 805 = .ok (.iaload, 1) := by decide +kernel
theorem dL_law_806 : decode cL_law 806 = .ok (.invokevirtual 124, 3) := by decide +kernel
theorem dL_law_809 : decode cL_law 809 = .ok (.istore 6, 2) := by decide +kernel
theorem dL_law_811 : decode cL_law 811 = .ok (.aload_n 2, 1) := by decide +kernel
theorem dL_law_812 : decode cL_law 812 = .ok (.invokevirtual 79, 3) := by decide +kernel
theorem dL_law_815 : decode cL_law 815 = .ok (.iload 5, 2) := by decide +kernel
theorem dL_law_817 : decode cL_law 817 = .ok (.if_icmp .eq 5, 3) := by decide +kernel
theorem dL_law_820 : decode cL_law 820 = .ok (.iconst 0, 1) := by decide +kernel
theorem dL_law_821 : decode cL_law 821 = .ok (.ireturn, 1) := by decide +kernel
theorem dL_law_822 : decode cL_law 822 = .ok (.iload 5, 2) := by decide +kernel
theorem dL_law_824 : decode cL_law 824 = .ok (.ifCond .ne 15, 3) := by decide +kernel
theorem dL_law_827 : decode cL_law 827 = .ok (.aload_n 3, 1) := by decide +kernel
theorem dL_law_828 : decode cL_law 828 = .ok (.iconst 0, 1) := by decide +kernel
theorem dL_law_829 : decode cL_law 829 = .ok (.laload, 1) := by decide +kernel
theorem dL_law_830 : decode cL_law 830 = .ok (.iload 6, 2) := by decide +kernel
theorem dL_law_832 : decode cL_law 832 = .ok (.i2l, 1) := by decide +kernel
theorem dL_law_833 : decode cL_law 833 = .ok (.lcmp, 1) := by decide +kernel
theorem dL_law_834 : decode cL_law 834 = .ok (.ifCond .eq 5, 3) := by decide +kernel
theorem dL_law_837 : decode cL_law 837 = .ok (.iconst 0, 1) := by decide +kernel
theorem dL_law_838 : decode cL_law 838 = .ok (.ireturn, 1) := by decide +kernel
theorem dL_law_839 : decode cL_law 839 = .ok (.goto 260, 3) := by decide +kernel
theorem dL_law_842 : decode cL_law 842 = .ok (.aload_n 1, 1) := by decide +kernel
theorem dL_law_843 : decode cL_law 843 = .ok (.aload_n 0, 1) := by decide +kernel
theorem dL_law_844 : decode cL_law 844 = .ok (.iload 4, 2) := by decide +kernel
theorem dL_law_846 : decode cL_law 846 = .ok (.iconst 1, 1) := by decide +kernel
theorem dL_law_847 : decode cL_law 847 = .ok (.iadd, 1) := by decide +kernel
theorem dL_law_848 : decode cL_law 848 = .ok (.iaload, 1) := by decide +kernel
theorem dL_law_849 : decode cL_law 849 = .ok (.aload_n 3, 1) := by decide +kernel
theorem dL_law_850 : decode cL_law 850 = .ok (.invokestatic 125, 3) := by decide +kernel
theorem dL_law_853 : decode cL_law 853 = .ok (.istore 5, 2) := by decide +kernel
theorem dL_law_855 : decode cL_law 855 = .ok (.aload_n 2, 1) := by decide +kernel
theorem dL_law_856 : decode cL_law 856 = .ok (.aload_n 0, 1) := by decide +kernel
theorem dL_law_857 : decode cL_law 857 = .ok (.iload 4, 2) := by decide +kernel
theorem dL_law_859 : decode cL_law 859 = .ok (.iconst 1, 1) := by decide +kernel
theorem dL_law_860 : decode cL_law 860 = .ok (.iadd, 1) := by decide +kernel
theorem dL_law_861 : decode cL_law 861 = .ok (.iaload, 1) := by decide +kernel
theorem dL_law_862 : decode cL_law 862 = .ok (.invokevirtual 127, 3) := by decide +kernel
theorem dL_law_865 : decode cL_law 865 = .ok (.istore 6, 2) := by decide +kernel
theorem dL_law_867 : decode cL_law 867 = .ok (.aload_n 2, 1) := by decide +kernel
theorem dL_law_868 : decode cL_law 868 = .ok (.invokevirtual 79, 3) := by decide +kernel
theorem dL_law_871 : decode cL_law 871 = .ok (.iload 5, 2) := by decide +kernel
theorem dL_law_873 : decode cL_law 873 = .ok (.if_icmp .eq 5, 3) := by decide +kernel
theorem dL_law_876 : decode cL_law 876 = .ok (.iconst 0, 1) := by decide +kernel
theorem dL_law_877 : decode cL_law 877 = .ok (.ireturn, 1) := by decide +kernel
theorem dL_law_878 : decode cL_law 878 = .ok (.iload 5, 2) := by decide +kernel
theorem dL_law_880 : decode cL_law 880 = .ok (.ifCond .ne 15, 3) := by decide +kernel
theorem dL_law_883 : decode cL_law 883 = .ok (.aload_n 3, 1) := by decide +kernel
theorem dL_law_884 : decode cL_law 884 = .ok (.iconst 0, 1) := by decide +kernel
theorem dL_law_885 : decode cL_law 885 = .ok (.laload, 1) := by decide +kernel
theorem dL_law_886 : decode cL_law 886 = .ok (.iload 6, 2) := by decide +kernel
theorem dL_law_888 : decode cL_law 888 = .ok (.i2l, 1) := by decide +kernel
theorem dL_law_889 : decode cL_law 889 = .ok (.lcmp, 1) := by decide +kernel
theorem dL_law_890 : decode cL_law 890 = .ok (.ifCond .eq 5, 3) := by decide +kernel
theorem dL_law_893 : decode cL_law 893 = .ok (.iconst 0, 1) := by decide +kernel
theorem dL_law_894 : decode cL_law 894 = .ok (.ireturn, 1) := by decide +kernel
theorem dL_law_895 : decode cL_law 895 = .ok (.goto 204, 3) := by decide +kernel
theorem dL_law_898 : decode cL_law 898 = .ok (.aload_n 1, 1) := by decide +kernel
theorem dL_law_899 : decode cL_law 899 = .ok (.aload_n 0, 1) := by decide +kernel
theorem dL_law_900 : decode cL_law 900 = .ok (.iload 4, 2) := by decide +kernel
theorem dL_law_902 : decode cL_law 902 = .ok (.iconst 1, 1) := by decide +kernel
theorem dL_law_903 : decode cL_law 903 = .ok (.iadd, 1) := by decide +kernel
theorem dL_law_904 : decode cL_law 904 = .ok (.iaload, 1) := by decide +kernel
theorem dL_law_905 : decode cL_law 905 = .ok (.aload_n 3, 1) := by decide +kernel
theorem dL_law_906 : decode cL_law 906 = .ok (.invokestatic 128, 3) := by decide +kernel
theorem dL_law_909 : decode cL_law 909 = .ok (.istore 5, 2) := by decide +kernel
theorem dL_law_911 : decode cL_law 911 = .ok (.aload_n 2, 1) := by decide +kernel
theorem dL_law_912 : decode cL_law 912 = .ok (.aload_n 0, 1) := by decide +kernel
theorem dL_law_913 : decode cL_law 913 = .ok (.iload 4, 2) := by decide +kernel
theorem dL_law_915 : decode cL_law 915 = .ok (.iconst 1, 1) := by decide +kernel
theorem dL_law_916 : decode cL_law 916 = .ok (.iadd, 1) := by decide +kernel
theorem dL_law_917 : decode cL_law 917 = .ok (.iaload, 1) := by decide +kernel
theorem dL_law_918 : decode cL_law 918 = .ok (.invokevirtual 130, 3) := by decide +kernel
theorem dL_law_921 : decode cL_law 921 = .ok (.istore 6, 2) := by decide +kernel
theorem dL_law_923 : decode cL_law 923 = .ok (.aload_n 2, 1) := by decide +kernel
theorem dL_law_924 : decode cL_law 924 = .ok (.invokevirtual 79, 3) := by decide +kernel
theorem dL_law_927 : decode cL_law 927 = .ok (.iload 5, 2) := by decide +kernel
theorem dL_law_929 : decode cL_law 929 = .ok (.if_icmp .eq 5, 3) := by decide +kernel
theorem dL_law_932 : decode cL_law 932 = .ok (.iconst 0, 1) := by decide +kernel
theorem dL_law_933 : decode cL_law 933 = .ok (.ireturn, 1) := by decide +kernel
theorem dL_law_934 : decode cL_law 934 = .ok (.iload 5, 2) := by decide +kernel
theorem dL_law_936 : decode cL_law 936 = .ok (.ifCond .ne 15, 3) := by decide +kernel
theorem dL_law_939 : decode cL_law 939 = .ok (.aload_n 3, 1) := by decide +kernel
theorem dL_law_940 : decode cL_law 940 = .ok (.iconst 0, 1) := by decide +kernel
theorem dL_law_941 : decode cL_law 941 = .ok (.laload, 1) := by decide +kernel
theorem dL_law_942 : decode cL_law 942 = .ok (.iload 6, 2) := by decide +kernel
theorem dL_law_944 : decode cL_law 944 = .ok (.i2l, 1) := by decide +kernel
theorem dL_law_945 : decode cL_law 945 = .ok (.lcmp, 1) := by decide +kernel
theorem dL_law_946 : decode cL_law 946 = .ok (.ifCond .eq 5, 3) := by decide +kernel
theorem dL_law_949 : decode cL_law 949 = .ok (.iconst 0, 1) := by decide +kernel
theorem dL_law_950 : decode cL_law 950 = .ok (.ireturn, 1) := by decide +kernel
theorem dL_law_951 : decode cL_law 951 = .ok (.goto 148, 3) := by decide +kernel
theorem dL_law_954 : decode cL_law 954 = .ok (.aload_n 1, 1) := by decide +kernel
theorem dL_law_955 : decode cL_law 955 = .ok (.aload_n 3, 1) := by decide +kernel
theorem dL_law_956 : decode cL_law 956 = .ok (.invokestatic 131, 3) := by decide +kernel
theorem dL_law_959 : decode cL_law 959 = .ok (.istore 5, 2) := by decide +kernel
theorem dL_law_961 : decode cL_law 961 = .ok (.aload_n 2, 1) := by decide +kernel
theorem dL_law_962 : decode cL_law 962 = .ok (.invokevirtual 134, 3) := by decide +kernel
theorem dL_law_965 : decode cL_law 965 = .ok (.istore 6, 2) := by decide +kernel
theorem dL_law_967 : decode cL_law 967 = .ok (.aload_n 2, 1) := by decide +kernel
theorem dL_law_968 : decode cL_law 968 = .ok (.invokevirtual 79, 3) := by decide +kernel
theorem dL_law_971 : decode cL_law 971 = .ok (.iload 5, 2) := by decide +kernel
theorem dL_law_973 : decode cL_law 973 = .ok (.if_icmp .eq 5, 3) := by decide +kernel
theorem dL_law_976 : decode cL_law 976 = .ok (.iconst 0, 1) := by decide +kernel
theorem dL_law_977 : decode cL_law 977 = .ok (.ireturn, 1) := by decide +kernel
theorem dL_law_978 : decode cL_law 978 = .ok (.iload 5, 2) := by decide +kernel
theorem dL_law_980 : decode cL_law 980 = .ok (.ifCond .ne 15, 3) := by decide +kernel
theorem dL_law_983 : decode cL_law 983 = .ok (.aload_n 3, 1) := by decide +kernel
theorem dL_law_984 : decode cL_law 984 = .ok (.iconst 0, 1) := by decide +kernel
theorem dL_law_985 : decode cL_law 985 = .ok (.laload, 1) := by decide +kernel
theorem dL_law_986 : decode cL_law 986 = .ok (.iload 6, 2) := by decide +kernel
theorem dL_law_988 : decode cL_law 988 = .ok (.i2l, 1) := by decide +kernel
theorem dL_law_989 : decode cL_law 989 = .ok (.lcmp, 1) := by decide +kernel
theorem dL_law_990 : decode cL_law 990 = .ok (.ifCond .eq 5, 3) := by decide +kernel
theorem dL_law_993 : decode cL_law 993 = .ok (.iconst 0, 1) := by decide +kernel
theorem dL_law_994 : decode cL_law 994 = .ok (.ireturn, 1) := by decide +kernel
theorem dL_law_995 : decode cL_law 995 = .ok (.goto 104, 3) := by decide +kernel
theorem dL_law_998 : decode cL_law 998 = .ok (.aload_n 1, 1) := by decide +kernel
theorem dL_law_999 : decode cL_law 999 = .ok (.aload_n 3, 1) := by decide +kernel
theorem dL_law_1000 : decode cL_law 1000 = .ok (.invokestatic 135, 3) := by decide +kernel
theorem dL_law_1003 : decode cL_law 1003 = .ok (.istore 5, 2) := by decide +kernel
theorem dL_law_1005 : decode cL_law 1005 = .ok (.aload_n 2, 1) := by decide +kernel
theorem dL_law_1006 : decode cL_law 1006 = .ok (.invokevirtual 137, 3) := by decide +kernel
theorem dL_law_1009 : decode cL_law 1009 = .ok (.istore 6, 2) := by decide +kernel
theorem dL_law_1011 : decode cL_law 1011 = .ok (.aload_n 2, 1) := by decide +kernel
theorem dL_law_1012 : decode cL_law 1012 = .ok (.invokevirtual 79, 3) := by decide +kernel
theorem dL_law_1015 : decode cL_law 1015 = .ok (.iload 5, 2) := by decide +kernel
theorem dL_law_1017 : decode cL_law 1017 = .ok (.if_icmp .eq 5, 3) := by decide +kernel
theorem dL_law_1020 : decode cL_law 1020 = .ok (.iconst 0, 1) := by decide +kernel
theorem dL_law_1021 : decode cL_law 1021 = .ok (.ireturn, 1) := by decide +kernel
theorem dL_law_1022 : decode cL_law 1022 = .ok (.iload 5, 2) := by decide +kernel
theorem dL_law_1024 : decode cL_law 1024 = .ok (.ifCond .ne 15, 3) := by decide +kernel
theorem dL_law_1027 : decode cL_law 1027 = .ok (.aload_n 3, 1) := by decide +kernel
theorem dL_law_1028 : decode cL_law 1028 = .ok (.iconst 0, 1) := by decide +kernel
theorem dL_law_1029 : decode cL_law 1029 = .ok (.laload, 1) := by decide +kernel
theorem dL_law_1030 : decode cL_law 1030 = .ok (.iload 6, 2) := by decide +kernel
theorem dL_law_1032 : decode cL_law 1032 = .ok (.i2l, 1) := by decide +kernel
theorem dL_law_1033 : decode cL_law 1033 = .ok (.lcmp, 1) := by decide +kernel
theorem dL_law_1034 : decode cL_law 1034 = .ok (.ifCond .eq 5, 3) := by decide +kernel
theorem dL_law_1037 : decode cL_law 1037 = .ok (.iconst 0, 1) := by decide +kernel
theorem dL_law_1038 : decode cL_law 1038 = .ok (.ireturn, 1) := by decide +kernel
theorem dL_law_1039 : decode cL_law 1039 = .ok (.goto 60, 3) := by decide +kernel
theorem dL_law_1042 : decode cL_law 1042 = .ok (.aload_n 1, 1) := by decide +kernel
theorem dL_law_1043 : decode cL_law 1043 = .ok (.aload_n 3, 1) := by decide +kernel
theorem dL_law_1044 : decode cL_law 1044 = .ok (.invokestatic 138, 3) := by decide +kernel
theorem dL_law_1047 : decode cL_law 1047 = .ok (.istore 5, 2) := by decide +kernel
theorem dL_law_1049 : decode cL_law 1049 = .ok (.aload_n 2, 1) := by decide +kernel
theorem dL_law_1050 : decode cL_law 1050 = .ok (.invokevirtual 140, 3) := by decide +kernel
theorem dL_law_1053 : decode cL_law 1053 = .ok (.istore 6, 2) := by decide +kernel
theorem dL_law_1055 : decode cL_law 1055 = .ok (.aload_n 2, 1) := by decide +kernel
theorem dL_law_1056 : decode cL_law 1056 = .ok (.invokevirtual 79, 3) := by decide +kernel
theorem dL_law_1059 : decode cL_law 1059 = .ok (.iload 5, 2) := by decide +kernel
theorem dL_law_1061 : decode cL_law 1061 = .ok (.if_icmp .eq 5, 3) := by decide +kernel
theorem dL_law_1064 : decode cL_law 1064 = .ok (.iconst 0, 1) := by decide +kernel
theorem dL_law_1065 : decode cL_law 1065 = .ok (.ireturn, 1) := by decide +kernel
theorem dL_law_1066 : decode cL_law 1066 = .ok (.iload 5, 2) := by decide +kernel
theorem dL_law_1068 : decode cL_law 1068 = .ok (.ifCond .ne 15, 3) := by decide +kernel
theorem dL_law_1071 : decode cL_law 1071 = .ok (.aload_n 3, 1) := by decide +kernel
theorem dL_law_1072 : decode cL_law 1072 = .ok (.iconst 0, 1) := by decide +kernel
theorem dL_law_1073 : decode cL_law 1073 = .ok (.laload, 1) := by decide +kernel
theorem dL_law_1074 : decode cL_law 1074 = .ok (.iload 6, 2) := by decide +kernel
theorem dL_law_1076 : decode cL_law 1076 = .ok (.i2l, 1) := by decide +kernel
theorem dL_law_1077 : decode cL_law 1077 = .ok (.lcmp, 1) := by decide +kernel
theorem dL_law_1078 : decode cL_law 1078 = .ok (.ifCond .eq 5, 3) := by decide +kernel
theorem dL_law_1081 : decode cL_law 1081 = .ok (.iconst 0, 1) := by decide +kernel
theorem dL_law_1082 : decode cL_law 1082 = .ok (.ireturn, 1) := by decide +kernel
theorem dL_law_1083 : decode cL_law 1083 = .ok (.goto 16, 3) := by decide +kernel
theorem dL_law_1086 : decode cL_law 1086 = .ok (.aload_n 1, 1) := by decide +kernel
theorem dL_law_1087 : decode cL_law 1087 = .ok (.invokevirtual 141, 3) := by decide +kernel
theorem dL_law_1090 : decode cL_law 1090 = .ok (.aload_n 2, 1) := by decide +kernel
theorem dL_law_1091 : decode cL_law 1091 = .ok (.invokevirtual 144, 3) := by decide +kernel
theorem dL_law_1094 : decode cL_law 1094 = .ok (.if_icmp .eq 5, 3) := by decide +kernel
theorem dL_law_1097 : decode cL_law 1097 = .ok (.iconst 0, 1) := by decide +kernel
theorem dL_law_1098 : decode cL_law 1098 = .ok (.ireturn, 1) := by decide +kernel
theorem dL_law_1099 : decode cL_law 1099 = .ok (.iinc 4 3, 3) := by decide +kernel
theorem dL_law_1102 : decode cL_law 1102 = .ok (.goto (-1079), 3) := by decide +kernel
theorem dL_law_1105 : decode cL_law 1105 = .ok (.iconst 1, 1) := by decide +kernel
theorem dL_law_1106 : decode cL_law 1106 = .ok (.ireturn, 1) := by decide +kernel
end
section
/-! WORLDS. The class's object at h with its eleven arrays; the reference's object with its seven; the law's own array of one long. Contents are functions of the place; scalars are Int32. -/
abbrev zT (cI cZ cJ : ClassId) : List (ClassId × FieldType) := [(cI, .int), (cZ, .boolean), (cJ, .long)]
abbrev wQ (cI cZ : ClassId) (h a0 a1 a2 a3 a4 a5 a6 a7 a8 a9 a10 : Nat) (f0 f1 f2 f3 f4 f5 f6 f7 f8 f9 f10 : Nat → Int32) (v0 v1 v2 v3 : Int32) : va_W :=
  [(h, .inr (0, [.ref a0, .ref a1, .ref a2, .ref a3, .ref a4, .ref a5, .ref a6, .ref a7, .ref a8, .int v0, .int v1, .int v2, .int v3, .ref a9, .ref a10])), (a0, .inl (cI, 8, .inl f0)), (a1, .inl (cI, 8, .inl f1)), (a2, .inl (cI, 8, .inl f2)), (a3, .inl (cI, 8, .inl f3)), (a4, .inl (cI, 8, .inl f4)), (a5, .inl (cI, 8, .inl f5)), (a6, .inl (cI, 8, .inl f6)), (a7, .inl (cI, 6, .inl f7)), (a8, .inl (cZ, 6, .inl f8)), (a9, .inl (cI, 8, .inl f9)), (a10, .inl (cI, 8, .inl f10))]
abbrev wM (cI cZ : ClassId) (h a0 a4 a5 a6 a7 a8 a9 : Nat) (f0 f4 f5 f6 f7 f8 f9 : Nat → Int32) (v0 v1 v2 v3 v4 : Int32) : va_W :=
  [(h, .inr (1, [.ref a0, .ref a4, .ref a5, .ref a6, .int v0, .int v1, .ref a7, .ref a8, .int v2, .int v3, .ref a9, .int v4])), (a0, .inl (cI, 8, .inl f0)), (a4, .inl (cI, 8, .inl f4)), (a5, .inl (cI, 8, .inl f5)), (a6, .inl (cI, 8, .inl f6)), (a7, .inl (cI, 6, .inl f7)), (a8, .inl (cZ, 6, .inl f8)), (a9, .inl (cI, 8, .inl f9))]
abbrev wO (cJ : ClassId) (ao : Nat) (g : Nat → Int64) : va_W := [(ao, .inl (cJ, 1, .inr (.inl g)))]
/-- what a method that only reads is given: its world lies in the heap -/
def zP (D : va_G) (cI cZ cJ : ClassId) (w : va_W) (U : State) : Prop := va_P D vwCl w U.heap ∧ va_K D vwCl (zT cI cZ cJ) U
theorem zP_mk {D : va_G} {cI cZ cJ : ClassId} {w : va_W} {s U : State} {H : Heap} (hP : va_P D vwCl w H) (hK : va_K D vwCl (zT cI cZ cJ) s) (hU : U.heap = H) (hW : s.WarmedH U.vm) : zP D cI cZ cJ w U := ⟨by rw [hU]; exact hP, va_K.moved hW.alike hK⟩
theorem zP_blind {av : List Value} {D : va_G} {cI cZ cJ : ClassId} {w : va_W} : FrameBlind (va_Pc av (zP D cI cZ cJ w)) := fun a U g mk q => ⟨q.1, q.2.1, va_K.moved (u := U) (U := U.calling g mk a) (Vm.Alike.refl U.vm) q.2.2⟩
/-- what a method that writes is given: the cells are apart, the heap has sz cells -/
def zD (D : va_G) (cI cZ cJ : ClassId) (sz : Nat) (w : va_W) (U : State) : Prop := U.heap.size = sz ∧ va_P D vwCl w U.heap ∧ va_K D vwCl (zT cI cZ cJ) U ∧ va_D (fun _ => True) w
theorem zD_mk {D : va_G} {cI cZ cJ : ClassId} {w : va_W} {s U : State} {H : Heap} {A : Nat → Prop} (hP : va_P D vwCl w H) (hK : va_K D vwCl (zT cI cZ cJ) s) (hD : va_D A w) (hU : U.heap = H) (hW : s.WarmedH U.vm) : zD D cI cZ cJ H.size w U := ⟨by rw [hU], by rw [hU]; exact hP, va_K.moved hW.alike hK, hD.weaken (fun _ _ _ _ => trivial)⟩
theorem zD_blind {av : List Value} {D : va_G} {cI cZ cJ : ClassId} {sz : Nat} {w : va_W} : FrameBlind (va_Pc av (zD D cI cZ cJ sz w)) := fun a U g mk q => ⟨q.1, q.2.1, q.2.2.1, va_K.moved (u := U) (U := U.calling g mk a) (Vm.Alike.refl U.vm) q.2.2.2.1, q.2.2.2.2⟩
/-- and what it leaves -/
def zB (D : va_G) (cI cZ cJ : ClassId) (A : Nat → Prop) (w : va_W) (t : State) : Prop := va_P D vwCl w t.heap ∧ va_K D vwCl (zT cI cZ cJ) t ∧ va_D A w
/-- the texts of the class's exceptions, the pool's two statics, and who isn't castable to whom -/
def zStr : List (Nat × String) := [(55, "the giver would have too much in"), (64, "the giver would trust itself"), (68, "no such person"), (76, "there would be too much in the pot"), (81, "there are as many milestones as there may be"), (83, "no such milestone"), (88, "the milestone is released"), (92, "no such vote"), (99, "no current milestone"), (105, "neither yes nor no"), (132, "no current milestone, or not proved, or not enough in"), (140, "not enough votes for yes"), (155, "no such giver"), (157, "the amount is out of range"), (161, "no current milestone, or not enough in")]
def zNcs : List (String × String) := [("java/lang/IllegalArgumentException", "java/lang/IndexOutOfBoundsException"), ("java/lang/IllegalStateException", "java/lang/IndexOutOfBoundsException"), ("java/lang/IllegalStateException", "java/lang/IllegalArgumentException"), ("java/util/NoSuchElementException", "java/lang/IndexOutOfBoundsException")]
/-- words of a throw that a warming doesn't keep by their form: found in the tables all the same -/
def zBad : List Cond := [.declares (Bundle.initS "java/lang/Throwable"), .declares (Bundle.initS "java/lang/Exception"), .declares (Bundle.initS "java/lang/RuntimeException"), .castable "java/lang/IndexOutOfBoundsException" "java/lang/IndexOutOfBoundsException", .castable "java/lang/IllegalArgumentException" "java/lang/IllegalArgumentException", .castable "java/lang/IllegalStateException" "java/lang/IllegalStateException", .castable "java/util/NoSuchElementException" "java/util/NoSuchElementException"]
theorem zBad_ot : ∀ w ∈ zBad, w.onTables = true := by decide +kernel
theorem zBad_moved {u U : State} (hvm : u.vm.Alike U.vm) {w : Cond} (hw : w ∈ zBad) (h : va_Nw w u) : va_Nw w U := by
  have tr : w.before #[] (u.setVm U.vm) = true → va_Nw w U := by
    intro h
    have e := Cond.onTables_vm (A := #[]) (A' := #[]) (U := u) (U' := U) U.vm w (zBad_ot w hw)
    have hU : U.setVm U.vm = U := rfl
    rw [hU] at e
    show w.before #[] U = true
    rw [← e]
    exact h
  refine tr ?_
  simp only [zBad, List.mem_cons, List.not_mem_nil, or_false] at hw
  rcases hw with rfl | rfl | rfl | rfl | rfl | rfl | rfl
  · rw [Cond.declares_setVm hvm]; exact h
  · rw [Cond.declares_setVm hvm]; exact h
  · rw [Cond.declares_setVm hvm]; exact h
  · rw [Cond.castable_setVm hvm]; exact h
  · rw [Cond.castable_setVm hvm]; exact h
  · rw [Cond.castable_setVm hvm]; exact h
  · rw [Cond.castable_setVm hvm]; exact h
def zX (U : State) : Prop := (∀ w ∈ zBad, va_Nw w U) ∧ (∀ q ∈ zStr, ∃ sa, vk_R "Quorumfund" q.1 q.2 sa U) ∧ (∀ q ∈ zNcs, va_Nc q.1 q.2 U) ∧ vx_Zq Bundle.tN "UNASSIGNED_STACK" Bundle.steD (fun _ => False) U U.heap ∧ vx_Zq Bundle.tN "SUPPRESSED_SENTINEL" Bundle.listD (fun _ => False) U U.heap
theorem zX_same {u U : State} (hv : U.vm = u.vm) (hh : U.heap = u.heap) (h : zX u) : zX U := by
  have ha : u.vm.Alike U.vm := by rw [hv]; exact Vm.Alike.refl _
  refine ⟨fun w hw => zBad_moved ha hw (h.1 w hw), fun q hq => ?_, fun q hq => va_Nc.moved ha (h.2.2.1 q hq), ?_, ?_⟩
  · obtain ⟨sa, z⟩ := h.2.1 q hq
    exact ⟨sa, vk_R.same hv z⟩
  · rw [hh]; exact vx_Zq.moved ha h.2.2.2.1
  · rw [hh]; exact vx_Zq.moved ha h.2.2.2.2
theorem zX_at {s U : State} (h : zX s) (hU : U.heap = s.heap) (hW : s.WarmedH U.vm) : zX U := by
  refine ⟨fun w hw => zBad_moved hW.alike hw (h.1 w hw), fun q hq => ?_, fun q hq => va_Nc.moved hW.alike (h.2.2.1 q hq), ?_, ?_⟩
  · obtain ⟨sa, z⟩ := h.2.1 q hq
    exact ⟨sa, vk_R.warm hW z⟩
  · rw [hU]; exact vx_Zq.moved hW.alike h.2.2.2.1
  · rw [hU]; exact vx_Zq.moved hW.alike h.2.2.2.2
/-- the same, seen from a state whose heap has grown outside of A -/
theorem zX_on {s U : State} {H : Heap} {locs : List Loc} {A : Nat → Prop} (h : zX s) (hS : va_S A s.heap H locs) (hA : ∀ q, A q → s.heap.size ≤ q) (hU : U.heap = H) (hW : s.WarmedH U.vm) : zX U := by
  have k : ∀ a : Nat, a < s.heap.size → ¬ (fun _ : Nat => False) a → H[a]? = s.heap[a]? := fun a ha _ => hS.2.1 a ha (fun z => Nat.lt_irrefl _ (Nat.lt_of_lt_of_le ha (hA a z)))
  refine ⟨fun w hw => zBad_moved hW.alike hw (h.1 w hw), fun q hq => ?_, fun q hq => va_Nc.moved hW.alike (h.2.2.1 q hq), ?_, ?_⟩
  · obtain ⟨sa, z⟩ := h.2.1 q hq
    exact ⟨sa, vk_R.warm hW z⟩
  · rw [hU]; exact vx_Zq.moved hW.alike (h.2.2.2.1.kept k)
  · rw [hU]; exact vx_Zq.moved hW.alike (h.2.2.2.2.kept k)
def zPX (D : va_G) (cI cZ cJ : ClassId) (w : va_W) (U : State) : Prop := zX U ∧ zP D cI cZ cJ w U
theorem zPX_blind {av : List Value} {D : va_G} {cI cZ cJ : ClassId} {w : va_W} : FrameBlind (va_Pc av (zPX D cI cZ cJ w)) := fun a U g mk q => ⟨q.1, zX_same (u := U) rfl rfl q.2.1, (zP_blind a U g mk ⟨q.1, q.2.2⟩).2⟩
def zDX (D : va_G) (cI cZ cJ : ClassId) (sz : Nat) (w : va_W) (U : State) : Prop := zX U ∧ zD D cI cZ cJ sz w U
theorem zDX_blind {av : List Value} {D : va_G} {cI cZ cJ : ClassId} {sz : Nat} {w : va_W} : FrameBlind (va_Pc av (zDX D cI cZ cJ sz w)) := fun a U g mk q => ⟨q.1, zX_same (u := U) rfl rfl q.2.1, (zD_blind a U g mk ⟨q.1, q.2.2⟩).2⟩
/-- a call that throws: it never comes back, what is thrown is of a class E with cx, nothing old has changed -/
def zNo : Array Value → State → Outcome → State → Prop := fun _ _ _ _ => False
abbrev zXC (cx : String → Prop) : String → State → State → Prop := vx_X (fun _ : Unit => True) (fun E _ _ => cx E) (fun _ => False)
section ZT
variable {p : Program} {l : Launch} {e : Env} {R : Room} {s : State} {m : MethodId} {args : Array Value} {below : List Frame} {meth : Method} {c : Code} {H : Heap} {locs : List Loc} {cells slots : Nat} {Q : State → Prop}
variable {Qc : Array Value → State → Outcome → State → Prop} {pc : Nat} {ls : Array Slot} {st0 rest : List Value} {a : Array Value} {cx cy : String → Prop}
theorem z_thru {free : Addr → Prop} (hr : vx_Run p l e R s m args below meth c s.heap [] 0 0 1 6 (F0 m pc ls st0) rest (zNo a) (zXC cx) free) (hf : ∀ q, free q → False) (hout : ∀ x ∈ c.exceptionTable.toList, False) (hlocks : meth.locks = false) (hc : ∀ E, cx E → cy E) :
    W p l e R s m args below meth c s.heap [] 0 0 (vx_MQ below Qc (zXC cy) args s 1 6 (fun _ => False)) (F0 m pc ls st0) := by
  intro T hT X
  rcases hr T hT X with ⟨v, st₀, t, T', L, h0, X', hL, e1, e2, hn, st⟩ | ⟨q, st₀, t, T', L, E, ce, h0, X', hL, e1, e2, ⟨u, hp, hb, hF⟩, hce, hcv, hcl, st⟩
  · exact hn.elim
  · obtain ⟨t2, a1, b1⟩ := vx_out (p := p) (l := l) (e := e) (R := R) (s := s) (m := m) (args := args) (below := below) (meth := meth) (c := c) (H := T'.heap) (Qc := Qc) (XC := zXC cy) (free := fun _ => False) (ls := ls) (rest := rest) (pc := pc) (E := E) (q := q) (ce := ce) (locs := [] ++ L) (cells := 0 + 1) (slots := 0 + 6) (mc := 1) (ms := 6)
      (fun x hx => (hout x hx).elim) hlocks (by rw [e1]; exact hce) hcv hcl (fun t9 ht9 _ => ⟨(), trivial, hc E hb, by rw [ht9, e1, ← h0]; exact hF.1, fun q9 h9 z9 => by rw [ht9, e1, ← h0]; exact hF.2 q9 (by rw [h0]; exact h9) z9⟩)
      (fun z hz => hf _ (hL z (by simpa using hz))) (by omega) (by omega) T' rfl X'
    exact ⟨t2, st.trans a1, b1⟩
theorem z_catch {A0 : Nat → Prop} {H0 : Heap} {free : Addr → Prop} (hr : vx_Run p l e R s m args below meth c H locs cells slots 1 6 (F0 m pc ls st0) rest (zNo a) (zXC cx) free) (hf : ∀ q, free q → False) (hS : va_S A0 H0 H locs)
    (kx : ∀ (E : String) (ce : Cell) (q9 : Addr) (H1 : Heap) (locs1 : List Loc), cx E → (∀ q : Nat, q < H.size → H1[q]? = H[q]?) → va_S A0 H0 H1 locs1 → H1[q9]? = some ce → ce.vm = .none → s.vm.findClass E = some ce.cls → vx_W p l e R s m args below meth c H1 locs1 (cells + 1) (slots + 6) Q (F0 m pc ls rest) q9) :
    W p l e R s m args below meth c H locs cells slots Q (F0 m pc ls st0) := by
  intro T hT X
  rcases hr T hT X with ⟨v, st₀, t, T', L, h0, X', hL, e1, e2, hn, st⟩ | ⟨q, st₀, t, T', L, E, ce, h0, X', hL, e1, e2, ⟨u, hp, hb, hF⟩, hce, hcv, hcl, st⟩
  · exact hn.elim
  · obtain ⟨k1, k2, k3⟩ := vx_keep h0 e1 hS (fun _ _ z => z.elim) (fun q z => (hf q z).elim) hL hF
    obtain ⟨t2, a1, b1⟩ := kx E ce q T'.heap (locs ++ L) hb (fun q h1 => k2 q h1 (fun z => z)) k3 (by rw [e1]; exact hce) hcv hcl T' rfl X'
    exact ⟨t2, st.trans a1, b1⟩
end ZT
/-- an array's class is one: what the tables say of a new array -/
theorem z_sameI {D : va_G} {cl : List vw_C} {cI cZ cJ cA : ClassId} {s : State} (h : va_K D cl (zT cI cZ cJ ++ [(cA, .int)]) s) : cA = cI := by
  have h0 := (h.2 0 _ rfl).2
  have h3 := (h.2 3 _ rfl).2
  exact Option.some.inj (h3.symm.trans h0)
theorem z_sameZ {D : va_G} {cl : List vw_C} {cI cZ cJ cA : ClassId} {s : State} (h : va_K D cl (zT cI cZ cJ ++ [(cA, .boolean)]) s) : cA = cZ := by
  have h0 := (h.2 1 _ rfl).2
  have h3 := (h.2 3 _ rfl).2
  exact Option.some.inj (h3.symm.trans h0)
theorem z_sameJ {D : va_G} {cl : List vw_C} {cI cZ cJ cA : ClassId} {s : State} (h : va_K D cl (zT cI cZ cJ ++ [(cA, .long)]) s) : cA = cJ := by
  have h0 := (h.2 2 _ rfl).2
  have h3 := (h.2 3 _ rfl).2
  exact Option.some.inj (h3.symm.trans h0)
theorem zN_blind {av : List Value} : FrameBlind (va_Pc av (fun _ => True)) := fun _ _ _ _ q => ⟨q.1, trivial⟩
theorem zXs_blind {av : List Value} : FrameBlind (va_Pc av zX) := fun a U g mk q => ⟨q.1, zX_same (u := U) rfl rfl q.2⟩
/-- 'throw new E(text)' in a method that has changed nothing yet -/
theorem z_throw {p : Program} {l : Launch} {e : Env} {R : Room} {s : State} {m : MethodId} {args : Array Value} {below : List Frame} {meth : Method} {c : Code} {cc : ByteArray} {pc n : Nat} {ls : Array Slot} {rest : List Value} {Qc : Array Value → State → Outcome → State → Prop} {own cls text : String} {ik is ic sa : Nat} {Ts : List Cond}
    (hx : p.tables.exec = Jvm.exec) (hb : c.code = cc) (hl0 : l.stackTraces = false) (hown : s.vm.findClass own = some m.cls) (hcls : Bundle.fit cls = true)
    (hk : (Cond.classLink own ik cls).before args s = true) (hini : (Cond.initialized cls).before args s = true) (hstr : vk_R own is text sa s) (hts : ∀ w ∈ Ts, w.before args s = true)
    (hin : ∀ w ∈ (vx_atS own ic cls ["java/lang/RuntimeException", "java/lang/Exception"]).filter goodWord, w ∈ Ts) (hbad : (∀ w ∈ (vx_atS own ic cls ["java/lang/RuntimeException", "java/lang/Exception"]).filter (fun w => !goodWord w), w ∈ zBad) ∧ (vx_atS own ic cls ["java/lang/RuntimeException", "java/lang/Exception"]).all vx_ot = true) (hZ : ∀ w ∈ zBad, va_Nw w s)
    (hU : vx_Zq Bundle.tN "UNASSIGNED_STACK" Bundle.steD (fun _ => False) s s.heap) (hN : vx_Zq Bundle.tN "SUPPRESSED_SENTINEL" Bundle.listD (fun _ => False) s s.heap) (hsize : ls.size = n) (hml : c.maxLocals = n)
    (d0 : decode cc pc = .ok (.new ik, 3)) (d3 : decode cc (pc + 3) = .ok (.dup, 1)) (d4 : decode cc (pc + 4) = .ok (.ldc is, 2)) (d6 : decode cc (pc + 6) = .ok (.invokespecial ic, 3)) (d9 : decode cc (pc + 9) = .ok (.athrow, 1))
    (hout : ∀ x ∈ c.exceptionTable.toList, covers x (pc + 9) = false) (hRf : 6 ≤ R.frames) (hRl : (rest.map fun v => v.category).sum + 82 ≤ R.locals) (hRc : 1 ≤ R.cells) (hRs : 6 ≤ R.slots) (hlocks : meth.locks = false) :
    W p l e R s m args below meth c s.heap [] 0 0 (vx_MQ below Qc (zXC (fun E => E = cls)) args s 1 6 (fun _ => False)) (F0 m pc ls rest) := by
  refine vx_throwS (own := own) (cls := cls) (text := text) (names := ["java/lang/RuntimeException", "java/lang/Exception"]) (ik := ik) (is := is) (ic := ic) (sa := sa) (A := fun _ => False) hx hb hl0 hown hcls (by decide +kernel) hk hini hstr
    (vx_hat (B := zBad) (fun w hw => hts w (hin w hw)) hbad.1 (fun w hw => va_Nw.use (zBad_ot w hw) (hZ w hw))) (fun w hw => ?_) hU hN va_S.rf (hsize.trans hml.symm) d0 d3 d4 d6 d9 hout hRf hRl (by omega) (by omega) hlocks
    (fun t _ h1 h2 => ⟨(), trivial, rfl, h1, fun q hq _ => h2 q hq⟩) (fun z hz => nomatch hz) (by omega) (by omega)
  rcases List.mem_cons.mp hw with rfl | hw
  · rfl
  · rcases List.mem_cons.mp hw with rfl | hw
    · rfl
    · exact List.all_eq_true.mp hbad.2 w hw
end
section
/-! WHAT CLASS AND REFERENCE ANSWER, as functions of the contents -/
def q_g (x : Int32) : Bool := !decide (x < 0) && !decide (8 ≤ x)
def q_i (x lo hi : Int32) : Bool := !decide (x < lo) && !decide (hi < x)
def q_sum (f : Nat → Int32) : Nat → Int32
  | 0 => 0
  | n + 1 => q_sum f n + f n
def q_lead (t : Nat → Int32) : Nat → Int32 → Int32 → Bool
  | 0, _, _ => false
  | n + 1, a, g => q_g a && (decide (a = g) || q_lead t n (t a.toNatClampNeg) g)
def q_spk (t v : Nat → Int32) : Nat → Int32 → Int32
  | 0, _ => -1
  | n + 1, a => bif q_g a then (bif decide (v a.toNatClampNeg = 0) then q_spk t v n (t a.toNatClampNeg) else a) else -1
def q_hrd (t v : Nat → Int32) (a : Int32) : Int32 := bif q_g (q_spk t v 8 a) then v (q_spk t v 8 a).toNatClampNeg else 0
def q_wt (f t v : Nat → Int32) (w : Int32) : Nat → Int32
  | 0 => 0
  | n + 1 => bif decide (q_hrd t v (nI n) = w) then q_wt f t v w n + f n else q_wt f t v w n
def q_cur (v0 v1 : Int32) : Int32 := bif decide (v1 < v0) then v1 else -1
def q_cov (f0 f7 : Nat → Int32) (v0 v1 : Int32) : Bool := decide (v1 < v0) && decide (f7 v1.toNatClampNeg ≤ q_sum f0 8)
def q_base (a T k : Int32) : Int32 := bif decide (0 < T) then ((a.toInt64 * k.toInt64) / T.toInt64).toInt32 else 0
def q_lk1 (f : Nat → Int32) (a T : Int32) : Nat → Int32
  | 0 => a
  | n + 1 => q_lk1 f a T n - q_base a T (f n)
def q_lk2 (f : Nat → Int32) (a T : Int32) : Nat → Int32
  | 0 => q_lk1 f a T 8
  | n + 1 => bif decide (0 < q_lk2 f a T n) && decide (q_base a T (f n) < f n) then q_lk2 f a T n - 1 else q_lk2 f a T n
def q_shT (f : Nat → Int32) (a T : Int32) (n : Nat) : Int32 := bif decide (0 < q_lk2 f a T n) && decide (q_base a T (f n) < f n) then q_base a T (f n) + 1 else q_base a T (f n)
def q_sh (f : Nat → Int32) (a : Int32) (n : Nat) : Int32 := q_shT f a (q_sum f 8) n
def q_fill (f g : Nat → Int32) (i : Nat) : Nat → Int32 := fun k => if k < i then f k else g k
def q_part (ps sh : Nat → Int32) (w : Int32) : Nat → Int32
  | 0 => 0
  | n + 1 => bif decide (ps n = w) then q_part ps sh w n + sh n else q_part ps sh w n
def q_rN : Nat → Nat
  | 0 => 0
  | n + 1 => if (q_rN n + 1) * (q_rN n + 1) ≤ n + 1 then q_rN n + 1 else q_rN n
def q_rt (x : Int32) : Int32 := nI (q_rN x.toNatClampNeg)
def q_rts (ps sh : Nat → Int32) (w : Nat) : Int32 := q_rt (q_part ps sh (nI w) 8)
def q_won (x v2 : Int32) : Int32 := bif decide (x < 0) then 0 else bif decide (v2 < x) then v2 else x
def q_sq (r : Nat → Int32) : Int32 := q_sum r 8 * q_sum r 8
def q_mt (ps sh : Nat → Int32) (a v2 : Int32) : Int32 := q_won (q_sq (q_rts ps sh) - a) v2
/-- the row of trust from a ends within n -/
def q_ends (t : Nat → Int32) : Nat → Int32 → Prop
  | 0, a => a = -1
  | n + 1, a => a = -1 ∨ (q_g a = true ∧ q_ends t n (t a.toNatClampNeg))
theorem z_l0 : (0 : Int32).toInt = 0 := rfl
theorem z_l1 : (1 : Int32).toInt = 1 := rfl
theorem z_l2 : (2 : Int32).toInt = 2 := rfl
theorem z_l3 : (3 : Int32).toInt = 3 := rfl
theorem z_l6 : (6 : Int32).toInt = 6 := rfl
theorem z_l7 : (7 : Int32).toInt = 7 := rfl
theorem z_l8 : (8 : Int32).toInt = 8 := rfl
theorem z_lm : (-1 : Int32).toInt = -1 := rfl
theorem z_lK : (10000 : Int32).toInt = 10000 := rfl
theorem z_lH : (100000 : Int32).toInt = 100000 := rfl
theorem z_lM : (1000000 : Int32).toInt = 1000000 := rfl
theorem z_lt {x y : Int32} : x < y ↔ x.toInt < y.toInt := Int32.lt_iff_toInt_lt
theorem z_le {x y : Int32} : x ≤ y ↔ x.toInt ≤ y.toInt := Int32.le_iff_toInt_le
theorem q_g_iff {x : Int32} : q_g x = true ↔ 0 ≤ x.toInt ∧ x.toInt < 8 := by
  simp only [q_g, Bool.and_eq_true, Bool.not_eq_true', decide_eq_false_iff_not, z_lt, z_le, z_l0, z_l8]
  omega
theorem q_g_in {x : Int32} (h : q_g x = true) : vp_in x 8 := vp_in_iff.mpr (q_g_iff.mp h)
theorem q_g_tf {x : Int32} (h1 : ¬ x < 0) (h2 : ¬ 8 ≤ x) : q_g x = true := by simp [q_g, h1, h2]
theorem q_g_f1 {x : Int32} (h : x < 0) : q_g x = false := by simp [q_g, h]
theorem q_g_f2 {x : Int32} (h : 8 ≤ x) : q_g x = false := by simp [q_g, h]
theorem q_i_iff {x lo hi : Int32} : q_i x lo hi = true ↔ lo.toInt ≤ x.toInt ∧ x.toInt ≤ hi.toInt := by
  simp only [q_i, Bool.and_eq_true, Bool.not_eq_true', decide_eq_false_iff_not, z_lt]
  omega
theorem q_i_g {x : Int32} : q_i x 0 7 = q_g x := by
  rw [Bool.eq_iff_iff, q_i_iff, q_g_iff, z_l0, z_l7]
  omega
theorem z_ge8 {i : Nat} (h : i ≤ 8) (c : (8 : Int32) ≤ nI i) : i = 8 := by
  have := (nI_leI (a := 8) (b := i) (by decide) (by omega)).mp c
  omega
theorem z_lt8 {i : Nat} (h : i ≤ 8) (c : ¬ (8 : Int32) ≤ nI i) : i < 8 := by
  have h1 : ¬ 8 ≤ i := fun z => c ((nI_leI (a := 8) (b := i) (by decide) (by omega)).mpr z)
  omega
theorem z_in8 {i : Nat} (h : i < 8) : vp_in (nI i) 8 := vp_in_nI h (by decide)
theorem z_cl {i : Nat} (h : i < 8) : (nI i).toNatClampNeg = i := nI_clamp (by omega)
end
section
set_option maxHeartbeats 4000000 in
set_option maxRecDepth 100000 in
theorem c_X0_isGiver (l : Launch) (p0 : Int32) : Met l yX0_isGiver wsX0_isGiver ({ frames := 0, cells := 0, slots := 0, locals := 0 }) (va_Pc [.int p0] (fun _ => True)) (vp_Si (fun r : Int32 => r = bif q_g p0 then 1 else 0)) 0 0 (fun _ => False) := by
  refine Met.ofW (cc := cX0_isGiver) (maxL := 1) (ret := (some .boolean)) (by decide) rfl ?_
  intro p e s m args below meth c s₁ B hml hv
  obtain ⟨rfl, -⟩ := hv
  have hx := B.exec
  have hb := B.bytes
  have hr := B.returns
  have hts := atoms_spec (ws := wsX0_isGiver) B.pre
  have hown : s.vm.findClass RX0 = some m.cls := findClass_of_methodNamed B.named
  have hlocks := B.notSynchronized
  have hl := lv_entry ([.int p0]) (n := 1) (Nat.le_of_ble_eq_true rfl)
  rw [lg_entry_eq]
  generalize (lg_sl ([.int p0]) ++ List.replicate (1 - (lg_sl ([.int p0])).length) Slot.unset).toArray = ls at hl ⊢
  have hl : lv_has ls 1 [(0, .int p0)] := hl
  refine lv_iload_n hx hb dX0_isGiver_0 rfl (lv_at hl 0 rfl) ?_
  refine lv_if_lt (tgt := 14) hx hb dX0_isGiver_1 (by decide) (fun c1 => ?_) (fun c1 => ?_)
  · skip
    refine lv_iconst (v := 0) hx hb dX0_isGiver_14 (by decide) ?_
    exact W.zret (v := 0) hx hb hr rfl (fun t ht hW => ⟨0, rfl, (by simp [q_g, c1]), ht⟩) (fun _ h => nomatch h) dX0_isGiver_15
  · skip
    refine lv_iload_n hx hb dX0_isGiver_4 rfl (lv_at hl 0 rfl) ?_
    refine lv_bipush (v := 8) hx hb dX0_isGiver_5 (by decide) ?_
    refine lv_icmp_ge (tgt := 14) hx hb dX0_isGiver_7 (by decide) (fun c2 => ?_) (fun c2 => ?_)
    · skip
      refine lv_iconst (v := 0) hx hb dX0_isGiver_14 (by decide) ?_
      exact W.zret (v := 0) hx hb hr rfl (fun t ht hW => ⟨0, rfl, (by simp [q_g, c1, c2]), ht⟩) (fun _ h => nomatch h) dX0_isGiver_15
    · skip
      refine lv_iconst (v := 1) hx hb dX0_isGiver_10 (by decide) ?_
      refine lv_goto (tgt := 15) hx hb dX0_isGiver_11 (by decide) ?_
      exact W.zret (v := 1) hx hb hr rfl (fun t ht hW => ⟨1, rfl, (by simp [q_g, c1, c2]), ht⟩) (fun _ h => nomatch h) dX0_isGiver_15
set_option maxHeartbeats 4000000 in
set_option maxRecDepth 100000 in
theorem c_X0_requireGiver (l : Launch) (p0 : Int32) (hg : q_g p0 = true) : Met l yX0_requireGiver wsX0_requireGiver ({ frames := 1, cells := 0, slots := 0, locals := 20 }) (va_Pc [.int p0] (fun _ => True)) (va_Sv (fun _ => True)) 0 0 (fun _ => False) := by
  refine Met.ofW (cc := cX0_requireGiver) (maxL := 1) (ret := none) (by decide) rfl ?_
  intro p e s m args below meth c s₁ B hml hv
  obtain ⟨rfl, -⟩ := hv
  have hx := B.exec
  have hb := B.bytes
  have hr := B.returns
  have hts := atoms_spec (ws := wsX0_requireGiver) B.pre
  have hown : s.vm.findClass RX0 = some m.cls := findClass_of_methodNamed B.named
  have hlocks := B.notSynchronized
  have hl := lv_entry ([.int p0]) (n := 1) (Nat.le_of_ble_eq_true rfl)
  rw [lg_entry_eq]
  generalize (lg_sl ([.int p0]) ++ List.replicate (1 - (lg_sl ([.int p0])).length) Slot.unset).toArray = ls at hl ⊢
  have hl : lv_has ls 1 [(0, .int p0)] := hl
  refine lv_iload_n hx hb dX0_requireGiver_0 rfl (lv_at hl 0 rfl) ?_
  refine vp_callSi (W.runS (As := [.int p0]) (rest := []) ⟨hx, hb, hml, hown, hts⟩ (c_X0_isGiver l p0) (va_cwS 1 hts gX0_requireGiver_X0_isGiver rfl rfl rfl (by decide +kernel) ⟨Nat.le_of_ble_eq_true rfl, Nat.le_of_ble_eq_true rfl⟩) ⟨zN_blind, fun U hU hW => ⟨rfl, trivial⟩⟩ rfl rfl hl.1 rfl (lv_room (Nat.le_of_ble_eq_true rfl)) dX0_requireGiver_1 ⟨Nat.le_of_ble_eq_true rfl, Nat.le_of_ble_eq_true rfl⟩) (fun r1 w1 => ?_)
  have w1 : r1 = 1 := by rw [w1, hg]; rfl
  subst w1
  refine lv_if_ne (tgt := 17) hx hb dX0_requireGiver_4 (by decide) (fun _ => ?_) (fun c9 => False.elim (by revert c9; decide))
  exact W.vret hx hb hr (fun t ht hW => ⟨rfl, trivial, ht⟩) (fun _ h => nomatch h) dX0_requireGiver_17
set_option maxHeartbeats 4000000 in
set_option maxRecDepth 100000 in
theorem c_X0_requireGiver_t (l : Launch) (hl0 : l.stackTraces = false) (p0 : Int32) (hg : q_g p0 = false) : vx_Met l yX0_requireGiver wsX0_requireGiver ({ frames := 6, cells := 1, slots := 6, locals := 90 }) (va_Pc [.int p0] zX) zNo (zXC (fun E => E = "java/lang/IndexOutOfBoundsException")) 1 6 (fun _ => False) := by
  refine vx_ofW (cc := cX0_requireGiver) (maxL := 1) (ret := none) (by decide) rfl ?_
  intro p e s m args below meth c s₁ B hml hout hv
  obtain ⟨rfl, hZ⟩ := hv
  have hx := B.exec
  have hb := B.bytes
  have hr := B.returns
  have hts := atoms_spec (ws := wsX0_requireGiver) B.pre
  have hown : s.vm.findClass RX0 = some m.cls := findClass_of_methodNamed B.named
  have hlocks := B.notSynchronized
  have hl := lv_entry ([.int p0]) (n := 1) (Nat.le_of_ble_eq_true rfl)
  rw [lg_entry_eq]
  generalize (lg_sl ([.int p0]) ++ List.replicate (1 - (lg_sl ([.int p0])).length) Slot.unset).toArray = ls at hl ⊢
  have hl : lv_has ls 1 [(0, .int p0)] := hl
  refine lv_iload_n hx hb dX0_requireGiver_0 rfl (lv_at hl 0 rfl) ?_
  refine vp_callSi (W.runS (As := [.int p0]) (rest := []) ⟨hx, hb, hml, hown, hts⟩ (c_X0_isGiver l p0) (va_cwS 1 hts gX0_requireGiver_X0_isGiver rfl rfl rfl (by decide +kernel) ⟨Nat.le_of_ble_eq_true rfl, Nat.le_of_ble_eq_true rfl⟩) ⟨zN_blind, fun U hU hW => ⟨rfl, trivial⟩⟩ rfl rfl hl.1 rfl (lv_room (Nat.le_of_ble_eq_true rfl)) dX0_requireGiver_1 ⟨Nat.le_of_ble_eq_true rfl, Nat.le_of_ble_eq_true rfl⟩) (fun r1 w1 => ?_)
  have w1 : r1 = 0 := by rw [w1, hg]; rfl
  subst w1
  refine lv_if_ne (tgt := 17) hx hb dX0_requireGiver_4 (by decide) (fun c9 => False.elim (by revert c9; decide)) (fun _ => ?_)
  obtain ⟨sa, hsa⟩ := hZ.2.1 (155, "no such giver") (by decide)
  exact z_throw (Qc := zNo) (own := RX0) (cls := "java/lang/IndexOutOfBoundsException") (ik := 66) (is := 155) (ic := 70) (text := "no such giver") hx hb hl0 hown (by decide +kernel) (hts (.classLink RX0 66 "java/lang/IndexOutOfBoundsException") (by decide +kernel)) (hts (.initialized "java/lang/IndexOutOfBoundsException") (by decide +kernel)) hsa hts (by decide +kernel) (by decide +kernel) hZ.1 hZ.2.2.2.1 hZ.2.2.2.2 hl.1 hml dX0_requireGiver_7 dX0_requireGiver_10 dX0_requireGiver_11 dX0_requireGiver_13 dX0_requireGiver_16 (fun x h => (hout x h).elim) (Nat.le_of_ble_eq_true rfl) (Nat.le_of_ble_eq_true rfl) (Nat.le_of_ble_eq_true rfl) (Nat.le_of_ble_eq_true rfl) hlocks
set_option maxHeartbeats 4000000 in
set_option maxRecDepth 100000 in
theorem c_X0_requireAmount (l : Launch) (p0 p1 : Int32) (hi : q_i p0 1 p1 = true) : Met l yX0_requireAmount wsX0_requireAmount ({ frames := 0, cells := 0, slots := 0, locals := 0 }) (va_Pc [.int p0, .int p1] (fun _ => True)) (va_Sv (fun _ => True)) 0 0 (fun _ => False) := by
  refine Met.ofW (cc := cX0_requireAmount) (maxL := 2) (ret := none) (by decide) rfl ?_
  intro p e s m args below meth c s₁ B hml hv
  obtain ⟨rfl, -⟩ := hv
  have hx := B.exec
  have hb := B.bytes
  have hr := B.returns
  have hts := atoms_spec (ws := wsX0_requireAmount) B.pre
  have hown : s.vm.findClass RX0 = some m.cls := findClass_of_methodNamed B.named
  have hlocks := B.notSynchronized
  have hl := lv_entry ([.int p0, .int p1]) (n := 2) (Nat.le_of_ble_eq_true rfl)
  rw [lg_entry_eq]
  generalize (lg_sl ([.int p0, .int p1]) ++ List.replicate (2 - (lg_sl ([.int p0, .int p1])).length) Slot.unset).toArray = ls at hl ⊢
  have hl : lv_has ls 2 [(0, .int p0), (1, .int p1)] := hl
  refine lv_iload_n hx hb dX0_requireAmount_0 rfl (lv_at hl 0 rfl) ?_
  refine lv_iconst (v := 1) hx hb dX0_requireAmount_1 (by decide) ?_
  refine lv_icmp_lt (tgt := 10) hx hb dX0_requireAmount_2 (by decide) (fun c1 => False.elim (by simp [q_i, c1] at hi)) (fun c1 => ?_)
  refine lv_iload_n hx hb dX0_requireAmount_5 rfl (lv_at hl 0 rfl) ?_
  refine lv_iload_n hx hb dX0_requireAmount_6 rfl (lv_at hl 1 rfl) ?_
  refine lv_icmp_le (tgt := 20) hx hb dX0_requireAmount_7 (by decide) (fun c2 => ?_) (fun c2 => False.elim (by have h9 := (q_i_iff.mp hi).2; rw [z_le] at c2; omega))
  exact W.vret hx hb hr (fun t ht hW => ⟨rfl, trivial, ht⟩) (fun _ h => nomatch h) dX0_requireAmount_20
set_option maxHeartbeats 4000000 in
set_option maxRecDepth 100000 in
theorem c_X0_requireAmount_t (l : Launch) (hl0 : l.stackTraces = false) (p0 p1 : Int32) (hi : q_i p0 1 p1 = false) : vx_Met l yX0_requireAmount wsX0_requireAmount ({ frames := 6, cells := 1, slots := 6, locals := 90 }) (va_Pc [.int p0, .int p1] zX) zNo (zXC (fun E => E = "java/lang/IllegalArgumentException")) 1 6 (fun _ => False) := by
  refine vx_ofW (cc := cX0_requireAmount) (maxL := 2) (ret := none) (by decide) rfl ?_
  intro p e s m args below meth c s₁ B hml hout hv
  obtain ⟨rfl, hZ⟩ := hv
  have hx := B.exec
  have hb := B.bytes
  have hr := B.returns
  have hts := atoms_spec (ws := wsX0_requireAmount) B.pre
  have hown : s.vm.findClass RX0 = some m.cls := findClass_of_methodNamed B.named
  have hlocks := B.notSynchronized
  have hl := lv_entry ([.int p0, .int p1]) (n := 2) (Nat.le_of_ble_eq_true rfl)
  rw [lg_entry_eq]
  generalize (lg_sl ([.int p0, .int p1]) ++ List.replicate (2 - (lg_sl ([.int p0, .int p1])).length) Slot.unset).toArray = ls at hl ⊢
  have hl : lv_has ls 2 [(0, .int p0), (1, .int p1)] := hl
  refine lv_iload_n hx hb dX0_requireAmount_0 rfl (lv_at hl 0 rfl) ?_
  refine lv_iconst (v := 1) hx hb dX0_requireAmount_1 (by decide) ?_
  refine lv_icmp_lt (tgt := 10) hx hb dX0_requireAmount_2 (by decide) (fun c1 => ?_) (fun c1 => ?_)
  · skip
    obtain ⟨sa, hsa⟩ := hZ.2.1 (157, "the amount is out of range") (by decide)
    exact z_throw (Qc := zNo) (own := RX0) (cls := "java/lang/IllegalArgumentException") (ik := 90) (is := 157) (ic := 94) (text := "the amount is out of range") hx hb hl0 hown (by decide +kernel) (hts (.classLink RX0 90 "java/lang/IllegalArgumentException") (by decide +kernel)) (hts (.initialized "java/lang/IllegalArgumentException") (by decide +kernel)) hsa hts (by decide +kernel) (by decide +kernel) hZ.1 hZ.2.2.2.1 hZ.2.2.2.2 hl.1 hml dX0_requireAmount_10 dX0_requireAmount_13 dX0_requireAmount_14 dX0_requireAmount_16 dX0_requireAmount_19 (fun x h => (hout x h).elim) (Nat.le_of_ble_eq_true rfl) (Nat.le_of_ble_eq_true rfl) (Nat.le_of_ble_eq_true rfl) (Nat.le_of_ble_eq_true rfl) hlocks
  · skip
    refine lv_iload_n hx hb dX0_requireAmount_5 rfl (lv_at hl 0 rfl) ?_
    refine lv_iload_n hx hb dX0_requireAmount_6 rfl (lv_at hl 1 rfl) ?_
    refine lv_icmp_le (tgt := 20) hx hb dX0_requireAmount_7 (by decide) (fun c2 => False.elim (by rw [z_le] at c2; rw [z_lt] at c1; rw [show q_i p0 1 p1 = true from q_i_iff.mpr ⟨by omega, c2⟩] at hi; exact Bool.noConfusion hi)) (fun c2 => ?_)
    obtain ⟨sa, hsa⟩ := hZ.2.1 (157, "the amount is out of range") (by decide)
    exact z_throw (Qc := zNo) (own := RX0) (cls := "java/lang/IllegalArgumentException") (ik := 90) (is := 157) (ic := 94) (text := "the amount is out of range") hx hb hl0 hown (by decide +kernel) (hts (.classLink RX0 90 "java/lang/IllegalArgumentException") (by decide +kernel)) (hts (.initialized "java/lang/IllegalArgumentException") (by decide +kernel)) hsa hts (by decide +kernel) (by decide +kernel) hZ.1 hZ.2.2.2.1 hZ.2.2.2.2 hl.1 hml dX0_requireAmount_10 dX0_requireAmount_13 dX0_requireAmount_14 dX0_requireAmount_16 dX0_requireAmount_19 (fun x h => (hout x h).elim) (Nat.le_of_ble_eq_true rfl) (Nat.le_of_ble_eq_true rfl) (Nat.le_of_ble_eq_true rfl) (Nat.le_of_ble_eq_true rfl) hlocks
set_option maxHeartbeats 4000000 in
set_option maxRecDepth 100000 in
theorem c_X0_total (l : Launch) (D : va_G) (cI cZ cJ : ClassId) (h a0 a1 a2 a3 a4 a5 a6 a7 a8 a9 a10 : Nat) (f0 f1 f2 f3 f4 f5 f6 f7 f8 f9 f10 : Nat → Int32) (v0 v1 v2 v3 : Int32) : Met l yX0_total wsX0_total ({ frames := 0, cells := 0, slots := 0, locals := 0 }) (va_Pc [.ref h] (zP D cI cZ cJ (wQ cI cZ h a0 a1 a2 a3 a4 a5 a6 a7 a8 a9 a10 f0 f1 f2 f3 f4 f5 f6 f7 f8 f9 f10 v0 v1 v2 v3))) (vp_Si (fun r : Int32 => r = q_sum f0 8)) 0 0 (fun _ => False) := by
  refine Met.ofW (cc := cX0_total) (maxL := 3) (ret := (some .int)) (by decide) rfl ?_
  intro p e s m args below meth c s₁ B hml hv
  obtain ⟨rfl, hP, hK⟩ := hv
  have hx := B.exec
  have hb := B.bytes
  have hr := B.returns
  have hts := atoms_spec (ws := wsX0_total) B.pre
  have hown : s.vm.findClass RX0 = some m.cls := findClass_of_methodNamed B.named
  have hlocks := B.notSynchronized
  have hin : ∀ w ∈ wsX00, w ∈ wsX0_total := by decide +kernel
  have hl := lv_entry ([.ref h]) (n := 3) (Nat.le_of_ble_eq_true rfl)
  rw [lg_entry_eq]
  generalize (lg_sl ([.ref h]) ++ List.replicate (3 - (lg_sl ([.ref h])).length) Slot.unset).toArray = ls at hl ⊢
  have hl : lv_has ls 3 [(0, .ref h)] := hl
  refine lv_iconst (v := 0) hx hb dX0_total_0 (by decide) ?_
  refine lv_istore_n (lv' := [(1, .int 0), (0, .ref h)]) hx hb dX0_total_1 rfl hl (by decide) rfl (fun ls hl => ?_)
  refine lv_iconst (v := 0) hx hb dX0_total_2 (by decide) ?_
  refine lv_istore_n (lv' := [(2, .int 0), (1, .int 0), (0, .ref h)]) hx hb dX0_total_3 rfl hl (by decide) rfl (fun ls hl => ?_)
  have hloop4 : ∀ (n4 : Nat) (i : Nat) (x : Int32), (9 ≤ i + n4) → (i ≤ 8) → (x = q_sum f0 i) → ∀ (ls : Array Slot), lv_has ls 3 [(2, .int (nI i)), (1, .int x), (0, .ref h)] → W p l e (headSpec wsX0_total ({ frames := 0, cells := 0, slots := 0, locals := 0 })).room s m ([Value.ref h] : List Value).toArray below meth c s.heap [] 0 0 (MQ below (vp_Si (fun r : Int32 => r = q_sum f0 8)) ([Value.ref h] : List Value).toArray s 0 0 (fun _ => False)) (F0 m 4 ls []) := by
    intro n4
    induction n4 with
    | zero => intro i x hn hi ex; exact False.elim (by omega)
    | succ n4 ih4 =>
      intro i x hn hi ex ls hl
      refine lv_iload_n hx hb dX0_total_4 rfl (lv_at hl 0 rfl) ?_
      refine lv_bipush (v := 8) hx hb dX0_total_5 (by decide) ?_
      refine lv_icmp_ge (tgt := 25) hx hb dX0_total_7 (by decide) (fun c1 => ?_) (fun c1 => ?_)
      · skip
        have hj := z_ge8 hi c1
        subst hj
        refine lv_iload_n hx hb dX0_total_25 rfl (lv_at hl 1 rfl) ?_
        exact W.iret (v := x) hx hb hr (fun t ht hW => ⟨x, rfl, ex, ht⟩) (fun _ h => nomatch h) dX0_total_26
      · skip
        have hj := z_lt8 hi c1
        refine lv_iload_n hx hb dX0_total_10 rfl (lv_at hl 1 rfl) ?_
        refine lv_aload_n hx hb dX0_total_11 rfl (lv_at hl 2 rfl) ?_
        refine va_get (D := D) (ci := 0) (v := .ref a0) (C := RX0) (T := TX0) (N := 15) hx hb hts hin hown hK hP 0 rfl rfl 0 (by decide) (hts (.fieldLink RX0 9 "Quorumfund" "kept" "[I") (by decide +kernel)) (fun _ h9 => h9) rfl dX0_total_12 ?_
        refine lv_iload_n hx hb dX0_total_15 rfl (lv_at hl 0 rfl) ?_
        refine va_iald (D := D) hx hb hK hP 1 0 rfl rfl (z_in8 hj) dX0_total_16 ?_
        refine lv_iadd hx hb dX0_total_17 ?_
        refine lv_istore_n (lv' := [(1, .int (x + (f0 (nI i).toNatClampNeg))), (2, .int (nI i)), (0, .ref h)]) hx hb dX0_total_18 rfl hl (by decide) rfl (fun ls hl => ?_)
        refine lv_iinc (v := nI (i + 1)) (lv' := [(2, .int (nI (i + 1))), (1, .int (x + (f0 (nI i).toNatClampNeg))), (0, .ref h)]) hx hb dX0_total_19 hl (k := 1) rfl (nI_1 _) (by decide) rfl (fun ls hl => ?_)
        refine lv_goto (tgt := 4) hx hb dX0_total_22 (by decide) ?_
        exact ih4 (i + 1) (x + (f0 (nI i).toNatClampNeg)) (by omega) (by omega) (by rw [ex, z_cl hj]; rfl) ls (lv_sub hl [0, 1, 2] rfl)
  exact hloop4 9 0 0 (by omega) (by omega) rfl ls (lv_sub hl [0, 1, 2] rfl)
set_option maxHeartbeats 4000000 in
set_option maxRecDepth 100000 in
theorem c_X0_current (l : Launch) (D : va_G) (cI cZ cJ : ClassId) (h a0 a1 a2 a3 a4 a5 a6 a7 a8 a9 a10 : Nat) (f0 f1 f2 f3 f4 f5 f6 f7 f8 f9 f10 : Nat → Int32) (v0 v1 v2 v3 : Int32) : Met l yX0_current wsX0_current ({ frames := 0, cells := 0, slots := 0, locals := 0 }) (va_Pc [.ref h] (zP D cI cZ cJ (wQ cI cZ h a0 a1 a2 a3 a4 a5 a6 a7 a8 a9 a10 f0 f1 f2 f3 f4 f5 f6 f7 f8 f9 f10 v0 v1 v2 v3))) (vp_Si (fun r : Int32 => r = q_cur v0 v1)) 0 0 (fun _ => False) := by
  refine Met.ofW (cc := cX0_current) (maxL := 1) (ret := (some .int)) (by decide) rfl ?_
  intro p e s m args below meth c s₁ B hml hv
  obtain ⟨rfl, hP, hK⟩ := hv
  have hx := B.exec
  have hb := B.bytes
  have hr := B.returns
  have hts := atoms_spec (ws := wsX0_current) B.pre
  have hown : s.vm.findClass RX0 = some m.cls := findClass_of_methodNamed B.named
  have hlocks := B.notSynchronized
  have hin : ∀ w ∈ wsX00, w ∈ wsX0_current := by decide +kernel
  have hl := lv_entry ([.ref h]) (n := 1) (Nat.le_of_ble_eq_true rfl)
  rw [lg_entry_eq]
  generalize (lg_sl ([.ref h]) ++ List.replicate (1 - (lg_sl ([.ref h])).length) Slot.unset).toArray = ls at hl ⊢
  have hl : lv_has ls 1 [(0, .ref h)] := hl
  refine lv_aload_n hx hb dX0_current_0 rfl (lv_at hl 0 rfl) ?_
  refine va_get (D := D) (ci := 0) (v := .int v1) (C := RX0) (T := TX0) (N := 15) hx hb hts hin hown hK hP 0 rfl rfl 10 (by decide) (hts (.fieldLink RX0 85 "Quorumfund" "released" "I") (by decide +kernel)) (fun _ h9 => h9) rfl dX0_current_1 ?_
  refine lv_aload_n hx hb dX0_current_4 rfl (lv_at hl 0 rfl) ?_
  refine va_get (D := D) (ci := 0) (v := .int v0) (C := RX0) (T := TX0) (N := 15) hx hb hts hin hown hK hP 0 rfl rfl 9 (by decide) (hts (.fieldLink RX0 78 "Quorumfund" "added" "I") (by decide +kernel)) (fun _ h9 => h9) rfl dX0_current_5 ?_
  refine lv_icmp_ge (tgt := 18) hx hb dX0_current_8 (by decide) (fun c1 => ?_) (fun c1 => ?_)
  · skip
    refine lv_iconst (v := (-1)) hx hb dX0_current_18 (by decide) ?_
    exact W.iret (v := (-1)) hx hb hr (fun t ht hW => ⟨(-1), rfl, (by simp [q_cur, show ¬ v1 < v0 from fun h9 => by rw [z_lt] at h9; rw [z_le] at c1; omega]), ht⟩) (fun _ h => nomatch h) dX0_current_19
  · skip
    refine lv_aload_n hx hb dX0_current_11 rfl (lv_at hl 0 rfl) ?_
    refine va_get (D := D) (ci := 0) (v := .int v1) (C := RX0) (T := TX0) (N := 15) hx hb hts hin hown hK hP 0 rfl rfl 10 (by decide) (hts (.fieldLink RX0 85 "Quorumfund" "released" "I") (by decide +kernel)) (fun _ h9 => h9) rfl dX0_current_12 ?_
    refine lv_goto (tgt := 19) hx hb dX0_current_15 (by decide) ?_
    exact W.iret (v := v1) hx hb hr (fun t ht hW => ⟨v1, rfl, (by simp [q_cur, show v1 < v0 from by rw [z_le] at c1; rw [z_lt]; omega]), ht⟩) (fun _ h => nomatch h) dX0_current_19
set_option maxHeartbeats 4000000 in
set_option maxRecDepth 100000 in
theorem c_X0_pot (l : Launch) (D : va_G) (cI cZ cJ : ClassId) (h a0 a1 a2 a3 a4 a5 a6 a7 a8 a9 a10 : Nat) (f0 f1 f2 f3 f4 f5 f6 f7 f8 f9 f10 : Nat → Int32) (v0 v1 v2 v3 : Int32) : Met l yX0_pot wsX0_pot ({ frames := 0, cells := 0, slots := 0, locals := 0 }) (va_Pc [.ref h] (zP D cI cZ cJ (wQ cI cZ h a0 a1 a2 a3 a4 a5 a6 a7 a8 a9 a10 f0 f1 f2 f3 f4 f5 f6 f7 f8 f9 f10 v0 v1 v2 v3))) (vp_Si (fun r : Int32 => r = v2)) 0 0 (fun _ => False) := by
  refine Met.ofW (cc := cX0_pot) (maxL := 1) (ret := (some .int)) (by decide) rfl ?_
  intro p e s m args below meth c s₁ B hml hv
  obtain ⟨rfl, hP, hK⟩ := hv
  have hx := B.exec
  have hb := B.bytes
  have hr := B.returns
  have hts := atoms_spec (ws := wsX0_pot) B.pre
  have hown : s.vm.findClass RX0 = some m.cls := findClass_of_methodNamed B.named
  have hlocks := B.notSynchronized
  have hin : ∀ w ∈ wsX00, w ∈ wsX0_pot := by decide +kernel
  have hl := lv_entry ([.ref h]) (n := 1) (Nat.le_of_ble_eq_true rfl)
  rw [lg_entry_eq]
  generalize (lg_sl ([.ref h]) ++ List.replicate (1 - (lg_sl ([.ref h])).length) Slot.unset).toArray = ls at hl ⊢
  have hl : lv_has ls 1 [(0, .ref h)] := hl
  refine lv_aload_n hx hb dX0_pot_0 rfl (lv_at hl 0 rfl) ?_
  refine va_get (D := D) (ci := 0) (v := .int v2) (C := RX0) (T := TX0) (N := 15) hx hb hts hin hown hK hP 0 rfl rfl 11 (by decide) (hts (.fieldLink RX0 71 "Quorumfund" "potMoney" "I") (by decide +kernel)) (fun _ h9 => h9) rfl dX0_pot_1 ?_
  exact W.iret (v := v2) hx hb hr (fun t ht hW => ⟨v2, rfl, rfl, ht⟩) (fun _ h => nomatch h) dX0_pot_4
set_option maxHeartbeats 4000000 in
set_option maxRecDepth 100000 in
theorem c_X0_out (l : Launch) (D : va_G) (cI cZ cJ : ClassId) (h a0 a1 a2 a3 a4 a5 a6 a7 a8 a9 a10 : Nat) (f0 f1 f2 f3 f4 f5 f6 f7 f8 f9 f10 : Nat → Int32) (v0 v1 v2 v3 : Int32) : Met l yX0_out wsX0_out ({ frames := 0, cells := 0, slots := 0, locals := 0 }) (va_Pc [.ref h] (zP D cI cZ cJ (wQ cI cZ h a0 a1 a2 a3 a4 a5 a6 a7 a8 a9 a10 f0 f1 f2 f3 f4 f5 f6 f7 f8 f9 f10 v0 v1 v2 v3))) (vp_Si (fun r : Int32 => r = v3)) 0 0 (fun _ => False) := by
  refine Met.ofW (cc := cX0_out) (maxL := 1) (ret := (some .int)) (by decide) rfl ?_
  intro p e s m args below meth c s₁ B hml hv
  obtain ⟨rfl, hP, hK⟩ := hv
  have hx := B.exec
  have hb := B.bytes
  have hr := B.returns
  have hts := atoms_spec (ws := wsX0_out) B.pre
  have hown : s.vm.findClass RX0 = some m.cls := findClass_of_methodNamed B.named
  have hlocks := B.notSynchronized
  have hin : ∀ w ∈ wsX00, w ∈ wsX0_out := by decide +kernel
  have hl := lv_entry ([.ref h]) (n := 1) (Nat.le_of_ble_eq_true rfl)
  rw [lg_entry_eq]
  generalize (lg_sl ([.ref h]) ++ List.replicate (1 - (lg_sl ([.ref h])).length) Slot.unset).toArray = ls at hl ⊢
  have hl : lv_has ls 1 [(0, .ref h)] := hl
  refine lv_aload_n hx hb dX0_out_0 rfl (lv_at hl 0 rfl) ?_
  refine va_get (D := D) (ci := 0) (v := .int v3) (C := RX0) (T := TX0) (N := 15) hx hb hts hin hown hK hP 0 rfl rfl 12 (by decide) (hts (.fieldLink RX0 145 "Quorumfund" "outMoney" "I") (by decide +kernel)) (fun _ h9 => h9) rfl dX0_out_1 ?_
  exact W.iret (v := v3) hx hb hr (fun t ht hW => ⟨v3, rfl, rfl, ht⟩) (fun _ h => nomatch h) dX0_out_4
set_option maxHeartbeats 4000000 in
set_option maxRecDepth 100000 in
theorem c_X0_in (l : Launch) (D : va_G) (cI cZ cJ : ClassId) (h a0 a1 a2 a3 a4 a5 a6 a7 a8 a9 a10 : Nat) (f0 f1 f2 f3 f4 f5 f6 f7 f8 f9 f10 : Nat → Int32) (v0 v1 v2 v3 : Int32) (p0 : Int32) (hg : q_g p0 = true) : Met l yX0_in wsX0_in ({ frames := 2, cells := 0, slots := 0, locals := 40 }) (va_Pc [.ref h, .int p0] (zP D cI cZ cJ (wQ cI cZ h a0 a1 a2 a3 a4 a5 a6 a7 a8 a9 a10 f0 f1 f2 f3 f4 f5 f6 f7 f8 f9 f10 v0 v1 v2 v3))) (vp_Si (fun r : Int32 => r = f0 p0.toNatClampNeg)) 0 0 (fun _ => False) := by
  refine Met.ofW (cc := cX0_in) (maxL := 2) (ret := (some .int)) (by decide) rfl ?_
  intro p e s m args below meth c s₁ B hml hv
  obtain ⟨rfl, hP, hK⟩ := hv
  have hx := B.exec
  have hb := B.bytes
  have hr := B.returns
  have hts := atoms_spec (ws := wsX0_in) B.pre
  have hown : s.vm.findClass RX0 = some m.cls := findClass_of_methodNamed B.named
  have hlocks := B.notSynchronized
  have hin : ∀ w ∈ wsX00, w ∈ wsX0_in := by decide +kernel
  have hl := lv_entry ([.ref h, .int p0]) (n := 2) (Nat.le_of_ble_eq_true rfl)
  rw [lg_entry_eq]
  generalize (lg_sl ([.ref h, .int p0]) ++ List.replicate (2 - (lg_sl ([.ref h, .int p0])).length) Slot.unset).toArray = ls at hl ⊢
  have hl : lv_has ls 2 [(0, .ref h), (1, .int p0)] := hl
  refine lv_iload_n hx hb dX0_in_0 rfl (lv_at hl 1 rfl) ?_
  refine va_csv (W.runS (As := [.int p0]) (rest := []) ⟨hx, hb, hml, hown, hts⟩ (c_X0_requireGiver l p0 hg) (va_cwS 1 hts gX0_in_X0_requireGiver rfl rfl rfl (by decide +kernel) ⟨Nat.le_of_ble_eq_true rfl, Nat.le_of_ble_eq_true rfl⟩) ⟨zN_blind, fun U hU hW => ⟨rfl, trivial⟩⟩ rfl rfl hl.1 rfl (lv_room (Nat.le_of_ble_eq_true rfl)) dX0_in_1 ⟨Nat.le_of_ble_eq_true rfl, Nat.le_of_ble_eq_true rfl⟩) (fun w1 => ?_)
  refine lv_aload_n hx hb dX0_in_4 rfl (lv_at hl 0 rfl) ?_
  refine va_get (D := D) (ci := 0) (v := .ref a0) (C := RX0) (T := TX0) (N := 15) hx hb hts hin hown hK hP 0 rfl rfl 0 (by decide) (hts (.fieldLink RX0 9 "Quorumfund" "kept" "[I") (by decide +kernel)) (fun _ h9 => h9) rfl dX0_in_5 ?_
  refine lv_iload_n hx hb dX0_in_8 rfl (lv_at hl 1 rfl) ?_
  refine va_iald (D := D) hx hb hK hP 1 0 rfl rfl (q_g_in hg) dX0_in_9 ?_
  exact W.iret (v := f0 p0.toNatClampNeg) hx hb hr (fun t ht hW => ⟨f0 p0.toNatClampNeg, rfl, rfl, ht⟩) (fun _ h => nomatch h) dX0_in_10
set_option maxHeartbeats 4000000 in
set_option maxRecDepth 100000 in
theorem c_X0_in_t (l : Launch) (hl0 : l.stackTraces = false) (D : va_G) (cI cZ cJ : ClassId) (h a0 a1 a2 a3 a4 a5 a6 a7 a8 a9 a10 : Nat) (f0 f1 f2 f3 f4 f5 f6 f7 f8 f9 f10 : Nat → Int32) (v0 v1 v2 v3 : Int32) (p0 : Int32) (hg : q_g p0 = false) : vx_Met l yX0_in wsX0_in ({ frames := 7, cells := 1, slots := 6, locals := 110 }) (va_Pc [.ref h, .int p0] (zPX D cI cZ cJ (wQ cI cZ h a0 a1 a2 a3 a4 a5 a6 a7 a8 a9 a10 f0 f1 f2 f3 f4 f5 f6 f7 f8 f9 f10 v0 v1 v2 v3))) zNo (zXC (fun E => E = "java/lang/IndexOutOfBoundsException")) 1 6 (fun _ => False) := by
  refine vx_ofW (cc := cX0_in) (maxL := 2) (ret := (some .int)) (by decide) rfl ?_
  intro p e s m args below meth c s₁ B hml hout hv
  obtain ⟨rfl, hZ, hP, hK⟩ := hv
  have hx := B.exec
  have hb := B.bytes
  have hr := B.returns
  have hts := atoms_spec (ws := wsX0_in) B.pre
  have hown : s.vm.findClass RX0 = some m.cls := findClass_of_methodNamed B.named
  have hlocks := B.notSynchronized
  have hin : ∀ w ∈ wsX00, w ∈ wsX0_in := by decide +kernel
  have hl := lv_entry ([.ref h, .int p0]) (n := 2) (Nat.le_of_ble_eq_true rfl)
  rw [lg_entry_eq]
  generalize (lg_sl ([.ref h, .int p0]) ++ List.replicate (2 - (lg_sl ([.ref h, .int p0])).length) Slot.unset).toArray = ls at hl ⊢
  have hl : lv_has ls 2 [(0, .ref h), (1, .int p0)] := hl
  refine lv_iload_n hx hb dX0_in_0 rfl (lv_at hl 1 rfl) ?_
  exact z_thru (vx_runS (As := [.int p0]) (rest := []) ⟨hx, hb, hml, hown, hts⟩ (c_X0_requireGiver_t l hl0 p0 hg) (va_cwS 1 hts gX0_in_X0_requireGiver rfl rfl rfl (by decide +kernel) ⟨Nat.le_of_ble_eq_true rfl, Nat.le_of_ble_eq_true rfl⟩) ⟨zXs_blind, fun U hU hW => ⟨rfl, zX_at hZ hU hW⟩⟩ rfl rfl hl.1 rfl (lv_room (Nat.le_of_ble_eq_true rfl)) dX0_in_1 ⟨Nat.le_of_ble_eq_true rfl, Nat.le_of_ble_eq_true rfl⟩) (fun _ h => h) hout hlocks (fun _ h => h)
set_option maxHeartbeats 4000000 in
set_option maxRecDepth 100000 in
theorem c_X0_inByBook (l : Launch) (D : va_G) (cI cZ cJ : ClassId) (h a0 a1 a2 a3 a4 a5 a6 a7 a8 a9 a10 : Nat) (f0 f1 f2 f3 f4 f5 f6 f7 f8 f9 f10 : Nat → Int32) (v0 v1 v2 v3 : Int32) (p0 : Int32) (hg : q_g p0 = true) : Met l yX0_inByBook wsX0_inByBook ({ frames := 2, cells := 0, slots := 0, locals := 40 }) (va_Pc [.ref h, .int p0] (zP D cI cZ cJ (wQ cI cZ h a0 a1 a2 a3 a4 a5 a6 a7 a8 a9 a10 f0 f1 f2 f3 f4 f5 f6 f7 f8 f9 f10 v0 v1 v2 v3))) (vp_Si (fun r : Int32 => r = f1 p0.toNatClampNeg - f2 p0.toNatClampNeg - f3 p0.toNatClampNeg)) 0 0 (fun _ => False) := by
  refine Met.ofW (cc := cX0_inByBook) (maxL := 2) (ret := (some .int)) (by decide) rfl ?_
  intro p e s m args below meth c s₁ B hml hv
  obtain ⟨rfl, hP, hK⟩ := hv
  have hx := B.exec
  have hb := B.bytes
  have hr := B.returns
  have hts := atoms_spec (ws := wsX0_inByBook) B.pre
  have hown : s.vm.findClass RX0 = some m.cls := findClass_of_methodNamed B.named
  have hlocks := B.notSynchronized
  have hin : ∀ w ∈ wsX00, w ∈ wsX0_inByBook := by decide +kernel
  have hl := lv_entry ([.ref h, .int p0]) (n := 2) (Nat.le_of_ble_eq_true rfl)
  rw [lg_entry_eq]
  generalize (lg_sl ([.ref h, .int p0]) ++ List.replicate (2 - (lg_sl ([.ref h, .int p0])).length) Slot.unset).toArray = ls at hl ⊢
  have hl : lv_has ls 2 [(0, .ref h), (1, .int p0)] := hl
  refine lv_iload_n hx hb dX0_inByBook_0 rfl (lv_at hl 1 rfl) ?_
  refine va_csv (W.runS (As := [.int p0]) (rest := []) ⟨hx, hb, hml, hown, hts⟩ (c_X0_requireGiver l p0 hg) (va_cwS 1 hts gX0_inByBook_X0_requireGiver rfl rfl rfl (by decide +kernel) ⟨Nat.le_of_ble_eq_true rfl, Nat.le_of_ble_eq_true rfl⟩) ⟨zN_blind, fun U hU hW => ⟨rfl, trivial⟩⟩ rfl rfl hl.1 rfl (lv_room (Nat.le_of_ble_eq_true rfl)) dX0_inByBook_1 ⟨Nat.le_of_ble_eq_true rfl, Nat.le_of_ble_eq_true rfl⟩) (fun w1 => ?_)
  refine lv_aload_n hx hb dX0_inByBook_4 rfl (lv_at hl 0 rfl) ?_
  refine va_get (D := D) (ci := 0) (v := .ref a1) (C := RX0) (T := TX0) (N := 15) hx hb hts hin hown hK hP 0 rfl rfl 1 (by decide) (hts (.fieldLink RX0 13 "Quorumfund" "given" "[I") (by decide +kernel)) (fun _ h9 => h9) rfl dX0_inByBook_5 ?_
  refine lv_iload_n hx hb dX0_inByBook_8 rfl (lv_at hl 1 rfl) ?_
  refine va_iald (D := D) hx hb hK hP 2 0 rfl rfl (q_g_in hg) dX0_inByBook_9 ?_
  refine lv_aload_n hx hb dX0_inByBook_10 rfl (lv_at hl 0 rfl) ?_
  refine va_get (D := D) (ci := 0) (v := .ref a2) (C := RX0) (T := TX0) (N := 15) hx hb hts hin hown hK hP 0 rfl rfl 2 (by decide) (hts (.fieldLink RX0 16 "Quorumfund" "gotBack" "[I") (by decide +kernel)) (fun _ h9 => h9) rfl dX0_inByBook_11 ?_
  refine lv_iload_n hx hb dX0_inByBook_14 rfl (lv_at hl 1 rfl) ?_
  refine va_iald (D := D) hx hb hK hP 3 0 rfl rfl (q_g_in hg) dX0_inByBook_15 ?_
  refine lv_isub hx hb dX0_inByBook_16 ?_
  refine lv_aload_n hx hb dX0_inByBook_17 rfl (lv_at hl 0 rfl) ?_
  refine va_get (D := D) (ci := 0) (v := .ref a3) (C := RX0) (T := TX0) (N := 15) hx hb hts hin hown hK hP 0 rfl rfl 3 (by decide) (hts (.fieldLink RX0 19 "Quorumfund" "wentOut" "[I") (by decide +kernel)) (fun _ h9 => h9) rfl dX0_inByBook_18 ?_
  refine lv_iload_n hx hb dX0_inByBook_21 rfl (lv_at hl 1 rfl) ?_
  refine va_iald (D := D) hx hb hK hP 4 0 rfl rfl (q_g_in hg) dX0_inByBook_22 ?_
  refine lv_isub hx hb dX0_inByBook_23 ?_
  exact W.iret (v := ((f1 p0.toNatClampNeg) - (f2 p0.toNatClampNeg)) - (f3 p0.toNatClampNeg)) hx hb hr (fun t ht hW => ⟨((f1 p0.toNatClampNeg) - (f2 p0.toNatClampNeg)) - (f3 p0.toNatClampNeg), rfl, rfl, ht⟩) (fun _ h => nomatch h) dX0_inByBook_24
set_option maxHeartbeats 4000000 in
set_option maxRecDepth 100000 in
theorem c_X0_inByBook_t (l : Launch) (hl0 : l.stackTraces = false) (D : va_G) (cI cZ cJ : ClassId) (h a0 a1 a2 a3 a4 a5 a6 a7 a8 a9 a10 : Nat) (f0 f1 f2 f3 f4 f5 f6 f7 f8 f9 f10 : Nat → Int32) (v0 v1 v2 v3 : Int32) (p0 : Int32) (hg : q_g p0 = false) : vx_Met l yX0_inByBook wsX0_inByBook ({ frames := 7, cells := 1, slots := 6, locals := 110 }) (va_Pc [.ref h, .int p0] (zPX D cI cZ cJ (wQ cI cZ h a0 a1 a2 a3 a4 a5 a6 a7 a8 a9 a10 f0 f1 f2 f3 f4 f5 f6 f7 f8 f9 f10 v0 v1 v2 v3))) zNo (zXC (fun E => E = "java/lang/IndexOutOfBoundsException")) 1 6 (fun _ => False) := by
  refine vx_ofW (cc := cX0_inByBook) (maxL := 2) (ret := (some .int)) (by decide) rfl ?_
  intro p e s m args below meth c s₁ B hml hout hv
  obtain ⟨rfl, hZ, hP, hK⟩ := hv
  have hx := B.exec
  have hb := B.bytes
  have hr := B.returns
  have hts := atoms_spec (ws := wsX0_inByBook) B.pre
  have hown : s.vm.findClass RX0 = some m.cls := findClass_of_methodNamed B.named
  have hlocks := B.notSynchronized
  have hin : ∀ w ∈ wsX00, w ∈ wsX0_inByBook := by decide +kernel
  have hl := lv_entry ([.ref h, .int p0]) (n := 2) (Nat.le_of_ble_eq_true rfl)
  rw [lg_entry_eq]
  generalize (lg_sl ([.ref h, .int p0]) ++ List.replicate (2 - (lg_sl ([.ref h, .int p0])).length) Slot.unset).toArray = ls at hl ⊢
  have hl : lv_has ls 2 [(0, .ref h), (1, .int p0)] := hl
  refine lv_iload_n hx hb dX0_inByBook_0 rfl (lv_at hl 1 rfl) ?_
  exact z_thru (vx_runS (As := [.int p0]) (rest := []) ⟨hx, hb, hml, hown, hts⟩ (c_X0_requireGiver_t l hl0 p0 hg) (va_cwS 1 hts gX0_inByBook_X0_requireGiver rfl rfl rfl (by decide +kernel) ⟨Nat.le_of_ble_eq_true rfl, Nat.le_of_ble_eq_true rfl⟩) ⟨zXs_blind, fun U hU hW => ⟨rfl, zX_at hZ hU hW⟩⟩ rfl rfl hl.1 rfl (lv_room (Nat.le_of_ble_eq_true rfl)) dX0_inByBook_1 ⟨Nat.le_of_ble_eq_true rfl, Nat.le_of_ble_eq_true rfl⟩) (fun _ h => h) hout hlocks (fun _ h => h)
set_option maxHeartbeats 4000000 in
set_option maxRecDepth 100000 in
theorem c_X0_give (l : Launch) (D : va_G) (cI cZ cJ : ClassId) (sz : Nat) (h a0 a1 a2 a3 a4 a5 a6 a7 a8 a9 a10 : Nat) (f0 f1 f2 f3 f4 f5 f6 f7 f8 f9 f10 : Nat → Int32) (v0 v1 v2 v3 : Int32) (p0 p1 : Int32) (hg : q_g p0 = true) (hi : q_i p1 1 10000 = true) (hm : ¬ 100000 < f0 p0.toNatClampNeg + p1) : Met l yX0_give wsX0_give ({ frames := 2, cells := 0, slots := 0, locals := 40 }) (va_Pc [.ref h, .int p0, .int p1] (zD D cI cZ cJ sz (wQ cI cZ h a0 a1 a2 a3 a4 a5 a6 a7 a8 a9 a10 f0 f1 f2 f3 f4 f5 f6 f7 f8 f9 f10 v0 v1 v2 v3))) (va_Qi (fun (r : Int32) (u : (Nat → Int32) × (Nat → Int32)) => r = f0 p0.toNatClampNeg + p1 ∧ u.1 = upd f0 p0.toNatClampNeg (f0 p0.toNatClampNeg + p1) ∧ u.2 = upd f1 p0.toNatClampNeg (f1 p0.toNatClampNeg + p1)) (fun u t => zB D cI cZ cJ (va_A (wQ cI cZ h a0 a1 a2 a3 a4 a5 a6 a7 a8 a9 a10 f0 f1 f2 f3 f4 f5 f6 f7 f8 f9 f10 v0 v1 v2 v3) sz) (wQ cI cZ h a0 a1 a2 a3 a4 a5 a6 a7 a8 a9 a10 u.1 u.2 f2 f3 f4 f5 f6 f7 f8 f9 f10 v0 v1 v2 v3) t) (va_A (wQ cI cZ h a0 a1 a2 a3 a4 a5 a6 a7 a8 a9 a10 f0 f1 f2 f3 f4 f5 f6 f7 f8 f9 f10 v0 v1 v2 v3) sz)) 0 0 (va_A (wQ cI cZ h a0 a1 a2 a3 a4 a5 a6 a7 a8 a9 a10 f0 f1 f2 f3 f4 f5 f6 f7 f8 f9 f10 v0 v1 v2 v3) sz) := by
  refine Met.ofW (cc := cX0_give) (maxL := 3) (ret := (some .int)) (by decide) rfl ?_
  intro p e s m args below meth c s₁ B hml hv
  obtain ⟨rfl, hsz, hP, hK, hD0⟩ := hv
  have hx := B.exec
  have hb := B.bytes
  have hr := B.returns
  have hts := atoms_spec (ws := wsX0_give) B.pre
  have hown : s.vm.findClass RX0 = some m.cls := findClass_of_methodNamed B.named
  have hlocks := B.notSynchronized
  have hin : ∀ w ∈ wsX00, w ∈ wsX0_give := by decide +kernel
  subst hsz
  have hD := hD0.self (sz := s.heap.size)
  generalize hAe : va_A (wQ cI cZ h a0 a1 a2 a3 a4 a5 a6 a7 a8 a9 a10 f0 f1 f2 f3 f4 f5 f6 f7 f8 f9 f10 v0 v1 v2 v3) s.heap.size = A at hD ⊢
  have hA : ∀ q : Nat, s.heap.size ≤ q → A q := fun q h => by rw [← hAe]; exact Or.inr h
  have hS : va_S A s.heap s.heap [] := va_S.rf
  have hl := lv_entry ([.ref h, .int p0, .int p1]) (n := 3) (Nat.le_of_ble_eq_true rfl)
  rw [lg_entry_eq]
  generalize (lg_sl ([.ref h, .int p0, .int p1]) ++ List.replicate (3 - (lg_sl ([.ref h, .int p0, .int p1])).length) Slot.unset).toArray = ls at hl ⊢
  have hl : lv_has ls 3 [(0, .ref h), (1, .int p0), (2, .int p1)] := hl
  refine lv_iload_n hx hb dX0_give_0 rfl (lv_at hl 1 rfl) ?_
  refine va_csv (W.runS (As := [.int p0]) (rest := []) ⟨hx, hb, hml, hown, hts⟩ (c_X0_requireGiver l p0 hg) (va_cwS 1 hts gX0_give_X0_requireGiver rfl rfl rfl (by decide +kernel) ⟨Nat.le_of_ble_eq_true rfl, Nat.le_of_ble_eq_true rfl⟩) ⟨zN_blind, fun U hU hW => ⟨rfl, trivial⟩⟩ rfl rfl hl.1 rfl (lv_room (Nat.le_of_ble_eq_true rfl)) dX0_give_1 ⟨Nat.le_of_ble_eq_true rfl, Nat.le_of_ble_eq_true rfl⟩) (fun w1 => ?_)
  refine lv_iload_n hx hb dX0_give_4 rfl (lv_at hl 2 rfl) ?_
  refine lv_sipush (v := 10000) hx hb dX0_give_5 (by decide) ?_
  refine va_csv (W.runS (As := [.int p1, .int 10000]) (rest := []) ⟨hx, hb, hml, hown, hts⟩ (c_X0_requireAmount l p1 10000 hi) (va_cwS 2 hts gX0_give_X0_requireAmount rfl rfl rfl (by decide +kernel) ⟨Nat.le_of_ble_eq_true rfl, Nat.le_of_ble_eq_true rfl⟩) ⟨zN_blind, fun U hU hW => ⟨rfl, trivial⟩⟩ rfl rfl hl.1 rfl (lv_room (Nat.le_of_ble_eq_true rfl)) dX0_give_8 ⟨Nat.le_of_ble_eq_true rfl, Nat.le_of_ble_eq_true rfl⟩) (fun w2 => ?_)
  refine lv_aload_n hx hb dX0_give_11 rfl (lv_at hl 0 rfl) ?_
  refine va_get (D := D) (ci := 0) (v := .ref a0) (C := RX0) (T := TX0) (N := 15) hx hb hts hin hown hK hP 0 rfl rfl 0 (by decide) (hts (.fieldLink RX0 9 "Quorumfund" "kept" "[I") (by decide +kernel)) (fun _ h9 => h9) rfl dX0_give_12 ?_
  refine lv_iload_n hx hb dX0_give_15 rfl (lv_at hl 1 rfl) ?_
  refine va_iald (D := D) hx hb hK hP 1 0 rfl rfl (q_g_in hg) dX0_give_16 ?_
  refine lv_iload_n hx hb dX0_give_17 rfl (lv_at hl 2 rfl) ?_
  refine lv_iadd hx hb dX0_give_18 ?_
  refine lv_ldc hx hb hown (hts (.constant RX0 52 (100000)) (by decide +kernel)) dX0_give_19 ?_
  refine lv_icmp_le (tgt := 34) hx hb dX0_give_21 (by decide) (fun c3 => ?_) (fun c3 => False.elim (by rw [z_le] at c3; rw [z_lt] at hm; omega))
  refine lv_aload_n hx hb dX0_give_34 rfl (lv_at hl 0 rfl) ?_
  refine va_get (D := D) (ci := 0) (v := .ref a0) (C := RX0) (T := TX0) (N := 15) hx hb hts hin hown hK hP 0 rfl rfl 0 (by decide) (hts (.fieldLink RX0 9 "Quorumfund" "kept" "[I") (by decide +kernel)) (fun _ h9 => h9) rfl dX0_give_35 ?_
  refine lv_iload_n hx hb dX0_give_38 rfl (lv_at hl 1 rfl) ?_
  refine lv_dup2_11 hx hb dX0_give_39 rfl rfl ?_
  refine va_iald (D := D) hx hb hK hP 1 0 rfl rfl (q_g_in hg) dX0_give_40 ?_
  refine lv_iload_n hx hb dX0_give_41 rfl (lv_at hl 2 rfl) ?_
  refine lv_iadd hx hb dX0_give_42 ?_
  refine va_iast (D := D) hx hb hK hP hD hS 1 0 rfl rfl (q_g_in hg) dX0_give_43 (fun H locs hP hD hS => ?_)
  have hP : va_P D vwCl (wQ cI cZ h a0 a1 a2 a3 a4 a5 a6 a7 a8 a9 a10 (upd f0 p0.toNatClampNeg ((f0 p0.toNatClampNeg) + p1)) f1 f2 f3 f4 f5 f6 f7 f8 f9 f10 v0 v1 v2 v3) H := hP
  have hD : va_D A (wQ cI cZ h a0 a1 a2 a3 a4 a5 a6 a7 a8 a9 a10 (upd f0 p0.toNatClampNeg ((f0 p0.toNatClampNeg) + p1)) f1 f2 f3 f4 f5 f6 f7 f8 f9 f10 v0 v1 v2 v3) := hD
  refine lv_aload_n hx hb dX0_give_44 rfl (lv_at hl 0 rfl) ?_
  refine va_get (D := D) (ci := 0) (v := .ref a1) (C := RX0) (T := TX0) (N := 15) hx hb hts hin hown hK hP 0 rfl rfl 1 (by decide) (hts (.fieldLink RX0 13 "Quorumfund" "given" "[I") (by decide +kernel)) (fun _ h9 => h9) rfl dX0_give_45 ?_
  refine lv_iload_n hx hb dX0_give_48 rfl (lv_at hl 1 rfl) ?_
  refine lv_dup2_11 hx hb dX0_give_49 rfl rfl ?_
  refine va_iald (D := D) hx hb hK hP 2 0 rfl rfl (q_g_in hg) dX0_give_50 ?_
  refine lv_iload_n hx hb dX0_give_51 rfl (lv_at hl 2 rfl) ?_
  refine lv_iadd hx hb dX0_give_52 ?_
  refine va_iast (D := D) hx hb hK hP hD hS 2 0 rfl rfl (q_g_in hg) dX0_give_53 (fun H locs hP hD hS => ?_)
  have hP : va_P D vwCl (wQ cI cZ h a0 a1 a2 a3 a4 a5 a6 a7 a8 a9 a10 (upd f0 p0.toNatClampNeg ((f0 p0.toNatClampNeg) + p1)) (upd f1 p0.toNatClampNeg ((f1 p0.toNatClampNeg) + p1)) f2 f3 f4 f5 f6 f7 f8 f9 f10 v0 v1 v2 v3) H := hP
  have hD : va_D A (wQ cI cZ h a0 a1 a2 a3 a4 a5 a6 a7 a8 a9 a10 (upd f0 p0.toNatClampNeg ((f0 p0.toNatClampNeg) + p1)) (upd f1 p0.toNatClampNeg ((f1 p0.toNatClampNeg) + p1)) f2 f3 f4 f5 f6 f7 f8 f9 f10 v0 v1 v2 v3) := hD
  refine lv_aload_n hx hb dX0_give_54 rfl (lv_at hl 0 rfl) ?_
  refine va_get (D := D) (ci := 0) (v := .ref a0) (C := RX0) (T := TX0) (N := 15) hx hb hts hin hown hK hP 0 rfl rfl 0 (by decide) (hts (.fieldLink RX0 9 "Quorumfund" "kept" "[I") (by decide +kernel)) (fun _ h9 => h9) rfl dX0_give_55 ?_
  refine lv_iload_n hx hb dX0_give_58 rfl (lv_at hl 1 rfl) ?_
  refine va_iald (D := D) hx hb hK hP 1 0 rfl rfl (q_g_in hg) dX0_give_59 ?_
  exact W.iret (v := (upd f0 p0.toNatClampNeg ((f0 p0.toNatClampNeg) + p1)) p0.toNatClampNeg) hx hb hr (fun t ht hW => ⟨⟨(upd f0 p0.toNatClampNeg ((f0 p0.toNatClampNeg) + p1)) p0.toNatClampNeg, ⟨(upd f0 p0.toNatClampNeg ((f0 p0.toNatClampNeg) + p1)), (upd f1 p0.toNatClampNeg ((f1 p0.toNatClampNeg) + p1))⟩, rfl, ⟨pk_us, rfl, rfl⟩, ⟨by rw [ht]; exact hP, va_K.moved hW.alike hK, hD⟩⟩, hS.F ht⟩) hS.2.2 dX0_give_60
set_option maxHeartbeats 4000000 in
set_option maxRecDepth 100000 in
theorem c_X0_give_t1 (l : Launch) (hl0 : l.stackTraces = false) (D : va_G) (cI cZ cJ : ClassId) (h a0 a1 a2 a3 a4 a5 a6 a7 a8 a9 a10 : Nat) (f0 f1 f2 f3 f4 f5 f6 f7 f8 f9 f10 : Nat → Int32) (v0 v1 v2 v3 : Int32) (p0 p1 : Int32) (hg : q_g p0 = false) : vx_Met l yX0_give wsX0_give ({ frames := 7, cells := 1, slots := 6, locals := 110 }) (va_Pc [.ref h, .int p0, .int p1] (zPX D cI cZ cJ (wQ cI cZ h a0 a1 a2 a3 a4 a5 a6 a7 a8 a9 a10 f0 f1 f2 f3 f4 f5 f6 f7 f8 f9 f10 v0 v1 v2 v3))) zNo (zXC (fun E => E = "java/lang/IndexOutOfBoundsException")) 1 6 (fun _ => False) := by
  refine vx_ofW (cc := cX0_give) (maxL := 3) (ret := (some .int)) (by decide) rfl ?_
  intro p e s m args below meth c s₁ B hml hout hv
  obtain ⟨rfl, hZ, hP, hK⟩ := hv
  have hx := B.exec
  have hb := B.bytes
  have hr := B.returns
  have hts := atoms_spec (ws := wsX0_give) B.pre
  have hown : s.vm.findClass RX0 = some m.cls := findClass_of_methodNamed B.named
  have hlocks := B.notSynchronized
  have hin : ∀ w ∈ wsX00, w ∈ wsX0_give := by decide +kernel
  have hl := lv_entry ([.ref h, .int p0, .int p1]) (n := 3) (Nat.le_of_ble_eq_true rfl)
  rw [lg_entry_eq]
  generalize (lg_sl ([.ref h, .int p0, .int p1]) ++ List.replicate (3 - (lg_sl ([.ref h, .int p0, .int p1])).length) Slot.unset).toArray = ls at hl ⊢
  have hl : lv_has ls 3 [(0, .ref h), (1, .int p0), (2, .int p1)] := hl
  refine lv_iload_n hx hb dX0_give_0 rfl (lv_at hl 1 rfl) ?_
  exact z_thru (vx_runS (As := [.int p0]) (rest := []) ⟨hx, hb, hml, hown, hts⟩ (c_X0_requireGiver_t l hl0 p0 hg) (va_cwS 1 hts gX0_give_X0_requireGiver rfl rfl rfl (by decide +kernel) ⟨Nat.le_of_ble_eq_true rfl, Nat.le_of_ble_eq_true rfl⟩) ⟨zXs_blind, fun U hU hW => ⟨rfl, zX_at hZ hU hW⟩⟩ rfl rfl hl.1 rfl (lv_room (Nat.le_of_ble_eq_true rfl)) dX0_give_1 ⟨Nat.le_of_ble_eq_true rfl, Nat.le_of_ble_eq_true rfl⟩) (fun _ h => h) hout hlocks (fun _ h => h)
set_option maxHeartbeats 4000000 in
set_option maxRecDepth 100000 in
theorem c_X0_give_t2 (l : Launch) (hl0 : l.stackTraces = false) (D : va_G) (cI cZ cJ : ClassId) (h a0 a1 a2 a3 a4 a5 a6 a7 a8 a9 a10 : Nat) (f0 f1 f2 f3 f4 f5 f6 f7 f8 f9 f10 : Nat → Int32) (v0 v1 v2 v3 : Int32) (p0 p1 : Int32) (hg : q_g p0 = true) (hi : q_i p1 1 10000 = false) : vx_Met l yX0_give wsX0_give ({ frames := 7, cells := 1, slots := 6, locals := 111 }) (va_Pc [.ref h, .int p0, .int p1] (zPX D cI cZ cJ (wQ cI cZ h a0 a1 a2 a3 a4 a5 a6 a7 a8 a9 a10 f0 f1 f2 f3 f4 f5 f6 f7 f8 f9 f10 v0 v1 v2 v3))) zNo (zXC (fun E => E = "java/lang/IllegalArgumentException")) 1 6 (fun _ => False) := by
  refine vx_ofW (cc := cX0_give) (maxL := 3) (ret := (some .int)) (by decide) rfl ?_
  intro p e s m args below meth c s₁ B hml hout hv
  obtain ⟨rfl, hZ, hP, hK⟩ := hv
  have hx := B.exec
  have hb := B.bytes
  have hr := B.returns
  have hts := atoms_spec (ws := wsX0_give) B.pre
  have hown : s.vm.findClass RX0 = some m.cls := findClass_of_methodNamed B.named
  have hlocks := B.notSynchronized
  have hin : ∀ w ∈ wsX00, w ∈ wsX0_give := by decide +kernel
  have hl := lv_entry ([.ref h, .int p0, .int p1]) (n := 3) (Nat.le_of_ble_eq_true rfl)
  rw [lg_entry_eq]
  generalize (lg_sl ([.ref h, .int p0, .int p1]) ++ List.replicate (3 - (lg_sl ([.ref h, .int p0, .int p1])).length) Slot.unset).toArray = ls at hl ⊢
  have hl : lv_has ls 3 [(0, .ref h), (1, .int p0), (2, .int p1)] := hl
  refine lv_iload_n hx hb dX0_give_0 rfl (lv_at hl 1 rfl) ?_
  refine va_csv (W.runS (As := [.int p0]) (rest := []) ⟨hx, hb, hml, hown, hts⟩ (c_X0_requireGiver l p0 hg) (va_cwS 1 hts gX0_give_X0_requireGiver rfl rfl rfl (by decide +kernel) ⟨Nat.le_of_ble_eq_true rfl, Nat.le_of_ble_eq_true rfl⟩) ⟨zN_blind, fun U hU hW => ⟨rfl, trivial⟩⟩ rfl rfl hl.1 rfl (lv_room (Nat.le_of_ble_eq_true rfl)) dX0_give_1 ⟨Nat.le_of_ble_eq_true rfl, Nat.le_of_ble_eq_true rfl⟩) (fun w1 => ?_)
  refine lv_iload_n hx hb dX0_give_4 rfl (lv_at hl 2 rfl) ?_
  refine lv_sipush (v := 10000) hx hb dX0_give_5 (by decide) ?_
  exact z_thru (vx_runS (As := [.int p1, .int 10000]) (rest := []) ⟨hx, hb, hml, hown, hts⟩ (c_X0_requireAmount_t l hl0 p1 10000 hi) (va_cwS 2 hts gX0_give_X0_requireAmount rfl rfl rfl (by decide +kernel) ⟨Nat.le_of_ble_eq_true rfl, Nat.le_of_ble_eq_true rfl⟩) ⟨zXs_blind, fun U hU hW => ⟨rfl, zX_at hZ hU hW⟩⟩ rfl rfl hl.1 rfl (lv_room (Nat.le_of_ble_eq_true rfl)) dX0_give_8 ⟨Nat.le_of_ble_eq_true rfl, Nat.le_of_ble_eq_true rfl⟩) (fun _ h => h) hout hlocks (fun _ h => h)
set_option maxHeartbeats 4000000 in
set_option maxRecDepth 100000 in
theorem c_X0_give_t3 (l : Launch) (hl0 : l.stackTraces = false) (D : va_G) (cI cZ cJ : ClassId) (h a0 a1 a2 a3 a4 a5 a6 a7 a8 a9 a10 : Nat) (f0 f1 f2 f3 f4 f5 f6 f7 f8 f9 f10 : Nat → Int32) (v0 v1 v2 v3 : Int32) (p0 p1 : Int32) (hg : q_g p0 = true) (hi : q_i p1 1 10000 = true) (hm : 100000 < f0 p0.toNatClampNeg + p1) : vx_Met l yX0_give wsX0_give ({ frames := 6, cells := 1, slots := 6, locals := 90 }) (va_Pc [.ref h, .int p0, .int p1] (zPX D cI cZ cJ (wQ cI cZ h a0 a1 a2 a3 a4 a5 a6 a7 a8 a9 a10 f0 f1 f2 f3 f4 f5 f6 f7 f8 f9 f10 v0 v1 v2 v3))) zNo (zXC (fun E => E = "java/lang/IllegalStateException")) 1 6 (fun _ => False) := by
  refine vx_ofW (cc := cX0_give) (maxL := 3) (ret := (some .int)) (by decide) rfl ?_
  intro p e s m args below meth c s₁ B hml hout hv
  obtain ⟨rfl, hZ, hP, hK⟩ := hv
  have hx := B.exec
  have hb := B.bytes
  have hr := B.returns
  have hts := atoms_spec (ws := wsX0_give) B.pre
  have hown : s.vm.findClass RX0 = some m.cls := findClass_of_methodNamed B.named
  have hlocks := B.notSynchronized
  have hin : ∀ w ∈ wsX00, w ∈ wsX0_give := by decide +kernel
  have hl := lv_entry ([.ref h, .int p0, .int p1]) (n := 3) (Nat.le_of_ble_eq_true rfl)
  rw [lg_entry_eq]
  generalize (lg_sl ([.ref h, .int p0, .int p1]) ++ List.replicate (3 - (lg_sl ([.ref h, .int p0, .int p1])).length) Slot.unset).toArray = ls at hl ⊢
  have hl : lv_has ls 3 [(0, .ref h), (1, .int p0), (2, .int p1)] := hl
  refine lv_iload_n hx hb dX0_give_0 rfl (lv_at hl 1 rfl) ?_
  refine va_csv (W.runS (As := [.int p0]) (rest := []) ⟨hx, hb, hml, hown, hts⟩ (c_X0_requireGiver l p0 hg) (va_cwS 1 hts gX0_give_X0_requireGiver rfl rfl rfl (by decide +kernel) ⟨Nat.le_of_ble_eq_true rfl, Nat.le_of_ble_eq_true rfl⟩) ⟨zN_blind, fun U hU hW => ⟨rfl, trivial⟩⟩ rfl rfl hl.1 rfl (lv_room (Nat.le_of_ble_eq_true rfl)) dX0_give_1 ⟨Nat.le_of_ble_eq_true rfl, Nat.le_of_ble_eq_true rfl⟩) (fun w1 => ?_)
  refine lv_iload_n hx hb dX0_give_4 rfl (lv_at hl 2 rfl) ?_
  refine lv_sipush (v := 10000) hx hb dX0_give_5 (by decide) ?_
  refine va_csv (W.runS (As := [.int p1, .int 10000]) (rest := []) ⟨hx, hb, hml, hown, hts⟩ (c_X0_requireAmount l p1 10000 hi) (va_cwS 2 hts gX0_give_X0_requireAmount rfl rfl rfl (by decide +kernel) ⟨Nat.le_of_ble_eq_true rfl, Nat.le_of_ble_eq_true rfl⟩) ⟨zN_blind, fun U hU hW => ⟨rfl, trivial⟩⟩ rfl rfl hl.1 rfl (lv_room (Nat.le_of_ble_eq_true rfl)) dX0_give_8 ⟨Nat.le_of_ble_eq_true rfl, Nat.le_of_ble_eq_true rfl⟩) (fun w2 => ?_)
  refine lv_aload_n hx hb dX0_give_11 rfl (lv_at hl 0 rfl) ?_
  refine va_get (D := D) (ci := 0) (v := .ref a0) (C := RX0) (T := TX0) (N := 15) hx hb hts hin hown hK hP 0 rfl rfl 0 (by decide) (hts (.fieldLink RX0 9 "Quorumfund" "kept" "[I") (by decide +kernel)) (fun _ h9 => h9) rfl dX0_give_12 ?_
  refine lv_iload_n hx hb dX0_give_15 rfl (lv_at hl 1 rfl) ?_
  refine va_iald (D := D) hx hb hK hP 1 0 rfl rfl (q_g_in hg) dX0_give_16 ?_
  refine lv_iload_n hx hb dX0_give_17 rfl (lv_at hl 2 rfl) ?_
  refine lv_iadd hx hb dX0_give_18 ?_
  refine lv_ldc hx hb hown (hts (.constant RX0 52 (100000)) (by decide +kernel)) dX0_give_19 ?_
  refine lv_icmp_le (tgt := 34) hx hb dX0_give_21 (by decide) (fun c3 => False.elim (by rw [z_le] at c3; rw [z_lt] at hm; omega)) (fun c3 => ?_)
  obtain ⟨sa, hsa⟩ := hZ.2.1 (55, "the giver would have too much in") (by decide)
  exact z_throw (Qc := zNo) (own := RX0) (cls := "java/lang/IllegalStateException") (ik := 53) (is := 55) (ic := 57) (text := "the giver would have too much in") hx hb hl0 hown (by decide +kernel) (hts (.classLink RX0 53 "java/lang/IllegalStateException") (by decide +kernel)) (hts (.initialized "java/lang/IllegalStateException") (by decide +kernel)) hsa hts (by decide +kernel) (by decide +kernel) hZ.1 hZ.2.2.2.1 hZ.2.2.2.2 hl.1 hml dX0_give_24 dX0_give_27 dX0_give_28 dX0_give_30 dX0_give_33 (fun x h => (hout x h).elim) (Nat.le_of_ble_eq_true rfl) (Nat.le_of_ble_eq_true rfl) (Nat.le_of_ble_eq_true rfl) (Nat.le_of_ble_eq_true rfl) hlocks
set_option maxHeartbeats 4000000 in
set_option maxRecDepth 100000 in
theorem c_X0_leave (l : Launch) (D : va_G) (cI cZ cJ : ClassId) (sz : Nat) (h a0 a1 a2 a3 a4 a5 a6 a7 a8 a9 a10 : Nat) (f0 f1 f2 f3 f4 f5 f6 f7 f8 f9 f10 : Nat → Int32) (v0 v1 v2 v3 : Int32) (p0 : Int32) (hg : q_g p0 = true) : Met l yX0_leave wsX0_leave ({ frames := 2, cells := 0, slots := 0, locals := 40 }) (va_Pc [.ref h, .int p0] (zD D cI cZ cJ sz (wQ cI cZ h a0 a1 a2 a3 a4 a5 a6 a7 a8 a9 a10 f0 f1 f2 f3 f4 f5 f6 f7 f8 f9 f10 v0 v1 v2 v3))) (va_Qi (fun (r : Int32) (u : (Nat → Int32) × (Nat → Int32) × (Nat → Int32)) => r = f0 p0.toNatClampNeg ∧ u.1 = upd f0 p0.toNatClampNeg 0 ∧ u.2.1 = upd f2 p0.toNatClampNeg (f2 p0.toNatClampNeg + f0 p0.toNatClampNeg) ∧ u.2.2 = upd f6 p0.toNatClampNeg 0) (fun u t => zB D cI cZ cJ (va_A (wQ cI cZ h a0 a1 a2 a3 a4 a5 a6 a7 a8 a9 a10 f0 f1 f2 f3 f4 f5 f6 f7 f8 f9 f10 v0 v1 v2 v3) sz) (wQ cI cZ h a0 a1 a2 a3 a4 a5 a6 a7 a8 a9 a10 u.1 f1 u.2.1 f3 f4 f5 u.2.2 f7 f8 f9 f10 v0 v1 v2 v3) t) (va_A (wQ cI cZ h a0 a1 a2 a3 a4 a5 a6 a7 a8 a9 a10 f0 f1 f2 f3 f4 f5 f6 f7 f8 f9 f10 v0 v1 v2 v3) sz)) 0 0 (va_A (wQ cI cZ h a0 a1 a2 a3 a4 a5 a6 a7 a8 a9 a10 f0 f1 f2 f3 f4 f5 f6 f7 f8 f9 f10 v0 v1 v2 v3) sz) := by
  refine Met.ofW (cc := cX0_leave) (maxL := 3) (ret := (some .int)) (by decide) rfl ?_
  intro p e s m args below meth c s₁ B hml hv
  obtain ⟨rfl, hsz, hP, hK, hD0⟩ := hv
  have hx := B.exec
  have hb := B.bytes
  have hr := B.returns
  have hts := atoms_spec (ws := wsX0_leave) B.pre
  have hown : s.vm.findClass RX0 = some m.cls := findClass_of_methodNamed B.named
  have hlocks := B.notSynchronized
  have hin : ∀ w ∈ wsX00, w ∈ wsX0_leave := by decide +kernel
  subst hsz
  have hD := hD0.self (sz := s.heap.size)
  generalize hAe : va_A (wQ cI cZ h a0 a1 a2 a3 a4 a5 a6 a7 a8 a9 a10 f0 f1 f2 f3 f4 f5 f6 f7 f8 f9 f10 v0 v1 v2 v3) s.heap.size = A at hD ⊢
  have hA : ∀ q : Nat, s.heap.size ≤ q → A q := fun q h => by rw [← hAe]; exact Or.inr h
  have hS : va_S A s.heap s.heap [] := va_S.rf
  have hl := lv_entry ([.ref h, .int p0]) (n := 3) (Nat.le_of_ble_eq_true rfl)
  rw [lg_entry_eq]
  generalize (lg_sl ([.ref h, .int p0]) ++ List.replicate (3 - (lg_sl ([.ref h, .int p0])).length) Slot.unset).toArray = ls at hl ⊢
  have hl : lv_has ls 3 [(0, .ref h), (1, .int p0)] := hl
  refine lv_iload_n hx hb dX0_leave_0 rfl (lv_at hl 1 rfl) ?_
  refine va_csv (W.runS (As := [.int p0]) (rest := []) ⟨hx, hb, hml, hown, hts⟩ (c_X0_requireGiver l p0 hg) (va_cwS 1 hts gX0_leave_X0_requireGiver rfl rfl rfl (by decide +kernel) ⟨Nat.le_of_ble_eq_true rfl, Nat.le_of_ble_eq_true rfl⟩) ⟨zN_blind, fun U hU hW => ⟨rfl, trivial⟩⟩ rfl rfl hl.1 rfl (lv_room (Nat.le_of_ble_eq_true rfl)) dX0_leave_1 ⟨Nat.le_of_ble_eq_true rfl, Nat.le_of_ble_eq_true rfl⟩) (fun w1 => ?_)
  refine lv_aload_n hx hb dX0_leave_4 rfl (lv_at hl 0 rfl) ?_
  refine va_get (D := D) (ci := 0) (v := .ref a0) (C := RX0) (T := TX0) (N := 15) hx hb hts hin hown hK hP 0 rfl rfl 0 (by decide) (hts (.fieldLink RX0 9 "Quorumfund" "kept" "[I") (by decide +kernel)) (fun _ h9 => h9) rfl dX0_leave_5 ?_
  refine lv_iload_n hx hb dX0_leave_8 rfl (lv_at hl 1 rfl) ?_
  refine va_iald (D := D) hx hb hK hP 1 0 rfl rfl (q_g_in hg) dX0_leave_9 ?_
  refine lv_istore_n (lv' := [(2, .int (f0 p0.toNatClampNeg)), (0, .ref h), (1, .int p0)]) hx hb dX0_leave_10 rfl hl (by decide) rfl (fun ls hl => ?_)
  refine lv_aload_n hx hb dX0_leave_11 rfl (lv_at hl 1 rfl) ?_
  refine va_get (D := D) (ci := 0) (v := .ref a0) (C := RX0) (T := TX0) (N := 15) hx hb hts hin hown hK hP 0 rfl rfl 0 (by decide) (hts (.fieldLink RX0 9 "Quorumfund" "kept" "[I") (by decide +kernel)) (fun _ h9 => h9) rfl dX0_leave_12 ?_
  refine lv_iload_n hx hb dX0_leave_15 rfl (lv_at hl 2 rfl) ?_
  refine lv_iconst (v := 0) hx hb dX0_leave_16 (by decide) ?_
  refine va_iast (D := D) hx hb hK hP hD hS 1 0 rfl rfl (q_g_in hg) dX0_leave_17 (fun H locs hP hD hS => ?_)
  have hP : va_P D vwCl (wQ cI cZ h a0 a1 a2 a3 a4 a5 a6 a7 a8 a9 a10 (upd f0 p0.toNatClampNeg 0) f1 f2 f3 f4 f5 f6 f7 f8 f9 f10 v0 v1 v2 v3) H := hP
  have hD : va_D A (wQ cI cZ h a0 a1 a2 a3 a4 a5 a6 a7 a8 a9 a10 (upd f0 p0.toNatClampNeg 0) f1 f2 f3 f4 f5 f6 f7 f8 f9 f10 v0 v1 v2 v3) := hD
  refine lv_aload_n hx hb dX0_leave_18 rfl (lv_at hl 1 rfl) ?_
  refine va_get (D := D) (ci := 0) (v := .ref a2) (C := RX0) (T := TX0) (N := 15) hx hb hts hin hown hK hP 0 rfl rfl 2 (by decide) (hts (.fieldLink RX0 16 "Quorumfund" "gotBack" "[I") (by decide +kernel)) (fun _ h9 => h9) rfl dX0_leave_19 ?_
  refine lv_iload_n hx hb dX0_leave_22 rfl (lv_at hl 2 rfl) ?_
  refine lv_dup2_11 hx hb dX0_leave_23 rfl rfl ?_
  refine va_iald (D := D) hx hb hK hP 3 0 rfl rfl (q_g_in hg) dX0_leave_24 ?_
  refine lv_iload_n hx hb dX0_leave_25 rfl (lv_at hl 0 rfl) ?_
  refine lv_iadd hx hb dX0_leave_26 ?_
  refine va_iast (D := D) hx hb hK hP hD hS 3 0 rfl rfl (q_g_in hg) dX0_leave_27 (fun H locs hP hD hS => ?_)
  have hP : va_P D vwCl (wQ cI cZ h a0 a1 a2 a3 a4 a5 a6 a7 a8 a9 a10 (upd f0 p0.toNatClampNeg 0) f1 (upd f2 p0.toNatClampNeg ((f2 p0.toNatClampNeg) + (f0 p0.toNatClampNeg))) f3 f4 f5 f6 f7 f8 f9 f10 v0 v1 v2 v3) H := hP
  have hD : va_D A (wQ cI cZ h a0 a1 a2 a3 a4 a5 a6 a7 a8 a9 a10 (upd f0 p0.toNatClampNeg 0) f1 (upd f2 p0.toNatClampNeg ((f2 p0.toNatClampNeg) + (f0 p0.toNatClampNeg))) f3 f4 f5 f6 f7 f8 f9 f10 v0 v1 v2 v3) := hD
  refine lv_aload_n hx hb dX0_leave_28 rfl (lv_at hl 1 rfl) ?_
  refine va_get (D := D) (ci := 0) (v := .ref a6) (C := RX0) (T := TX0) (N := 15) hx hb hts hin hown hK hP 0 rfl rfl 6 (by decide) (hts (.fieldLink RX0 28 "Quorumfund" "votes" "[I") (by decide +kernel)) (fun _ h9 => h9) rfl dX0_leave_29 ?_
  refine lv_iload_n hx hb dX0_leave_32 rfl (lv_at hl 2 rfl) ?_
  refine lv_iconst (v := 0) hx hb dX0_leave_33 (by decide) ?_
  refine va_iast (D := D) hx hb hK hP hD hS 7 0 rfl rfl (q_g_in hg) dX0_leave_34 (fun H locs hP hD hS => ?_)
  have hP : va_P D vwCl (wQ cI cZ h a0 a1 a2 a3 a4 a5 a6 a7 a8 a9 a10 (upd f0 p0.toNatClampNeg 0) f1 (upd f2 p0.toNatClampNeg ((f2 p0.toNatClampNeg) + (f0 p0.toNatClampNeg))) f3 f4 f5 (upd f6 p0.toNatClampNeg 0) f7 f8 f9 f10 v0 v1 v2 v3) H := hP
  have hD : va_D A (wQ cI cZ h a0 a1 a2 a3 a4 a5 a6 a7 a8 a9 a10 (upd f0 p0.toNatClampNeg 0) f1 (upd f2 p0.toNatClampNeg ((f2 p0.toNatClampNeg) + (f0 p0.toNatClampNeg))) f3 f4 f5 (upd f6 p0.toNatClampNeg 0) f7 f8 f9 f10 v0 v1 v2 v3) := hD
  refine lv_iload_n hx hb dX0_leave_35 rfl (lv_at hl 0 rfl) ?_
  exact W.iret (v := f0 p0.toNatClampNeg) hx hb hr (fun t ht hW => ⟨⟨f0 p0.toNatClampNeg, ⟨(upd f0 p0.toNatClampNeg 0), (upd f2 p0.toNatClampNeg ((f2 p0.toNatClampNeg) + (f0 p0.toNatClampNeg))), (upd f6 p0.toNatClampNeg 0)⟩, rfl, ⟨rfl, rfl, rfl, rfl⟩, ⟨by rw [ht]; exact hP, va_K.moved hW.alike hK, hD⟩⟩, hS.F ht⟩) hS.2.2 dX0_leave_36
set_option maxHeartbeats 4000000 in
set_option maxRecDepth 100000 in
theorem c_X0_leave_t (l : Launch) (hl0 : l.stackTraces = false) (D : va_G) (cI cZ cJ : ClassId) (h a0 a1 a2 a3 a4 a5 a6 a7 a8 a9 a10 : Nat) (f0 f1 f2 f3 f4 f5 f6 f7 f8 f9 f10 : Nat → Int32) (v0 v1 v2 v3 : Int32) (p0 : Int32) (hg : q_g p0 = false) : vx_Met l yX0_leave wsX0_leave ({ frames := 7, cells := 1, slots := 6, locals := 110 }) (va_Pc [.ref h, .int p0] (zPX D cI cZ cJ (wQ cI cZ h a0 a1 a2 a3 a4 a5 a6 a7 a8 a9 a10 f0 f1 f2 f3 f4 f5 f6 f7 f8 f9 f10 v0 v1 v2 v3))) zNo (zXC (fun E => E = "java/lang/IndexOutOfBoundsException")) 1 6 (fun _ => False) := by
  refine vx_ofW (cc := cX0_leave) (maxL := 3) (ret := (some .int)) (by decide) rfl ?_
  intro p e s m args below meth c s₁ B hml hout hv
  obtain ⟨rfl, hZ, hP, hK⟩ := hv
  have hx := B.exec
  have hb := B.bytes
  have hr := B.returns
  have hts := atoms_spec (ws := wsX0_leave) B.pre
  have hown : s.vm.findClass RX0 = some m.cls := findClass_of_methodNamed B.named
  have hlocks := B.notSynchronized
  have hin : ∀ w ∈ wsX00, w ∈ wsX0_leave := by decide +kernel
  have hl := lv_entry ([.ref h, .int p0]) (n := 3) (Nat.le_of_ble_eq_true rfl)
  rw [lg_entry_eq]
  generalize (lg_sl ([.ref h, .int p0]) ++ List.replicate (3 - (lg_sl ([.ref h, .int p0])).length) Slot.unset).toArray = ls at hl ⊢
  have hl : lv_has ls 3 [(0, .ref h), (1, .int p0)] := hl
  refine lv_iload_n hx hb dX0_leave_0 rfl (lv_at hl 1 rfl) ?_
  exact z_thru (vx_runS (As := [.int p0]) (rest := []) ⟨hx, hb, hml, hown, hts⟩ (c_X0_requireGiver_t l hl0 p0 hg) (va_cwS 1 hts gX0_leave_X0_requireGiver rfl rfl rfl (by decide +kernel) ⟨Nat.le_of_ble_eq_true rfl, Nat.le_of_ble_eq_true rfl⟩) ⟨zXs_blind, fun U hU hW => ⟨rfl, zX_at hZ hU hW⟩⟩ rfl rfl hl.1 rfl (lv_room (Nat.le_of_ble_eq_true rfl)) dX0_leave_1 ⟨Nat.le_of_ble_eq_true rfl, Nat.le_of_ble_eq_true rfl⟩) (fun _ h => h) hout hlocks (fun _ h => h)
end
