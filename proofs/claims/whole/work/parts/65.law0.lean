/-! THE LAW: what stands at its entry (but the statement's start, taken by lw_At of the skeleton), and the state between two calls -/
def zC (p : Program) (s : State) (m : MethodId) (meth : Method) (c : Code) (b L : Nat) (xs : Nat → Int32) : Prop :=
  p.tables.exec = Jvm.exec ∧ c.code = code ∧ c.maxLocals = 7 ∧ s.vm.findClass RL = some m.cls ∧ (∀ w ∈ lw_tbl, w.before #[Value.ref b] s = true) ∧ va_X b L xs s s.heap ∧ b < s.heap.size
def zG (D : va_G) (cI cZ cJ : ClassId) (ao h a0 a1 a2 a3 a4 a5 a6 a7 a8 a9 a10 hm b0 b4 b5 b6 b7 b8 b9 : Nat) (s : State) (H : Heap) (locs : List Loc) : Prop :=
  ∃ (f0 f1 f2 f3 f4 f5 f6 f7 f8 f9 f10 : Nat → Int32) (v0 v1 v2 v3 : Int32) (m9 : Nat → Int32) (v4 : Int32) (g : Nat → Int64), q_IV f0 f1 f2 f3 f4 f7 f8 v0 v1 v2 ∧
    va_P D vwCl (wO cJ ao g ++ (wQ cI cZ h a0 a1 a2 a3 a4 a5 a6 a7 a8 a9 a10 f0 f1 f2 f3 f4 f5 f6 f7 f8 f9 f10 v0 v1 v2 v3 ++ wM cI cZ hm b0 b4 b5 b6 b7 b8 b9 f0 f4 f5 f6 f7 f8 m9 v0 v1 v2 v3 v4)) H ∧
    va_D (fun q : Nat => s.heap.size ≤ q) (wO cJ ao g ++ (wQ cI cZ h a0 a1 a2 a3 a4 a5 a6 a7 a8 a9 a10 f0 f1 f2 f3 f4 f5 f6 f7 f8 f9 f10 v0 v1 v2 v3 ++ wM cI cZ hm b0 b4 b5 b6 b7 b8 b9 f0 f4 f5 f6 f7 f8 m9 v0 v1 v2 v3 v4)) ∧ va_S (fun q : Nat => s.heap.size ≤ q) s.heap H locs
theorem z_cmp {x y : Int64} (h : x = y) : lg_cmp x y = 0 := by
  subst h
  unfold lg_cmp
  simp
