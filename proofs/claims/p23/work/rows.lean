section
def su_isBot : Frame → Bool
  | .native ⟨⟨0, 0⟩, ⟨[]⟩, 0, ⟨[]⟩, false, none, none, 0⟩ => true
  | _ => false
theorem su_isBot_eq {f : Frame} (h : su_isBot f = true) : f = .native { method := ⟨0, 0⟩, args := #[] } := by
  revert h; unfold su_isBot; split <;> intro h <;> first | rfl | cases h
def su_isEnd : Frame → Bool
  | .native ⟨⟨0, 0⟩, ⟨[]⟩, 0, ⟨[]⟩, false, some (.returned (some (.int v))), none, 0⟩ => decide (v = 1)
  | _ => false
theorem su_isEnd_eq {f : Frame} (h : su_isEnd f = true) : f = .native { method := ⟨0, 0⟩, args := #[], awaiting := false, answer := some (.returned (some (.int 1))) } := by
  revert h; unfold su_isEnd; split <;> intro h
  · have hv := of_decide_eq_true h
    subst hv; rfl
  · cases h
def su_last : List Frame → Bool
  | [] => false
  | [b] => su_isBot b
  | _ :: b :: r => su_last (b :: r)
theorem su_last_eq : ∀ (l : List Frame), su_last l = true → ∃ pre, l = pre ++ Lib.HandBits.below0
  | [], h => by simp [su_last] at h
  | [b], h => ⟨[], by rw [su_isBot_eq (f := b) (by simpa [su_last] using h)]; rfl⟩
  | a :: b :: r, h => by
    obtain ⟨pre, hp⟩ := su_last_eq (b :: r) (by simpa [su_last] using h)
    exact ⟨a :: pre, by rw [hp]; rfl⟩
def su_in : List Frame → Bool
  | .throwing _ :: _ => false
  | _ :: b :: r => su_last (b :: r)
  | _ => false
theorem su_in_eq {l : List Frame} (h : su_in l = true) : ∃ above, l = above ++ Lib.HandBits.below0 ∧ above ≠ [] ∧ ∀ a, above ≠ [.throwing a] := by
  match l, h with
  | [], h => simp [su_in] at h
  | [a], h => cases a <;> simp [su_in] at h
  | a :: b :: r, h =>
    have hb : su_last (b :: r) = true := by cases a <;> simpa [su_in] using h
    have ha : ∀ q, a ≠ .throwing q := by intro q hq; subst hq; simp [su_in] at h
    obtain ⟨pre, hp⟩ := su_last_eq (b :: r) hb
    exact ⟨a :: pre, by rw [hp]; rfl, by simp, by intro q hq; injection hq with h1 h2; exact ha q h1⟩
def su_running (s : State) : Bool := match s.status with | .running => true | _ => false
def su_runnable (s : State) : Bool := match s.curStatus? with | some .runnable => true | _ => false
def su_go (s : State) : Bool := su_in s.frames && (su_running s && (su_runnable s && s.alone))
theorem su_go_spec {s : State} (h : su_go s = true) : Within s Lib.HandBits.below0 ∧ s.status = .running ∧ s.curStatus? = some .runnable ∧ s.alone = true := by
  simp only [su_go, Bool.and_eq_true] at h
  obtain ⟨h1, h2, h3, h4⟩ := h
  refine ⟨su_in_eq h1, ?_, ?_, h4⟩
  · revert h2; unfold su_running; split <;> intro h2 <;> first | assumption | cases h2
  · revert h3; unfold su_runnable; split <;> intro h3 <;> first | assumption | cases h3
def sfn {β : Type} (n : Nat) (f : Nat → β) : β := match n with
  | 0 => f 0
  | k + 1 => f (k + 1)
theorem sfn_eq {β : Type} (n : Nat) (f : Nat → β) : sfn n f = f n := by cases n <;> rfl
def sf_dec (b : ByteArray) (pc : Nat) : Except DecodeError (Instr × Nat) := match b with
  | ⟨⟨l⟩⟩ => sfn pc fun q => decode ⟨⟨l⟩⟩ q
theorem sf_dec_eq (b : ByteArray) (pc : Nat) : sf_dec b pc = decode b pc := by
  obtain ⟨⟨l⟩⟩ := b
  exact sfn_eq pc _
def sp_step (tb : Tables) (e : Env) (s : State) : State := match s.frames with
  | .java f :: _ => match overridden tb e s f with
    | some _ => (stepThread tb e s).1
    | none => match s.code? f.method with
      | some c => match sf_dec c.code f.pc with
        | .ok (i, len) => (afterInstr e len ((tb.exec i).run e s)).1
        | .error _ => (stepThread tb e s).1
      | none => (stepThread tb e s).1
  | _ => (stepThread tb e s).1
theorem sp_step_eq (tb : Tables) (e : Env) (s : State) : sp_step tb e s = (stepThread tb e s).1 := by
  unfold sp_step
  split
  · rename_i f r hf
    split
    · rfl
    · rename_i ho
      split
      · rename_i c hc
        split
        · rename_i i len hd0
          have hd : decode c.code f.pc = .ok (i, len) := by rw [← sf_dec_eq]; exact hd0
          unfold stepThread
          simp only [hf, ho, hc, hd, Option.map_some]
        · rfl
      · rfl
  · rfl
def tz_in : List Frame → Bool
  | .throwing _ :: _ :: c :: r => su_last (c :: r)
  | .throwing _ :: _ => false
  | _ :: b :: r => su_last (b :: r)
  | _ => false
def tz_go (s : State) : Bool := tz_in s.frames && (su_running s && (su_runnable s && s.alone))
def tz_walk (tb : Tables) (e : Env) (hs : Nat) : Nat → State → Bool
  | 0, s => Nat.ble hs s.heap.size
  | n + 1, s => match tz_go s with
    | true => tz_walk tb e hs n (sp_step tb e s)
    | false => false
end
section
set_option maxRecDepth 1000000 in
theorem tw_t1 : tz_walk start1.p0.tables start1.e0 0 1800 start1.about = true := by decide +kernel
end
