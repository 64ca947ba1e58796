/-! trust: rows of trust end within 8, also after a new trust that leads to no ring -/
theorem te_mono1 {t : Nat → Int32} : ∀ n a, q_ends t n a → q_ends t (n + 1) a := by
  intro n
  induction n with
  | zero => intro a h; exact Or.inl h
  | succ n ih =>
    intro a h
    rcases h with h | ⟨h1, h2⟩
    · exact Or.inl h
    · exact Or.inr ⟨h1, ih _ h2⟩
theorem te_mono {t : Nat → Int32} {n a} (k : Nat) (h : q_ends t n a) : q_ends t (n + k) a := by
  induction k with
  | zero => exact h
  | succ k ih => exact te_mono1 _ _ ih
theorem te_in {a b : Int32} (ha : q_g a = true) (hb : q_g b = true) (h : a.toNatClampNeg = b.toNatClampNeg) : a = b := by
  have h1 := (z_nI (q_g_iff.mp ha).1).1
  have h2 := (z_nI (q_g_iff.mp hb).1).1
  rw [h1, h2, h]
/-- a row that doesn't meet g is the same when g trusts another one -/
theorem te_avoid {t : Nat → Int32} {g o : Int32} (hg : q_g g = true) : ∀ n a, q_ends t n a → q_lead t n a g = false → q_ends (upd t g.toNatClampNeg o) n a := by
  intro n
  induction n with
  | zero => intro a h _; exact h
  | succ n ih =>
    intro a h hl
    rcases h with h | ⟨h1, h2⟩
    · exact Or.inl h
    · refine Or.inr ⟨h1, ?_⟩
      rw [q_lead, h1, Bool.true_and, Bool.or_eq_false_iff] at hl
      have hne : ¬ a = g := of_decide_eq_false hl.1
      rw [pk_un (fun e => hne (te_in h1 hg e))]
      exact ih _ h2 hl.2
theorem te_long {t : Nat → Int32} {g o : Int32} {m : Nat} (hg : q_g g = true) (ho : q_ends (upd t g.toNatClampNeg o) m o) : ∀ n a, q_ends t n a → q_ends (upd t g.toNatClampNeg o) (n + (m + 1)) a := by
  intro n
  induction n with
  | zero => intro a h; rw [show a = -1 from h]; exact te_mono (m + 1) (n := 0) rfl
  | succ n ih =>
    intro a h
    rcases h with h | ⟨h1, h2⟩
    · rw [h]; exact te_mono (n := 0) (n + 1 + (m + 1)) (a := -1) rfl |> fun z => by rw [Nat.zero_add] at z; exact z
    · by_cases e : a = g
      · subst e
        have h3 : q_ends (upd t a.toNatClampNeg o) (m + 1) a := Or.inr ⟨h1, by rw [pk_us]; exact ho⟩
        have h4 := te_mono (n + 1) h3
        rw [Nat.add_comm] at h4
        exact h4
      · rw [show n + 1 + (m + 1) = (n + (m + 1)) + 1 by omega]
        refine Or.inr ⟨h1, ?_⟩
        rw [pk_un (fun z => e (te_in h1 hg z))]
        exact ih _ h2
/-- the least number within which a row ends -/
def te_min (t : Nat → Int32) (n : Nat) (a : Int32) : Prop := q_ends t n a ∧ ∀ m, m < n → ¬ q_ends t m a
theorem te_has {t : Nat → Int32} {a : Int32} : ∀ n, q_ends t n a → ∃ k, k ≤ n ∧ te_min t k a := by
  intro n
  induction n with
  | zero => intro h; exact ⟨0, Nat.le_refl _, h, fun m hm => absurd hm (Nat.not_lt_zero _)⟩
  | succ n ih =>
    intro h
    by_cases e : q_ends t n a
    · obtain ⟨k, h1, h2⟩ := ih e
      exact ⟨k, by omega, h2⟩
    · refine ⟨n + 1, Nat.le_refl _, h, fun m hm hc => e ?_⟩
      have := te_mono (n - m) hc
      rw [show m + (n - m) = n by omega] at this
      exact this
theorem te_next {t : Nat → Int32} {n : Nat} {a : Int32} (h : te_min t (n + 1) a) : q_g a = true ∧ te_min t n (t a.toNatClampNeg) := by
  obtain ⟨h1, h2⟩ := h
  have hn : ¬ a = -1 := fun e => h2 0 (by omega) e
  have h3 := h1.resolve_left hn
  refine ⟨h3.1, h3.2, fun m hm hc => h2 (m + 1) (by omega) (Or.inr ⟨h3.1, hc⟩)⟩
theorem te_down {t : Nat → Int32} : ∀ n a, te_min t n a → ∀ k, k ≤ n → ∃ b, te_min t k b := by
  intro n
  induction n with
  | zero => intro a h k hk; rw [show k = 0 by omega]; exact ⟨a, h⟩
  | succ n ih =>
    intro a h k hk
    by_cases e : k = n + 1
    · rw [e]; exact ⟨a, h⟩
    · exact ih _ (te_next h).2 k (by omega)
theorem te_8 {t : Nat → Int32} {n : Nat} {a : Int32} (h : q_ends t n a) : q_ends t 8 a := by
  obtain ⟨k, hk, hm⟩ := te_has n h
  rcases Nat.lt_or_ge 8 k with h9 | h9
  · exfalso
    have hb : ∀ i, ∃ b, i < 9 → te_min t (i + 1) b := by
      intro i
      by_cases hi : i < 9
      · obtain ⟨b, hb⟩ := te_down k a hm (i + 1) (by omega)
        exact ⟨b, fun _ => hb⟩
      · exact ⟨0, fun z => absurd z hi⟩
    have hf : ∀ i, i < 9 → te_min t (i + 1) (Classical.choose (hb i)) := fun i hi => Classical.choose_spec (hb i) hi
    have := fb_holes 8 9 (fun i => (Classical.choose (hb i)).toNatClampNeg) (fun i hi => z_gN (te_next (hf i hi)).1) (fun i j hij hj e => by
      have h1 := hf i (by omega)
      have h2 := hf j hj
      have e2 := te_in (te_next h1).1 (te_next h2).1 e
      rw [e2] at h1
      exact h2.2 (i + 1) (by omega) h1.1)
    omega
  · have := te_mono (8 - k) hm.1
    rw [show k + (8 - k) = 8 by omega] at this
    exact this
section IV3
variable {f0 f1 f2 f3 f4 f5 f6 f7 f8 : Nat → Int32} {v0 v1 v2 v3 : Int32}
theorem iv_trust (h : q_IV f0 f1 f2 f3 f4 f7 f8 v0 v1 v2) (p0 p1 : Int32) : q_IV f0 f1 f2 f3 (q_up (q_trK f4 p0 p1) f4 p0.toNatClampNeg p1) f7 f8 v0 v1 v2 := by
  by_cases hk : q_trK f4 p0 p1 = 0
  · rw [iv_up hk]
    have hg : (q_g p0 && (decide (p1 = -1) || q_g p1)) = true := by
      cases e : (q_g p0 && (decide (p1 = -1) || q_g p1))
      · simp [q_trK, e] at hk
      · rfl
    have hl : q_lead f4 8 p1 p0 = false := by
      cases e : q_lead f4 8 p1 p0
      · rfl
      · rw [q_trK, hg, e] at hk
        exact absurd hk (by decide)
    rw [Bool.and_eq_true] at hg
    have ho : q_ends f4 8 p1 := by
      by_cases e : p1 = -1
      · exact Or.inl e
      · have hg1 := hg.2
        rw [decide_eq_false e, Bool.false_or] at hg1
        exact iv_heg h hg1
    have hav := te_avoid (o := p1) hg.1 8 p1 ho hl
    obtain ⟨h1, h2, h3, h4⟩ := h
    exact ⟨h1, h2, fun j hj => te_8 (te_long hg.1 hav 8 _ (h3 j hj)), h4⟩
  · rw [iv_keep hk]
    exact h
theorem iv_won {x v2 : Int32} {P : Nat} (h : v2 = nI P) (hP : P ≤ 1000000) : ∃ y : Nat, q_won x v2 = nI y ∧ y ≤ P := by
  unfold q_won
  by_cases h1 : x < 0
  · rw [decide_eq_true h1]; exact ⟨0, rfl, Nat.zero_le _⟩
  · rw [decide_eq_false h1]
    by_cases h2 : v2 < x
    · rw [decide_eq_true h2]; exact ⟨P, h, Nat.le_refl _⟩
    · rw [decide_eq_false h2]
      have h0 : 0 ≤ x.toInt := by rw [z_lt, z_l0] at h1; omega
      obtain ⟨e1, e2, e3⟩ := z_nI h0
      refine ⟨x.toNatClampNeg, e1, ?_⟩
      rw [h, e1, nI_ltI (by omega) e3] at h2
      omega
theorem iv_rel (h : q_IV f0 f1 f2 f3 f4 f7 f8 v0 v1 v2) (f5 f6 : Nat → Int32) :
    q_IV (q_uA (q_reK f0 f4 f6 f7 f8 v0 v1) f0 (q_fill (fun n => f0 n - q_sh f0 (f7 v1.toNatClampNeg) n) f0 8)) f1 f2 (q_uA (q_reK f0 f4 f6 f7 f8 v0 v1) f3 (q_fill (fun n => f3 n + q_sh f0 (f7 v1.toNatClampNeg) n) f3 8)) f4 f7 f8 v0
      (q_us (q_reK f0 f4 f6 f7 f8 v0 v1) v1 (v1 + 1)) (q_us (q_reK f0 f4 f6 f7 f8 v0 v1) v2 (v2 - q_mt f5 (q_sh f0 (f7 v1.toNatClampNeg)) (f7 v1.toNatClampNeg) v2)) := by
  by_cases hk : q_reK f0 f4 f6 f7 f8 v0 v1 = 0
  · rw [iv_uA hk, iv_uA hk, iv_us hk, iv_us hk]
    have hc : q_cov f0 f7 v0 v1 = true := by
      cases e : q_cov f0 f7 v0 v1
      · simp [q_reK, e] at hk
      · rfl
    obtain ⟨K, x, hK, hx, hx1, hx2, hx3, hx4, hx5⟩ := iv_cov h hc
    have hs : ∀ j, j < 8 → q_sh f0 (f7 v1.toNatClampNeg) j = nI (q_s K x (q_S K 8) j) := fun j hj => by rw [hx]; exact iv_sh hK hx1 hx2 hx3 hx4 hj
    have hle : ∀ j, q_s K x (q_S K 8) j ≤ K j := fun j => q_s_le hx3 j
    have hlt : v1 < v0 := by
      simp only [q_cov, Bool.and_eq_true, decide_eq_true_eq] at hc
      exact hc.1
    obtain ⟨-, h2, h3, ⟨a, r, rfl, rfl, hra, ha, h5, h6⟩, P, hP, hP2⟩ := h
    have hra2 : r < a := (nI_ltI (by omega) (by omega)).mp hlt
    obtain ⟨y, hy, hy2⟩ := iv_won (x := q_sq (q_rts f5 (q_sh f0 (f7 (nI r).toNatClampNeg))) - f7 (nI r).toNatClampNeg) hP hP2
    refine ⟨⟨fun j => K j - q_s K x (q_S K 8) j, fun j hj => ?_⟩, fun j hj => ?_, h3, ⟨a, r + 1, rfl, nI_1 r, by omega, ha, h5, h6⟩, P - y, ?_, by omega⟩
    · rw [z_fill_lt hj, hs j hj, (hK j hj).1, pk_sub (hle j)]
      refine ⟨rfl, ?_⟩
      have := (hK j hj).2
      dsimp only
      omega
    · rw [z_fill_lt hj, z_fill_lt hj]
      have := h2 j hj
      rw [← this]
      grind
    · unfold q_mt
      rw [hy, hP, pk_sub hy2]
  · rw [iv_uAn hk, iv_uAn hk, iv_usn hk, iv_usn hk]
    exact h
end IV3
/-- at the beginning -/
theorem iv_new : q_IV (fun _ => 0) (fun _ => 0) (fun _ => 0) (fun _ => 0) (q_fill (fun _ => -1) (fun _ => 0) 8) (fun _ => 0) (fun _ => 0) 0 0 0 := by
  refine ⟨⟨fun _ => 0, fun j _ => ⟨rfl, Nat.zero_le _⟩⟩, fun j _ => by show (0 : Int32) - 0 - 0 = 0; decide, fun j hj => ?_, ⟨0, 0, rfl, rfl, Nat.le_refl _, by omega, fun j hj => absurd hj (Nat.not_lt_zero _), fun _ _ => rfl⟩, 0, rfl, by omega⟩
  refine Or.inr ⟨q_g_iff.mpr (by rw [nI_toInt (by omega)]; omega), Or.inl ?_⟩
  rw [z_cl hj, z_fill_lt hj]
/-! what the law's helpers need of 'prove' and 'vote' -/
theorem z_prlt {v0 p0 : Int32} (hv : 0 ≤ v0.toInt ∧ v0.toInt ≤ 6) : q_i p0 0 (v0 - 1) = true ↔ ¬ p0 < 0 ∧ p0 < v0 := by
  have e0 : (v0 - 1).toInt = v0.toInt - 1 := by
    obtain ⟨e1, e2, e3⟩ := z_nI hv.1
    rw [e1]
    rcases Nat.eq_zero_or_pos v0.toNatClampNeg with h9 | h9
    · rw [h9]; rfl
    · obtain ⟨b, hb⟩ : ∃ b, v0.toNatClampNeg = b + 1 := ⟨v0.toNatClampNeg - 1, by omega⟩
      rw [hb, nI_pred, nI_toInt (by omega), nI_toInt (by omega)]; omega
  rw [q_i_iff, e0, z_lt, z_lt, z_l0]
  omega
theorem iv_cur {f0 f1 f2 f3 f4 f7 f8 : Nat → Int32} {v0 v1 v2 : Int32} (h : q_IV f0 f1 f2 f3 f4 f7 f8 v0 v1 v2) : q_cur v0 v1 = -1 ↔ ¬ v1 < v0 := z_cur (iv_hb h).1
theorem z_tog1 {x : Int32} (h : ¬ q_tog x = 0) : q_tog x = 1 := by
  unfold q_tog at *
  cases e : decide (x = 0)
  · rw [e] at h; exact absurd rfl h
  · rfl
theorem z_reK1 {f0 f4 f6 f7 f8 : Nat → Int32} {v0 v1 : Int32} (h : ¬ (q_cov f0 f7 v0 v1 = true ∧ ¬ f8 v1.toNatClampNeg = 0 ∧ q_sum f0 8 < 2 * q_wt f0 f4 f6 1 8)) : q_reK f0 f4 f6 f7 f8 v0 v1 = 1 := by
  unfold q_reK
  have e : (q_cov f0 f7 v0 v1 && (!decide (f8 v1.toNatClampNeg = 0) && decide (q_sum f0 8 < 2 * q_wt f0 f4 f6 1 8))) = false := by
    cases e : (q_cov f0 f7 v0 v1 && (!decide (f8 v1.toNatClampNeg = 0) && decide (q_sum f0 8 < 2 * q_wt f0 f4 f6 1 8)))
    · rfl
    · simp only [Bool.and_eq_true, Bool.not_eq_true', decide_eq_false_iff_not, decide_eq_true_eq] at e
      exact absurd e h
  rw [e]; rfl
