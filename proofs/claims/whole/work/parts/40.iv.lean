theorem fb_holes : ∀ (m n : Nat) (f : Nat → Nat), (∀ i, i < n → f i < m) → (∀ i j, i < j → j < n → f i ≠ f j) → n ≤ m := by
  intro m
  induction m with
  | zero =>
    intro n f h1 _
    rcases Nat.eq_zero_or_pos n with h | h
    · omega
    · exact absurd (h1 0 h) (Nat.not_lt_zero _)
  | succ m ih =>
    intro n f h1 h2
    by_cases hx : ∃ i, i < n ∧ f i = m
    · obtain ⟨a, ha, hfa⟩ := hx
      have hg := ih (n - 1) (fun i => if i < a then f i else f (i + 1)) (by
        intro i hi
        by_cases q : i < a
        · simp only [if_pos q]
          have b1 := h1 i (by omega)
          have b2 := h2 i a q ha
          omega
        · simp only [if_neg q]
          have b1 := h1 (i + 1) (by omega)
          have b2 := h2 a (i + 1) (by omega) (by omega)
          omega) (by
        intro i j hij hj
        by_cases q : i < a
        · by_cases r : j < a
          · simp only [if_pos q, if_pos r]
            exact h2 i j hij (by omega)
          · simp only [if_pos q, if_neg r]
            exact h2 i (j + 1) (by omega) (by omega)
        · have r : ¬ j < a := by omega
          simp only [if_neg q, if_neg r]
          exact h2 (i + 1) (j + 1) (by omega) (by omega))
      omega
    · have hg := ih n f (fun i hi => by
        have b1 := h1 i hi
        have b2 : f i ≠ m := fun e => hx ⟨i, hi, e⟩
        omega) h2
      omega
/-! WHAT HOLDS BETWEEN CALLS, in pure words -/
def q_S (K : Nat → Nat) : Nat → Nat
  | 0 => 0
  | n + 1 => q_S K n + K n
theorem q_S_le {K L : Nat → Nat} : ∀ n, (∀ j, j < n → K j ≤ L j) → q_S K n ≤ q_S L n := by
  intro n
  induction n with
  | zero => intro _; exact Nat.le_refl _
  | succ n ih => intro h; rw [q_S, q_S]; have h1 := ih (fun j hj => h j (by omega)); have h2 := h n (by omega); omega
theorem q_S_bd {K : Nat → Nat} {b : Nat} : ∀ n, (∀ j, j < n → K j ≤ b) → q_S K n ≤ n * b := by
  intro n
  induction n with
  | zero => intro _; rw [q_S]; omega
  | succ n ih => intro h; rw [q_S, Nat.succ_mul]; have h1 := ih (fun j hj => h j (by omega)); have h2 := h n (by omega); omega
theorem q_S_mono (K : Nat → Nat) {m n : Nat} (h : m ≤ n) : q_S K m ≤ q_S K n := by
  induction n with
  | zero => rw [show m = 0 by omega]; exact Nat.le_refl _
  | succ n ih =>
    by_cases e : m = n + 1
    · rw [e]; exact Nat.le_refl _
    · rw [q_S]; have := ih (by omega); omega
theorem iv_sum {f : Nat → Int32} {K : Nat → Nat} : ∀ n, (∀ j, j < n → f j = nI (K j)) → q_sum f n = nI (q_S K n) := by
  intro n
  induction n with
  | zero => intro _; rfl
  | succ n ih => intro h; rw [q_sum, ih (fun j hj => h j (by omega)), h n (by omega), nI_add]; rfl
def q_IV (f0 f1 f2 f3 f4 f7 f8 : Nat → Int32) (v0 v1 v2 : Int32) : Prop :=
  (∃ K : Nat → Nat, ∀ j, j < 8 → f0 j = nI (K j) ∧ K j ≤ 100000) ∧ (∀ j, j < 8 → f1 j - f2 j - f3 j = f0 j) ∧ (∀ j, j < 8 → q_ends f4 8 (nI j)) ∧
  (∃ a r : Nat, v0 = nI a ∧ v1 = nI r ∧ r ≤ a ∧ a ≤ 6 ∧ (∀ j, j < a → ∃ x : Nat, f7 j = nI x ∧ 1 ≤ x ∧ x ≤ 100000) ∧ ∀ j, a ≤ j → f8 j = 0) ∧ ∃ P : Nat, v2 = nI P ∧ P ≤ 1000000
section IV
variable {f0 f1 f2 f3 f4 f5 f6 f7 f8 : Nat → Int32} {v0 v1 v2 : Int32}
theorem iv_hb (h : q_IV f0 f1 f2 f3 f4 f7 f8 v0 v1 v2) : 0 ≤ v1.toInt ∧ v1.toInt ≤ v0.toInt ∧ v0.toInt ≤ 6 := by
  obtain ⟨-, -, -, ⟨a, r, rfl, rfl, h1, h2, -⟩, -⟩ := h
  rw [nI_toInt (by omega), nI_toInt (by omega)]
  omega
theorem iv_hp2 (h : q_IV f0 f1 f2 f3 f4 f7 f8 v0 v1 v2) : ¬ v2 < 0 := by
  obtain ⟨-, -, -, -, P, rfl, h1⟩ := h
  exact nI_pos (by omega)
theorem iv_he (h : q_IV f0 f1 f2 f3 f4 f7 f8 v0 v1 v2) : ∀ j, j < 8 → q_ends f4 8 (nI j) := h.2.2.1
theorem iv_heg (h : q_IV f0 f1 f2 f3 f4 f7 f8 v0 v1 v2) {x : Int32} (hg : q_g x = true) : q_ends f4 8 x := by
  have h1 := q_g_iff.mp hg
  obtain ⟨h2, h3, -⟩ := z_nI h1.1
  rw [h2]
  exact iv_he h _ (by omega)
theorem iv_hv (h : q_IV f0 f1 f2 f3 f4 f7 f8 v0 v1 v2) : ¬ v0 = 6 → vp_in v0 6 := by
  obtain ⟨-, -, -, ⟨a, r, rfl, rfl, h1, h2, -⟩, -⟩ := h
  intro hn
  have h3 : a ≠ 6 := fun e => hn (by rw [e]; rfl)
  exact vp_in_nI (by omega) (by omega)
theorem iv_v0 (h : q_IV f0 f1 f2 f3 f4 f7 f8 v0 v1 v2) : 0 ≤ v0.toInt ∧ v0.toInt ≤ 6 := by
  have := iv_hb h; omega
/-- the amount of a covered milestone, and the money that covers it -/
theorem iv_cov (h : q_IV f0 f1 f2 f3 f4 f7 f8 v0 v1 v2) (hc : q_cov f0 f7 v0 v1 = true) : ∃ (K : Nat → Nat) (x : Nat), (∀ j, j < 8 → f0 j = nI (K j) ∧ K j ≤ 100000) ∧ f7 v1.toNatClampNeg = nI x ∧ 1 ≤ x ∧ x ≤ 100000 ∧ x ≤ q_S K 8 ∧ q_S K 8 ≤ 800000 ∧ q_sum f0 8 = nI (q_S K 8) := by
  obtain ⟨⟨K, hK⟩, -, -, ⟨a, r, rfl, rfl, h1, h2, h3, -⟩, -⟩ := h
  simp only [q_cov, Bool.and_eq_true, decide_eq_true_eq] at hc
  obtain ⟨hc1, hc2⟩ := hc
  have hra : r < a := (nI_ltI (by omega) (by omega)).mp hc1
  rw [nI_clamp (by omega)] at hc2 ⊢
  obtain ⟨x, hx, hx1, hx2⟩ := h3 r hra
  have hs := iv_sum (K := K) 8 (fun j hj => (hK j hj).1)
  have hb : q_S K 8 ≤ 800000 := by have := q_S_bd (K := K) (b := 100000) 8 (fun j hj => (hK j hj).2); omega
  rw [hx, hs] at hc2
  exact ⟨K, x, hK, hx, hx1, hx2, (nI_leI (by omega) (by omega)).mp hc2, hb, hs⟩
theorem iv_hT (h : q_IV f0 f1 f2 f3 f4 f7 f8 v0 v1 v2) (hc : q_cov f0 f7 v0 v1 = true) : 0 < q_sum f0 8 := by
  obtain ⟨K, x, -, -, h1, -, h2, h3, h4⟩ := iv_cov h hc
  rw [h4]
  exact (nI_ltI (a := 0) (by decide) (by omega)).mpr (by omega)
end IV
/-! shares in whole numbers -/
def q_b (K : Nat → Nat) (x T : Nat) (j : Nat) : Nat := x * K j / T
def q_L (K : Nat → Nat) (x T : Nat) : Nat → Nat
  | 0 => x - q_S (q_b K x T) 8
  | n + 1 => if 0 < q_L K x T n ∧ q_b K x T n < K n then q_L K x T n - 1 else q_L K x T n
def q_s (K : Nat → Nat) (x T : Nat) (n : Nat) : Nat := if 0 < q_L K x T n ∧ q_b K x T n < K n then q_b K x T n + 1 else q_b K x T n
theorem q_b_S (K : Nat → Nat) (x T : Nat) : ∀ n, q_S (q_b K x T) n * T ≤ x * q_S K n := by
  intro n
  induction n with
  | zero => simp [q_S]
  | succ n ih =>
    rw [q_S, q_S, Nat.add_mul, Nat.mul_add]
    have := Nat.div_mul_le_self (x * K n) T
    have h2 : q_b K x T n * T ≤ x * K n := this
    omega
theorem q_b_le {K : Nat → Nat} {x T : Nat} (h : x ≤ T) (j : Nat) : q_b K x T j ≤ K j := by
  rcases Nat.eq_zero_or_pos T with h0 | h0
  · subst h0; simp [q_b]
  · exact Nat.div_le_of_le_mul (Nat.mul_le_mul h (Nat.le_refl _))
theorem q_b_x {K : Nat → Nat} {x : Nat} (hT : 0 < q_S K 8) : q_S (q_b K x (q_S K 8)) 8 ≤ x := by
  have h := q_b_S K x (q_S K 8) 8
  exact Nat.le_of_mul_le_mul_right h hT
theorem q_s_le {K : Nat → Nat} {x T : Nat} (h : x ≤ T) (j : Nat) : q_s K x T j ≤ K j := by
  have h1 := q_b_le (K := K) h j
  unfold q_s
  split <;> omega
theorem q_s_S (K : Nat → Nat) (x T : Nat) : ∀ n, q_S (q_s K x T) n + q_L K x T n = q_S (q_b K x T) n + q_L K x T 0 := by
  intro n
  induction n with
  | zero => rfl
  | succ n ih =>
    by_cases c : 0 < q_L K x T n ∧ q_b K x T n < K n
    · have e1 : q_s K x T n = q_b K x T n + 1 := if_pos c
      have e2 : q_L K x T (n + 1) = q_L K x T n - 1 := by rw [q_L, if_pos c]
      rw [q_S, q_S, e1, e2]
      omega
    · have e1 : q_s K x T n = q_b K x T n := if_neg c
      have e2 : q_L K x T (n + 1) = q_L K x T n := by rw [q_L, if_neg c]
      rw [q_S, q_S, e1, e2]
      omega
theorem iv_base {x T k : Nat} (h1 : x ≤ 100000) (h2 : 0 < T) (h3 : T ≤ 800000) (h4 : k ≤ 100000) : q_base (nI x) (nI T) (nI k) = nI (x * k / T) := by
  have h5 : x * k ≤ 100000 * 100000 := Nat.mul_le_mul h1 h4
  rw [z_base ((nI_ltI (a := 0) (by decide) (by omega)).mpr h2), nI_l (by omega), nI_l (by omega), nI_l (by omega), lN_mul, pk_lDiv (by omega) h2 (by omega), lN_i]
section IVs
variable {f : Nat → Int32} {K : Nat → Nat} {x : Nat}
theorem iv_bs (hK : ∀ j, j < 8 → f j = nI (K j) ∧ K j ≤ 100000) (hx1 : 1 ≤ x) (hx : x ≤ 100000) (hxT : x ≤ q_S K 8) (hT : q_S K 8 ≤ 800000) {j : Nat} (hj : j < 8) : q_base (nI x) (nI (q_S K 8)) (f j) = nI (q_b K x (q_S K 8) j) := by
  rw [(hK j hj).1]
  exact iv_base hx (by omega) hT (hK j hj).2
theorem iv_lk1 (hK : ∀ j, j < 8 → f j = nI (K j) ∧ K j ≤ 100000) (hx1 : 1 ≤ x) (hx : x ≤ 100000) (hxT : x ≤ q_S K 8) (hT : q_S K 8 ≤ 800000) : ∀ n, n ≤ 8 → q_lk1 f (nI x) (nI (q_S K 8)) n = nI (x - q_S (q_b K x (q_S K 8)) n) := by
  intro n
  induction n with
  | zero => intro _; rfl
  | succ n ih =>
    intro hn
    have h1 := q_S_mono (q_b K x (q_S K 8)) hn
    have h2 := q_b_x (K := K) (x := x) (by omega)
    have h3 := iv_bs hK hx1 hx hxT hT (j := n) (by omega)
    have h4 := ih (by omega)
    generalize q_S K 8 = T at *
    have e1 : q_S (q_b K x T) (n + 1) = q_S (q_b K x T) n + q_b K x T n := rfl
    rw [q_lk1, h4, h3, e1, pk_sub (by omega)]
    congr 1
    omega
theorem iv_lk2 (hK : ∀ j, j < 8 → f j = nI (K j) ∧ K j ≤ 100000) (hx1 : 1 ≤ x) (hx : x ≤ 100000) (hxT : x ≤ q_S K 8) (hT : q_S K 8 ≤ 800000) : ∀ n, n ≤ 8 → q_lk2 f (nI x) (nI (q_S K 8)) n = nI (q_L K x (q_S K 8) n) ∧ q_L K x (q_S K 8) n ≤ x := by
  intro n
  induction n with
  | zero => intro _; exact ⟨iv_lk1 hK hx1 hx hxT hT 8 (Nat.le_refl 8), Nat.sub_le _ _⟩
  | succ n ih =>
    intro hn
    obtain ⟨h1, h2⟩ := ih (by omega)
    have h3 : q_b K x (q_S K 8) n ≤ K n := q_b_le hxT n
    have h4 := (hK n (by omega)).2
    rw [q_lk2, h1, iv_bs hK hx1 hx hxT hT (by omega), (hK n (by omega)).1, q_L]
    have e1 : (0 : Int32) < nI (q_L K x (q_S K 8) n) ↔ 0 < q_L K x (q_S K 8) n := nI_ltI (a := 0) (by decide) (by omega)
    have e2 : nI (q_b K x (q_S K 8) n) < nI (K n) ↔ q_b K x (q_S K 8) n < K n := nI_ltI (by omega) (by omega)
    by_cases c : 0 < q_L K x (q_S K 8) n ∧ q_b K x (q_S K 8) n < K n
    · rw [if_pos c, decide_eq_true (e1.mpr c.1), decide_eq_true (e2.mpr c.2)]
      refine ⟨?_, by omega⟩
      obtain ⟨y, hy⟩ : ∃ y, q_L K x (q_S K 8) n = y + 1 := ⟨q_L K x (q_S K 8) n - 1, by omega⟩
      rw [hy, Nat.add_sub_cancel]
      exact nI_pred y
    · rw [if_neg c]
      refine ⟨?_, h2⟩
      have e3 : (decide ((0 : Int32) < nI (q_L K x (q_S K 8) n)) && decide (nI (q_b K x (q_S K 8) n) < nI (K n))) = false := by
        rw [Bool.and_eq_false_iff, decide_eq_false_iff_not, decide_eq_false_iff_not, e1, e2]
        omega
      rw [e3]; rfl
theorem iv_sh (hK : ∀ j, j < 8 → f j = nI (K j) ∧ K j ≤ 100000) (hx1 : 1 ≤ x) (hx : x ≤ 100000) (hxT : x ≤ q_S K 8) (hT : q_S K 8 ≤ 800000) {n : Nat} (hn : n < 8) : q_sh f (nI x) n = nI (q_s K x (q_S K 8) n) := by
  have h1 := iv_lk2 hK hx1 hx hxT hT n (by omega)
  have h4 := (hK n hn).2
  have h3 : q_b K x (q_S K 8) n ≤ K n := q_b_le hxT n
  unfold q_sh q_shT q_s
  rw [iv_sum (K := K) 8 (fun j hj => (hK j hj).1), h1.1, iv_bs hK hx1 hx hxT hT hn, (hK n hn).1]
  have e1 : (0 : Int32) < nI (q_L K x (q_S K 8) n) ↔ 0 < q_L K x (q_S K 8) n := nI_ltI (a := 0) (by decide) (by omega)
  have e2 : nI (q_b K x (q_S K 8) n) < nI (K n) ↔ q_b K x (q_S K 8) n < K n := nI_ltI (by omega) (by omega)
  by_cases c : 0 < q_L K x (q_S K 8) n ∧ q_b K x (q_S K 8) n < K n
  · rw [if_pos c, decide_eq_true (e1.mpr c.1), decide_eq_true (e2.mpr c.2)]
    exact nI_1 _
  · rw [if_neg c]
    have e3 : (decide ((0 : Int32) < nI (q_L K x (q_S K 8) n)) && decide (nI (q_b K x (q_S K 8) n) < nI (K n))) = false := by
      rw [Bool.and_eq_false_iff, decide_eq_false_iff_not, decide_eq_false_iff_not, e1, e2]
      omega
    rw [e3]; rfl
theorem iv_shS (hxT : x ≤ q_S K 8) (hx1 : 1 ≤ x) : q_S (q_s K x (q_S K 8)) 8 ≤ x := by
  have h1 := q_s_S K x (q_S K 8) 8
  have h2 := q_b_x (K := K) (x := x) (by omega)
  have h3 : q_L K x (q_S K 8) 0 = x - q_S (q_b K x (q_S K 8)) 8 := rfl
  omega
theorem iv_part {ps sh : Nat → Int32} {w : Int32} {s : Nat → Nat} : ∀ n, (∀ j, j < n → sh j = nI (s j)) → ∃ p : Nat, q_part ps sh w n = nI p ∧ p ≤ q_S s n := by
  intro n
  induction n with
  | zero => intro _; exact ⟨0, rfl, Nat.le_refl _⟩
  | succ n ih =>
    intro h
    obtain ⟨p, h1, h2⟩ := ih (fun j hj => h j (by omega))
    rw [q_part, h1, h n (by omega)]
    cases decide (ps n = w)
    · exact ⟨p, rfl, by rw [q_S]; omega⟩
    · exact ⟨p + s n, nI_add _ _, by rw [q_S]; omega⟩
end IVs
section IV2
variable {f0 f1 f2 f3 f4 f5 f6 f7 f8 : Nat → Int32} {v0 v1 v2 : Int32}
theorem iv_hpb (h : q_IV f0 f1 f2 f3 f4 f7 f8 v0 v1 v2) (hc : q_cov f0 f7 v0 v1 = true) : ∀ w, w < 8 → 0 ≤ (q_part f5 (q_sh f0 (f7 v1.toNatClampNeg)) (nI w) 8).toInt ∧ (q_part f5 (q_sh f0 (f7 v1.toNatClampNeg)) (nI w) 8).toInt < 262144 := by
  intro w _
  obtain ⟨K, x, hK, hx, h1, h2, h3, h4, h5⟩ := iv_cov h hc
  obtain ⟨p, hp, hp2⟩ := iv_part (ps := f5) (sh := q_sh f0 (f7 v1.toNatClampNeg)) (w := nI w) (s := q_s K x (q_S K 8)) 8 (fun j hj => by rw [hx]; exact iv_sh hK h1 h2 h3 h4 hj)
  have h6 := iv_shS (K := K) (x := x) h3 h1
  rw [hp, nI_toInt (by omega)]
  omega
theorem iv_keep {k : Int32} (hk : ¬ k = 0) (f : Nat → Int32) (i : Nat) (y : Int32) : q_up k f i y = f := by simp [q_up, hk]
theorem iv_up {k : Int32} (hk : k = 0) (f : Nat → Int32) (i : Nat) (y : Int32) : q_up k f i y = upd f i y := by simp [q_up, hk]
theorem iv_us {k : Int32} (hk : k = 0) (y z : Int32) : q_us k y z = z := by simp [q_us, hk]
theorem iv_usn {k : Int32} (hk : ¬ k = 0) (y z : Int32) : q_us k y z = y := by simp [q_us, hk]
theorem iv_uA {k : Int32} (hk : k = 0) (f g : Nat → Int32) : q_uA k f g = g := by simp [q_uA, hk]
theorem iv_uAn {k : Int32} (hk : ¬ k = 0) (f g : Nat → Int32) : q_uA k f g = f := by simp [q_uA, hk]
theorem iv_give (h : q_IV f0 f1 f2 f3 f4 f7 f8 v0 v1 v2) (p0 p1 : Int32) :
    q_IV (q_up (q_giveK f0 p0 p1) f0 p0.toNatClampNeg (f0 p0.toNatClampNeg + p1)) (q_up (q_giveK f0 p0 p1) f1 p0.toNatClampNeg (f1 p0.toNatClampNeg + p1)) f2 f3 f4 f7 f8 v0 v1 v2 := by
  by_cases hk : q_giveK f0 p0 p1 = 0
  · rw [iv_up hk, iv_up hk]
    have hg : q_g p0 = true := by
      cases e : q_g p0
      · simp [q_giveK, e] at hk
      · rfl
    have hi : q_i p1 1 10000 = true := by
      cases e : q_i p1 1 10000
      · simp [q_giveK, e, hg] at hk
      · rfl
    have hm : ¬ 100000 < f0 p0.toNatClampNeg + p1 := by
      intro e
      simp [q_giveK, hg, hi, e] at hk
    have hpN := z_gN hg
    obtain ⟨⟨K, hK⟩, h2, h3⟩ := h
    generalize p0.toNatClampNeg = i at *
    have hi2 := q_i_iff.mp hi
    rw [z_l1, z_lK] at hi2
    obtain ⟨e1, e2, e3⟩ := z_nI (x := p1) (by omega)
    generalize p1.toNatClampNeg = y at *
    have hKi := hK i hpN
    refine ⟨⟨fun j => if j = i then K i + y else K j, fun j hj => ?_⟩, fun j hj => ?_, h3⟩
    · dsimp only
      by_cases e : j = i
      · subst e
        rw [pk_us, hKi.1, e1, nI_add, if_pos rfl]
        refine ⟨rfl, ?_⟩
        rw [hKi.1, e1, nI_add] at hm
        have h9 : ¬ nI 100000 < nI (K j + y) := hm
        rw [nI_ltI (by omega) (by omega)] at h9
        omega
      · rw [pk_un e, if_neg e]
        exact hK j hj
    · by_cases e : j = i
      · subst e
        rw [pk_us, pk_us]
        have := h2 j hj
        rw [← this]
        grind
      · rw [pk_un e, pk_un e]
        exact h2 j hj
  · rw [iv_keep hk, iv_keep hk]
    exact h
theorem iv_leave (h : q_IV f0 f1 f2 f3 f4 f7 f8 v0 v1 v2) (p0 : Int32) :
    q_IV (q_up (q_gK p0) f0 p0.toNatClampNeg 0) f1 (q_up (q_gK p0) f2 p0.toNatClampNeg (f2 p0.toNatClampNeg + f0 p0.toNatClampNeg)) f3 f4 f7 f8 v0 v1 v2 := by
  by_cases hk : q_gK p0 = 0
  · rw [iv_up hk, iv_up hk]
    obtain ⟨⟨K, hK⟩, h2, h3⟩ := h
    generalize p0.toNatClampNeg = i
    refine ⟨⟨fun j => if j = i then 0 else K j, fun j hj => ?_⟩, fun j hj => ?_, h3⟩
    · dsimp only
      by_cases e : j = i
      · subst e; rw [pk_us, if_pos rfl]; exact ⟨rfl, by omega⟩
      · rw [pk_un e, if_neg e]; exact hK j hj
    · by_cases e : j = i
      · subst e
        rw [pk_us, pk_us, ← h2 j hj]
        grind
      · rw [pk_un e, pk_un e]; exact h2 j hj
  · rw [iv_keep hk, iv_keep hk]
    exact h
theorem iv_fill (h : q_IV f0 f1 f2 f3 f4 f7 f8 v0 v1 v2) (p0 : Int32) : q_IV f0 f1 f2 f3 f4 f7 f8 v0 v1 (q_us (q_fpK v2 p0) v2 (v2 + p0)) := by
  by_cases hk : q_fpK v2 p0 = 0
  · rw [iv_us hk]
    have hi : q_i p0 1 100000 = true := by
      cases e : q_i p0 1 100000
      · simp [q_fpK, e] at hk
      · rfl
    have hm : ¬ 1000000 < v2 + p0 := by
      intro e
      simp [q_fpK, hi, e] at hk
    obtain ⟨h1, h2, h3, h4, P, rfl, hP⟩ := h
    have hi2 := q_i_iff.mp hi
    rw [z_l1, z_lH] at hi2
    obtain ⟨e1, e2, e3⟩ := z_nI (x := p0) (by omega)
    generalize p0.toNatClampNeg = y at *
    rw [e1, nI_add] at hm ⊢
    have h9 : ¬ nI 1000000 < nI (P + y) := hm
    rw [nI_ltI (by omega) (by omega)] at h9
    exact ⟨h1, h2, h3, h4, P + y, rfl, by omega⟩
  · rw [iv_usn hk]
    exact h
theorem iv_add (h : q_IV f0 f1 f2 f3 f4 f7 f8 v0 v1 v2) (p0 : Int32) : q_up (q_amK v0 p0) f8 v0.toNatClampNeg 0 = f8 ∧ q_IV f0 f1 f2 f3 f4 (q_up (q_amK v0 p0) f7 v0.toNatClampNeg p0) f8 (q_us (q_amK v0 p0) v0 (v0 + 1)) v1 v2 := by
  by_cases hk : q_amK v0 p0 = 0
  · rw [iv_us hk, iv_up hk, iv_up hk]
    have hi : q_i p0 1 100000 = true := by
      cases e : q_i p0 1 100000
      · simp [q_amK, e] at hk
      · rfl
    have hm : ¬ v0 = 6 := by
      intro e
      simp [q_amK, hi, e] at hk
    obtain ⟨h1, h2, h3, ⟨a, r, rfl, rfl, hra, ha, h5, h6⟩, h7⟩ := h
    have ha6 : a ≠ 6 := fun e => hm (by rw [e]; rfl)
    have hi2 := q_i_iff.mp hi
    rw [z_l1, z_lH] at hi2
    obtain ⟨e1, e2, e3⟩ := z_nI (x := p0) (by omega)
    generalize p0.toNatClampNeg = y at *
    rw [nI_clamp (by omega)]
    refine ⟨?_, h1, h2, h3, ⟨a + 1, r, nI_1 a, rfl, by omega, by omega, fun j hj => ?_, fun j hj => h6 j (by omega)⟩, h7⟩
    · funext j
      by_cases e : j = a
      · subst e; rw [pk_us]; exact (h6 j (Nat.le_refl _)).symm
      · rw [pk_un e]
    · by_cases e : j = a
      · subst e; rw [pk_us]; exact ⟨y, e1, by omega, by omega⟩
      · rw [pk_un e]; exact h5 j (by omega)
  · rw [iv_usn hk, iv_keep hk, iv_keep hk]
    exact ⟨rfl, h⟩
theorem iv_prove (h : q_IV f0 f1 f2 f3 f4 f7 f8 v0 v1 v2) (p0 : Int32) : q_IV f0 f1 f2 f3 f4 f7 (q_up (q_prK v0 v1 p0) f8 p0.toNatClampNeg (q_tog (f8 p0.toNatClampNeg))) v0 v1 v2 := by
  by_cases hk : q_prK v0 v1 p0 = 0
  · rw [iv_up hk]
    have hi : q_i p0 0 (v0 - 1) = true := by
      cases e : q_i p0 0 (v0 - 1)
      · simp [q_prK, e] at hk
      · rfl
    have hv := iv_v0 h
    obtain ⟨h1, h2, h3, ⟨a, r, rfl, rfl, hra, ha, h5, h6⟩, h7⟩ := h
    have hi2 := q_i_iff.mp hi
    rw [nI_toInt (by omega)] at hv
    have e0 : (nI a - 1).toInt = (a : Int) - 1 := by
      rcases Nat.eq_zero_or_pos a with h9 | h9
      · subst h9; rfl
      · obtain ⟨b, rfl⟩ : ∃ b, a = b + 1 := ⟨a - 1, by omega⟩
        rw [nI_pred, nI_toInt (by omega)]; omega
    rw [z_l0, e0] at hi2
    obtain ⟨e1, e2, e3⟩ := z_nI (x := p0) (by omega)
    refine ⟨h1, h2, h3, ⟨a, r, rfl, rfl, hra, ha, h5, fun j hj => ?_⟩, h7⟩
    rw [pk_un (by omega)]
    exact h6 j hj
  · rw [iv_keep hk]
    exact h
end IV2
