/-! PURE ROWS for the loops -/
def q_tog (x : Int32) : Int32 := bif decide (x = 0) then 1 else 0
theorem z_inj {x y : Int32} (h : x.toInt = y.toInt) : x = y := Int32.toInt_inj.mp h
theorem z_12 {x : Int32} (h : q_i x 1 2 = true) : x = 1 ∨ x = 2 := by
  have h1 := q_i_iff.mp h
  rw [z_l1, z_l2] at h1
  rcases (show x.toInt = 1 ∨ x.toInt = 2 by omega) with h2 | h2
  · exact Or.inl (z_inj h2)
  · exact Or.inr (z_inj h2)
theorem z_012 {x : Int32} (h : q_i x 0 2 = true) : x = 0 ∨ x = 1 ∨ x = 2 := by
  have h1 := q_i_iff.mp h
  rw [z_l0, z_l2] at h1
  rcases (show x.toInt = 0 ∨ x.toInt = 1 ∨ x.toInt = 2 by omega) with h2 | h2 | h2
  · exact Or.inl (z_inj h2)
  · exact Or.inr (Or.inl (z_inj h2))
  · exact Or.inr (Or.inr (z_inj h2))
theorem z_cur {v0 v1 : Int32} (h : 0 ≤ v1.toInt) : q_cur v0 v1 = -1 ↔ ¬ v1 < v0 := by
  by_cases h1 : v1 < v0
  · simp only [q_cur, h1, decide_true, cond_true, not_true_eq_false, iff_false]
    intro h2
    rw [h2, z_lm] at h
    omega
  · simp [q_cur, h1]
theorem z_dv {x : Int32} (h : ¬ x ≤ 0) : ¬ x.toInt64 = 0 := by
  intro h1
  have h2 : x.toInt64.toInt = (0 : Int64).toInt := by rw [h1]
  rw [Int32.toInt_toInt64] at h2
  rw [z_le, z_l0] at h
  have h3 : (0 : Int64).toInt = 0 := rfl
  omega
theorem z_fill0 (F g : Nat → Int32) : q_fill F g 0 = g := by
  funext k; simp [q_fill]
theorem z_fillS (F g : Nat → Int32) (i : Nat) : upd (q_fill F g i) i (F i) = q_fill F g (i + 1) := by
  funext k
  by_cases h : k = i
  · subst h; simp [upd, q_fill]
  · by_cases h2 : k < i
    · simp [upd, q_fill, h, h2, Nat.lt_succ_of_lt h2]
    · have h3 : ¬ k < i + 1 := by omega
      simp [upd, q_fill, h, h2, h3]
theorem z_fillK {F g : Nat → Int32} {i : Nat} (h : F i = g i) : q_fill F g i = q_fill F g (i + 1) := by
  funext k
  by_cases h1 : k = i
  · subst h1; simp [q_fill, h]
  · by_cases h2 : k < i
    · simp [q_fill, h2, Nat.lt_succ_of_lt h2]
    · have h3 : ¬ k < i + 1 := by omega
      simp [q_fill, h2, h3]
theorem z_fill_ge {F g : Nat → Int32} {i k : Nat} (h : i ≤ k) : q_fill F g i k = g k := by
  have h2 : ¬ k < i := by omega
  simp [q_fill, h2]
theorem z_fill_lt {F g : Nat → Int32} {i k : Nat} (h : k < i) : q_fill F g i k = F k := by simp [q_fill, h]
theorem z_fill_fill {F G g : Nat → Int32} {n : Nat} : q_fill F (q_fill G g n) n = q_fill F g n := by
  funext k
  by_cases h : k < n <;> simp [q_fill, h]
theorem z_fill_ext {F G g : Nat → Int32} {n : Nat} (h : ∀ k, k < n → F k = G k) : q_fill F g n = q_fill G g n := by
  funext k
  by_cases h2 : k < n
  · simp [q_fill, h2, h k h2]
  · simp [q_fill, h2]
theorem z_fill_ext2 {F G g : Nat → Int32} {i n : Nat} (hi : i ≤ n) (h : ∀ k, i ≤ k → k < n → F k = G k) : q_fill F (q_fill G g n) i = q_fill F g n := by
  funext k
  by_cases h2 : k < i
  · have h3 : k < n := by omega
    simp [q_fill, h2, h3]
  · by_cases h3 : k < n
    · simp [q_fill, h2, h3, h k (by omega) h3]
    · simp [q_fill, h2, h3]
theorem z_m1 (x : Int32) : x + (-1) = x - 1 := by rw [Int32.sub_eq_add_neg]
theorem z_early {f : Nat → Int32} {a T : Int32} {i : Nat} (h : ¬ 0 < q_lk2 f a T i) : ∀ j, i ≤ j → ¬ 0 < q_lk2 f a T j := by
  intro j hj
  induction j with
  | zero =>
    have : i = 0 := by omega
    subst this; exact h
  | succ j ih =>
    by_cases e : i = j + 1
    · subst e; exact h
    · have h1 := ih (by omega)
      simp [q_lk2, h1]
theorem z_earlyS {f : Nat → Int32} {a T : Int32} {i : Nat} (h : ¬ 0 < q_lk2 f a T i) {j : Nat} (hj : i ≤ j) : q_shT f a T j = q_base a T (f j) := by
  have h1 := z_early h j hj
  simp [q_shT, h1]
theorem z_sum_ext {f g : Nat → Int32} : ∀ n, (∀ k, k < n → f k = g k) → q_sum f n = q_sum g n := by
  intro n
  induction n with
  | zero => intro _; rfl
  | succ n ih => intro h; rw [q_sum, q_sum, ih (fun k hk => h k (by omega)), h n (by omega)]
theorem z_part_ext {ps f g : Nat → Int32} {w : Int32} : ∀ n, (∀ k, k < n → f k = g k) → q_part ps f w n = q_part ps g w n := by
  intro n
  induction n with
  | zero => intro _; rfl
  | succ n ih => intro h; rw [q_part, q_part, ih (fun k hk => h k (by omega)), h n (by omega)]
theorem z_partF {ps F g : Nat → Int32} {w : Int32} : q_part ps (q_fill F g 8) w 8 = q_part ps F w 8 := z_part_ext 8 (fun k hk => z_fill_lt hk)
theorem z_rtsF {ps F g : Nat → Int32} : q_rts ps (q_fill F g 8) = q_rts ps F := by
  funext w; simp only [q_rts, z_partF]
theorem z_sqF {F g : Nat → Int32} : q_sq (q_fill F g 8) = q_sq F := by
  have h : q_sum (q_fill F g 8) 8 = q_sum F 8 := z_sum_ext 8 (fun k hk => z_fill_lt hk)
  simp only [q_sq, h]
/-! roots -/
theorem q_rN_spec : ∀ n, q_rN n * q_rN n ≤ n ∧ n < (q_rN n + 1) * (q_rN n + 1) := by
  intro n
  induction n with
  | zero => simp [q_rN]
  | succ n ih =>
    rw [q_rN]
    split
    · rename_i h
      refine ⟨h, ?_⟩
      have h2 : (q_rN n + 1) * (q_rN n + 1) + 1 ≤ (q_rN n + 1 + 1) * (q_rN n + 1 + 1) := by
        simp only [Nat.add_mul, Nat.mul_add, Nat.one_mul, Nat.mul_one]; omega
      omega
    · rename_i h
      exact ⟨by omega, by omega⟩
theorem q_rN_is {n r : Nat} (h1 : r * r ≤ n) (h2 : n < (r + 1) * (r + 1)) : q_rN n = r := by
  obtain ⟨h3, h4⟩ := q_rN_spec n
  rcases Nat.lt_trichotomy (q_rN n) r with h | h | h
  · have h5 : (q_rN n + 1) * (q_rN n + 1) ≤ r * r := Nat.mul_le_mul h h
    omega
  · exact h
  · have h5 : (r + 1) * (r + 1) ≤ q_rN n * q_rN n := Nat.mul_le_mul h h
    omega
theorem z_nI {x : Int32} (h : 0 ≤ x.toInt) : x = nI x.toNatClampNeg ∧ x.toNatClampNeg = x.toInt.toNat ∧ x.toNatClampNeg < 2 ^ 31 := by
  have h1 : x.toNatClampNeg = x.toInt.toNat := rfl
  have h2 : x.toInt < 2 ^ 31 := Int32.toInt_lt x
  refine ⟨z_inj ?_, h1, by rw [h1]; omega⟩
  rw [nI_toInt (by rw [h1]; omega), h1]
  omega
theorem z_shl : ∀ j, j < 9 → (1 : Int32) <<< (nI j &&& 31) = nI (2 ^ j) := by decide
/-! squares by pairs -/
def q_in (f : Nat → Int32) (i : Nat) (x : Int32) : Nat → Int32
  | 0 => x + f i * f i
  | n + 1 => q_in f i x n + 2 * f i * f (i + 1 + n)
def q_out (f : Nat → Int32) : Nat → Int32
  | 0 => 0
  | n + 1 => q_in f n (q_out f n) (7 - n)
theorem z_pairs (f : Nat → Int32) : q_out f 8 = q_sq f := by
  simp only [q_out, q_in, q_sq, q_sum, Nat.sub_self, Nat.reduceSub, Nat.reduceAdd]
  generalize f 0 = a
  generalize f 1 = b
  generalize f 2 = c
  generalize f 3 = d
  generalize f 4 = e
  generalize f 5 = g
  generalize f 6 = h
  generalize f 7 = i
  grind
theorem z_gN {x : Int32} (h : q_g x = true) : x.toNatClampNeg < 8 := by
  have h1 := q_g_iff.mp h
  have h2 : x.toNatClampNeg = x.toInt.toNat := rfl
  omega
theorem z_covin {f0 f7 : Nat → Int32} {v0 v1 : Int32} (hb : 0 ≤ v1.toInt ∧ v1.toInt ≤ v0.toInt ∧ v0.toInt ≤ 6) (h : q_cov f0 f7 v0 v1 = true) : vp_in v1 6 := by
  simp only [q_cov, Bool.and_eq_true, decide_eq_true_eq, z_lt] at h
  exact vp_in_iff.mpr ⟨hb.1, by have := h.1; omega⟩
/-! rows for the reference's loops -/
theorem z_gm1 : q_g (-1) = false := rfl
theorem z_lead_m1 (t : Nat → Int32) (g : Int32) : ∀ j, q_lead t j (-1) g = false := by
  intro j
  cases j with
  | zero => rfl
  | succ j => rw [q_lead, z_gm1, Bool.false_and]
theorem z_spk_m1 (t v : Nat → Int32) : ∀ j, q_spk t v j (-1) = -1 := by
  intro j
  cases j with
  | zero => rfl
  | succ j => rw [q_spk, z_gm1]; rfl
theorem z_ends_step {t : Nat → Int32} {j : Nat} {a : Int32} (h : q_ends t j a) (hn : ¬ a = -1) : ∃ k, j = k + 1 ∧ q_g a = true ∧ q_ends t k (t a.toNatClampNeg) := by
  cases j with
  | zero => exact absurd h hn
  | succ k => exact ⟨k, rfl, h.resolve_left hn⟩
theorem z_spk_or (t v : Nat → Int32) : ∀ n a, q_spk t v n a = -1 ∨ q_g (q_spk t v n a) = true := by
  intro n
  induction n with
  | zero => intro a; exact Or.inl rfl
  | succ n ih =>
    intro a
    rw [q_spk]
    cases hg : q_g a
    · exact Or.inl rfl
    · cases hv : decide (v a.toNatClampNeg = 0)
      · exact Or.inr hg
      · exact ih _
theorem z_prin {v0 p0 : Int32} (hv : 0 ≤ v0.toInt ∧ v0.toInt ≤ 6) (h : q_i p0 0 (v0 - 1) = true) : vp_in p0 6 := by
  have h1 := q_i_iff.mp h
  have h2 : (v0 - 1).toInt = v0.toInt - 1 := by
    rw [Int32.toInt_sub, z_l1, Int.bmod_eq_of_le (by omega) (by omega)]
  rw [h2, z_l0] at h1
  exact vp_in_iff.mpr ⟨h1.1, by omega⟩
theorem z_120 {x : Int32} (h : q_i x 1 2 = true) : ¬ x = 0 := by
  intro h1
  subst h1
  exact absurd h (by decide)
theorem z_s0 (x : Int32) : x - 0 = x := by rw [Int32.sub_eq_add_neg]; simp
theorem z_a0 (x : Int32) : x + 0 = x := Int32.add_zero x
theorem z_base {a T k : Int32} (h : 0 < T) : q_base a T k = ((a.toInt64 * k.toInt64) / T.toInt64).toInt32 := by simp [q_base, h]
theorem z_dvT {x : Int32} (h : 0 < x) : ¬ x.toInt64 = 0 := z_dv (z_nle.mpr h)
theorem z_r5 {r P : Nat} (h : (r + 1) * (r + 1) ≤ P) (hP : P < 262144) : r + 1 < 512 := by
  rcases Nat.lt_or_ge (r + 1) 512 with h1 | h1
  · exact h1
  · have h2 : 512 * 512 ≤ (r + 1) * (r + 1) := Nat.mul_le_mul h1 h1
    omega
