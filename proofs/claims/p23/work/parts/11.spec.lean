/-! WHAT CLASS AND REFERENCE ANSWER, as functions of the contents -/
def q_g (x : Int32) : Bool := !decide (x < 0) && !decide (8 ≤ x)
def q_i (x lo hi : Int32) : Bool := !decide (x < lo) && !decide (hi < x)
def q_sum (f : Nat → Int32) : Nat → Int32
  | 0 => 0
  | n + 1 => q_sum f n + f n
def q_lead (t : Nat → Int32) : Nat → Int32 → Int32 → Bool
  | 0, _, _ => false
  | n + 1, a, g => q_g a && (decide (a = g) || q_lead t n (t a.toNatClampNeg) g)
def q_spk (t v : Nat → Int32) : Nat → Int32 → Int32
  | 0, _ => -1
  | n + 1, a => bif q_g a then (bif decide (v a.toNatClampNeg = 0) then q_spk t v n (t a.toNatClampNeg) else a) else -1
def q_hrd (t v : Nat → Int32) (a : Int32) : Int32 := bif q_g (q_spk t v 8 a) then v (q_spk t v 8 a).toNatClampNeg else 0
def q_wt (f t v : Nat → Int32) (w : Int32) : Nat → Int32
  | 0 => 0
  | n + 1 => bif decide (q_hrd t v (nI n) = w) then q_wt f t v w n + f n else q_wt f t v w n
def q_cur (v0 v1 : Int32) : Int32 := bif decide (v1 < v0) then v1 else -1
def q_cov (f0 f7 : Nat → Int32) (v0 v1 : Int32) : Bool := decide (v1 < v0) && decide (f7 v1.toNatClampNeg ≤ q_sum f0 8)
def q_base (a T k : Int32) : Int32 := bif decide (0 < T) then ((a.toInt64 * k.toInt64) / T.toInt64).toInt32 else 0
def q_lk1 (f : Nat → Int32) (a T : Int32) : Nat → Int32
  | 0 => a
  | n + 1 => q_lk1 f a T n - q_base a T (f n)
def q_lk2 (f : Nat → Int32) (a T : Int32) : Nat → Int32
  | 0 => q_lk1 f a T 8
  | n + 1 => bif decide (0 < q_lk2 f a T n) && decide (q_base a T (f n) < f n) then q_lk2 f a T n - 1 else q_lk2 f a T n
def q_shT (f : Nat → Int32) (a T : Int32) (n : Nat) : Int32 := bif decide (0 < q_lk2 f a T n) && decide (q_base a T (f n) < f n) then q_base a T (f n) + 1 else q_base a T (f n)
def q_sh (f : Nat → Int32) (a : Int32) (n : Nat) : Int32 := q_shT f a (q_sum f 8) n
def q_fill (f g : Nat → Int32) (i : Nat) : Nat → Int32 := fun k => if k < i then f k else g k
def q_part (ps sh : Nat → Int32) (w : Int32) : Nat → Int32
  | 0 => 0
  | n + 1 => bif decide (ps n = w) then q_part ps sh w n + sh n else q_part ps sh w n
def q_rN : Nat → Nat
  | 0 => 0
  | n + 1 => if (q_rN n + 1) * (q_rN n + 1) ≤ n + 1 then q_rN n + 1 else q_rN n
def q_rt (x : Int32) : Int32 := nI (q_rN x.toNatClampNeg)
def q_rts (ps sh : Nat → Int32) (w : Nat) : Int32 := q_rt (q_part ps sh (nI w) 8)
def q_won (x v2 : Int32) : Int32 := bif decide (x < 0) then 0 else bif decide (v2 < x) then v2 else x
def q_sq (r : Nat → Int32) : Int32 := q_sum r 8 * q_sum r 8
def q_mt (ps sh : Nat → Int32) (a v2 : Int32) : Int32 := q_won (q_sq (q_rts ps sh) - a) v2
/-- the row of trust from a ends within n -/
def q_ends (t : Nat → Int32) : Nat → Int32 → Prop
  | 0, a => a = -1
  | n + 1, a => a = -1 ∨ (q_g a = true ∧ q_ends t n (t a.toNatClampNeg))
theorem z_l0 : (0 : Int32).toInt = 0 := rfl
theorem z_l1 : (1 : Int32).toInt = 1 := rfl
theorem z_l2 : (2 : Int32).toInt = 2 := rfl
theorem z_l3 : (3 : Int32).toInt = 3 := rfl
theorem z_l6 : (6 : Int32).toInt = 6 := rfl
theorem z_l7 : (7 : Int32).toInt = 7 := rfl
theorem z_l8 : (8 : Int32).toInt = 8 := rfl
theorem z_lm : (-1 : Int32).toInt = -1 := rfl
theorem z_lK : (10000 : Int32).toInt = 10000 := rfl
theorem z_lH : (100000 : Int32).toInt = 100000 := rfl
theorem z_lM : (1000000 : Int32).toInt = 1000000 := rfl
theorem z_lt {x y : Int32} : x < y ↔ x.toInt < y.toInt := Int32.lt_iff_toInt_lt
theorem z_le {x y : Int32} : x ≤ y ↔ x.toInt ≤ y.toInt := Int32.le_iff_toInt_le
theorem q_g_iff {x : Int32} : q_g x = true ↔ 0 ≤ x.toInt ∧ x.toInt < 8 := by
  simp only [q_g, Bool.and_eq_true, Bool.not_eq_true', decide_eq_false_iff_not, z_lt, z_le, z_l0, z_l8]
  omega
theorem q_g_in {x : Int32} (h : q_g x = true) : vp_in x 8 := vp_in_iff.mpr (q_g_iff.mp h)
theorem q_g_tf {x : Int32} (h1 : ¬ x < 0) (h2 : ¬ 8 ≤ x) : q_g x = true := by simp [q_g, h1, h2]
theorem q_g_f1 {x : Int32} (h : x < 0) : q_g x = false := by simp [q_g, h]
theorem q_g_f2 {x : Int32} (h : 8 ≤ x) : q_g x = false := by simp [q_g, h]
theorem q_i_iff {x lo hi : Int32} : q_i x lo hi = true ↔ lo.toInt ≤ x.toInt ∧ x.toInt ≤ hi.toInt := by
  simp only [q_i, Bool.and_eq_true, Bool.not_eq_true', decide_eq_false_iff_not, z_lt]
  omega
theorem q_i_g {x : Int32} : q_i x 0 7 = q_g x := by
  rw [Bool.eq_iff_iff, q_i_iff, q_g_iff, z_l0, z_l7]
  omega
theorem z_ge8 {i : Nat} (h : i ≤ 8) (c : (8 : Int32) ≤ nI i) : i = 8 := by
  have := (nI_leI (a := 8) (b := i) (by decide) (by omega)).mp c
  omega
theorem z_lt8 {i : Nat} (h : i ≤ 8) (c : ¬ (8 : Int32) ≤ nI i) : i < 8 := by
  have h1 : ¬ 8 ≤ i := fun z => c ((nI_leI (a := 8) (b := i) (by decide) (by omega)).mpr z)
  omega
theorem z_in8 {i : Nat} (h : i < 8) : vp_in (nI i) 8 := vp_in_nI h (by decide)
theorem z_cl {i : Nat} (h : i < 8) : (nI i).toNatClampNeg = i := nI_clamp (by omega)
theorem z_nlt {x y : Int32} : ¬ x < y ↔ y ≤ x := by rw [z_lt, z_le]; omega
theorem z_nle {x y : Int32} : ¬ x ≤ y ↔ y < x := by rw [z_lt, z_le]; omega
/-! what the reference keeps as 'thrown', and what follows from it -/
def q_up (k : Int32) (f : Nat → Int32) (i : Nat) (x : Int32) : Nat → Int32 := bif decide (k = 0) then upd f i x else f
def q_us (k x y : Int32) : Int32 := bif decide (k = 0) then y else x
def q_uA (k : Int32) (f g : Nat → Int32) : Nat → Int32 := bif decide (k = 0) then g else f
def q_gK (p0 : Int32) : Int32 := bif q_g p0 then 0 else 1
def q_ggK (p0 p1 : Int32) : Int32 := bif q_g p0 && q_g p1 then 0 else 1
def q_giveK (f0 : Nat → Int32) (p0 p1 : Int32) : Int32 := bif q_g p0 then (bif q_i p1 1 10000 then (bif decide (100000 < f0 p0.toNatClampNeg + p1) then 3 else 0) else 2) else 1
def q_trK (f4 : Nat → Int32) (p0 p1 : Int32) : Int32 := bif q_g p0 && (decide (p1 = -1) || q_g p1) then (bif q_lead f4 8 p1 p0 then 2 else 0) else 1
def q_fpK (v2 p0 : Int32) : Int32 := bif q_i p0 1 100000 then (bif decide (1000000 < v2 + p0) then 2 else 0) else 1
def q_amK (v0 p0 : Int32) : Int32 := bif q_i p0 1 100000 then (bif decide (v0 = 6) then 2 else 0) else 1
def q_prK (v0 v1 p0 : Int32) : Int32 := bif q_i p0 0 (v0 - 1) then (bif decide (p0 < v1) then 2 else 0) else 1
def q_voK (v0 v1 p0 p1 : Int32) : Int32 := bif q_g p0 then (bif q_i p1 0 2 then (bif decide (v1 < v0) then 0 else 3) else 2) else 1
def q_wK (p0 : Int32) : Int32 := bif q_i p0 1 2 then 0 else 1
def q_shK (cov : Bool) (p0 : Int32) : Int32 := bif q_g p0 then (bif cov then 0 else 2) else 1
def q_mK (cov : Bool) : Int32 := bif cov then 0 else 1
def q_reK (f0 f4 f6 f7 f8 : Nat → Int32) (v0 v1 : Int32) : Int32 := bif q_cov f0 f7 v0 v1 && (!decide (f8 v1.toNatClampNeg = 0) && decide (q_sum f0 8 < 2 * q_wt f0 f4 f6 1 8)) then 0 else 1
