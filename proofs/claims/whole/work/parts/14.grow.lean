-- times that grow
def q_grow (kt : Nat → Int32) (f K : Nat) : Prop := (∀ k, k < K → q_time (kt (f + k))) ∧ ∀ k, k + 1 < K → (kt (f + k)).toInt < (kt (f + k + 1)).toInt
theorem grow_le {kt : Nat → Int32} {f K : Nat} (h : q_grow kt f K) : ∀ (d a : Nat), a + d < K → (kt (f + a)).toInt ≤ (kt (f + (a + d))).toInt := by
  intro d
  induction d with
  | zero => intro a _; exact Int.le_refl _
  | succ d ih =>
    intro a ha
    have h1 := ih a (by omega)
    have h2 := h.2 (a + d) (by omega)
    rw [show f + (a + d) + 1 = f + (a + (d + 1)) by omega] at h2
    omega
theorem kif_all {kt : Nat → Int32} {nw : Int32} : ∀ (n k : Nat), (∀ i, k < i → i ≤ k + n → (kt i).toInt ≤ nw.toInt) → kif kt nw k n = k + n := by
  intro n
  induction n with
  | zero => intro k _; rfl
  | succ n ih =>
    intro k h
    rw [kif_s, if_pos (h (k + 1) (by omega) (by omega)), ih (k + 1) (fun i h1 h2 => h i (by omega) (by omega))]
    omega
theorem kif_none {kt : Nat → Int32} {nw : Int32} (n k : Nat) (h : 0 < n → nw.toInt < (kt (k + 1)).toInt) : kif kt nw k n = k := by
  cases n with
  | zero => rfl
  | succ n => rw [kif_s, if_neg (by have := h (by omega); omega)]
-- ints as longs
theorem i64_t (a : Int32) : a.toInt64.toInt = a.toInt := Int32.toInt_toInt64 a
theorem sub64 {a b : Int32} (ha : q_time a) (hb : q_time b) : (a - b).toInt64 = a.toInt64 - b.toInt64 := by
  unfold q_time at ha hb
  apply Int64.toInt_inj.mp
  rw [Int64.toInt_sub, i64_t, i64_t, i64_t, Int32.toInt_sub, Int.bmod_eq_of_le (by omega) (by omega), Int.bmod_eq_of_le (by omega) (by omega)]
theorem pos64 {a b : Int32} (ha : q_time a) (hb : q_time b) (h : b.toInt < a.toInt) : 0 < (a.toInt64 - b.toInt64).toInt := by
  unfold q_time at ha hb
  rw [Int64.toInt_sub, i64_t, i64_t, Int.bmod_eq_of_le (by omega) (by omega)]
  omega
/-- the reference's way to the greatest whole number not above a / b -/
def mdv (a b : Int64) : Int64 := if a < a / b * b then a / b - 1 else a / b
theorem tq_pos {x y : Int} (hx : 0 ≤ x) (hy : 0 < y) : 0 ≤ x.tdiv y ∧ x.tdiv y ≤ x ∧ 0 ≤ x.tdiv y * y ∧ x.tdiv y * y ≤ x := by
  have h1 := Int.tdiv_nonneg hx (Int.le_of_lt hy)
  have h2 := Int.tdiv_le_self y hx
  have h3 := Int.tmod_add_tdiv_mul x y
  have h4 := Int.tmod_nonneg y hx
  have h5 := Int.mul_nonneg h1 (Int.le_of_lt hy)
  omega
theorem tq_neg {x y : Int} (hx : x < 0) (hy : 0 < y) : x.tdiv y ≤ 0 ∧ x ≤ x.tdiv y ∧ x ≤ x.tdiv y * y ∧ x.tdiv y * y ≤ 0 := by
  have h := tq_pos (x := -x) (y := y) (by omega) hy
  rw [Int.neg_tdiv, Int.neg_mul] at h
  omega
theorem neg_msb (z : Int64) : z.toInt < 0 ↔ z.toBitVec.msb = true := by
  rw [BitVec.msb_eq_toInt, decide_eq_true_eq]; exact Iff.rfl
theorem xor_neg (x y : Int64) (hy : 0 < y.toInt) : (x ^^^ y) < 0 ↔ x.toInt < 0 := by
  have h1 := neg_msb (x ^^^ y)
  have h2 := neg_msb x
  have h3 : y.toBitVec.msb = false := by
    cases hm : y.toBitVec.msb with
    | false => rfl
    | true => exact absurd ((neg_msb y).mpr hm) (by omega)
  have h0 : (0 : Int64).toInt = 0 := by decide
  rw [Int64.lt_iff_toInt_lt, h0, h1, h2, Int64.toBitVec_xor, BitVec.msb_xor, h3]
  simp
theorem mdv_eq (x y : Int64) (hy : 0 < y.toInt) : mdv x y = fdv x y := by
  have a1 := Int64.toInt_lt x
  have a2 := Int64.le_toInt x
  have hx := xor_neg x y hy
  have key : (x / y).toInt = x.toInt.tdiv y.toInt ∧ (x / y * y).toInt = x.toInt.tdiv y.toInt * y.toInt := by
    by_cases c : 0 ≤ x.toInt
    · have h := tq_pos c hy
      have e1 : (x / y).toInt = x.toInt.tdiv y.toInt := by
        rw [Int64.toInt_div, Int.bmod_eq_of_le (by omega) (by omega)]
      refine ⟨e1, ?_⟩
      rw [Int64.toInt_mul, e1, Int.bmod_eq_of_le (by omega) (by omega)]
    · have h := tq_neg (x := x.toInt) (by omega) hy
      have e1 : (x / y).toInt = x.toInt.tdiv y.toInt := by
        rw [Int64.toInt_div, Int.bmod_eq_of_le (by omega) (by omega)]
      refine ⟨e1, ?_⟩
      rw [Int64.toInt_mul, e1, Int.bmod_eq_of_le (by omega) (by omega)]
  unfold mdv fdv
  by_cases c : 0 ≤ x.toInt
  · have h := tq_pos c hy
    rw [if_neg, if_neg]
    · intro q
      have := hx.mp q.1
      omega
    · intro q
      have := Int64.lt_iff_toInt_lt.mp q
      omega
  · have h := tq_neg (x := x.toInt) (by omega) hy
    by_cases d : x / y * y = x
    · rw [if_neg, if_neg]
      · intro q; exact q.2 d
      · intro q
        have := Int64.lt_iff_toInt_lt.mp q
        rw [d] at this
        omega
    · rw [if_pos, if_pos]
      · exact ⟨hx.mpr (by omega), d⟩
      · rw [Int64.lt_iff_toInt_lt]
        have : (x / y * y).toInt ≠ x.toInt := fun q => d (Int64.toInt_inj.mp q)
        omega

