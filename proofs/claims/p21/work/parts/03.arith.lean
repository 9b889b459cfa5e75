/-! plain facts on ints, as integers -/
theorem i_bm {x : Int} (h1 : -2147483648 ≤ x) (h2 : x < 2147483648) : x.bmod (2 ^ 32) = x := by
  rw [Int.bmod_def]
  split <;> omega
theorem i_add {a b : Int32} (h1 : -2147483648 ≤ a.toInt + b.toInt) (h2 : a.toInt + b.toInt < 2147483648) : (a + b).toInt = a.toInt + b.toInt := by
  rw [Int32.toInt_add]; exact i_bm h1 h2
theorem i_sub {a b : Int32} (h1 : -2147483648 ≤ a.toInt - b.toInt) (h2 : a.toInt - b.toInt < 2147483648) : (a - b).toInt = a.toInt - b.toInt := by
  rw [Int32.toInt_sub]; exact i_bm h1 h2
theorem i_mul {a b : Int32} (h1 : -2147483648 ≤ a.toInt * b.toInt) (h2 : a.toInt * b.toInt < 2147483648) : (a * b).toInt = a.toInt * b.toInt := by
  rw [Int32.toInt_mul]; exact i_bm h1 h2
theorem i_neg {a : Int32} (h1 : -2147483648 < a.toInt) : (-a).toInt = -a.toInt := by
  rw [Int32.toInt_neg]; have := Int32.toInt_lt a; exact i_bm (by omega) (by omega)
theorem i_lo (a : Int32) : -2147483648 ≤ a.toInt := Int32.le_toInt a
theorem i_hi (a : Int32) : a.toInt < 2147483648 := Int32.toInt_lt a
theorem i_lt {a b : Int32} : a < b ↔ a.toInt < b.toInt := Int32.lt_iff_toInt_lt
theorem i_le {a b : Int32} : a ≤ b ↔ a.toInt ≤ b.toInt := Int32.le_iff_toInt_le
theorem i_eq {a b : Int32} : a = b ↔ a.toInt = b.toInt := Int32.toInt_inj.symm
theorem i_ltT {a b : Int32} (h : a < b) : a.toInt < b.toInt := i_lt.mp h
theorem i_ltF {a b : Int32} (h : ¬ a < b) : b.toInt ≤ a.toInt := by have := mt i_lt.mpr h; omega
theorem i_leT {a b : Int32} (h : a ≤ b) : a.toInt ≤ b.toInt := i_le.mp h
theorem i_leF {a b : Int32} (h : ¬ a ≤ b) : b.toInt < a.toInt := by have := mt i_le.mpr h; omega
theorem i_eqT {a b : Int32} (h : a = b) : a.toInt = b.toInt := by rw [h]
theorem i_eqF {a b : Int32} (h : ¬ a = b) : a.toInt ≠ b.toInt := mt i_eq.mpr h
theorem i_ne0 {a : Int32} (h : a.toInt ≠ 0) : ¬ a = 0 := fun q => h (by rw [q]; rfl)
/-- a quotient by what is above 0 -/
theorem i_div {a b : Int32} (hb : 0 < b.toInt) : (a / b).toInt = a.toInt.tdiv b.toInt := by
  rw [Int32.toInt_div]
  have h1 := i_lo a
  have h2 := i_hi a
  have h3 : (a.toInt.tdiv b.toInt).natAbs ≤ a.toInt.natAbs := by
    rw [Int.natAbs_tdiv]; exact Nat.div_le_self _ _
  by_cases hm : a.toInt = -2147483648
  · by_cases h1b : b.toInt = 1
    · rw [h1b, Int.tdiv_one]; exact i_bm h1 h2
    · have h4 : (a.toInt.tdiv b.toInt).natAbs ≤ a.toInt.natAbs / 2 := by
        rw [Int.natAbs_tdiv]; exact Nat.div_le_div_left (by omega) (by decide)
      apply i_bm <;> omega
  · apply i_bm <;> omega
theorem i_div0 {a b : Int32} (ha : 0 ≤ a.toInt) (hb : 0 < b.toInt) : (a / b).toInt = a.toInt / b.toInt := by
  rw [i_div hb, Int.tdiv_eq_ediv_of_nonneg ha]
theorem i_rem {a b : Int32} (hb : 0 < b.toInt) : (a - a / b * b).toInt = a.toInt.tmod b.toInt := by
  have h1 := i_lo a
  have h2 := i_hi a
  have hq := i_div (a := a) hb
  have hm : b.toInt * a.toInt.tdiv b.toInt + a.toInt.tmod b.toInt = a.toInt := Int.mul_tdiv_add_tmod _ _
  have hmm : a.toInt.tdiv b.toInt * b.toInt = b.toInt * a.toInt.tdiv b.toInt := Int.mul_comm _ _
  obtain ⟨hr2, hr1⟩ := tmod_bounds (a := a.toInt) hb
  have hbb := i_hi b
  have hna : (a.toInt.tmod b.toInt).natAbs ≤ a.toInt.natAbs := by
    rw [Int.natAbs_tmod]; exact Nat.mod_le _ _
  have hsg : 0 ≤ a.toInt → 0 ≤ a.toInt.tmod b.toInt := fun h => Int.tmod_nonneg _ h
  have hsg2 : a.toInt ≤ 0 → a.toInt.tmod b.toInt ≤ 0 := fun h => by
    have := Int.tmod_nonneg b.toInt (a := -a.toInt) (by omega)
    rw [Int.neg_tmod] at this
    omega
  generalize hz : b.toInt * a.toInt.tdiv b.toInt = z at *
  generalize a.toInt.tmod b.toInt = w at *
  have hmul : (a / b * b).toInt = z := by
    rw [i_mul (by rw [hq, hmm]; omega) (by rw [hq, hmm]; omega), hq, hmm]
  rw [i_sub (by rw [hmul]; omega) (by rw [hmul]; omega), hmul]
  omega
theorem i_remB {a b : Int32} (hb : 0 < b.toInt) : -b.toInt < (a - a / b * b).toInt ∧ (a - a / b * b).toInt < b.toInt := by
  rw [i_rem hb]; exact tmod_bounds hb
theorem i_rem0 {a b : Int32} (ha : 0 ≤ a.toInt) (hb : 0 < b.toInt) : (a - a / b * b).toInt = a.toInt % b.toInt := by
  rw [i_rem hb, Int.tmod_eq_emod_of_nonneg ha]
theorem i_cl {a : Int32} (h : 0 ≤ a.toInt) : (a.toNatClampNeg : Int) = a.toInt := by
  show ((a.toInt.toNat : Nat) : Int) = a.toInt
  omega
theorem i_in {x : Int32} {n : Nat} (h1 : 0 ≤ x.toInt) (h2 : x.toInt < n) : vp_in x n := vp_in_iff.mpr ⟨h1, h2⟩
theorem i_prod {x y A B : Int} (hx : 0 ≤ x) (hxA : x ≤ A) (hy : 0 ≤ y) (hyB : y ≤ B) : 0 ≤ x * y ∧ x * y ≤ A * B :=
  ⟨Int.mul_nonneg hx hy, Int.mul_le_mul hxA hyB hy (Int.le_trans hx hxA)⟩
theorem i_inc (x : Int32) (n : Int) {d : Int32} (h : Int32.ofInt n = d) : x + Int32.ofInt n = x + d := by rw [h]
