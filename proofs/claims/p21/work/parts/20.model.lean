/-! the reference's numbers -/
theorem rng28 : ∀ j, j < 715 → rng 28 j = if 608 ≤ j ∧ j < 708 ∧ j % 5 = 4 then (0, 300) else (-2147483648, 2147483647) := by decide +kernel
theorem rng28_lo {j : Nat} (h : j < 608) : rng 28 j = (-2147483648, 2147483647) := by
  rw [rng28 j (by omega), if_neg (by omega)]
theorem rng28_laid {j : Nat} (h : 708 ≤ j) (h2 : j < 715) : rng 28 j = (-2147483648, 2147483647) := by
  rw [rng28 j (by omega), if_neg (by omega)]
theorem rng28_blk {j : Nat} (h : 608 ≤ j) (h2 : j < 708) (h3 : j % 5 = 4) : rng 28 j = (0, 300) := by
  rw [rng28 j (by omega), if_pos ⟨h, h2, h3⟩]
theorem rng28_ask {j : Nat} (h : 608 ≤ j) (h2 : j < 708) (h3 : j % 5 ≠ 4) : rng 28 j = (-2147483648, 2147483647) := by
  rw [rng28 j (by omega), if_neg (fun q => h3 q.2.2)]
def mBl (R N : Int) : Int := R * (N - 1)
def mNs (R N : Int) : Int := (R * (N - 1) + N - 1) / N
def mSt (R N S b : Int) : Int := if mNs R N - b < S then mNs R N - b else S
def mRd (R N S b : Int) : Int := if mBl R N - b * N < mSt R N S b * N then mBl R N - b * N else mSt R N S b * N
def mCr (R N S b : Int) : Bool := decide (b * N / (N - 1) ≤ b + mSt R N S b - 1)
def mBk (R N S b : Int) : Int := if mCr R N S b = true then mSt R N S b * N else 0
def mSp (R N S b : Int) : Int := if mCr R N S b = true then mRd R N S b + mSt R N S b * (N + 1) + 1 + mBk R N S b + 1 else mRd R N S b + mSt R N S b * (N + 1) + 1
theorem mBl_b {R N : Int} (h1 : 4 ≤ R) (h2 : R ≤ 40) (h3 : 3 ≤ N) (h4 : N ≤ 7) : 8 ≤ mBl R N ∧ mBl R N ≤ 240 := by
  have hN : N = 3 ∨ N = 4 ∨ N = 5 ∨ N = 6 ∨ N = 7 := by omega
  unfold mBl
  rcases hN with rfl | rfl | rfl | rfl | rfl <;> omega
theorem mNs_b {R N : Int} (h1 : 4 ≤ R) (h2 : R ≤ 40) (h3 : 3 ≤ N) (h4 : N ≤ 7) : 1 ≤ mNs R N ∧ mNs R N ≤ R ∧ (mNs R N - 1) * N < R * (N - 1) := by
  have hN : N = 3 ∨ N = 4 ∨ N = 5 ∨ N = 6 ∨ N = 7 := by omega
  unfold mNs
  rcases hN with rfl | rfl | rfl | rfl | rfl <;> omega
theorem mSt_b {R N S b : Int} (h1 : 4 ≤ R) (h2 : R ≤ 40) (h3 : 3 ≤ N) (h4 : N ≤ 7) (h5 : 1 ≤ S) (h6 : S ≤ 4) (h7 : 0 ≤ b) : mSt R N S b ≤ S ∧ mSt R N S b ≤ mNs R N - b ∧ (b < mNs R N → 1 ≤ mSt R N S b) := by
  unfold mSt
  split <;> omega
theorem mRd_b {R N S b : Int} (h1 : 4 ≤ R) (h2 : R ≤ 40) (h3 : 3 ≤ N) (h4 : N ≤ 7) (h5 : 1 ≤ S) (h6 : S ≤ 4) (h7 : 0 ≤ b) : mRd R N S b ≤ mBl R N - b * N ∧ mRd R N S b ≤ mSt R N S b * N ∧ mRd R N S b ≤ S * N ∧ (b < mNs R N → 1 ≤ mRd R N S b) := by
  have a1 := mSt_b h1 h2 h3 h4 h5 h6 h7
  have a2 := mNs_b h1 h2 h3 h4
  have hN : N = 3 ∨ N = 4 ∨ N = 5 ∨ N = 6 ∨ N = 7 := by omega
  unfold mRd mBl
  unfold mBl at *
  rcases hN with rfl | rfl | rfl | rfl | rfl <;> (split <;> omega)
theorem mRow {b R N m : Int} (h0 : 0 ≤ b) (h1 : b < R * (N - 1)) (h2 : 3 ≤ N) (h3 : N ≤ m) (hR : 0 ≤ R) : b / (m - 1) < R := by
  refine Int.ediv_lt_of_lt_mul (by omega) ?_
  have : R * (N - 1) ≤ R * (m - 1) := Int.mul_le_mul_of_nonneg_left (by omega) hR
  omega
section ALDK
variable {p : Program} {l : Launch} {e : Env} {R : Room} {s : State} {m : MethodId} {args : Array Value} {below : List Frame} {meth : Method} {c : Code} {H : Heap} {locs : List Loc} {cells slots : Nat} {Q : State → Prop} {cc : ByteArray} {nL pc : Nat} {ls : Array Slot} {st : List Value} {own : String} {g : Gs} {I : Ms} {J : Js} {a : Nat}
theorem a_ldK (C : CallFix p m c cc nL s args TB own) (M : Mm g s I J H locs) {t n : Nat} (h : Is g a t) (ht : isA t = true) (hn : aln t = n) {i : Int32} {X : Int} (hx : i.toInt = X) (i1 : 0 ≤ X) (i2 : X < n) {j : Nat} (hj : X.toNat = j) {v : Int32} (hv : I a j = v) (hd : decode cc pc = .ok (.iaload, 1)) (kk : W p l e R s m args below meth c H locs cells slots Q (F0 m (pc + 1) ls (.int v :: st))) : W p l e R s m args below meth c H locs cells slots Q (F0 m pc ls (.int i :: .ref a :: st)) :=
  a_ld C M h ht hn hx i1 i2 hj hd (fun w hw => by rw [← hw, hv]; exact kk)
end ALDK
def jm (G N R S B D : Int) : Prop := G = 1 → N ≤ 6 ∧ B < mNs R N ∧ D < mSp R N S B
theorem mSp_b {R N S b : Int} (h1 : 4 ≤ R) (h2 : R ≤ 40) (h3 : 3 ≤ N) (h4 : N ≤ 7) (h5 : 1 ≤ S) (h6 : S ≤ 4) (h7 : 0 ≤ b) (h8 : b < mNs R N) : mRd R N S b + mBk R N S b + 1 < mSp R N S b ∧ 5 ≤ mSp R N S b ∧ mSp R N S b ≤ 120 ∧ 0 ≤ mBk R N S b := by
  have a1 := mSt_b h1 h2 h3 h4 h5 h6 h7
  have a2 := mRd_b h1 h2 h3 h4 h5 h6 h7
  have hN : N = 3 ∨ N = 4 ∨ N = 5 ∨ N = 6 ∨ N = 7 := by omega
  have a3 := a1.2.2 h8
  have a4 := a2.2.2.2 h8
  have a5 := a1.1
  have a6 := a2.2.1
  clear a1 a2
  unfold mSp mBk
  generalize mRd R N S b = rd at *
  generalize mSt R N S b = sn at *
  generalize mCr R N S b = cr at *
  rcases hN with rfl | rfl | rfl | rfl | rfl <;> cases cr <;> simp only [if_true, if_false, Bool.false_eq_true] <;> omega
theorem i_half {X Y : Int} (hX : 0 ≤ X) (hY : 2 ≤ Y) : 2 * (X / Y) ≤ X := by
  have h1 : X / Y * Y ≤ X := Int.ediv_mul_le X (by omega)
  have h2 : 0 ≤ X / Y := Int.ediv_nonneg hX (by omega)
  have h3 : X / Y * 2 ≤ X / Y * Y := Int.mul_le_mul_of_nonneg_left hY h2
  omega
theorem mRd_c {R N S b : Int} (h1 : 4 ≤ R) (h2 : R ≤ 40) (h3 : 3 ≤ N) (h4 : N ≤ 7) (h5 : 1 ≤ S) (h6 : S ≤ 4) (h7 : 0 ≤ b) : mRd R N S b ≤ 28 ∧ (N ≤ 6 → mRd R N S b ≤ 24) ∧ b * N + mRd R N S b ≤ mBl R N := by
  have a2 := mRd_b h1 h2 h3 h4 h5 h6 h7
  have hN : N = 3 ∨ N = 4 ∨ N = 5 ∨ N = 6 ∨ N = 7 := by omega
  refine ⟨?_, fun _ => ?_, by omega⟩ <;> rcases hN with rfl | rfl | rfl | rfl | rfl <;> omega
theorem mIdx {b m : Int} (h0 : 0 ≤ b) (h1 : b ≤ 300) (h2 : 3 ≤ m) (h3 : m ≤ 7) : 40 * (m - 1) + b / (m - 1) ≤ 327 := by
  have hN : m = 3 ∨ m = 4 ∨ m = 5 ∨ m = 6 ∨ m = 7 := by omega
  rcases hN with rfl | rfl | rfl | rfl | rfl <;> omega
section ASTC
variable {p : Program} {l : Launch} {e : Env} {R : Room} {s : State} {m : MethodId} {args : Array Value} {below : List Frame} {meth : Method} {c : Code} {H : Heap} {locs : List Loc} {cells slots : Nat} {Q : State → Prop} {cc : ByteArray} {nL pc : Nat} {ls : Array Slot} {st : List Value} {own : String} {g : Gs} {I : Ms} {J : Js} {a : Nat}
/-- a word of a request is put where another of its kind stood -/
theorem a_stC (C : CallFix p m c cc nL s args TB own) (M : Mm g s I J H locs) (h : Is g a 28) {i : Int32} {X : Int} (hx : i.toInt = X) (i1 : 608 ≤ X) (i2 : X < 708) {v : Int32} {j2 : Nat} (hk : I a j2 = v) (g1 : 608 ≤ j2) (g2 : j2 < 708) (hm : j2 % 5 = X.toNat % 5) (hd : decode cc pc = .ok (.iastore, 1)) (kk : ∀ (H1 : Heap) (locs1 : List Loc) (I1 : Ms), I1 a X.toNat = v → (∀ b k, (b ≠ a ∨ k ≠ X.toNat) → I1 b k = I b k) → Mm g s I1 J H1 locs1 → W p l e R s m args below meth c H1 locs1 cells slots Q (F0 m (pc + 1) ls st)) : W p l e R s m args below meth c H locs cells slots Q (F0 m pc ls (.int v :: .int i :: .ref a :: st)) := by
  have hr : rng 28 X.toNat = rng 28 j2 := by
    rw [rng28 _ (by omega), rng28 _ (by omega)]
    by_cases q : j2 % 5 = 4
    · rw [if_pos (by omega), if_pos (by omega)]
    · rw [if_neg (by omega), if_neg (by omega)]
  have ht := m_rng M h j2 hk (lo := (rng 28 j2).1) (hi := (rng 28 j2).2) rfl
  exact a_st C M h rfl rfl hx (by omega) (show X < ((729 : Nat) : Int) by omega) rfl rfl (hr.trans rfl) ht.1 ht.2 hd kk
end ASTC
