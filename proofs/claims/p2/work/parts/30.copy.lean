/-! words copied from a row to another -/
def Wd28 (I : Ms) (x o : Nat) : Prop := ∀ j, j < 729 → (rng 28 j).1 ≤ (I x (o + j)).toInt ∧ (I x (o + j)).toInt ≤ (rng 28 j).2
theorem c_step {I0 I I1 : Ms} {x z o o' : Nat} {Y : Int} {q : Nat} {v : Int32} (hY : 0 ≤ Y) (hq : q = o + Y.toNat) (hc : ∀ j : Nat, (j : Int) < Y → I x (o + j) = I0 z (o' + j)) (hk : I1 x q = v) (f : ∀ b k, (b ≠ x ∨ k ≠ q) → I1 b k = I b k) (hv : v = I0 z (o' + Y.toNat)) : ∀ j : Nat, (j : Int) < Y + 1 → I1 x (o + j) = I0 z (o' + j) := by
  intro j hj
  by_cases w : j = Y.toNat
  · subst w
    rw [← hq, hk, hv]
  · rw [f x (o + j) (Or.inr (by omega))]
    exact hc j (by omega)
theorem wd_of {g : Gs} {s : State} {I : Ms} {J : Js} {H : Heap} {locs : List Loc} (M : Mm g s I J H locs) {a : Nat} (h : Is g a 28) : Wd28 I a 0 := by
  intro j _
  rw [Nat.zero_add]
  exact m_rng M h j rfl (lo := (rng 28 j).1) (hi := (rng 28 j).2) rfl
