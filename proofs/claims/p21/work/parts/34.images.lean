theorem im_img {g : Gs} {I I1 I0 : Ms} {a n : Nat} (hI : IM g I a) (hn : n < 2) (h1 : ∀ j, j < 729 → I1 (gr g a 2) (729 * n + j) = I0 (gr g a 0) j) (ho : ∀ j, (j < 729 * n ∨ 729 * n + 729 ≤ j) → I1 (gr g a 2) j = I (gr g a 2) j) (hh : ∀ i, i ≠ n → I1 (gr g a 3) i = I (gr g a 3) i) (hW : Wd28 I0 (gr g a 0) 0) (hJ : jm (I0 (gr g a 0) 717).toInt (I0 (gr g a 0) 715).toInt (I0 (gr g a 0) 716).toInt (I0 (gr g a 0) 722).toInt (I0 (gr g a 0) 718).toInt (I0 (gr g a 0) 719).toInt) : IM g I1 a := by
  intro i hi hne
  by_cases w : i = n
  · subst w
    refine ⟨fun j hj => ?_, ?_⟩
    · rw [h1 j hj]
      have := hW j hj
      rw [Nat.zero_add] at this
      exact this
    · rw [h1 717 (by decide), h1 715 (by decide), h1 716 (by decide), h1 722 (by decide), h1 718 (by decide), h1 719 (by decide)]
      exact hJ
  · rw [hh i w] at hne
    obtain ⟨z1, z2⟩ := hI i hi hne
    have e2 : ∀ j, j < 729 → I1 (gr g a 2) (729 * i + j) = I (gr g a 2) (729 * i + j) := fun j hj => ho _ (by omega)
    refine ⟨fun j hj => ?_, ?_⟩
    · rw [e2 j hj]; exact z1 j hj
    · rw [e2 717 (by decide), e2 715 (by decide), e2 716 (by decide), e2 722 (by decide), e2 718 (by decide), e2 719 (by decide)]
      exact z2
