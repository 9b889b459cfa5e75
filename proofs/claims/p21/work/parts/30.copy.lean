/-! words copied from a row to another -/
def Wd28 (I : Ms) (x o : Nat) : Prop := ∀ j, j < 729 → (rng 28 j).1 ≤ (I x (o + j)).toInt ∧ (I x (o + j)).toInt ≤ (rng 28 j).2
theorem c_step {I0 I I1 : Ms} {x z o o' : Nat} {Y : Int} {q : Nat} {v : Int32} (hY : 0 ≤ Y) (hq : q = o + Y.toNat) (hc : ∀ j : Nat, (j : Int) < Y → I x (o + j) = I0 z (o' + j)) (hk : I1 x q = v) (f : ∀ b k, (b ≠ x ∨ k ≠ q) → I1 b k = I b k) (hv : v = I0 z (o' + Y.toNat)) : ∀ j : Nat, (j : Int) < Y + 1 → I1 x (o + j) = I0 z (o' + j) := by
  intro j hj
  by_cases w : j = Y.toNat
  · subst w
    rw [← hq, hk, hv]
  · rw [f x (o + j) (Or.inr (by omega))]
    exact hc j (by omega)
theorem wd_of {g : Gs} {s : State} {I : Ms} {J : Js} {H : Heap} {locs : List Loc} (M : Mm g s I J H locs) {a : Nat} (h : Is g a 28) : Wd28 I a 0 := by
  intro j _
  rw [Nat.zero_add]
  exact m_rng M h j rfl (lo := (rng 28 j).1) (hi := (rng 28 j).2) rfl
theorem wd_eq {I I1 : Ms} {x y : Nat} (h : ∀ j, j < 729 → I1 x j = I y j) (hW : Wd28 I y 0) : Wd28 I1 x 0 := by
  intro j hj
  have := hW j hj
  rw [Nat.zero_add] at this ⊢
  rw [h j hj]
  exact this
/-- an image that was made holds words in their ranges, and numbers that fit -/
def IM (g : Gs) (I : Ms) (a : Nat) : Prop := ∀ i : Nat, i < 2 → (I (gr g a 3) i).toInt ≠ 0 → Wd28 I (gr g a 2) (729 * i) ∧ jm (I (gr g a 2) (729 * i + 717)).toInt (I (gr g a 2) (729 * i + 715)).toInt (I (gr g a 2) (729 * i + 716)).toInt (I (gr g a 2) (729 * i + 722)).toInt (I (gr g a 2) (729 * i + 718)).toInt (I (gr g a 2) (729 * i + 719)).toInt
theorem im_fr {g : Gs} {I I1 : Ms} {md : List (Nat × Nat)} {a : Nat} (hWf : Wf g) (h : Is g a 9) (F : Fr g md I I1) (hm : md.all (fun q => q.1 != 30 && q.1 != 31) = true) (hI : IM g I a) : IM g I1 a := by
  have hn : ∀ t k, (t = 30 ∨ t = 31) → (t, k) ∉ md := by
    intro t k ht q
    have := List.all_eq_true.mp hm _ q
    rcases ht with rfl | rfl <;> simp at this
  have h2 : Is g (gr g a 2) 30 := hWf a 9 2 h rfl
  have h3 : Is g (gr g a 3) 31 := hWf a 9 3 h rfl
  have e2 : ∀ j, I1 (gr g a 2) j = I (gr g a 2) j := fun j => F _ 30 j h2 (hn _ _ (Or.inl rfl)) (hn _ _ (Or.inl rfl))
  have e3 : ∀ j, I1 (gr g a 3) j = I (gr g a 3) j := fun j => F _ 31 j h3 (hn _ _ (Or.inr rfl)) (hn _ _ (Or.inr rfl))
  intro i hi hne
  rw [e3] at hne
  obtain ⟨w, z⟩ := hI i hi hne
  refine ⟨fun j hj => ?_, ?_⟩
  · rw [e2]; exact w j hj
  · rw [e2, e2, e2, e2, e2, e2]; exact z
theorem im_put {g : Gs} {I I1 : Ms} {a b t k : Nat} (hWf : Wf g) (h : Is g a 9) (hb : Is g b t) (ht : (t != 30 && t != 31) = true) (f : ∀ c j, (c ≠ b ∨ j ≠ k) → I1 c j = I c j) (hI : IM g I a) : IM g I1 a :=
  im_fr (md := [(t, k + 1)]) hWf h (fr_put fr_rf hb (Or.inr List.mem_cons_self) f) (by simp only [List.all_cons, List.all_nil, Bool.and_true]; exact ht) hI
theorem im_zero {g : Gs} {I : Ms} {a : Nat} (h0 : (I (gr g a 3) 0).toInt = 0) (h1 : (I (gr g a 3) 1).toInt = 0) : IM g I a := by
  intro i hi hne
  have : i = 0 ∨ i = 1 := by omega
  rcases this with rfl | rfl
  · exact absurd h0 hne
  · exact absurd h1 hne
