theorem t_wf : ∀ i, i < 101 → ∀ k, k < 24 → isR (kd i) k = true → rf i k < 101 ∧ kd (rf i k) = rt (kd i) k := by decide +kernel
theorem t_len : ∀ t, t < 16 → (cds t).length ≤ 24 := by decide
theorem t_k {t k : Nat} (h : isR t k = true) : k < 24 := by
  unfold isR at h
  rw [Bool.or_eq_true, Bool.and_eq_true, Bool.and_eq_true, decide_eq_true_eq, decide_eq_true_eq, beq_iff_eq] at h
  rcases h with ⟨h1, h2⟩ | ⟨h1, h2⟩
  · have := (List.getElem?_eq_some_iff.mp h2).1
    have := t_len t h1
    omega
  · rw [Bool.or_eq_true, beq_iff_eq, beq_iff_eq] at h1
    rcases h1 with rfl | rfl
    · exact Nat.lt_of_lt_of_le h2 (by decide)
    · exact Nat.lt_of_lt_of_le h2 (by decide)
theorem t_q : ∀ i, i < 101 → kd i = 2 → oqT.getD i 0 < 101 ∧ kd (oqT.getD i 0) = 3 := by decide +kernel
theorem t_h : ∀ i, i < 101 → kd i = 2 → rf i 0 = i + 1 ∧ rf i 0 < 101 ∧ rf i 2 < 101 ∧ iv i 9 = 0 := by decide +kernel
theorem t_w : ∀ i, i < 101 → kd i = 2 → ∀ k, k < 8 → 3 ≤ k → rf (rf i 2) k < 101 ∧ (iv (rf (rf i 2) k) 1).toInt = (k : Int) - 1 := by decide +kernel
/-- which kinds hold only zeros at the start -/
theorem t_z : ∀ i, i < 101 → kd i ≠ 1 → kd i ≠ 2 → kd i ≠ 3 → kd i ≠ 28 → kd i < 44 := by decide +kernel
theorem t_0 {i : Nat} (hi : i < 101) (h1 : kd i ≠ 1) (h2 : kd i ≠ 2) (h3 : kd i ≠ 3) (h4 : kd i ≠ 28) : iv i = zI := by
  match i, hi with
  | 0, _ => exact rfl
  | 1, _ => exact absurd rfl h2
  | 2, _ => exact absurd rfl h1
  | 3, _ => exact rfl
  | 4, _ => exact rfl
  | 5, _ => exact rfl
  | 6, _ => exact rfl
  | 7, _ => exact rfl
  | 8, _ => exact rfl
  | 9, _ => exact rfl
  | 10, _ => exact rfl
  | 11, _ => exact rfl
  | 12, _ => exact absurd rfl h3
  | 13, _ => exact absurd rfl h3
  | 14, _ => exact absurd rfl h3
  | 15, _ => exact absurd rfl h3
  | 16, _ => exact absurd rfl h3
  | 17, _ => exact absurd rfl h3
  | 18, _ => exact absurd rfl h3
  | 19, _ => exact absurd rfl h3
  | 20, _ => exact absurd rfl h2
  | 21, _ => exact absurd rfl h1
  | 22, _ => exact rfl
  | 23, _ => exact rfl
  | 24, _ => exact rfl
  | 25, _ => exact rfl
  | 26, _ => exact rfl
  | 27, _ => exact rfl
  | 28, _ => exact rfl
  | 29, _ => exact rfl
  | 30, _ => exact rfl
  | 31, _ => exact absurd rfl h3
  | 32, _ => exact absurd rfl h3
  | 33, _ => exact absurd rfl h3
  | 34, _ => exact absurd rfl h3
  | 35, _ => exact absurd rfl h3
  | 36, _ => exact absurd rfl h3
  | 37, _ => exact absurd rfl h3
  | 38, _ => exact absurd rfl h3
  | 39, _ => exact rfl
  | 40, _ => exact rfl
  | 41, _ => exact rfl
  | 42, _ => exact rfl
  | 43, _ => exact rfl
  | 44, _ => exact rfl
  | 45, _ => exact rfl
  | 46, _ => exact rfl
  | 47, _ => exact rfl
  | 48, _ => exact rfl
  | 49, _ => exact rfl
  | 50, _ => exact rfl
  | 51, _ => exact rfl
  | 52, _ => exact rfl
  | 53, _ => exact absurd rfl h2
  | 54, _ => exact absurd rfl h1
  | 55, _ => exact rfl
  | 56, _ => exact rfl
  | 57, _ => exact rfl
  | 58, _ => exact rfl
  | 59, _ => exact rfl
  | 60, _ => exact rfl
  | 61, _ => exact rfl
  | 62, _ => exact rfl
  | 63, _ => exact rfl
  | 64, _ => exact absurd rfl h3
  | 65, _ => exact absurd rfl h3
  | 66, _ => exact absurd rfl h3
  | 67, _ => exact absurd rfl h3
  | 68, _ => exact absurd rfl h3
  | 69, _ => exact absurd rfl h3
  | 70, _ => exact absurd rfl h3
  | 71, _ => exact absurd rfl h3
  | 72, _ => exact absurd rfl h2
  | 73, _ => exact absurd rfl h1
  | 74, _ => exact rfl
  | 75, _ => exact rfl
  | 76, _ => exact rfl
  | 77, _ => exact rfl
  | 78, _ => exact rfl
  | 79, _ => exact rfl
  | 80, _ => exact rfl
  | 81, _ => exact rfl
  | 82, _ => exact rfl
  | 83, _ => exact absurd rfl h3
  | 84, _ => exact absurd rfl h3
  | 85, _ => exact absurd rfl h3
  | 86, _ => exact absurd rfl h3
  | 87, _ => exact absurd rfl h3
  | 88, _ => exact absurd rfl h3
  | 89, _ => exact absurd rfl h3
  | 90, _ => exact absurd rfl h3
  | 91, _ => exact rfl
  | 92, _ => exact absurd rfl h4
  | 93, _ => exact rfl
  | 94, _ => exact rfl
  | 95, _ => exact rfl
  | 96, _ => exact rfl
  | 97, _ => exact rfl
  | 98, _ => exact rfl
  | 99, _ => exact rfl
  | 100, _ => exact rfl
  | n + 101, h => exact absurd h (by omega)
theorem rz : ∀ t, t < 44 → t ≠ 1 → t ≠ 2 → t ≠ 3 → t ≠ 28 → ∀ j, (rng t j).1 ≤ 0 ∧ 0 ≤ (rng t j).2 := by
  intro t ht h1 h2 h3 h4 j
  match t, ht with
  | 0, _ =>
    unfold rng
    split <;> first | (constructor <;> decide) | simp_all
  | 1, _ => exact absurd rfl h1
  | 2, _ => exact absurd rfl h2
  | 3, _ => exact absurd rfl h3
  | 4, _ =>
    unfold rng
    split <;> first | (constructor <;> decide) | simp_all
  | 5, _ =>
    unfold rng
    split <;> first | (constructor <;> decide) | simp_all
  | 6, _ =>
    unfold rng
    split <;> first | (constructor <;> decide) | simp_all
  | 7, _ =>
    unfold rng
    split <;> first | (constructor <;> decide) | simp_all
  | 8, _ => exact (show (-2147483648 : Int) ≤ 0 ∧ (0 : Int) ≤ 2147483647 from ⟨by decide, by decide⟩)
  | 9, _ =>
    unfold rng
    split <;> first | (constructor <;> decide) | simp_all
  | 10, _ => exact (show (-2147483648 : Int) ≤ 0 ∧ (0 : Int) ≤ 2147483647 from ⟨by decide, by decide⟩)
  | 11, _ => exact (show (-2147483648 : Int) ≤ 0 ∧ (0 : Int) ≤ 2147483647 from ⟨by decide, by decide⟩)
  | 12, _ => exact (show (-2147483648 : Int) ≤ 0 ∧ (0 : Int) ≤ 2147483647 from ⟨by decide, by decide⟩)
  | 13, _ => exact (show (-2147483648 : Int) ≤ 0 ∧ (0 : Int) ≤ 2147483647 from ⟨by decide, by decide⟩)
  | 14, _ => exact (show (-2147483648 : Int) ≤ 0 ∧ (0 : Int) ≤ 2147483647 from ⟨by decide, by decide⟩)
  | 15, _ => exact (show (-2147483648 : Int) ≤ 0 ∧ (0 : Int) ≤ 2147483647 from ⟨by decide, by decide⟩)
  | 16, _ => exact (show (-2147483648 : Int) ≤ 0 ∧ (0 : Int) ≤ 2147483647 from ⟨by decide, by decide⟩)
  | 17, _ => exact (show (-2147483648 : Int) ≤ 0 ∧ (0 : Int) ≤ 2147483647 from ⟨by decide, by decide⟩)
  | 18, _ => exact (show (-2147483648 : Int) ≤ 0 ∧ (0 : Int) ≤ 2147483647 from ⟨by decide, by decide⟩)
  | 19, _ => exact (show (-2147483648 : Int) ≤ 0 ∧ (0 : Int) ≤ 2147483647 from ⟨by decide, by decide⟩)
  | 20, _ => exact (show (-2147483648 : Int) ≤ 0 ∧ (0 : Int) ≤ 2147483647 from ⟨by decide, by decide⟩)
  | 21, _ => exact (show (-2147483648 : Int) ≤ 0 ∧ (0 : Int) ≤ 2147483647 from ⟨by decide, by decide⟩)
  | 22, _ => exact (show (-2147483648 : Int) ≤ 0 ∧ (0 : Int) ≤ 2147483647 from ⟨by decide, by decide⟩)
  | 23, _ => exact (show (0 : Int) ≤ 0 ∧ (0 : Int) ≤ 239 from ⟨by decide, by decide⟩)
  | 24, _ => exact (show (-2147483648 : Int) ≤ 0 ∧ (0 : Int) ≤ 2147483647 from ⟨by decide, by decide⟩)
  | 25, _ => exact (show (0 : Int) ≤ 0 ∧ (0 : Int) ≤ 239 from ⟨by decide, by decide⟩)
  | 26, _ => exact (show (-128 : Int) ≤ 0 ∧ (0 : Int) ≤ 127 from ⟨by decide, by decide⟩)
  | 27, _ => exact (show (0 : Int) ≤ 0 ∧ (0 : Int) ≤ 1 from ⟨by decide, by decide⟩)
  | 28, _ => exact absurd rfl h4
  | 29, _ => exact (show (-2147483648 : Int) ≤ 0 ∧ (0 : Int) ≤ 2147483647 from ⟨by decide, by decide⟩)
  | 30, _ => exact (show (-2147483648 : Int) ≤ 0 ∧ (0 : Int) ≤ 2147483647 from ⟨by decide, by decide⟩)
  | 31, _ => exact (show (0 : Int) ≤ 0 ∧ (0 : Int) ≤ 1 from ⟨by decide, by decide⟩)
  | 32, _ => exact (show (-2147483648 : Int) ≤ 0 ∧ (0 : Int) ≤ 2147483647 from ⟨by decide, by decide⟩)
  | 33, _ => exact (show (0 : Int) ≤ 0 ∧ (0 : Int) ≤ 255 from ⟨by decide, by decide⟩)
  | 34, _ => exact (show (-2147483648 : Int) ≤ 0 ∧ (0 : Int) ≤ 2147483647 from ⟨by decide, by decide⟩)
  | 35, _ => exact (show (0 : Int) ≤ 0 ∧ (0 : Int) ≤ 1 from ⟨by decide, by decide⟩)
  | 36, _ => exact (show (-2147483648 : Int) ≤ 0 ∧ (0 : Int) ≤ 2147483647 from ⟨by decide, by decide⟩)
  | 37, _ => exact (show (-2147483648 : Int) ≤ 0 ∧ (0 : Int) ≤ 2147483647 from ⟨by decide, by decide⟩)
  | 38, _ => exact (show (-2147483648 : Int) ≤ 0 ∧ (0 : Int) ≤ 2147483647 from ⟨by decide, by decide⟩)
  | 39, _ => exact (show (-2147483648 : Int) ≤ 0 ∧ (0 : Int) ≤ 2147483647 from ⟨by decide, by decide⟩)
  | 40, _ => exact (show (-2147483648 : Int) ≤ 0 ∧ (0 : Int) ≤ 2147483647 from ⟨by decide, by decide⟩)
  | 41, _ => exact (show (-2147483648 : Int) ≤ 0 ∧ (0 : Int) ≤ 2147483647 from ⟨by decide, by decide⟩)
  | 42, _ => exact (show (-2147483648 : Int) ≤ 0 ∧ (0 : Int) ≤ 2147483647 from ⟨by decide, by decide⟩)
  | 43, _ => exact (show (-2147483648 : Int) ≤ 0 ∧ (0 : Int) ≤ 2147483647 from ⟨by decide, by decide⟩)
  | n + 44, h => exact absurd h (by omega)
theorem r_m (j : Nat) : (rng 28 j).1 ≤ (mI j).toInt ∧ (mI j).toInt ≤ (rng 28 j).2 := by
  by_cases h : j < 726
  · by_cases h2 : 700 < j
    · exact (by decide +kernel : ∀ j, j < 726 → 700 < j → (rng 28 j).1 ≤ (mI j).toInt ∧ (mI j).toInt ≤ (rng 28 j).2) j h h2
    · have e : mI j = 0 := by
        unfold mI upd
        rw [if_neg (by omega), if_neg (by omega), if_neg (by omega), if_neg (by omega), if_neg (by omega), if_neg (by omega)]
      rw [e]
      unfold rng
      split <;> first | (exact absurd rfl (by omega)) | (constructor <;> decide) | (split <;> constructor <;> decide) | omega
  · have e : mI j = 0 := by
      unfold mI upd
      rw [if_neg (by omega), if_neg (by omega), if_neg (by omega), if_neg (by omega), if_neg (by omega), if_neg (by omega)]
    rw [e]
    unfold rng
    split <;> first | (exact absurd rfl (by omega)) | (constructor <;> decide) | (split <;> constructor <;> decide) | omega
theorem r_o : ∀ i, i < 101 → (kd i = 1 ∨ kd i = 2 ∨ kd i = 3) → ∀ j, j < 24 → (rng (kd i) j).1 ≤ (iv i j).toInt ∧ (iv i j).toInt ≤ (rng (kd i) j).2 := by decide +kernel
theorem r_o2 {i : Nat} (hi : i < 101) (h : kd i = 1 ∨ kd i = 2 ∨ kd i = 3) (j : Nat) : rng (kd i) (j + 24) = (-2147483648, 2147483647) := by
  rcases h with h | h | h <;> rw [h] <;> rfl
theorem ti_all {i : Nat} (hi : i < 101) (j : Nat) : (rng (kd i) j).1 ≤ (iv i j).toInt ∧ (iv i j).toInt ≤ (rng (kd i) j).2 := by
  by_cases h : kd i = 1 ∨ kd i = 2 ∨ kd i = 3
  · by_cases hj : j < 24
    · exact r_o i hi h j hj
    · obtain ⟨k, rfl⟩ : ∃ k, j = k + 24 := ⟨j - 24, by omega⟩
      rw [r_o2 hi h k]
      exact ⟨i_lo _, Int.lt_add_one_iff.mp (i_hi _)⟩
  · by_cases h4 : kd i = 28
    · have e92 : i = 92 := (by decide +kernel : ∀ i, i < 101 → kd i = 28 → i = 92) i hi h4
      subst e92
      exact r_m j
    · rw [t_0 hi (fun q => h (Or.inl q)) (fun q => h (Or.inr (Or.inl q))) (fun q => h (Or.inr (Or.inr q))) h4]
      exact rz _ (t_z i hi (fun q => h (Or.inl q)) (fun q => h (Or.inr (Or.inl q))) (fun q => h (Or.inr (Or.inr q))) h4) (fun q => h (Or.inl q)) (fun q => h (Or.inr (Or.inl q))) (fun q => h (Or.inr (Or.inr q))) h4 j
section PL1
variable {adr pos : Nat → Nat} {cf : Nat → ClassId} {D : va_G} {B : Nat} {s : State} {H : Heap} {locs : List Loc} {cd : (Nat → Nat) × (Nat → Nat) × (Nat → Nat) × Nat × Nat}
def gP (adr pos : Nat → Nat) (cf : Nat → ClassId) (D : va_G) (B : Nat) (cd : (Nat → Nat) × (Nat → Nat) × (Nat → Nat) × Nat × Nat) : Gs :=
  (D, cf, (List.range 101).map adr, (fun a => kd (pos a)), (fun a k => adr (rf (pos a) k)), B, cd.1, cd.2.1, cd.2.2.1, cd.2.2.2.1, cd.2.2.2.2)
def IP (pos : Nat → Nat) : Ms := fun a j => iv (pos a) j
def JP (adr pos : Nat → Nat) : Js := ((fun a _ => adr (oqT.getD (pos a) 0)), (fun _ _ => none), (fun _ => 0))
theorem gp_is {a t : Nat} (hpos : ∀ i, i < 101 → pos (adr i) = i) (h : Is (gP adr pos cf D B cd) a t) : ∃ i, i < 101 ∧ a = adr i ∧ kd i = t := by
  obtain ⟨h1, h2⟩ := h
  obtain ⟨i, hi, rfl⟩ := List.mem_map.mp (show a ∈ (List.range 101).map adr from h1)
  rw [List.mem_range] at hi
  refine ⟨i, hi, rfl, ?_⟩
  have : kd (pos (adr i)) = t := h2
  rw [hpos i hi] at this
  exact this
theorem gp_in (hpos : ∀ i, i < 101 → pos (adr i) = i) {i t : Nat} (hi : i < 101) (ht : kd i = t) : Is (gP adr pos cf D B cd) (adr i) t :=
  ⟨List.mem_map.mpr ⟨i, List.mem_range.mpr hi, rfl⟩, by show kd (pos (adr i)) = t; rw [hpos i hi]; exact ht⟩
theorem gp_ct (hpos : ∀ i, i < 101 → pos (adr i) = i) {i : Nat} (hi : i < 101) : ct (gP adr pos cf D B cd) (IP pos) (JP adr pos) (adr i) = cz adr cf i := by
  have e1 : gK (gP adr pos cf D B cd) (adr i) = kd i := by show kd (pos (adr i)) = kd i; rw [hpos i hi]
  have e2 : IP pos (adr i) = iv i := by unfold IP; rw [hpos i hi]
  have e3 : ∀ k q, vl (gP adr pos cf D B cd) (IP pos) (JP adr pos) (adr i) k q = (match q with | 0 => .int (iv i k) | 1 => .ref (adr (rf i k)) | 2 => .ref (adr (oqT.getD i 0)) | _ => .long 0) := by
    intro k q
    match q with
    | 0 => show Value.int (IP pos (adr i) k) = _; rw [e2]; rfl
    | 1 => show Value.ref (adr (rf (pos (adr i)) k)) = _; rw [hpos i hi]; rfl
    | 2 => show Value.ref (adr (oqT.getD (pos (adr i)) 0)) = _; rw [hpos i hi]; rfl
    | n + 3 => rfl
  have e4 : fls (gP adr pos cf D B cd) (IP pos) (JP adr pos) (adr i) (kd i) = fz (fun k q => match q with | 0 => .int (iv i k) | 1 => .ref (adr (rf i k)) | 2 => .ref (adr (oqT.getD i 0)) | _ => .long 0) (cds (kd i)) 0 := by
    rw [← fz_eq]
    unfold fls
    simp only [e3, Nat.add_zero]
  have e5 : (fun j => some (gr (gP adr pos cf D B cd) (adr i) j)) = fun j => some (adr (rf i j)) := by
    funext j
    show some (adr (rf (pos (adr i)) j)) = _
    rw [hpos i hi]
  unfold ct cz
  rw [e1, e4, e2, e5]
  rfl
theorem gp_pl (hpos : ∀ i, i < 101 → pos (adr i) = i) {k : Nat} {q : Nat × va_E} (h : (va_pl (gL (gP adr pos cf D B cd)) (ct (gP adr pos cf D B cd) (IP pos) (JP adr pos)))[k]? = some q) : k < 101 ∧ q = (adr k, cz adr cf k) := by
  have h1 : (((List.range 101).map adr).map (fun a => (a, ct (gP adr pos cf D B cd) (IP pos) (JP adr pos) a)))[k]? = some q := h
  rw [List.map_map, List.getElem?_map] at h1
  by_cases hk : k < 101
  · rw [List.getElem?_range hk] at h1
    refine ⟨hk, ?_⟩
    have := (Option.some.inj h1).symm
    rw [this]
    show (adr k, ct (gP adr pos cf D B cd) (IP pos) (JP adr pos) (adr k)) = _
    rw [gp_ct hpos hk]
  · rw [List.getElem?_eq_none (by rw [List.length_range]; omega)] at h1
    cases h1
theorem ws_adr : ∀ i, i < 101 → ∃ e : va_E, (wsOf adr cf)[i]? = some (adr i, e) := by
  intro i hi
  match i, hi with
  | 0, _ => exact ⟨_, rfl⟩
  | 1, _ => exact ⟨_, rfl⟩
  | 2, _ => exact ⟨_, rfl⟩
  | 3, _ => exact ⟨_, rfl⟩
  | 4, _ => exact ⟨_, rfl⟩
  | 5, _ => exact ⟨_, rfl⟩
  | 6, _ => exact ⟨_, rfl⟩
  | 7, _ => exact ⟨_, rfl⟩
  | 8, _ => exact ⟨_, rfl⟩
  | 9, _ => exact ⟨_, rfl⟩
  | 10, _ => exact ⟨_, rfl⟩
  | 11, _ => exact ⟨_, rfl⟩
  | 12, _ => exact ⟨_, rfl⟩
  | 13, _ => exact ⟨_, rfl⟩
  | 14, _ => exact ⟨_, rfl⟩
  | 15, _ => exact ⟨_, rfl⟩
  | 16, _ => exact ⟨_, rfl⟩
  | 17, _ => exact ⟨_, rfl⟩
  | 18, _ => exact ⟨_, rfl⟩
  | 19, _ => exact ⟨_, rfl⟩
  | 20, _ => exact ⟨_, rfl⟩
  | 21, _ => exact ⟨_, rfl⟩
  | 22, _ => exact ⟨_, rfl⟩
  | 23, _ => exact ⟨_, rfl⟩
  | 24, _ => exact ⟨_, rfl⟩
  | 25, _ => exact ⟨_, rfl⟩
  | 26, _ => exact ⟨_, rfl⟩
  | 27, _ => exact ⟨_, rfl⟩
  | 28, _ => exact ⟨_, rfl⟩
  | 29, _ => exact ⟨_, rfl⟩
  | 30, _ => exact ⟨_, rfl⟩
  | 31, _ => exact ⟨_, rfl⟩
  | 32, _ => exact ⟨_, rfl⟩
  | 33, _ => exact ⟨_, rfl⟩
  | 34, _ => exact ⟨_, rfl⟩
  | 35, _ => exact ⟨_, rfl⟩
  | 36, _ => exact ⟨_, rfl⟩
  | 37, _ => exact ⟨_, rfl⟩
  | 38, _ => exact ⟨_, rfl⟩
  | 39, _ => exact ⟨_, rfl⟩
  | 40, _ => exact ⟨_, rfl⟩
  | 41, _ => exact ⟨_, rfl⟩
  | 42, _ => exact ⟨_, rfl⟩
  | 43, _ => exact ⟨_, rfl⟩
  | 44, _ => exact ⟨_, rfl⟩
  | 45, _ => exact ⟨_, rfl⟩
  | 46, _ => exact ⟨_, rfl⟩
  | 47, _ => exact ⟨_, rfl⟩
  | 48, _ => exact ⟨_, rfl⟩
  | 49, _ => exact ⟨_, rfl⟩
  | 50, _ => exact ⟨_, rfl⟩
  | 51, _ => exact ⟨_, rfl⟩
  | 52, _ => exact ⟨_, rfl⟩
  | 53, _ => exact ⟨_, rfl⟩
  | 54, _ => exact ⟨_, rfl⟩
  | 55, _ => exact ⟨_, rfl⟩
  | 56, _ => exact ⟨_, rfl⟩
  | 57, _ => exact ⟨_, rfl⟩
  | 58, _ => exact ⟨_, rfl⟩
  | 59, _ => exact ⟨_, rfl⟩
  | 60, _ => exact ⟨_, rfl⟩
  | 61, _ => exact ⟨_, rfl⟩
  | 62, _ => exact ⟨_, rfl⟩
  | 63, _ => exact ⟨_, rfl⟩
  | 64, _ => exact ⟨_, rfl⟩
  | 65, _ => exact ⟨_, rfl⟩
  | 66, _ => exact ⟨_, rfl⟩
  | 67, _ => exact ⟨_, rfl⟩
  | 68, _ => exact ⟨_, rfl⟩
  | 69, _ => exact ⟨_, rfl⟩
  | 70, _ => exact ⟨_, rfl⟩
  | 71, _ => exact ⟨_, rfl⟩
  | 72, _ => exact ⟨_, rfl⟩
  | 73, _ => exact ⟨_, rfl⟩
  | 74, _ => exact ⟨_, rfl⟩
  | 75, _ => exact ⟨_, rfl⟩
  | 76, _ => exact ⟨_, rfl⟩
  | 77, _ => exact ⟨_, rfl⟩
  | 78, _ => exact ⟨_, rfl⟩
  | 79, _ => exact ⟨_, rfl⟩
  | 80, _ => exact ⟨_, rfl⟩
  | 81, _ => exact ⟨_, rfl⟩
  | 82, _ => exact ⟨_, rfl⟩
  | 83, _ => exact ⟨_, rfl⟩
  | 84, _ => exact ⟨_, rfl⟩
  | 85, _ => exact ⟨_, rfl⟩
  | 86, _ => exact ⟨_, rfl⟩
  | 87, _ => exact ⟨_, rfl⟩
  | 88, _ => exact ⟨_, rfl⟩
  | 89, _ => exact ⟨_, rfl⟩
  | 90, _ => exact ⟨_, rfl⟩
  | 91, _ => exact ⟨_, rfl⟩
  | 92, _ => exact ⟨_, rfl⟩
  | 93, _ => exact ⟨_, rfl⟩
  | 94, _ => exact ⟨_, rfl⟩
  | 95, _ => exact ⟨_, rfl⟩
  | 96, _ => exact ⟨_, rfl⟩
  | 97, _ => exact ⟨_, rfl⟩
  | 98, _ => exact ⟨_, rfl⟩
  | 99, _ => exact ⟨_, rfl⟩
  | 100, _ => exact ⟨_, rfl⟩
  | n + 101, h => exact absurd h (by omega)
theorem pool (E : El D (tyl cf) B s (wsOf adr cf) H locs) (hB : B = s.heap.size) (hSt : ∀ pos, Sts (gP adr pos cf D B cd) s) : ∃ pos : Nat → Nat, Mm (gP adr pos cf D B cd) s (IP pos) (JP adr pos) H locs ∧ Lw (gP adr pos cf D B cd) (adr 91) (IP pos) (JP adr pos) ∧ Is (gP adr pos cf D B cd) (adr 0) 8 ∧ Is (gP adr pos cf D B cd) (adr 91) 9 ∧ Is (gP adr pos cf D B cd) (adr 100) 43 := by
  have hinj : ∀ i j, i < 101 → j < 101 → adr i = adr j → i = j := by
    intro i j hi hj h
    obtain ⟨e1, h1⟩ := ws_adr (adr := adr) (cf := cf) i hi
    obtain ⟨e2, h2⟩ := ws_adr (adr := adr) (cf := cf) j hj
    exact E.2.2.2.1.1 i j _ _ h1 h2 h
  have hinB : ∀ i, i < 101 → B ≤ adr i := by
    intro i hi
    obtain ⟨e1, h1⟩ := ws_adr (adr := adr) (cf := cf) i hi
    exact E.2.2.2.1.2 i _ h1
  obtain ⟨pos, hpos⟩ : ∃ pos : Nat → Nat, ∀ i, i < 101 → pos (adr i) = i := by
    have h0 : ∀ a : Nat, ∃ k : Nat, ∀ i, i < 101 → adr i = a → k = i := by
      intro a
      by_cases h : ∃ i, i < 101 ∧ adr i = a
      · obtain ⟨i, hi, rfl⟩ := h
        exact ⟨i, fun j hj e => hinj i j hi hj e.symm⟩
      · exact ⟨0, fun i hi e => absurd ⟨i, hi, e⟩ h⟩
    obtain ⟨f, hf⟩ := Classical.axiomOfChoice h0
    exact ⟨f, fun i hi => hf (adr i) i hi rfl⟩
  have hW : Wf (gP adr pos cf D B cd) := by
    intro a t k h hr
    obtain ⟨i, hi, rfl, rfl⟩ := gp_is hpos h
    have := t_wf i hi k (t_k hr) hr
    show Is _ (adr (rf (pos (adr i)) k)) _
    rw [hpos i hi]
    exact gp_in hpos this.1 this.2
  have hT : Ti (gP adr pos cf D B cd) (IP pos) := by
    intro a ha j
    obtain ⟨i, hi, rfl⟩ := List.mem_map.mp (show a ∈ (List.range 101).map adr from ha)
    rw [List.mem_range] at hi
    show (rng (kd (pos (adr i))) j).1 ≤ (iv (pos (adr i)) j).toInt ∧ (iv (pos (adr i)) j).toInt ≤ (rng (kd (pos (adr i))) j).2
    rw [hpos i hi]
    exact ti_all hi j
  have hQ : Tq (gP adr pos cf D B cd) (JP adr pos) := by
    intro a h
    obtain ⟨i, hi, rfl, h2⟩ := gp_is hpos h
    have := t_q i hi h2
    have e : Is (gP adr pos cf D B cd) (adr (oqT.getD (pos (adr i)) 0)) 3 := by rw [hpos i hi]; exact gp_in hpos this.1 this.2
    exact ⟨e, e⟩
  have M : Mm (gP adr pos cf D B cd) s (IP pos) (JP adr pos) H locs := by
    refine ⟨⟨Nat.le_of_eq hB, hSt pos⟩, E.2.1, ?_, ⟨?_, ?_⟩, E.2.2.2.2, hW, hT, hQ⟩
    · intro k q h
      obtain ⟨hk, rfl⟩ := gp_pl hpos h
      exact pc_all E.2.2.1 k hk
    · intro i j q r h1 h2 h
      obtain ⟨hi, rfl⟩ := gp_pl hpos h1
      obtain ⟨hj, rfl⟩ := gp_pl hpos h2
      exact hinj i j hi hj h
    · intro k q h
      obtain ⟨hk, rfl⟩ := gp_pl hpos h
      exact hinB k hk
  have gr_ : ∀ i k, i < 101 → gr (gP adr pos cf D B cd) (adr i) k = adr (rf i k) := by
    intro i k hi
    show adr (rf (pos (adr i)) k) = _
    rw [hpos i hi]
  have iv_ : ∀ i k, i < 101 → IP pos (adr i) k = iv i k := by
    intro i k hi
    show iv (pos (adr i)) k = _
    rw [hpos i hi]
  refine ⟨pos, M, ⟨⟨fun a ha => ?_, fun a b ha hb h => ?_, fun a k ha h1 h2 => ?_⟩, fun a j _ => Or.inl rfl, ?_, ?_⟩, gp_in hpos (by decide) (by decide +kernel), gp_in hpos (by decide) (by decide +kernel), gp_in hpos (by decide) (by decide +kernel)⟩
  · obtain ⟨i, hi, rfl, h2⟩ := gp_is hpos ha
    have := t_h i hi h2
    exact rh_zero M ha (iv_ i 9 hi) (by rw [this.2.2.2]; rfl)
  · obtain ⟨i, hi, rfl, h2⟩ := gp_is hpos ha
    obtain ⟨j, hj, rfl, h3⟩ := gp_is hpos hb
    rw [gr_ i 0 hi, gr_ j 0 hj] at h
    have e1 := t_h i hi h2
    have e2 := t_h j hj h3
    have e3 := hinj _ _ e1.2.1 e2.2.1 h
    have : i = j := by omega
    rw [this]
  · obtain ⟨i, hi, rfl, h3⟩ := gp_is hpos ha
    have e1 := t_h i hi h3
    have e2 := t_w i hi h3 k (by omega) h1
    rw [gr_ i 2 hi, gr_ _ k e1.2.2.1, iv_ _ 1 e2.1]
    exact e2.2
  · rw [gr_ 91 0 (by decide)]
    have e : IP pos (adr (rf 91 0)) 717 = 0 := (iv_ 92 717 (by decide)).trans (by decide +kernel)
    rw [e]
    unfold jm
    intro q
    exact absurd q (by decide)
  · refine im_zero ?_ ?_
    · rw [gr_ 91 3 (by decide)]
      have e : IP pos (adr (rf 91 3)) 0 = 0 := (iv_ 95 0 (by decide)).trans (by decide +kernel)
      rw [e]; rfl
    · rw [gr_ 91 3 (by decide)]
      have e : IP pos (adr (rf 91 3)) 1 = 0 := (iv_ 95 1 (by decide)).trans (by decide +kernel)
      rw [e]; rfl
end PL1
