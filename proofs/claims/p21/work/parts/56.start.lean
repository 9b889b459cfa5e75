/-! WHAT THE STATEMENT GIVES OF THE START: the constants -/
def fl0 : List Cond := flatC (Cond.and given_1 narrow_1)
def kD : List Nat := [74, 80, 83, 86, 89, 92, 95, 98, 101, 104, 107, 110, 113, 116]
section ST0
variable {b : Nat} {s : State}
theorem st_p (h : (Cond.and given_1 narrow_1).before #[Value.ref b] s = true) {w : Cond} (i : Nat) (hi : fl0[i]? = some w) : w.before #[Value.ref b] s = true := flat_of_before _ h w (List.mem_of_getElem? hi)
theorem st_t (h : ∀ w ∈ lw_tbl, w.before #[Value.ref b] s = true) {w : Cond} (i : Nat) (hi : lw_tbl[i]? = some w) : w.before #[Value.ref b] s = true := h w (List.mem_of_getElem? hi)
end ST0
theorem q_ex : ∀ i, i < 14 → fl0[([56, 62, 69, 77, 86, 96, 107, 119, 132, 146, 161, 177, 32, 4] : List Nat).getD i 0]? = some (Cond.exactly (.static "GrowHouse$Deed" (nmD.getD i "") "LGrowHouse$Deed;") "GrowHouse$Deed") := by decide +kernel
theorem q_or : ∀ i, i < 14 → fl0[([57, 63, 70, 78, 87, 97, 108, 120, 133, 147, 162, 178, 33, 5] : List Nat).getD i 0]? = some (Cond.eq (.field (.static "GrowHouse$Deed" (nmD.getD i "") "LGrowHouse$Deed;") "java/lang/Enum" "ordinal" "I") (.int (([0, 1, 2, 3, 4, 5, 6, 7, 8, 9, 10, 11, 12, 13] : List Int32).getD i 0))) := by decide +kernel
theorem q_nu : ∀ i, i < 14 → fl0[([59, 65, 72, 80, 89, 99, 110, 122, 135, 149, 164, 180, 35, 7] : List Nat).getD i 0]? = some (Cond.eq (.field (.static "GrowHouse$Deed" (nmD.getD i "") "LGrowHouse$Deed;") "GrowHouse$Deed" "numbers" "I") (.int (([0, 0, 0, 0, 1, 1, 1, 2, 3, 2, 1, 1, 1, 0] : List Int32).getD i 0))) := by decide +kernel
theorem q_sp : ∀ i, i < 14 → fl0[([58, 64, 71, 79, 88, 98, 109, 121, 134, 148, 163, 179, 34, 6] : List Nat).getD i 0]? = some (Cond.eq (.field (.static "GrowHouse$Deed" (nmD.getD i "") "LGrowHouse$Deed;") "GrowHouse$Deed" "spelling" "Ljava/lang/String;") (.string "GrowHouse$Deed" (kD.getD i 0))) := by decide +kernel
def neT : List (List Nat) := [[0, 68, 75, 83, 92, 102, 113, 125, 138, 152, 167, 183, 61, 60], [68, 0, 76, 84, 93, 103, 114, 126, 139, 153, 168, 184, 67, 66], [75, 76, 0, 85, 94, 104, 115, 127, 140, 154, 169, 185, 74, 73], [83, 84, 85, 0, 95, 105, 116, 128, 141, 155, 170, 186, 82, 81], [92, 93, 94, 95, 0, 106, 117, 129, 142, 156, 171, 187, 91, 90], [102, 103, 104, 105, 106, 0, 118, 130, 143, 157, 172, 188, 101, 100], [113, 114, 115, 116, 117, 118, 0, 131, 144, 158, 173, 189, 112, 111], [125, 126, 127, 128, 129, 130, 131, 0, 145, 159, 174, 190, 124, 123], [138, 139, 140, 141, 142, 143, 144, 145, 0, 160, 175, 191, 137, 136], [152, 153, 154, 155, 156, 157, 158, 159, 160, 0, 176, 192, 151, 150], [167, 168, 169, 170, 171, 172, 173, 174, 175, 176, 0, 193, 166, 165], [183, 184, 185, 186, 187, 188, 189, 190, 191, 192, 193, 0, 182, 181], [61, 67, 74, 82, 91, 101, 112, 124, 137, 151, 166, 182, 0, 36], [60, 66, 73, 81, 90, 100, 111, 123, 136, 150, 165, 181, 36, 0]]
theorem q_ne : ∀ i, i < 14 → ∀ j, j < 14 → i ≠ j → fl0[(neT.getD i []).getD j 0]? = some (Cond.not (.eq (.static "GrowHouse$Deed" (nmD.getD i "") "LGrowHouse$Deed;") (.static "GrowHouse$Deed" (nmD.getD j "") "LGrowHouse$Deed;"))) ∨ fl0[(neT.getD i []).getD j 0]? = some (Cond.not (.eq (.static "GrowHouse$Deed" (nmD.getD j "") "LGrowHouse$Deed;") (.static "GrowHouse$Deed" (nmD.getD i "") "LGrowHouse$Deed;"))) := by decide +kernel
theorem q_sx : ∀ i, i < 14 → fl0[([372, 381, 391, 403, 414, 424, 433, 442, 452, 461, 469, 479, 362, 357] : List Nat).getD i 0]? = some (Cond.exactly (.string "GrowHouse$Deed" (kD.getD i 0)) "java/lang/String") := by decide +kernel
theorem q_sc : ∀ i, i < 14 → fl0[([373, 382, 392, 404, 415, 425, 434, 443, 453, 462, 470, 480, 363, 358] : List Nat).getD i 0]? = some (Cond.eq (.field (.string "GrowHouse$Deed" (kD.getD i 0)) "java/lang/String" "coder" "B") (.int 0)) := by decide +kernel
theorem q_sa : ∀ i, i < 14 → fl0[([374, 383, 393, 405, 416, 426, 435, 444, 454, 463, 471, 481, 364, 359] : List Nat).getD i 0]? = some (Cond.arrayOf (.field (.string "GrowHouse$Deed" (kD.getD i 0)) "java/lang/String" "value" "[B") .byte) := by decide +kernel
theorem q_sl : ∀ i, i < 14 → fl0[([375, 384, 394, 406, 417, 427, 436, 445, 455, 464, 472, 482, 365, 360] : List Nat).getD i 0]? = some (Cond.eq (.length (.field (.string "GrowHouse$Deed" (kD.getD i 0)) "java/lang/String" "value" "[B")) (.int (Int32.ofNat (lenD.getD i 0)))) := by decide +kernel
def seT : List (List Nat) := [[376, 377, 378, 379], [385, 386, 387, 388, 389], [395, 396, 397, 398, 399, 400, 401], [407, 408, 409, 410, 411, 412], [418, 419, 420, 421, 422], [428, 429, 430, 431], [437, 438, 439, 440], [446, 447, 448, 449, 450], [456, 457, 458, 459], [465, 466, 467], [473, 474, 475, 476, 477], [483, 484, 485, 486], [366, 367, 368, 369, 370], [361]]
theorem q_se : ∀ i, i < 14 → ∀ j, j < lenD.getD i 0 → fl0[(seT.getD i []).getD j 0]? = some (Cond.eq (.elem (.field (.string "GrowHouse$Deed" (kD.getD i 0)) "java/lang/String" "value" "[B") (.int (Int32.ofNat j))) (.int ((bytD.getD i []).getD j 0))) := by decide +kernel
theorem q_me : ∀ i, i < 13 → fl0[([380, 390, 402, 413, 423, 432, 441, 451, 460, 468, 478, 487, 371] : List Nat).getD i 0]? = some (Cond.eq (.string "GrowHouseModel" (ixM.getD i 0)) (.string "GrowHouse$Deed" (kD.getD i 0))) := by decide +kernel
theorem q_sr : ∀ i, i < 13 → lw_tbl[([1445, 1446, 1447, 1448, 1449, 1450, 1451, 1452, 1453, 1454, 1455, 1456, 1415] : List Nat).getD i 0]? = some (Cond.stringRef "GrowHouseModel" (ixM.getD i 0) (txD.getD i "")) := by decide +kernel
theorem q_ls : ∀ i, i < 14 → lw_tbl[([1540, 1541, 1542, 1543, 1544, 1545, 1546, 1547, 1548, 1549, 1550, 1551, 848, 776] : List Nat).getD i 0]? = some (Cond.laysStatic "GrowHouse$Deed" (nmD.getD i "") "LGrowHouse$Deed;") := by decide +kernel
theorem q_de : ∀ i, i < 14 → fl0[([13, 14, 15, 16, 17, 18, 19, 20, 21, 22, 23, 24, 25, 26] : List Nat).getD i 0]? = some (Cond.eq (.elem (.static "GrowHouse" "DEEDS" "[LGrowHouse$Deed;") (.int (Int32.ofNat i))) (.static "GrowHouse$Deed" (nmD.getD i "") "LGrowHouse$Deed;")) := by decide +kernel
theorem q_mx : ∀ i, i < 14 → fl0[([40, 41, 42, 43, 44, 45, 46, 47, 48, 49, 50, 51, 52, 53] : List Nat).getD i 0]? = some (Cond.eq (.elem (.static "GrowHouse$1" "$SwitchMap$GrowHouse$Deed" "[I") (.int (Int32.ofNat i))) (.int (smD.getD i 0))) := by decide +kernel
theorem sts_of {b : Nat} {s : State} (hts : ∀ w ∈ lw_tbl, w.before #[Value.ref b] s = true) (hg : (Cond.and given_1 narrow_1).before #[Value.ref b] s = true) : ∃ cd : (Nat → Nat) × (Nat → Nat) × (Nat → Nat) × Nat × Nat, ∀ g : Gs, gb g = s.heap.size → g.2.2.2.2.2.2 = cd → Sts g s := by
  have hA : ∀ a : Nat, a < s.heap.size → ¬ (fun q => s.heap.size ≤ q) a := fun a h q => absurd q (by omega)
  have iniD : (Cond.initialized "GrowHouse$Deed").before #[Value.ref b] s = true := st_t hts 75 (by decide +kernel)
  obtain ⟨dd, hE, hdd⟩ := va_Enof2 (args := #[Value.ref b]) (s := s) (E := "GrowHouse$Deed") (d := "LGrowHouse$Deed;") (nm := nmD) (F := fD) (A := fun q => s.heap.size ≤ q) (fun i hi => st_t hts _ (q_ls i hi)) iniD (fun i hi => st_p hg _ (q_ex i hi)) (fun q hq i hi => by
      unfold fD at hq
      simp only [List.mem_cons, List.not_mem_nil, or_false] at hq
      rcases hq with rfl | rfl
      · exact st_p hg _ (q_or i hi)
      · exact st_p hg _ (q_nu i hi)) (fun i j hi hj hij => by
      rcases q_ne i hi j hj hij with h | h
      · exact Or.inl (st_p hg _ h)
      · exact Or.inr (st_p hg _ h)) hA
  have h0 : ∀ i : Nat, ∃ q : Nat × Nat, i < 14 → (Term.string "GrowHouse$Deed" (kD.getD i 0)).eval #[Value.ref b] s none [] s = some (.ref q.1) ∧ sOne q.1 q.2 (lenD.getD i 0) (bytD.getD i []) (fun q => s.heap.size ≤ q) s s.heap := by
    intro i
    by_cases hi : i < 14
    · obtain ⟨a, c, cA, kA, q1, q2, q3, q4, q5, q6, -⟩ := Cond.exactly_spec (args := #[Value.ref b]) (first := s) (o := none) (s := s) (idx := []) (t := .string "GrowHouse$Deed" (kD.getD i 0)) (cls := "java/lang/String") (st_p hg _ (q_sx i hi))
      obtain ⟨t, ht, hT⟩ := va_Tof (f := fun j => .int ((bytD.getD i []).getD j 0)) (A := fun q => s.heap.size ≤ q) ((by decide : ∀ i, i < 14 → lenD.getD i 0 < 2 ^ 31) i hi) (st_p hg _ (q_sa i hi)) (va_eqt (st_p hg _ (q_sl i hi))) (fun j hj => va_eqt (st_p hg _ (q_se i hi j hj))) hA
      exact ⟨(a, t), fun _ => ⟨q1, ⟨cA, q3, q5, by rw [q6]; exact q2, hA a (Array.getElem?_eq_some_iff.mp q3).1⟩, vk_OFof q1 (va_eqt (st_p hg _ (q_sc i hi))) hA, vk_OFof q1 ht hA, hT⟩⟩
    · exact ⟨(0, 0), fun h => absurd h hi⟩
  obtain ⟨sk, hsk⟩ := Classical.axiomOfChoice h0
  obtain ⟨da, hda, hdT⟩ := va_Tof (tm := .static "GrowHouse" "DEEDS" "[LGrowHouse$Deed;") (ty := .object "GrowHouse$Deed") (N := 14) (f := fun j => .ref (dd j)) (A := fun q => s.heap.size ≤ q) (by decide) (st_p hg 10 (by decide +kernel)) (va_eqt (st_p hg 11 (by decide +kernel))) (fun j hj => va_eqv (st_p hg _ (q_de j hj)) (hdd j hj)) hA
  obtain ⟨sm, hsm, hsT⟩ := va_Tof (tm := .static "GrowHouse$1" "$SwitchMap$GrowHouse$Deed" "[I") (ty := .int) (N := 14) (f := fun j => .int (smD.getD j 0)) (A := fun q => s.heap.size ≤ q) (by decide) (st_p hg 38 (by decide +kernel)) (va_eqt (st_p hg 39 (by decide +kernel))) (fun j hj => va_eqt (st_p hg _ (q_mx j hj))) hA
  have z1 := va_Zof (A := fun q => s.heap.size ≤ q) (st_t hts 794 (by decide +kernel) : (Cond.laysStatic "GrowHouse" "DEEDS" "[LGrowHouse$Deed;").before #[Value.ref b] s = true) (st_t hts 57 (by decide +kernel)) hda hA
  have z2 := va_Zof (A := fun q => s.heap.size ≤ q) (st_t hts 870 (by decide +kernel) : (Cond.laysStatic "GrowHouse$1" "$SwitchMap$GrowHouse$Deed" "[I").before #[Value.ref b] s = true) (st_t hts 80 (by decide +kernel)) hsm hA
  have z3 := va_Zof (A := fun q => s.heap.size ≤ q) (st_t hts 808 (by decide +kernel) : (Cond.laysStatic "java/lang/String" "COMPACT_STRINGS" "Z").before #[Value.ref b] s = true) (st_t hts 76 (by decide +kernel)) (va_eqi (z := 1) (st_p hg 27 (by decide +kernel))) hA
  have z4 := (vx_Zqof (A := fun q => s.heap.size ≤ q) (st_t hts 824 (by decide +kernel) : (Cond.laysStatic "jdk/internal/util/Preconditions" "SIOOBE_FORMATTER" "Ljava/util/function/BiFunction;").before #[Value.ref b] s = true) (st_t hts 78 (by decide +kernel)) (st_p hg 28 (by decide +kernel)) hA).1
  have z5 := vx_Zqof (A := fun q => s.heap.size ≤ q) (st_t hts 978 (by decide +kernel) : (Cond.laysStatic Bundle.tN "UNASSIGNED_STACK" Bundle.steD).before #[Value.ref b] s = true) (st_t hts 69 (by decide +kernel)) (st_p hg 54 (by decide +kernel)) hA
  have z6 := vx_Zqof (A := fun q => s.heap.size ≤ q) (st_t hts 980 (by decide +kernel) : (Cond.laysStatic Bundle.tN "SUPPRESSED_SENTINEL" Bundle.listD).before #[Value.ref b] s = true) (st_t hts 69 (by decide +kernel)) (st_p hg 55 (by decide +kernel)) hA
  refine ⟨(dd, fun i => (sk i).1, fun i => (sk i).2, da, sm), fun g hgb hgc => ?_⟩
  obtain ⟨g1, g2, g3, g4, g5, g6, g7⟩ := g
  have hgb : g6 = s.heap.size := hgb
  have hgc : g7 = (dd, fun i => (sk i).1, fun i => (sk i).2, da, sm) := hgc
  subst hgb
  subst hgc
  refine ⟨⟨hE, fun i hi => vk_OFof (hdd i hi) (va_eqv (st_p hg _ (q_sp i hi)) (hsk i hi).1) hA, fun i hi => (hsk i hi).2, ⟨z1, hdT⟩, ⟨z2, hsT⟩, z3, z4, z5, z6⟩, fun i hi => vk_R.of (st_t hts _ (q_sr i hi)) (va_eqv (st_p hg _ (q_me i hi)) (hsk i (by omega)).1), fun w hw hk => va_Nw.of (nw_tab hk) (hts w hw)⟩
