/-! THE POOL out of the cells that the constructors made: 101 places -/
def wsOf (adr : Nat → Nat) (cf : Nat → ClassId) : va_W := [((adr 0), .inr (8, [.ref (adr 1), .ref (adr 20), .ref (adr 39), .ref (adr 40), .ref (adr 41), .ref (adr 43), .ref (adr 45), .ref (adr 47)])),
  ((adr 1), .inr (2, [.ref (adr 2), .ref (adr 6), .ref (adr 8), .ref (adr 9), .ref (adr 10), .ref (adr 11), .ref (adr 16), .ref (adr 16), .int 0, .int 0, .int 2, .int 0, .int 0, .int 2, .int 20, .int 0, .int 0])),
  ((adr 2), .inr (1, [.ref (adr 3), .ref (adr 4), .ref (adr 5), .int 4, .int 12, .int (-1)])),
  ((adr 3), .inl (cf 0, 280, .inl (fun _ => 0))),
  ((adr 4), .inl (cf 0, 280, .inl (fun _ => 0))),
  ((adr 5), .inl (cf 0, 7, .inl (fun _ => 0))),
  ((adr 6), .inr (4, [.ref (adr 7), .int 0, .int 0])),
  ((adr 7), .inl (cf 0, 100, .inl (fun _ => 0))),
  ((adr 8), .inl (cf 40, 8, .inr (.inr (.inr (.inr (va_up (va_up (va_up (va_up (va_up (va_up (va_up (va_up (fun _ => none) 0 (some (adr 12))) 1 (some (adr 13))) 2 (some (adr 14))) 3 (some (adr 15))) 4 (some (adr 16))) 5 (some (adr 17))) 6 (some (adr 18))) 7 (some (adr 19)))))))),
  ((adr 9), .inl (cf 0, 24, .inl (fun _ => 0))),
  ((adr 10), .inr (0, [.int 0, .int 0, .int 0, .int 0, .int 0, .int 0, .int 0])),
  ((adr 11), .inr (0, [.int 0, .int 0, .int 0, .int 0, .int 0, .int 0, .int 0])),
  ((adr 12), .inr (3, [.int (lyo 0), .int (lyo 0 - 1)])),
  ((adr 13), .inr (3, [.int (lyo 1), .int (lyo 1 - 1)])),
  ((adr 14), .inr (3, [.int (lyo 2), .int (lyo 2 - 1)])),
  ((adr 15), .inr (3, [.int (lyo 3), .int (lyo 3 - 1)])),
  ((adr 16), .inr (3, [.int (lyo 4), .int (lyo 4 - 1)])),
  ((adr 17), .inr (3, [.int (lyo 5), .int (lyo 5 - 1)])),
  ((adr 18), .inr (3, [.int (lyo 6), .int (lyo 6 - 1)])),
  ((adr 19), .inr (3, [.int (lyo 7), .int (lyo 7 - 1)])),
  ((adr 20), .inr (2, [.ref (adr 21), .ref (adr 25), .ref (adr 27), .ref (adr 28), .ref (adr 29), .ref (adr 30), .ref (adr 35), .ref (adr 35), .int 0, .int 0, .int 2, .int 0, .int 0, .int 2, .int 20, .int 0, .int 0])),
  ((adr 21), .inr (1, [.ref (adr 22), .ref (adr 23), .ref (adr 24), .int 4, .int 12, .int (-1)])),
  ((adr 22), .inl (cf 0, 280, .inl (fun _ => 0))),
  ((adr 23), .inl (cf 0, 280, .inl (fun _ => 0))),
  ((adr 24), .inl (cf 0, 7, .inl (fun _ => 0))),
  ((adr 25), .inr (4, [.ref (adr 26), .int 0, .int 0])),
  ((adr 26), .inl (cf 0, 100, .inl (fun _ => 0))),
  ((adr 27), .inl (cf 40, 8, .inr (.inr (.inr (.inr (va_up (va_up (va_up (va_up (va_up (va_up (va_up (va_up (fun _ => none) 0 (some (adr 31))) 1 (some (adr 32))) 2 (some (adr 33))) 3 (some (adr 34))) 4 (some (adr 35))) 5 (some (adr 36))) 6 (some (adr 37))) 7 (some (adr 38)))))))),
  ((adr 28), .inl (cf 0, 24, .inl (fun _ => 0))),
  ((adr 29), .inr (0, [.int 0, .int 0, .int 0, .int 0, .int 0, .int 0, .int 0])),
  ((adr 30), .inr (0, [.int 0, .int 0, .int 0, .int 0, .int 0, .int 0, .int 0])),
  ((adr 31), .inr (3, [.int (lyo 0), .int (lyo 0 - 1)])),
  ((adr 32), .inr (3, [.int (lyo 1), .int (lyo 1 - 1)])),
  ((adr 33), .inr (3, [.int (lyo 2), .int (lyo 2 - 1)])),
  ((adr 34), .inr (3, [.int (lyo 3), .int (lyo 3 - 1)])),
  ((adr 35), .inr (3, [.int (lyo 4), .int (lyo 4 - 1)])),
  ((adr 36), .inr (3, [.int (lyo 5), .int (lyo 5 - 1)])),
  ((adr 37), .inr (3, [.int (lyo 6), .int (lyo 6 - 1)])),
  ((adr 38), .inr (3, [.int (lyo 7), .int (lyo 7 - 1)])),
  ((adr 39), .inl (cf 41, 2, .inr (.inr (.inr (.inr (va_up (va_up (fun _ => none) 0 (some (adr 53))) 1 (some (adr 72)))))))),
  ((adr 40), .inl (cf 2, 2, .inl (fun _ => 0))),
  ((adr 41), .inr (6, [.ref (adr 42), .int 0, .int 0])),
  ((adr 42), .inl (cf 0, 120, .inl (fun _ => 0))),
  ((adr 43), .inr (6, [.ref (adr 44), .int 0, .int 0])),
  ((adr 44), .inl (cf 0, 120, .inl (fun _ => 0))),
  ((adr 45), .inr (7, [.ref (adr 46), .int 0])),
  ((adr 46), .inl (cf 1, 264, .inl (fun _ => 0))),
  ((adr 47), .inr (5, [.ref (adr 48), .ref (adr 49), .ref (adr 50), .ref (adr 51), .ref (adr 52), .int 0, .int 0, .int 0, .int 0, .int 0])),
  ((adr 48), .inl (cf 42, 240, .inr (.inr (.inr (.inr (fun _ => none)))))),
  ((adr 49), .inl (cf 0, 720, .inl (fun _ => 0))),
  ((adr 50), .inl (cf 0, 240, .inl (fun _ => 0))),
  ((adr 51), .inl (cf 0, 240, .inl (fun _ => 0))),
  ((adr 52), .inl (cf 0, 3, .inl (fun _ => 0))),
  ((adr 53), .inr (2, [.ref (adr 54), .ref (adr 58), .ref (adr 60), .ref (adr 61), .ref (adr 62), .ref (adr 63), .ref (adr 68), .ref (adr 68), .int 0, .int 0, .int 2, .int 0, .int 0, .int 2, .int 20, .int 0, .int 0])),
  ((adr 54), .inr (1, [.ref (adr 55), .ref (adr 56), .ref (adr 57), .int 4, .int 12, .int (-1)])),
  ((adr 55), .inl (cf 0, 280, .inl (fun _ => 0))),
  ((adr 56), .inl (cf 0, 280, .inl (fun _ => 0))),
  ((adr 57), .inl (cf 0, 7, .inl (fun _ => 0))),
  ((adr 58), .inr (4, [.ref (adr 59), .int 0, .int 0])),
  ((adr 59), .inl (cf 0, 100, .inl (fun _ => 0))),
  ((adr 60), .inl (cf 40, 8, .inr (.inr (.inr (.inr (va_up (va_up (va_up (va_up (va_up (va_up (va_up (va_up (fun _ => none) 0 (some (adr 64))) 1 (some (adr 65))) 2 (some (adr 66))) 3 (some (adr 67))) 4 (some (adr 68))) 5 (some (adr 69))) 6 (some (adr 70))) 7 (some (adr 71)))))))),
  ((adr 61), .inl (cf 0, 24, .inl (fun _ => 0))),
  ((adr 62), .inr (0, [.int 0, .int 0, .int 0, .int 0, .int 0, .int 0, .int 0])),
  ((adr 63), .inr (0, [.int 0, .int 0, .int 0, .int 0, .int 0, .int 0, .int 0])),
  ((adr 64), .inr (3, [.int (lyo 0), .int (lyo 0 - 1)])),
  ((adr 65), .inr (3, [.int (lyo 1), .int (lyo 1 - 1)])),
  ((adr 66), .inr (3, [.int (lyo 2), .int (lyo 2 - 1)])),
  ((adr 67), .inr (3, [.int (lyo 3), .int (lyo 3 - 1)])),
  ((adr 68), .inr (3, [.int (lyo 4), .int (lyo 4 - 1)])),
  ((adr 69), .inr (3, [.int (lyo 5), .int (lyo 5 - 1)])),
  ((adr 70), .inr (3, [.int (lyo 6), .int (lyo 6 - 1)])),
  ((adr 71), .inr (3, [.int (lyo 7), .int (lyo 7 - 1)])),
  ((adr 72), .inr (2, [.ref (adr 73), .ref (adr 77), .ref (adr 79), .ref (adr 80), .ref (adr 81), .ref (adr 82), .ref (adr 87), .ref (adr 87), .int 0, .int 0, .int 2, .int 0, .int 0, .int 2, .int 20, .int 0, .int 0])),
  ((adr 73), .inr (1, [.ref (adr 74), .ref (adr 75), .ref (adr 76), .int 4, .int 12, .int (-1)])),
  ((adr 74), .inl (cf 0, 280, .inl (fun _ => 0))),
  ((adr 75), .inl (cf 0, 280, .inl (fun _ => 0))),
  ((adr 76), .inl (cf 0, 7, .inl (fun _ => 0))),
  ((adr 77), .inr (4, [.ref (adr 78), .int 0, .int 0])),
  ((adr 78), .inl (cf 0, 100, .inl (fun _ => 0))),
  ((adr 79), .inl (cf 40, 8, .inr (.inr (.inr (.inr (va_up (va_up (va_up (va_up (va_up (va_up (va_up (va_up (fun _ => none) 0 (some (adr 83))) 1 (some (adr 84))) 2 (some (adr 85))) 3 (some (adr 86))) 4 (some (adr 87))) 5 (some (adr 88))) 6 (some (adr 89))) 7 (some (adr 90)))))))),
  ((adr 80), .inl (cf 0, 24, .inl (fun _ => 0))),
  ((adr 81), .inr (0, [.int 0, .int 0, .int 0, .int 0, .int 0, .int 0, .int 0])),
  ((adr 82), .inr (0, [.int 0, .int 0, .int 0, .int 0, .int 0, .int 0, .int 0])),
  ((adr 83), .inr (3, [.int (lyo 0), .int (lyo 0 - 1)])),
  ((adr 84), .inr (3, [.int (lyo 1), .int (lyo 1 - 1)])),
  ((adr 85), .inr (3, [.int (lyo 2), .int (lyo 2 - 1)])),
  ((adr 86), .inr (3, [.int (lyo 3), .int (lyo 3 - 1)])),
  ((adr 87), .inr (3, [.int (lyo 4), .int (lyo 4 - 1)])),
  ((adr 88), .inr (3, [.int (lyo 5), .int (lyo 5 - 1)])),
  ((adr 89), .inr (3, [.int (lyo 6), .int (lyo 6 - 1)])),
  ((adr 90), .inr (3, [.int (lyo 7), .int (lyo 7 - 1)])),
  ((adr 91), .inr (9, [.ref (adr 92), .ref (adr 93), .ref (adr 94), .ref (adr 95), .ref (adr 96), .int 0, .int 0, .ref (adr 97), .int 0, .int 0, .int 0, .int 0, .ref (adr 98), .ref (adr 99), .int 0, .int 0, .int 0, .int 0, .long 0, .int 0, .int 0, .int 0, .int 0, .int 0])),
  ((adr 92), .inl (cf 0, 729, .inl (upd (upd (upd (upd (upd (upd (fun _ => 0) 715 4) 716 12) 721 (-1)) 722 2) 723 2) 724 20))),
  ((adr 93), .inl (cf 0, 729, .inl (fun _ => 0))),
  ((adr 94), .inl (cf 0, 1458, .inl (fun _ => 0))),
  ((adr 95), .inl (cf 2, 2, .inl (fun _ => 0))),
  ((adr 96), .inl (cf 0, 120, .inl (fun _ => 0))),
  ((adr 97), .inl (cf 0, 264, .inl (fun _ => 0))),
  ((adr 98), .inl (cf 0, 240, .inl (fun _ => 0))),
  ((adr 99), .inl (cf 2, 240, .inl (fun _ => 0))),
  ((adr 100), .inl (cf 43, 1, .inr (.inl (fun _ => 0))))]
def kdl : List Nat := [8, 2, 1, 16, 17, 18, 4, 19, 40, 21, 0, 0, 3, 3, 3, 3, 3, 3, 3, 3, 2, 1, 16, 17, 18, 4, 19, 40, 21, 0, 0, 3, 3, 3, 3, 3, 3, 3, 3, 41, 27, 6, 20, 6, 20, 7, 26, 5, 42, 22, 23, 24, 25, 2, 1, 16, 17, 18, 4, 19, 40, 21, 0, 0, 3, 3, 3, 3, 3, 3, 3, 3, 2, 1, 16, 17, 18, 4, 19, 40, 21, 0, 0, 3, 3, 3, 3, 3, 3, 3, 3, 9, 28, 29, 30, 31, 32, 33, 34, 35, 43]
def kd (i : Nat) : Nat := kdl.getD i 99
def rfT : List (List Nat) := [[1, 20, 39, 40, 41, 43, 45, 47], [2, 6, 8, 9, 10, 11], [3, 4, 5], [], [], [], [7], [], [12, 13, 14, 15, 16, 17, 18, 19], [], [], [], [], [], [], [], [], [], [], [], [21, 25, 27, 28, 29, 30], [22, 23, 24], [], [], [], [26], [], [31, 32, 33, 34, 35, 36, 37, 38], [], [], [], [], [], [], [], [], [], [], [], [53, 72], [], [42], [], [44], [], [46], [], [48, 49, 50, 51, 52], [], [], [], [], [], [54, 58, 60, 61, 62, 63], [55, 56, 57], [], [], [], [59], [], [64, 65, 66, 67, 68, 69, 70, 71], [], [], [], [], [], [], [], [], [], [], [], [73, 77, 79, 80, 81, 82], [74, 75, 76], [], [], [], [78], [], [83, 84, 85, 86, 87, 88, 89, 90], [], [], [], [], [], [], [], [], [], [], [], [92, 93, 94, 95, 96, 0, 0, 97, 0, 0, 0, 0, 98, 99], [], [], [], [], [], [], [], [], []]
def rf (i k : Nat) : Nat := (rfT.getD i []).getD k 0
def oqT : List Nat := [0, 16, 0, 0, 0, 0, 0, 0, 0, 0, 0, 0, 0, 0, 0, 0, 0, 0, 0, 0, 35, 0, 0, 0, 0, 0, 0, 0, 0, 0, 0, 0, 0, 0, 0, 0, 0, 0, 0, 0, 0, 0, 0, 0, 0, 0, 0, 0, 0, 0, 0, 0, 0, 68, 0, 0, 0, 0, 0, 0, 0, 0, 0, 0, 0, 0, 0, 0, 0, 0, 0, 0, 87, 0, 0, 0, 0, 0, 0, 0, 0, 0, 0, 0, 0, 0, 0, 0, 0, 0, 0, 0, 0, 0, 0, 0, 0, 0, 0, 0, 0]
def hI : Nat → Int32 := fun k => if k = 10 then 2 else if k = 13 then 2 else if k = 14 then 20 else 0
def dI : Nat → Int32 := fun k => if k = 3 then 4 else if k = 4 then 12 else if k = 5 then -1 else 0
def lI (i : Int32) : Nat → Int32 := fun k => if k = 0 then lyo i else if k = 1 then lyo i - 1 else 0
def mI : Nat → Int32 := upd (upd (upd (upd (upd (upd (fun _ => 0) 715 4) 716 12) 721 (-1)) 722 2) 723 2) 724 20
def zI : Nat → Int32 := fun _ => 0
def ivT : List (Nat → Int32) := [zI, hI, dI, zI, zI, zI, zI, zI, zI, zI, zI, zI, lI 0, lI 1, lI 2, lI 3, lI 4, lI 5, lI 6, lI 7, hI, dI, zI, zI, zI, zI, zI, zI, zI, zI, zI, lI 0, lI 1, lI 2, lI 3, lI 4, lI 5, lI 6, lI 7, zI, zI, zI, zI, zI, zI, zI, zI, zI, zI, zI, zI, zI, zI, hI, dI, zI, zI, zI, zI, zI, zI, zI, zI, zI, lI 0, lI 1, lI 2, lI 3, lI 4, lI 5, lI 6, lI 7, hI, dI, zI, zI, zI, zI, zI, zI, zI, zI, zI, lI 0, lI 1, lI 2, lI 3, lI 4, lI 5, lI 6, lI 7, zI, mI, zI, zI, zI, zI, zI, zI, zI, zI]
def iv (i : Nat) : Nat → Int32 := ivT.getD i zI
def fz (v : Nat → Nat → Value) : List Nat → Nat → List Value
  | [], _ => []
  | q :: l, k => v k q :: fz v l (k + 1)
theorem fz_eq (v : Nat → Nat → Value) (l : List Nat) : ∀ k, l.mapIdx (fun i q => v (i + k) q) = fz v l k := by
  induction l with
  | nil => intro k; rfl
  | cons q l ih =>
    intro k
    rw [List.mapIdx_cons, fz, ← ih (k + 1)]
    congr 1
    · rw [Nat.zero_add]
    · congr 1
      funext i q
      rw [Nat.add_assoc, Nat.add_comm 1 k]
/-- the cell at a place, by the tables -/
def cz (adr : Nat → Nat) (cf : Nat → ClassId) (i : Nat) : va_E :=
  if kd i < 16 then .inr (kd i, fz (fun k q => match q with | 0 => .int (iv i k) | 1 => .ref (adr (rf i k)) | 2 => .ref (adr (oqT.getD i 0)) | _ => .long 0) (cds (kd i)) 0)
  else if kd i < 40 then .inl (cf (aty (kd i)), aln (kd i), .inl (iv i))
  else if kd i < 42 then .inl (cf (kd i), aln (kd i), .inr (.inr (.inr (.inr (fun j => some (adr (rf i j)))))))
  else if kd i < 43 then .inl (cf 42, aln 42, .inr (.inr (.inr (.inr (fun _ => none)))))
  else .inl (cf 43, aln 43, .inr (.inl (fun j => (iv i j).toInt64)))
section PL0
variable {adr : Nat → Nat} {cf : Nat → ClassId} {D : va_G} {H : Heap}
theorem pc_0 (h : va_at D vwCl ((adr 0), .inr (8, [.ref (adr 1), .ref (adr 20), .ref (adr 39), .ref (adr 40), .ref (adr 41), .ref (adr 43), .ref (adr 45), .ref (adr 47)])) H) : va_at D vwCl (adr 0, cz adr cf 0) H := h
theorem pc_1 (h : va_at D vwCl ((adr 1), .inr (2, [.ref (adr 2), .ref (adr 6), .ref (adr 8), .ref (adr 9), .ref (adr 10), .ref (adr 11), .ref (adr 16), .ref (adr 16), .int 0, .int 0, .int 2, .int 0, .int 0, .int 2, .int 20, .int 0, .int 0])) H) : va_at D vwCl (adr 1, cz adr cf 1) H := h
theorem pc_2 (h : va_at D vwCl ((adr 2), .inr (1, [.ref (adr 3), .ref (adr 4), .ref (adr 5), .int 4, .int 12, .int (-1)])) H) : va_at D vwCl (adr 2, cz adr cf 2) H := h
theorem pc_3 (h : va_at D vwCl ((adr 3), .inl (cf 0, 280, .inl (fun _ => 0))) H) : va_at D vwCl (adr 3, cz adr cf 3) H := h
theorem pc_4 (h : va_at D vwCl ((adr 4), .inl (cf 0, 280, .inl (fun _ => 0))) H) : va_at D vwCl (adr 4, cz adr cf 4) H := h
theorem pc_5 (h : va_at D vwCl ((adr 5), .inl (cf 0, 7, .inl (fun _ => 0))) H) : va_at D vwCl (adr 5, cz adr cf 5) H := h
theorem pc_6 (h : va_at D vwCl ((adr 6), .inr (4, [.ref (adr 7), .int 0, .int 0])) H) : va_at D vwCl (adr 6, cz adr cf 6) H := h
theorem pc_7 (h : va_at D vwCl ((adr 7), .inl (cf 0, 100, .inl (fun _ => 0))) H) : va_at D vwCl (adr 7, cz adr cf 7) H := h
theorem pc_8 (h : va_at D vwCl ((adr 8), .inl (cf 40, 8, .inr (.inr (.inr (.inr (va_up (va_up (va_up (va_up (va_up (va_up (va_up (va_up (fun _ => none) 0 (some (adr 12))) 1 (some (adr 13))) 2 (some (adr 14))) 3 (some (adr 15))) 4 (some (adr 16))) 5 (some (adr 17))) 6 (some (adr 18))) 7 (some (adr 19)))))))) H) : va_at D vwCl (adr 8, cz adr cf 8) H := h
theorem pc_9 (h : va_at D vwCl ((adr 9), .inl (cf 0, 24, .inl (fun _ => 0))) H) : va_at D vwCl (adr 9, cz adr cf 9) H := h
theorem pc_10 (h : va_at D vwCl ((adr 10), .inr (0, [.int 0, .int 0, .int 0, .int 0, .int 0, .int 0, .int 0])) H) : va_at D vwCl (adr 10, cz adr cf 10) H := h
theorem pc_11 (h : va_at D vwCl ((adr 11), .inr (0, [.int 0, .int 0, .int 0, .int 0, .int 0, .int 0, .int 0])) H) : va_at D vwCl (adr 11, cz adr cf 11) H := h
theorem pc_12 (h : va_at D vwCl ((adr 12), .inr (3, [.int (lyo 0), .int (lyo 0 - 1)])) H) : va_at D vwCl (adr 12, cz adr cf 12) H := h
theorem pc_13 (h : va_at D vwCl ((adr 13), .inr (3, [.int (lyo 1), .int (lyo 1 - 1)])) H) : va_at D vwCl (adr 13, cz adr cf 13) H := h
theorem pc_14 (h : va_at D vwCl ((adr 14), .inr (3, [.int (lyo 2), .int (lyo 2 - 1)])) H) : va_at D vwCl (adr 14, cz adr cf 14) H := h
theorem pc_15 (h : va_at D vwCl ((adr 15), .inr (3, [.int (lyo 3), .int (lyo 3 - 1)])) H) : va_at D vwCl (adr 15, cz adr cf 15) H := h
theorem pc_16 (h : va_at D vwCl ((adr 16), .inr (3, [.int (lyo 4), .int (lyo 4 - 1)])) H) : va_at D vwCl (adr 16, cz adr cf 16) H := h
theorem pc_17 (h : va_at D vwCl ((adr 17), .inr (3, [.int (lyo 5), .int (lyo 5 - 1)])) H) : va_at D vwCl (adr 17, cz adr cf 17) H := h
theorem pc_18 (h : va_at D vwCl ((adr 18), .inr (3, [.int (lyo 6), .int (lyo 6 - 1)])) H) : va_at D vwCl (adr 18, cz adr cf 18) H := h
theorem pc_19 (h : va_at D vwCl ((adr 19), .inr (3, [.int (lyo 7), .int (lyo 7 - 1)])) H) : va_at D vwCl (adr 19, cz adr cf 19) H := h
theorem pc_20 (h : va_at D vwCl ((adr 20), .inr (2, [.ref (adr 21), .ref (adr 25), .ref (adr 27), .ref (adr 28), .ref (adr 29), .ref (adr 30), .ref (adr 35), .ref (adr 35), .int 0, .int 0, .int 2, .int 0, .int 0, .int 2, .int 20, .int 0, .int 0])) H) : va_at D vwCl (adr 20, cz adr cf 20) H := h
theorem pc_21 (h : va_at D vwCl ((adr 21), .inr (1, [.ref (adr 22), .ref (adr 23), .ref (adr 24), .int 4, .int 12, .int (-1)])) H) : va_at D vwCl (adr 21, cz adr cf 21) H := h
theorem pc_22 (h : va_at D vwCl ((adr 22), .inl (cf 0, 280, .inl (fun _ => 0))) H) : va_at D vwCl (adr 22, cz adr cf 22) H := h
theorem pc_23 (h : va_at D vwCl ((adr 23), .inl (cf 0, 280, .inl (fun _ => 0))) H) : va_at D vwCl (adr 23, cz adr cf 23) H := h
theorem pc_24 (h : va_at D vwCl ((adr 24), .inl (cf 0, 7, .inl (fun _ => 0))) H) : va_at D vwCl (adr 24, cz adr cf 24) H := h
theorem pc_25 (h : va_at D vwCl ((adr 25), .inr (4, [.ref (adr 26), .int 0, .int 0])) H) : va_at D vwCl (adr 25, cz adr cf 25) H := h
theorem pc_26 (h : va_at D vwCl ((adr 26), .inl (cf 0, 100, .inl (fun _ => 0))) H) : va_at D vwCl (adr 26, cz adr cf 26) H := h
theorem pc_27 (h : va_at D vwCl ((adr 27), .inl (cf 40, 8, .inr (.inr (.inr (.inr (va_up (va_up (va_up (va_up (va_up (va_up (va_up (va_up (fun _ => none) 0 (some (adr 31))) 1 (some (adr 32))) 2 (some (adr 33))) 3 (some (adr 34))) 4 (some (adr 35))) 5 (some (adr 36))) 6 (some (adr 37))) 7 (some (adr 38)))))))) H) : va_at D vwCl (adr 27, cz adr cf 27) H := h
theorem pc_28 (h : va_at D vwCl ((adr 28), .inl (cf 0, 24, .inl (fun _ => 0))) H) : va_at D vwCl (adr 28, cz adr cf 28) H := h
theorem pc_29 (h : va_at D vwCl ((adr 29), .inr (0, [.int 0, .int 0, .int 0, .int 0, .int 0, .int 0, .int 0])) H) : va_at D vwCl (adr 29, cz adr cf 29) H := h
theorem pc_30 (h : va_at D vwCl ((adr 30), .inr (0, [.int 0, .int 0, .int 0, .int 0, .int 0, .int 0, .int 0])) H) : va_at D vwCl (adr 30, cz adr cf 30) H := h
theorem pc_31 (h : va_at D vwCl ((adr 31), .inr (3, [.int (lyo 0), .int (lyo 0 - 1)])) H) : va_at D vwCl (adr 31, cz adr cf 31) H := h
theorem pc_32 (h : va_at D vwCl ((adr 32), .inr (3, [.int (lyo 1), .int (lyo 1 - 1)])) H) : va_at D vwCl (adr 32, cz adr cf 32) H := h
theorem pc_33 (h : va_at D vwCl ((adr 33), .inr (3, [.int (lyo 2), .int (lyo 2 - 1)])) H) : va_at D vwCl (adr 33, cz adr cf 33) H := h
theorem pc_34 (h : va_at D vwCl ((adr 34), .inr (3, [.int (lyo 3), .int (lyo 3 - 1)])) H) : va_at D vwCl (adr 34, cz adr cf 34) H := h
theorem pc_35 (h : va_at D vwCl ((adr 35), .inr (3, [.int (lyo 4), .int (lyo 4 - 1)])) H) : va_at D vwCl (adr 35, cz adr cf 35) H := h
theorem pc_36 (h : va_at D vwCl ((adr 36), .inr (3, [.int (lyo 5), .int (lyo 5 - 1)])) H) : va_at D vwCl (adr 36, cz adr cf 36) H := h
theorem pc_37 (h : va_at D vwCl ((adr 37), .inr (3, [.int (lyo 6), .int (lyo 6 - 1)])) H) : va_at D vwCl (adr 37, cz adr cf 37) H := h
theorem pc_38 (h : va_at D vwCl ((adr 38), .inr (3, [.int (lyo 7), .int (lyo 7 - 1)])) H) : va_at D vwCl (adr 38, cz adr cf 38) H := h
theorem pc_39 (h : va_at D vwCl ((adr 39), .inl (cf 41, 2, .inr (.inr (.inr (.inr (va_up (va_up (fun _ => none) 0 (some (adr 53))) 1 (some (adr 72)))))))) H) : va_at D vwCl (adr 39, cz adr cf 39) H := h
theorem pc_40 (h : va_at D vwCl ((adr 40), .inl (cf 2, 2, .inl (fun _ => 0))) H) : va_at D vwCl (adr 40, cz adr cf 40) H := h
theorem pc_41 (h : va_at D vwCl ((adr 41), .inr (6, [.ref (adr 42), .int 0, .int 0])) H) : va_at D vwCl (adr 41, cz adr cf 41) H := h
theorem pc_42 (h : va_at D vwCl ((adr 42), .inl (cf 0, 120, .inl (fun _ => 0))) H) : va_at D vwCl (adr 42, cz adr cf 42) H := h
theorem pc_43 (h : va_at D vwCl ((adr 43), .inr (6, [.ref (adr 44), .int 0, .int 0])) H) : va_at D vwCl (adr 43, cz adr cf 43) H := h
theorem pc_44 (h : va_at D vwCl ((adr 44), .inl (cf 0, 120, .inl (fun _ => 0))) H) : va_at D vwCl (adr 44, cz adr cf 44) H := h
theorem pc_45 (h : va_at D vwCl ((adr 45), .inr (7, [.ref (adr 46), .int 0])) H) : va_at D vwCl (adr 45, cz adr cf 45) H := h
theorem pc_46 (h : va_at D vwCl ((adr 46), .inl (cf 1, 264, .inl (fun _ => 0))) H) : va_at D vwCl (adr 46, cz adr cf 46) H := h
theorem pc_47 (h : va_at D vwCl ((adr 47), .inr (5, [.ref (adr 48), .ref (adr 49), .ref (adr 50), .ref (adr 51), .ref (adr 52), .int 0, .int 0, .int 0, .int 0, .int 0])) H) : va_at D vwCl (adr 47, cz adr cf 47) H := h
theorem pc_48 (h : va_at D vwCl ((adr 48), .inl (cf 42, 240, .inr (.inr (.inr (.inr (fun _ => none)))))) H) : va_at D vwCl (adr 48, cz adr cf 48) H := h
theorem pc_49 (h : va_at D vwCl ((adr 49), .inl (cf 0, 720, .inl (fun _ => 0))) H) : va_at D vwCl (adr 49, cz adr cf 49) H := h
theorem pc_50 (h : va_at D vwCl ((adr 50), .inl (cf 0, 240, .inl (fun _ => 0))) H) : va_at D vwCl (adr 50, cz adr cf 50) H := h
theorem pc_51 (h : va_at D vwCl ((adr 51), .inl (cf 0, 240, .inl (fun _ => 0))) H) : va_at D vwCl (adr 51, cz adr cf 51) H := h
theorem pc_52 (h : va_at D vwCl ((adr 52), .inl (cf 0, 3, .inl (fun _ => 0))) H) : va_at D vwCl (adr 52, cz adr cf 52) H := h
theorem pc_53 (h : va_at D vwCl ((adr 53), .inr (2, [.ref (adr 54), .ref (adr 58), .ref (adr 60), .ref (adr 61), .ref (adr 62), .ref (adr 63), .ref (adr 68), .ref (adr 68), .int 0, .int 0, .int 2, .int 0, .int 0, .int 2, .int 20, .int 0, .int 0])) H) : va_at D vwCl (adr 53, cz adr cf 53) H := h
theorem pc_54 (h : va_at D vwCl ((adr 54), .inr (1, [.ref (adr 55), .ref (adr 56), .ref (adr 57), .int 4, .int 12, .int (-1)])) H) : va_at D vwCl (adr 54, cz adr cf 54) H := h
theorem pc_55 (h : va_at D vwCl ((adr 55), .inl (cf 0, 280, .inl (fun _ => 0))) H) : va_at D vwCl (adr 55, cz adr cf 55) H := h
theorem pc_56 (h : va_at D vwCl ((adr 56), .inl (cf 0, 280, .inl (fun _ => 0))) H) : va_at D vwCl (adr 56, cz adr cf 56) H := h
theorem pc_57 (h : va_at D vwCl ((adr 57), .inl (cf 0, 7, .inl (fun _ => 0))) H) : va_at D vwCl (adr 57, cz adr cf 57) H := h
theorem pc_58 (h : va_at D vwCl ((adr 58), .inr (4, [.ref (adr 59), .int 0, .int 0])) H) : va_at D vwCl (adr 58, cz adr cf 58) H := h
theorem pc_59 (h : va_at D vwCl ((adr 59), .inl (cf 0, 100, .inl (fun _ => 0))) H) : va_at D vwCl (adr 59, cz adr cf 59) H := h
theorem pc_60 (h : va_at D vwCl ((adr 60), .inl (cf 40, 8, .inr (.inr (.inr (.inr (va_up (va_up (va_up (va_up (va_up (va_up (va_up (va_up (fun _ => none) 0 (some (adr 64))) 1 (some (adr 65))) 2 (some (adr 66))) 3 (some (adr 67))) 4 (some (adr 68))) 5 (some (adr 69))) 6 (some (adr 70))) 7 (some (adr 71)))))))) H) : va_at D vwCl (adr 60, cz adr cf 60) H := h
theorem pc_61 (h : va_at D vwCl ((adr 61), .inl (cf 0, 24, .inl (fun _ => 0))) H) : va_at D vwCl (adr 61, cz adr cf 61) H := h
theorem pc_62 (h : va_at D vwCl ((adr 62), .inr (0, [.int 0, .int 0, .int 0, .int 0, .int 0, .int 0, .int 0])) H) : va_at D vwCl (adr 62, cz adr cf 62) H := h
theorem pc_63 (h : va_at D vwCl ((adr 63), .inr (0, [.int 0, .int 0, .int 0, .int 0, .int 0, .int 0, .int 0])) H) : va_at D vwCl (adr 63, cz adr cf 63) H := h
theorem pc_64 (h : va_at D vwCl ((adr 64), .inr (3, [.int (lyo 0), .int (lyo 0 - 1)])) H) : va_at D vwCl (adr 64, cz adr cf 64) H := h
theorem pc_65 (h : va_at D vwCl ((adr 65), .inr (3, [.int (lyo 1), .int (lyo 1 - 1)])) H) : va_at D vwCl (adr 65, cz adr cf 65) H := h
theorem pc_66 (h : va_at D vwCl ((adr 66), .inr (3, [.int (lyo 2), .int (lyo 2 - 1)])) H) : va_at D vwCl (adr 66, cz adr cf 66) H := h
theorem pc_67 (h : va_at D vwCl ((adr 67), .inr (3, [.int (lyo 3), .int (lyo 3 - 1)])) H) : va_at D vwCl (adr 67, cz adr cf 67) H := h
theorem pc_68 (h : va_at D vwCl ((adr 68), .inr (3, [.int (lyo 4), .int (lyo 4 - 1)])) H) : va_at D vwCl (adr 68, cz adr cf 68) H := h
theorem pc_69 (h : va_at D vwCl ((adr 69), .inr (3, [.int (lyo 5), .int (lyo 5 - 1)])) H) : va_at D vwCl (adr 69, cz adr cf 69) H := h
theorem pc_70 (h : va_at D vwCl ((adr 70), .inr (3, [.int (lyo 6), .int (lyo 6 - 1)])) H) : va_at D vwCl (adr 70, cz adr cf 70) H := h
theorem pc_71 (h : va_at D vwCl ((adr 71), .inr (3, [.int (lyo 7), .int (lyo 7 - 1)])) H) : va_at D vwCl (adr 71, cz adr cf 71) H := h
theorem pc_72 (h : va_at D vwCl ((adr 72), .inr (2, [.ref (adr 73), .ref (adr 77), .ref (adr 79), .ref (adr 80), .ref (adr 81), .ref (adr 82), .ref (adr 87), .ref (adr 87), .int 0, .int 0, .int 2, .int 0, .int 0, .int 2, .int 20, .int 0, .int 0])) H) : va_at D vwCl (adr 72, cz adr cf 72) H := h
theorem pc_73 (h : va_at D vwCl ((adr 73), .inr (1, [.ref (adr 74), .ref (adr 75), .ref (adr 76), .int 4, .int 12, .int (-1)])) H) : va_at D vwCl (adr 73, cz adr cf 73) H := h
theorem pc_74 (h : va_at D vwCl ((adr 74), .inl (cf 0, 280, .inl (fun _ => 0))) H) : va_at D vwCl (adr 74, cz adr cf 74) H := h
theorem pc_75 (h : va_at D vwCl ((adr 75), .inl (cf 0, 280, .inl (fun _ => 0))) H) : va_at D vwCl (adr 75, cz adr cf 75) H := h
theorem pc_76 (h : va_at D vwCl ((adr 76), .inl (cf 0, 7, .inl (fun _ => 0))) H) : va_at D vwCl (adr 76, cz adr cf 76) H := h
theorem pc_77 (h : va_at D vwCl ((adr 77), .inr (4, [.ref (adr 78), .int 0, .int 0])) H) : va_at D vwCl (adr 77, cz adr cf 77) H := h
theorem pc_78 (h : va_at D vwCl ((adr 78), .inl (cf 0, 100, .inl (fun _ => 0))) H) : va_at D vwCl (adr 78, cz adr cf 78) H := h
theorem pc_79 (h : va_at D vwCl ((adr 79), .inl (cf 40, 8, .inr (.inr (.inr (.inr (va_up (va_up (va_up (va_up (va_up (va_up (va_up (va_up (fun _ => none) 0 (some (adr 83))) 1 (some (adr 84))) 2 (some (adr 85))) 3 (some (adr 86))) 4 (some (adr 87))) 5 (some (adr 88))) 6 (some (adr 89))) 7 (some (adr 90)))))))) H) : va_at D vwCl (adr 79, cz adr cf 79) H := h
theorem pc_80 (h : va_at D vwCl ((adr 80), .inl (cf 0, 24, .inl (fun _ => 0))) H) : va_at D vwCl (adr 80, cz adr cf 80) H := h
theorem pc_81 (h : va_at D vwCl ((adr 81), .inr (0, [.int 0, .int 0, .int 0, .int 0, .int 0, .int 0, .int 0])) H) : va_at D vwCl (adr 81, cz adr cf 81) H := h
theorem pc_82 (h : va_at D vwCl ((adr 82), .inr (0, [.int 0, .int 0, .int 0, .int 0, .int 0, .int 0, .int 0])) H) : va_at D vwCl (adr 82, cz adr cf 82) H := h
theorem pc_83 (h : va_at D vwCl ((adr 83), .inr (3, [.int (lyo 0), .int (lyo 0 - 1)])) H) : va_at D vwCl (adr 83, cz adr cf 83) H := h
theorem pc_84 (h : va_at D vwCl ((adr 84), .inr (3, [.int (lyo 1), .int (lyo 1 - 1)])) H) : va_at D vwCl (adr 84, cz adr cf 84) H := h
theorem pc_85 (h : va_at D vwCl ((adr 85), .inr (3, [.int (lyo 2), .int (lyo 2 - 1)])) H) : va_at D vwCl (adr 85, cz adr cf 85) H := h
theorem pc_86 (h : va_at D vwCl ((adr 86), .inr (3, [.int (lyo 3), .int (lyo 3 - 1)])) H) : va_at D vwCl (adr 86, cz adr cf 86) H := h
theorem pc_87 (h : va_at D vwCl ((adr 87), .inr (3, [.int (lyo 4), .int (lyo 4 - 1)])) H) : va_at D vwCl (adr 87, cz adr cf 87) H := h
theorem pc_88 (h : va_at D vwCl ((adr 88), .inr (3, [.int (lyo 5), .int (lyo 5 - 1)])) H) : va_at D vwCl (adr 88, cz adr cf 88) H := h
theorem pc_89 (h : va_at D vwCl ((adr 89), .inr (3, [.int (lyo 6), .int (lyo 6 - 1)])) H) : va_at D vwCl (adr 89, cz adr cf 89) H := h
theorem pc_90 (h : va_at D vwCl ((adr 90), .inr (3, [.int (lyo 7), .int (lyo 7 - 1)])) H) : va_at D vwCl (adr 90, cz adr cf 90) H := h
theorem pc_91 (h : va_at D vwCl ((adr 91), .inr (9, [.ref (adr 92), .ref (adr 93), .ref (adr 94), .ref (adr 95), .ref (adr 96), .int 0, .int 0, .ref (adr 97), .int 0, .int 0, .int 0, .int 0, .ref (adr 98), .ref (adr 99), .int 0, .int 0, .int 0, .int 0, .long 0, .int 0, .int 0, .int 0, .int 0, .int 0])) H) : va_at D vwCl (adr 91, cz adr cf 91) H := h
theorem pc_92 (h : va_at D vwCl ((adr 92), .inl (cf 0, 729, .inl (upd (upd (upd (upd (upd (upd (fun _ => 0) 715 4) 716 12) 721 (-1)) 722 2) 723 2) 724 20))) H) : va_at D vwCl (adr 92, cz adr cf 92) H := h
theorem pc_93 (h : va_at D vwCl ((adr 93), .inl (cf 0, 729, .inl (fun _ => 0))) H) : va_at D vwCl (adr 93, cz adr cf 93) H := h
theorem pc_94 (h : va_at D vwCl ((adr 94), .inl (cf 0, 1458, .inl (fun _ => 0))) H) : va_at D vwCl (adr 94, cz adr cf 94) H := h
theorem pc_95 (h : va_at D vwCl ((adr 95), .inl (cf 2, 2, .inl (fun _ => 0))) H) : va_at D vwCl (adr 95, cz adr cf 95) H := h
theorem pc_96 (h : va_at D vwCl ((adr 96), .inl (cf 0, 120, .inl (fun _ => 0))) H) : va_at D vwCl (adr 96, cz adr cf 96) H := h
theorem pc_97 (h : va_at D vwCl ((adr 97), .inl (cf 0, 264, .inl (fun _ => 0))) H) : va_at D vwCl (adr 97, cz adr cf 97) H := h
theorem pc_98 (h : va_at D vwCl ((adr 98), .inl (cf 0, 240, .inl (fun _ => 0))) H) : va_at D vwCl (adr 98, cz adr cf 98) H := h
theorem pc_99 (h : va_at D vwCl ((adr 99), .inl (cf 2, 240, .inl (fun _ => 0))) H) : va_at D vwCl (adr 99, cz adr cf 99) H := h
theorem pc_100 (h : va_at D vwCl ((adr 100), .inl (cf 43, 1, .inr (.inl (fun _ => 0)))) H) : va_at D vwCl (adr 100, cz adr cf 100) H := h
theorem pc_all (hP : va_P D vwCl (wsOf adr cf) H) (i : Nat) (hi : i < 101) : va_at D vwCl (adr i, cz adr cf i) H := by
  match i, hi with
  | 0, _ => exact pc_0 (hP 0 _ rfl)
  | 1, _ => exact pc_1 (hP 1 _ rfl)
  | 2, _ => exact pc_2 (hP 2 _ rfl)
  | 3, _ => exact pc_3 (hP 3 _ rfl)
  | 4, _ => exact pc_4 (hP 4 _ rfl)
  | 5, _ => exact pc_5 (hP 5 _ rfl)
  | 6, _ => exact pc_6 (hP 6 _ rfl)
  | 7, _ => exact pc_7 (hP 7 _ rfl)
  | 8, _ => exact pc_8 (hP 8 _ rfl)
  | 9, _ => exact pc_9 (hP 9 _ rfl)
  | 10, _ => exact pc_10 (hP 10 _ rfl)
  | 11, _ => exact pc_11 (hP 11 _ rfl)
  | 12, _ => exact pc_12 (hP 12 _ rfl)
  | 13, _ => exact pc_13 (hP 13 _ rfl)
  | 14, _ => exact pc_14 (hP 14 _ rfl)
  | 15, _ => exact pc_15 (hP 15 _ rfl)
  | 16, _ => exact pc_16 (hP 16 _ rfl)
  | 17, _ => exact pc_17 (hP 17 _ rfl)
  | 18, _ => exact pc_18 (hP 18 _ rfl)
  | 19, _ => exact pc_19 (hP 19 _ rfl)
  | 20, _ => exact pc_20 (hP 20 _ rfl)
  | 21, _ => exact pc_21 (hP 21 _ rfl)
  | 22, _ => exact pc_22 (hP 22 _ rfl)
  | 23, _ => exact pc_23 (hP 23 _ rfl)
  | 24, _ => exact pc_24 (hP 24 _ rfl)
  | 25, _ => exact pc_25 (hP 25 _ rfl)
  | 26, _ => exact pc_26 (hP 26 _ rfl)
  | 27, _ => exact pc_27 (hP 27 _ rfl)
  | 28, _ => exact pc_28 (hP 28 _ rfl)
  | 29, _ => exact pc_29 (hP 29 _ rfl)
  | 30, _ => exact pc_30 (hP 30 _ rfl)
  | 31, _ => exact pc_31 (hP 31 _ rfl)
  | 32, _ => exact pc_32 (hP 32 _ rfl)
  | 33, _ => exact pc_33 (hP 33 _ rfl)
  | 34, _ => exact pc_34 (hP 34 _ rfl)
  | 35, _ => exact pc_35 (hP 35 _ rfl)
  | 36, _ => exact pc_36 (hP 36 _ rfl)
  | 37, _ => exact pc_37 (hP 37 _ rfl)
  | 38, _ => exact pc_38 (hP 38 _ rfl)
  | 39, _ => exact pc_39 (hP 39 _ rfl)
  | 40, _ => exact pc_40 (hP 40 _ rfl)
  | 41, _ => exact pc_41 (hP 41 _ rfl)
  | 42, _ => exact pc_42 (hP 42 _ rfl)
  | 43, _ => exact pc_43 (hP 43 _ rfl)
  | 44, _ => exact pc_44 (hP 44 _ rfl)
  | 45, _ => exact pc_45 (hP 45 _ rfl)
  | 46, _ => exact pc_46 (hP 46 _ rfl)
  | 47, _ => exact pc_47 (hP 47 _ rfl)
  | 48, _ => exact pc_48 (hP 48 _ rfl)
  | 49, _ => exact pc_49 (hP 49 _ rfl)
  | 50, _ => exact pc_50 (hP 50 _ rfl)
  | 51, _ => exact pc_51 (hP 51 _ rfl)
  | 52, _ => exact pc_52 (hP 52 _ rfl)
  | 53, _ => exact pc_53 (hP 53 _ rfl)
  | 54, _ => exact pc_54 (hP 54 _ rfl)
  | 55, _ => exact pc_55 (hP 55 _ rfl)
  | 56, _ => exact pc_56 (hP 56 _ rfl)
  | 57, _ => exact pc_57 (hP 57 _ rfl)
  | 58, _ => exact pc_58 (hP 58 _ rfl)
  | 59, _ => exact pc_59 (hP 59 _ rfl)
  | 60, _ => exact pc_60 (hP 60 _ rfl)
  | 61, _ => exact pc_61 (hP 61 _ rfl)
  | 62, _ => exact pc_62 (hP 62 _ rfl)
  | 63, _ => exact pc_63 (hP 63 _ rfl)
  | 64, _ => exact pc_64 (hP 64 _ rfl)
  | 65, _ => exact pc_65 (hP 65 _ rfl)
  | 66, _ => exact pc_66 (hP 66 _ rfl)
  | 67, _ => exact pc_67 (hP 67 _ rfl)
  | 68, _ => exact pc_68 (hP 68 _ rfl)
  | 69, _ => exact pc_69 (hP 69 _ rfl)
  | 70, _ => exact pc_70 (hP 70 _ rfl)
  | 71, _ => exact pc_71 (hP 71 _ rfl)
  | 72, _ => exact pc_72 (hP 72 _ rfl)
  | 73, _ => exact pc_73 (hP 73 _ rfl)
  | 74, _ => exact pc_74 (hP 74 _ rfl)
  | 75, _ => exact pc_75 (hP 75 _ rfl)
  | 76, _ => exact pc_76 (hP 76 _ rfl)
  | 77, _ => exact pc_77 (hP 77 _ rfl)
  | 78, _ => exact pc_78 (hP 78 _ rfl)
  | 79, _ => exact pc_79 (hP 79 _ rfl)
  | 80, _ => exact pc_80 (hP 80 _ rfl)
  | 81, _ => exact pc_81 (hP 81 _ rfl)
  | 82, _ => exact pc_82 (hP 82 _ rfl)
  | 83, _ => exact pc_83 (hP 83 _ rfl)
  | 84, _ => exact pc_84 (hP 84 _ rfl)
  | 85, _ => exact pc_85 (hP 85 _ rfl)
  | 86, _ => exact pc_86 (hP 86 _ rfl)
  | 87, _ => exact pc_87 (hP 87 _ rfl)
  | 88, _ => exact pc_88 (hP 88 _ rfl)
  | 89, _ => exact pc_89 (hP 89 _ rfl)
  | 90, _ => exact pc_90 (hP 90 _ rfl)
  | 91, _ => exact pc_91 (hP 91 _ rfl)
  | 92, _ => exact pc_92 (hP 92 _ rfl)
  | 93, _ => exact pc_93 (hP 93 _ rfl)
  | 94, _ => exact pc_94 (hP 94 _ rfl)
  | 95, _ => exact pc_95 (hP 95 _ rfl)
  | 96, _ => exact pc_96 (hP 96 _ rfl)
  | 97, _ => exact pc_97 (hP 97 _ rfl)
  | 98, _ => exact pc_98 (hP 98 _ rfl)
  | 99, _ => exact pc_99 (hP 99 _ rfl)
  | 100, _ => exact pc_100 (hP 100 _ rfl)
  | n + 101, h => exact absurd h (by omega)
end PL0
