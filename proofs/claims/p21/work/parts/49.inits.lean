def dC (a : Nat) (f : Nat → Nat) (cf : Nat → ClassId) : va_W := [(a, .inr (1, [.ref (f 0), .ref (f 1), .ref (f 2), .int 0, .int 0, .int (-1)])), ((f 0), .inl (cf 0, 280, .inl (fun _ => 0))), ((f 1), .inl (cf 0, 280, .inl (fun _ => 0))), ((f 2), .inl (cf 0, 7, .inl (fun _ => 0)))]
def qC (a : Nat) (f : Nat → Nat) (cf : Nat → ClassId) : va_W := [(a, .inr (4, [.ref (f 0), .int 0, .int 0])), ((f 0), .inl (cf 0, 100, .inl (fun _ => 0)))]
def sC (a : Nat) (f : Nat → Nat) (cf : Nat → ClassId) : va_W := [(a, .inr (5, [.ref (f 0), .ref (f 1), .ref (f 2), .ref (f 3), .ref (f 4), .int 0, .int 0, .int 0, .int 0, .int 0])), ((f 0), .inl (cf 42, 240, .inr (.inr (.inr (.inr (fun _ => none)))))), ((f 1), .inl (cf 0, 720, .inl (fun _ => 0))), ((f 2), .inl (cf 0, 240, .inl (fun _ => 0))), ((f 3), .inl (cf 0, 240, .inl (fun _ => 0))), ((f 4), .inl (cf 0, 3, .inl (fun _ => 0)))]
def vC (a : Nat) (f : Nat → Nat) (cf : Nat → ClassId) : va_W := [(a, .inr (6, [.ref (f 0), .int 0, .int 0])), ((f 0), .inl (cf 0, 120, .inl (fun _ => 0)))]
def tC (a : Nat) (f : Nat → Nat) (cf : Nat → ClassId) : va_W := [(a, .inr (7, [.ref (f 0), .int 0])), ((f 0), .inl (cf 1, 264, .inl (fun _ => 0)))]
def bC (a : Nat) (cf : Nat → ClassId) : va_W := [(a, .inr (0, [.int 0, .int 0, .int 0, .int 0, .int 0, .int 0, .int 0]))]
def lyo (x : Int32) : Int32 := if x < 3 then 3 else x
def lC (a : Nat) (x : Int32) (cf : Nat → ClassId) : va_W := [(a, .inr (3, [.int (lyo x), .int (lyo x - 1)]))]
def hC0 (a : Nat) (f : Nat → Nat) (cf : Nat → ClassId) : va_W := [(a, .inr (2, [.ref (f 0), .ref (f 4), .ref (f 6), .ref (f 7), .ref (f 8), .ref (f 9), .null, .null, .int 0, .int 0, .int 0, .int 0, .int 0, .int 0, .int 0, .int 0, .int 0])), ((f 0), .inr (1, [.ref (f 1), .ref (f 2), .ref (f 3), .int 0, .int 0, .int (-1)])), ((f 1), .inl (cf 0, 280, .inl (fun _ => 0))), ((f 2), .inl (cf 0, 280, .inl (fun _ => 0))), ((f 3), .inl (cf 0, 7, .inl (fun _ => 0))), ((f 4), .inr (4, [.ref (f 5), .int 0, .int 0])), ((f 5), .inl (cf 0, 100, .inl (fun _ => 0))), ((f 6), .inl (cf 40, 8, .inr (.inr (.inr (.inr (va_up (va_up (va_up (va_up (va_up (va_up (va_up (va_up (fun _ => none) 0 (some (f 10))) 1 (some (f 11))) 2 (some (f 12))) 3 (some (f 13))) 4 (some (f 14))) 5 (some (f 15))) 6 (some (f 16))) 7 (some (f 17)))))))), ((f 7), .inl (cf 0, 24, .inl (fun _ => 0))), ((f 8), .inr (0, [.int 0, .int 0, .int 0, .int 0, .int 0, .int 0, .int 0])), ((f 9), .inr (0, [.int 0, .int 0, .int 0, .int 0, .int 0, .int 0, .int 0])), ((f 10), .inr (3, [.int (lyo 0), .int (lyo 0 - 1)])), ((f 11), .inr (3, [.int (lyo 1), .int (lyo 1 - 1)])), ((f 12), .inr (3, [.int (lyo 2), .int (lyo 2 - 1)])), ((f 13), .inr (3, [.int (lyo 3), .int (lyo 3 - 1)])), ((f 14), .inr (3, [.int (lyo 4), .int (lyo 4 - 1)])), ((f 15), .inr (3, [.int (lyo 5), .int (lyo 5 - 1)])), ((f 16), .inr (3, [.int (lyo 6), .int (lyo 6 - 1)])), ((f 17), .inr (3, [.int (lyo 7), .int (lyo 7 - 1)]))]
def hCells (a : Nat) (f : Nat → Nat) (cf : Nat → ClassId) : va_W := [(a, .inr (2, [.ref (f 0), .ref (f 4), .ref (f 6), .ref (f 7), .ref (f 8), .ref (f 9), .ref (f 14), .ref (f 14), .int 0, .int 0, .int 2, .int 0, .int 0, .int 2, .int 20, .int 0, .int 0])), ((f 0), .inr (1, [.ref (f 1), .ref (f 2), .ref (f 3), .int 4, .int 12, .int (-1)])), ((f 1), .inl (cf 0, 280, .inl (fun _ => 0))), ((f 2), .inl (cf 0, 280, .inl (fun _ => 0))), ((f 3), .inl (cf 0, 7, .inl (fun _ => 0))), ((f 4), .inr (4, [.ref (f 5), .int 0, .int 0])), ((f 5), .inl (cf 0, 100, .inl (fun _ => 0))), ((f 6), .inl (cf 40, 8, .inr (.inr (.inr (.inr (va_up (va_up (va_up (va_up (va_up (va_up (va_up (va_up (fun _ => none) 0 (some (f 10))) 1 (some (f 11))) 2 (some (f 12))) 3 (some (f 13))) 4 (some (f 14))) 5 (some (f 15))) 6 (some (f 16))) 7 (some (f 17)))))))), ((f 7), .inl (cf 0, 24, .inl (fun _ => 0))), ((f 8), .inr (0, [.int 0, .int 0, .int 0, .int 0, .int 0, .int 0, .int 0])), ((f 9), .inr (0, [.int 0, .int 0, .int 0, .int 0, .int 0, .int 0, .int 0])), ((f 10), .inr (3, [.int (lyo 0), .int (lyo 0 - 1)])), ((f 11), .inr (3, [.int (lyo 1), .int (lyo 1 - 1)])), ((f 12), .inr (3, [.int (lyo 2), .int (lyo 2 - 1)])), ((f 13), .inr (3, [.int (lyo 3), .int (lyo 3 - 1)])), ((f 14), .inr (3, [.int (lyo 4), .int (lyo 4 - 1)])), ((f 15), .inr (3, [.int (lyo 5), .int (lyo 5 - 1)])), ((f 16), .inr (3, [.int (lyo 6), .int (lyo 6 - 1)])), ((f 17), .inr (3, [.int (lyo 7), .int (lyo 7 - 1)]))]
def mC0 (a : Nat) (f : Nat → Nat) (cf : Nat → ClassId) : va_W := [(a, .inr (9, [.ref (f 0), .ref (f 1), .ref (f 2), .ref (f 3), .ref (f 4), .int 0, .int 0, .ref (f 5), .int 0, .int 0, .int 0, .int 0, .ref (f 6), .ref (f 7), .int 0, .int 0, .int 0, .int 0, .long 0, .int 0, .int 0, .int 0, .int 0, .int 0])), ((f 0), .inl (cf 0, 729, .inl (fun _ => 0))), ((f 1), .inl (cf 0, 729, .inl (fun _ => 0))), ((f 2), .inl (cf 0, 1458, .inl (fun _ => 0))), ((f 3), .inl (cf 2, 2, .inl (fun _ => 0))), ((f 4), .inl (cf 0, 120, .inl (fun _ => 0))), ((f 5), .inl (cf 0, 264, .inl (fun _ => 0))), ((f 6), .inl (cf 0, 240, .inl (fun _ => 0))), ((f 7), .inl (cf 2, 240, .inl (fun _ => 0)))]
def mCells (a : Nat) (f : Nat → Nat) (cf : Nat → ClassId) : va_W := [(a, .inr (9, [.ref (f 0), .ref (f 1), .ref (f 2), .ref (f 3), .ref (f 4), .int 0, .int 0, .ref (f 5), .int 0, .int 0, .int 0, .int 0, .ref (f 6), .ref (f 7), .int 0, .int 0, .int 0, .int 0, .long 0, .int 0, .int 0, .int 0, .int 0, .int 0])), ((f 0), .inl (cf 0, 729, .inl (upd (upd (upd (upd (upd (upd (fun _ => 0) 715 4) 716 12) 721 (-1)) 722 2) 723 2) 724 20))), ((f 1), .inl (cf 0, 729, .inl (fun _ => 0))), ((f 2), .inl (cf 0, 1458, .inl (fun _ => 0))), ((f 3), .inl (cf 2, 2, .inl (fun _ => 0))), ((f 4), .inl (cf 0, 120, .inl (fun _ => 0))), ((f 5), .inl (cf 0, 264, .inl (fun _ => 0))), ((f 6), .inl (cf 0, 240, .inl (fun _ => 0))), ((f 7), .inl (cf 2, 240, .inl (fun _ => 0)))]
def xCells (a : Nat) (h : Nat → Nat) (fh : Nat → Nat → Nat) (cf : Nat → ClassId) : va_W := [(a, .inr (8, [.ref (h 0), .ref (h 1), .ref (h 2), .ref (h 3), .ref (h 4), .ref (h 5), .ref (h 6), .ref (h 7)]))] ++ (hCells (h 0) (fh 0) cf ++ (hCells (h 1) (fh 1) cf ++ ([(h 2, .inl (cf 41, 2, .inr (.inr (.inr (.inr (va_up (va_up (fun _ => none) 0 (some (h 8))) 1 (some (h 9)))))))), (h 3, .inl (cf 2, 2, .inl fun _ => 0))] ++ (vC (h 4) (fh 4) cf ++ (vC (h 5) (fh 5) cf ++ (tC (h 6) (fh 6) cf ++ (sC (h 7) (fh 7) cf ++ (hCells (h 8) (fh 8) cf ++ hCells (h 9) (fh 9) cf))))))))
set_option maxHeartbeats 4000000 in
set_option maxRecDepth 100000 in
theorem ce_X1_init (l : Launch) (D : va_G) (cf : Nat → ClassId) (B : Nat) (wr : va_W) (a0 : Nat) : CtE l yX1_init cX1_init 1 (Option.none : Option Jvm.ClassFile.FieldType) 1 0 0 D (tyl cf) B [.ref a0] (wr ++ ([(a0, .inr (0, [.int 0, .int 0, .int 0, .int 0, .int 0, .int 0, .int 0]))])) (fun v w => v = none ∧ w = wr ++ bC a0 cf) := by
  refine e_start (by decide) (Nat.le_of_ble_eq_true rfl) ?_
  intro p e s m args below meth c C hr hlk hin E ls hl
  have hl : lv_has ls 1 [(0, .ref a0)] := hl
  have C : CallFix p m c cX1_init 1 s args TB RX1 := C
  refine lv_aload_n C.1 C.2.1 dX1_init_0 rfl (lv_at hl 0 rfl) ?_
  refine e_obj C mo_X1_1 im_obj cd_obj hl.1 dX1_init_1 (Nat.le_of_ble_eq_true rfl) ?_
  exact e_vret C E hr hlk (Nat.le_of_ble_eq_true rfl) (Nat.le_of_ble_eq_true rfl) ⟨rfl, rfl⟩ dX1_init_4

set_option maxHeartbeats 4000000 in
set_option maxRecDepth 100000 in
theorem ce_X3_init (l : Launch) (D : va_G) (cf : Nat → ClassId) (B : Nat) (wr : va_W) (a0 : Nat) : CtE l yX3_init cX3_init 1 (Option.none : Option Jvm.ClassFile.FieldType) 1 3 567 D (tyl cf) B [.ref a0] (wr ++ ([(a0, .inr (1, [.null, .null, .null, .int 0, .int 0, .int 0]))])) (fun v w => v = none ∧ ∃ f : Nat → Nat, w = wr ++ dC a0 f cf) := by
  refine e_start (by decide) (Nat.le_of_ble_eq_true rfl) ?_
  intro p e s m args below meth c C hr hlk hin E ls hl
  have hl : lv_has ls 1 [(0, .ref a0)] := hl
  have C : CallFix p m c cX3_init 1 s args TB RX3 := C
  refine lv_aload_n C.1 C.2.1 dX3_init_0 rfl (lv_at hl 0 rfl) ?_
  refine e_obj C mo_X3_3 im_obj cd_obj hl.1 dX3_init_1 (Nat.le_of_ble_eq_true rfl) ?_
  refine lv_aload_n C.1 C.2.1 dX3_init_4 rfl (lv_at hl 0 rfl) ?_
  refine lv_sipush (v := 280) C.1 C.2.1 dX3_init_5 (by decide) ?_
  refine e_newa C E (atype := .int) ac_int 0 rfl (n := 280) (N' := 280) (fun _ => rfl) (by decide) rfl (Nat.le_of_ble_eq_true rfl) (Nat.le_of_ble_eq_true rfl) (Nat.le_of_ble_eq_true rfl) dX3_init_8 (fun q1 H E => ?_)
  have E : El D (tyl cf) B s (wr ++ ([(a0, .inr (1, [.null, .null, .null, .int 0, .int 0, .int 0])), (q1, .inl (cf 0, 280, .inl (fun _ => 0)))])) H [] := by rw [List.append_assoc] at E; exact E
  refine e_putF C E hin (wr.length + 0) (ap_get rfl) rfl uw_X3 tyX3 tyX3_ok nmX3 0 (by decide) fl_X3_9 rfl rfl rfl rfl (Nat.le_of_ble_eq_true rfl) dX3_init_10 (fun H locs E => ?_)
  have E : El D (tyl cf) B s (wr ++ ([(a0, .inr (1, [.ref q1, .null, .null, .int 0, .int 0, .int 0])), (q1, .inl (cf 0, 280, .inl (fun _ => 0)))])) H locs := by rw [ap_set] at E; exact E
  refine lv_aload_n C.1 C.2.1 dX3_init_13 rfl (lv_at hl 0 rfl) ?_
  refine lv_sipush (v := 280) C.1 C.2.1 dX3_init_14 (by decide) ?_
  refine e_newa C E (atype := .int) ac_int 0 rfl (n := 280) (N' := 280) (fun _ => rfl) (by decide) rfl (Nat.le_of_ble_eq_true rfl) (Nat.le_of_ble_eq_true rfl) (Nat.le_of_ble_eq_true rfl) dX3_init_17 (fun q2 H E => ?_)
  have E : El D (tyl cf) B s (wr ++ ([(a0, .inr (1, [.ref q1, .null, .null, .int 0, .int 0, .int 0])), (q1, .inl (cf 0, 280, .inl (fun _ => 0))), (q2, .inl (cf 0, 280, .inl (fun _ => 0)))])) H locs := by rw [List.append_assoc] at E; exact E
  refine e_putF C E hin (wr.length + 0) (ap_get rfl) rfl uw_X3 tyX3 tyX3_ok nmX3 1 (by decide) fl_X3_15 rfl rfl rfl rfl (Nat.le_of_ble_eq_true rfl) dX3_init_19 (fun H locs E => ?_)
  have E : El D (tyl cf) B s (wr ++ ([(a0, .inr (1, [.ref q1, .ref q2, .null, .int 0, .int 0, .int 0])), (q1, .inl (cf 0, 280, .inl (fun _ => 0))), (q2, .inl (cf 0, 280, .inl (fun _ => 0)))])) H locs := by rw [ap_set] at E; exact E
  refine lv_aload_n C.1 C.2.1 dX3_init_22 rfl (lv_at hl 0 rfl) ?_
  refine lv_bipush (v := 7) C.1 C.2.1 dX3_init_23 (by decide) ?_
  refine e_newa C E (atype := .int) ac_int 0 rfl (n := 7) (N' := 7) (fun _ => rfl) (by decide) rfl (Nat.le_of_ble_eq_true rfl) (Nat.le_of_ble_eq_true rfl) (Nat.le_of_ble_eq_true rfl) dX3_init_25 (fun q3 H E => ?_)
  have E : El D (tyl cf) B s (wr ++ ([(a0, .inr (1, [.ref q1, .ref q2, .null, .int 0, .int 0, .int 0])), (q1, .inl (cf 0, 280, .inl (fun _ => 0))), (q2, .inl (cf 0, 280, .inl (fun _ => 0))), (q3, .inl (cf 0, 7, .inl (fun _ => 0)))])) H locs := by rw [List.append_assoc] at E; exact E
  refine e_putF C E hin (wr.length + 0) (ap_get rfl) rfl uw_X3 tyX3 tyX3_ok nmX3 2 (by decide) fl_X3_18 rfl rfl rfl rfl (Nat.le_of_ble_eq_true rfl) dX3_init_27 (fun H locs E => ?_)
  have E : El D (tyl cf) B s (wr ++ ([(a0, .inr (1, [.ref q1, .ref q2, .ref q3, .int 0, .int 0, .int 0])), (q1, .inl (cf 0, 280, .inl (fun _ => 0))), (q2, .inl (cf 0, 280, .inl (fun _ => 0))), (q3, .inl (cf 0, 7, .inl (fun _ => 0)))])) H locs := by rw [ap_set] at E; exact E
  refine lv_aload_n C.1 C.2.1 dX3_init_30 rfl (lv_at hl 0 rfl) ?_
  refine lv_iconst (v := -1) C.1 C.2.1 dX3_init_31 (by decide) ?_
  refine e_put C E (wr.length + 0) (ap_get rfl) rfl uw_X3 tyX3 tyX3_ok nmX3 5 (by decide) fl_X3_21 rfl rfl rfl (Nat.le_of_ble_eq_true rfl) dX3_init_32 (fun H locs E => ?_)
  have E : El D (tyl cf) B s (wr ++ ([(a0, .inr (1, [.ref q1, .ref q2, .ref q3, .int 0, .int 0, .int (-1)])), (q1, .inl (cf 0, 280, .inl (fun _ => 0))), (q2, .inl (cf 0, 280, .inl (fun _ => 0))), (q3, .inl (cf 0, 7, .inl (fun _ => 0)))])) H locs := by rw [ap_set] at E; exact E
  exact e_vret C E hr hlk (Nat.le_of_ble_eq_true rfl) (Nat.le_of_ble_eq_true rfl) ⟨rfl, (fun i => [q1, q2, q3].getD i 0), rfl⟩ dX3_init_35

set_option maxHeartbeats 4000000 in
set_option maxRecDepth 100000 in
theorem ce_X6_init (l : Launch) (D : va_G) (cf : Nat → ClassId) (B : Nat) (wr : va_W) (a0 : Nat) : CtE l yX6_init cX6_init 1 (Option.none : Option Jvm.ClassFile.FieldType) 1 1 100 D (tyl cf) B [.ref a0] (wr ++ ([(a0, .inr (4, [.null, .int 0, .int 0]))])) (fun v w => v = none ∧ ∃ f : Nat → Nat, w = wr ++ qC a0 f cf) := by
  refine e_start (by decide) (Nat.le_of_ble_eq_true rfl) ?_
  intro p e s m args below meth c C hr hlk hin E ls hl
  have hl : lv_has ls 1 [(0, .ref a0)] := hl
  have C : CallFix p m c cX6_init 1 s args TB RX6 := C
  refine lv_aload_n C.1 C.2.1 dX6_init_0 rfl (lv_at hl 0 rfl) ?_
  refine e_obj C mo_X6_3 im_obj cd_obj hl.1 dX6_init_1 (Nat.le_of_ble_eq_true rfl) ?_
  refine lv_aload_n C.1 C.2.1 dX6_init_4 rfl (lv_at hl 0 rfl) ?_
  refine lv_bipush (v := 100) C.1 C.2.1 dX6_init_5 (by decide) ?_
  refine e_newa C E (atype := .int) ac_int 0 rfl (n := 100) (N' := 100) (fun _ => rfl) (by decide) rfl (Nat.le_of_ble_eq_true rfl) (Nat.le_of_ble_eq_true rfl) (Nat.le_of_ble_eq_true rfl) dX6_init_7 (fun q1 H E => ?_)
  have E : El D (tyl cf) B s (wr ++ ([(a0, .inr (4, [.null, .int 0, .int 0])), (q1, .inl (cf 0, 100, .inl (fun _ => 0)))])) H [] := by rw [List.append_assoc] at E; exact E
  refine e_putF C E hin (wr.length + 0) (ap_get rfl) rfl uw_X6 tyX6 tyX6_ok nmX6 0 (by decide) fl_X6_11 rfl rfl rfl rfl (Nat.le_of_ble_eq_true rfl) dX6_init_9 (fun H locs E => ?_)
  have E : El D (tyl cf) B s (wr ++ ([(a0, .inr (4, [.ref q1, .int 0, .int 0])), (q1, .inl (cf 0, 100, .inl (fun _ => 0)))])) H locs := by rw [ap_set] at E; exact E
  exact e_vret C E hr hlk (Nat.le_of_ble_eq_true rfl) (Nat.le_of_ble_eq_true rfl) ⟨rfl, (fun i => [q1].getD i 0), rfl⟩ dX6_init_12

set_option maxHeartbeats 4000000 in
set_option maxRecDepth 100000 in
theorem ce_X7_init (l : Launch) (D : va_G) (cf : Nat → ClassId) (B : Nat) (wr : va_W) (a0 : Nat) : CtE l yX7_init cX7_init 1 (Option.none : Option Jvm.ClassFile.FieldType) 1 5 1443 D (tyl cf) B [.ref a0] (wr ++ ([(a0, .inr (5, [.null, .null, .null, .null, .null, .int 0, .int 0, .int 0, .int 0, .int 0]))])) (fun v w => v = none ∧ ∃ f : Nat → Nat, w = wr ++ sC a0 f cf) := by
  refine e_start (by decide) (Nat.le_of_ble_eq_true rfl) ?_
  intro p e s m args below meth c C hr hlk hin E ls hl
  have hl : lv_has ls 1 [(0, .ref a0)] := hl
  have C : CallFix p m c cX7_init 1 s args TB RX7 := C
  refine lv_aload_n C.1 C.2.1 dX7_init_0 rfl (lv_at hl 0 rfl) ?_
  refine e_obj C mo_X7_3 im_obj cd_obj hl.1 dX7_init_1 (Nat.le_of_ble_eq_true rfl) ?_
  refine lv_aload_n C.1 C.2.1 dX7_init_4 rfl (lv_at hl 0 rfl) ?_
  refine lv_sipush (v := 240) C.1 C.2.1 dX7_init_5 (by decide) ?_
  refine e_newq C E cl_X7_9 E.1.2.2.2.2 5 rfl (n := 240) (N' := 240) (by decide) rfl (Nat.le_of_ble_eq_true rfl) (Nat.le_of_ble_eq_true rfl) (Nat.le_of_ble_eq_true rfl) dX7_init_8 (fun q1 H E => ?_)
  have E : El D (tyl cf) B s (wr ++ ([(a0, .inr (5, [.null, .null, .null, .null, .null, .int 0, .int 0, .int 0, .int 0, .int 0])), (q1, .inl (cf 42, 240, .inr (.inr (.inr (.inr (fun _ => none))))))])) H [] := by rw [List.append_assoc] at E; exact E
  refine e_putF C E hin (wr.length + 0) (ap_get rfl) rfl uw_X7 tyX7 tyX7_ok nmX7 0 (by decide) fl_X7_11 rfl rfl rfl rfl (Nat.le_of_ble_eq_true rfl) dX7_init_11 (fun H locs E => ?_)
  have E : El D (tyl cf) B s (wr ++ ([(a0, .inr (5, [.ref q1, .null, .null, .null, .null, .int 0, .int 0, .int 0, .int 0, .int 0])), (q1, .inl (cf 42, 240, .inr (.inr (.inr (.inr (fun _ => none))))))])) H locs := by rw [ap_set] at E; exact E
  refine lv_aload_n C.1 C.2.1 dX7_init_14 rfl (lv_at hl 0 rfl) ?_
  refine lv_sipush (v := 720) C.1 C.2.1 dX7_init_15 (by decide) ?_
  refine e_newa C E (atype := .int) ac_int 0 rfl (n := 720) (N' := 720) (fun _ => rfl) (by decide) rfl (Nat.le_of_ble_eq_true rfl) (Nat.le_of_ble_eq_true rfl) (Nat.le_of_ble_eq_true rfl) dX7_init_18 (fun q2 H E => ?_)
  have E : El D (tyl cf) B s (wr ++ ([(a0, .inr (5, [.ref q1, .null, .null, .null, .null, .int 0, .int 0, .int 0, .int 0, .int 0])), (q1, .inl (cf 42, 240, .inr (.inr (.inr (.inr (fun _ => none)))))), (q2, .inl (cf 0, 720, .inl (fun _ => 0)))])) H locs := by rw [List.append_assoc] at E; exact E
  refine e_putF C E hin (wr.length + 0) (ap_get rfl) rfl uw_X7 tyX7 tyX7_ok nmX7 1 (by decide) fl_X7_17 rfl rfl rfl rfl (Nat.le_of_ble_eq_true rfl) dX7_init_20 (fun H locs E => ?_)
  have E : El D (tyl cf) B s (wr ++ ([(a0, .inr (5, [.ref q1, .ref q2, .null, .null, .null, .int 0, .int 0, .int 0, .int 0, .int 0])), (q1, .inl (cf 42, 240, .inr (.inr (.inr (.inr (fun _ => none)))))), (q2, .inl (cf 0, 720, .inl (fun _ => 0)))])) H locs := by rw [ap_set] at E; exact E
  refine lv_aload_n C.1 C.2.1 dX7_init_23 rfl (lv_at hl 0 rfl) ?_
  refine lv_sipush (v := 240) C.1 C.2.1 dX7_init_24 (by decide) ?_
  refine e_newa C E (atype := .int) ac_int 0 rfl (n := 240) (N' := 240) (fun _ => rfl) (by decide) rfl (Nat.le_of_ble_eq_true rfl) (Nat.le_of_ble_eq_true rfl) (Nat.le_of_ble_eq_true rfl) dX7_init_27 (fun q3 H E => ?_)
  have E : El D (tyl cf) B s (wr ++ ([(a0, .inr (5, [.ref q1, .ref q2, .null, .null, .null, .int 0, .int 0, .int 0, .int 0, .int 0])), (q1, .inl (cf 42, 240, .inr (.inr (.inr (.inr (fun _ => none)))))), (q2, .inl (cf 0, 720, .inl (fun _ => 0))), (q3, .inl (cf 0, 240, .inl (fun _ => 0)))])) H locs := by rw [List.append_assoc] at E; exact E
  refine e_putF C E hin (wr.length + 0) (ap_get rfl) rfl uw_X7 tyX7 tyX7_ok nmX7 2 (by decide) fl_X7_21 rfl rfl rfl rfl (Nat.le_of_ble_eq_true rfl) dX7_init_29 (fun H locs E => ?_)
  have E : El D (tyl cf) B s (wr ++ ([(a0, .inr (5, [.ref q1, .ref q2, .ref q3, .null, .null, .int 0, .int 0, .int 0, .int 0, .int 0])), (q1, .inl (cf 42, 240, .inr (.inr (.inr (.inr (fun _ => none)))))), (q2, .inl (cf 0, 720, .inl (fun _ => 0))), (q3, .inl (cf 0, 240, .inl (fun _ => 0)))])) H locs := by rw [ap_set] at E; exact E
  refine lv_aload_n C.1 C.2.1 dX7_init_32 rfl (lv_at hl 0 rfl) ?_
  refine lv_sipush (v := 240) C.1 C.2.1 dX7_init_33 (by decide) ?_
  refine e_newa C E (atype := .int) ac_int 0 rfl (n := 240) (N' := 240) (fun _ => rfl) (by decide) rfl (Nat.le_of_ble_eq_true rfl) (Nat.le_of_ble_eq_true rfl) (Nat.le_of_ble_eq_true rfl) dX7_init_36 (fun q4 H E => ?_)
  have E : El D (tyl cf) B s (wr ++ ([(a0, .inr (5, [.ref q1, .ref q2, .ref q3, .null, .null, .int 0, .int 0, .int 0, .int 0, .int 0])), (q1, .inl (cf 42, 240, .inr (.inr (.inr (.inr (fun _ => none)))))), (q2, .inl (cf 0, 720, .inl (fun _ => 0))), (q3, .inl (cf 0, 240, .inl (fun _ => 0))), (q4, .inl (cf 0, 240, .inl (fun _ => 0)))])) H locs := by rw [List.append_assoc] at E; exact E
  refine e_putF C E hin (wr.length + 0) (ap_get rfl) rfl uw_X7 tyX7 tyX7_ok nmX7 3 (by decide) fl_X7_24 rfl rfl rfl rfl (Nat.le_of_ble_eq_true rfl) dX7_init_38 (fun H locs E => ?_)
  have E : El D (tyl cf) B s (wr ++ ([(a0, .inr (5, [.ref q1, .ref q2, .ref q3, .ref q4, .null, .int 0, .int 0, .int 0, .int 0, .int 0])), (q1, .inl (cf 42, 240, .inr (.inr (.inr (.inr (fun _ => none)))))), (q2, .inl (cf 0, 720, .inl (fun _ => 0))), (q3, .inl (cf 0, 240, .inl (fun _ => 0))), (q4, .inl (cf 0, 240, .inl (fun _ => 0)))])) H locs := by rw [ap_set] at E; exact E
  refine lv_aload_n C.1 C.2.1 dX7_init_41 rfl (lv_at hl 0 rfl) ?_
  refine lv_iconst (v := 3) C.1 C.2.1 dX7_init_42 (by decide) ?_
  refine e_newa C E (atype := .int) ac_int 0 rfl (n := 3) (N' := 3) (fun _ => rfl) (by decide) rfl (Nat.le_of_ble_eq_true rfl) (Nat.le_of_ble_eq_true rfl) (Nat.le_of_ble_eq_true rfl) dX7_init_43 (fun q5 H E => ?_)
  have E : El D (tyl cf) B s (wr ++ ([(a0, .inr (5, [.ref q1, .ref q2, .ref q3, .ref q4, .null, .int 0, .int 0, .int 0, .int 0, .int 0])), (q1, .inl (cf 42, 240, .inr (.inr (.inr (.inr (fun _ => none)))))), (q2, .inl (cf 0, 720, .inl (fun _ => 0))), (q3, .inl (cf 0, 240, .inl (fun _ => 0))), (q4, .inl (cf 0, 240, .inl (fun _ => 0))), (q5, .inl (cf 0, 3, .inl (fun _ => 0)))])) H locs := by rw [List.append_assoc] at E; exact E
  refine e_putF C E hin (wr.length + 0) (ap_get rfl) rfl uw_X7 tyX7 tyX7_ok nmX7 4 (by decide) fl_X7_27 rfl rfl rfl rfl (Nat.le_of_ble_eq_true rfl) dX7_init_45 (fun H locs E => ?_)
  have E : El D (tyl cf) B s (wr ++ ([(a0, .inr (5, [.ref q1, .ref q2, .ref q3, .ref q4, .ref q5, .int 0, .int 0, .int 0, .int 0, .int 0])), (q1, .inl (cf 42, 240, .inr (.inr (.inr (.inr (fun _ => none)))))), (q2, .inl (cf 0, 720, .inl (fun _ => 0))), (q3, .inl (cf 0, 240, .inl (fun _ => 0))), (q4, .inl (cf 0, 240, .inl (fun _ => 0))), (q5, .inl (cf 0, 3, .inl (fun _ => 0)))])) H locs := by rw [ap_set] at E; exact E
  exact e_vret C E hr hlk (Nat.le_of_ble_eq_true rfl) (Nat.le_of_ble_eq_true rfl) ⟨rfl, (fun i => [q1, q2, q3, q4, q5].getD i 0), rfl⟩ dX7_init_48

set_option maxHeartbeats 4000000 in
set_option maxRecDepth 100000 in
theorem ce_X8_init (l : Launch) (D : va_G) (cf : Nat → ClassId) (B : Nat) (wr : va_W) (a0 : Nat) : CtE l yX8_init cX8_init 1 (Option.none : Option Jvm.ClassFile.FieldType) 1 1 120 D (tyl cf) B [.ref a0] (wr ++ ([(a0, .inr (6, [.null, .int 0, .int 0]))])) (fun v w => v = none ∧ ∃ f : Nat → Nat, w = wr ++ vC a0 f cf) := by
  refine e_start (by decide) (Nat.le_of_ble_eq_true rfl) ?_
  intro p e s m args below meth c C hr hlk hin E ls hl
  have hl : lv_has ls 1 [(0, .ref a0)] := hl
  have C : CallFix p m c cX8_init 1 s args TB RX8 := C
  refine lv_aload_n C.1 C.2.1 dX8_init_0 rfl (lv_at hl 0 rfl) ?_
  refine e_obj C mo_X8_3 im_obj cd_obj hl.1 dX8_init_1 (Nat.le_of_ble_eq_true rfl) ?_
  refine lv_aload_n C.1 C.2.1 dX8_init_4 rfl (lv_at hl 0 rfl) ?_
  refine lv_bipush (v := 120) C.1 C.2.1 dX8_init_5 (by decide) ?_
  refine e_newa C E (atype := .int) ac_int 0 rfl (n := 120) (N' := 120) (fun _ => rfl) (by decide) rfl (Nat.le_of_ble_eq_true rfl) (Nat.le_of_ble_eq_true rfl) (Nat.le_of_ble_eq_true rfl) dX8_init_7 (fun q1 H E => ?_)
  have E : El D (tyl cf) B s (wr ++ ([(a0, .inr (6, [.null, .int 0, .int 0])), (q1, .inl (cf 0, 120, .inl (fun _ => 0)))])) H [] := by rw [List.append_assoc] at E; exact E
  refine e_putF C E hin (wr.length + 0) (ap_get rfl) rfl uw_X8 tyX8 tyX8_ok nmX8 0 (by decide) fl_X8_11 rfl rfl rfl rfl (Nat.le_of_ble_eq_true rfl) dX8_init_9 (fun H locs E => ?_)
  have E : El D (tyl cf) B s (wr ++ ([(a0, .inr (6, [.ref q1, .int 0, .int 0])), (q1, .inl (cf 0, 120, .inl (fun _ => 0)))])) H locs := by rw [ap_set] at E; exact E
  exact e_vret C E hr hlk (Nat.le_of_ble_eq_true rfl) (Nat.le_of_ble_eq_true rfl) ⟨rfl, (fun i => [q1].getD i 0), rfl⟩ dX8_init_12

set_option maxHeartbeats 4000000 in
set_option maxRecDepth 100000 in
theorem ce_X9_init (l : Launch) (D : va_G) (cf : Nat → ClassId) (B : Nat) (wr : va_W) (a0 : Nat) : CtE l yX9_init cX9_init 1 (Option.none : Option Jvm.ClassFile.FieldType) 1 1 264 D (tyl cf) B [.ref a0] (wr ++ ([(a0, .inr (7, [.null, .int 0]))])) (fun v w => v = none ∧ ∃ f : Nat → Nat, w = wr ++ tC a0 f cf) := by
  refine e_start (by decide) (Nat.le_of_ble_eq_true rfl) ?_
  intro p e s m args below meth c C hr hlk hin E ls hl
  have hl : lv_has ls 1 [(0, .ref a0)] := hl
  have C : CallFix p m c cX9_init 1 s args TB RX9 := C
  refine lv_aload_n C.1 C.2.1 dX9_init_0 rfl (lv_at hl 0 rfl) ?_
  refine e_obj C mo_X9_3 im_obj cd_obj hl.1 dX9_init_1 (Nat.le_of_ble_eq_true rfl) ?_
  refine lv_aload_n C.1 C.2.1 dX9_init_4 rfl (lv_at hl 0 rfl) ?_
  refine lv_sipush (v := 264) C.1 C.2.1 dX9_init_5 (by decide) ?_
  refine e_newa C E (atype := .byte) ac_byte 1 rfl (n := 264) (N' := 264) (fun _ => rfl) (by decide) rfl (Nat.le_of_ble_eq_true rfl) (Nat.le_of_ble_eq_true rfl) (Nat.le_of_ble_eq_true rfl) dX9_init_8 (fun q1 H E => ?_)
  have E : El D (tyl cf) B s (wr ++ ([(a0, .inr (7, [.null, .int 0])), (q1, .inl (cf 1, 264, .inl (fun _ => 0)))])) H [] := by rw [List.append_assoc] at E; exact E
  refine e_putF C E hin (wr.length + 0) (ap_get rfl) rfl uw_X9 tyX9 tyX9_ok nmX9 0 (by decide) fl_X9_9 rfl rfl rfl rfl (Nat.le_of_ble_eq_true rfl) dX9_init_10 (fun H locs E => ?_)
  have E : El D (tyl cf) B s (wr ++ ([(a0, .inr (7, [.ref q1, .int 0])), (q1, .inl (cf 1, 264, .inl (fun _ => 0)))])) H locs := by rw [ap_set] at E; exact E
  exact e_vret C E hr hlk (Nat.le_of_ble_eq_true rfl) (Nat.le_of_ble_eq_true rfl) ⟨rfl, (fun i => [q1].getD i 0), rfl⟩ dX9_init_13

section EZ
variable {p : Program} {l : Launch} {e : Env} {R : Room} {s : State} {m : MethodId} {args : Array Value} {below : List Frame} {meth : Method} {c : Code} {H : Heap} {locs : List Loc} {cells slots : Nat} {Q : State → Prop} {cc : ByteArray} {nL pc : Nat} {ls : Array Slot} {st : List Value} {own : String} {D : va_G} {cf : Nat → ClassId} {B : Nat} {ws : va_W} {a : Nat}
theorem e_zast (C : CallFix p m c cc nL s args TB own) (E : El D (tyl cf) B s ws H locs) (k0 : Nat) {n : Nat} (h : ws[k0]? = some (a, .inl (cf 2, n, .inl fun _ => 0))) {x : Int32} (i1 : 0 ≤ x.toInt) (i2 : x.toInt < n) (hd : decode cc pc = .ok (.bastore, 1))
    (kk : ∀ (H1 : Heap) (locs1 : List Loc), El D (tyl cf) B s ws H1 locs1 → W p l e R s m args below meth c H1 locs1 cells slots Q (F0 m (pc + 1) ls st)) : W p l e R s m args below meth c H locs cells slots Q (F0 m pc ls (.int 0 :: .int x :: .ref a :: st)) := by
  refine va_zast (D := D) C.1 C.2.1 E.2.1 E.2.2.1 E.2.2.2.1 E.2.2.2.2 k0 2 h rfl (i_in i1 i2) hd (fun H1 locs1 hP hD hS => ?_)
  have hb : vp_nar .boolean 0 = 0 := rfl
  rw [hb, upd0, set_id h] at hP hD
  exact kk H1 locs1 ⟨E.1, E.2.1, hP, hD, hS⟩
end EZ
theorem ce_X5_init (l : Launch) (D : va_G) (cf : Nat → ClassId) (B : Nat) (wr : va_W) (a0 : Nat) (x1 : Int32) : CtE l yX5_init cX5_init 2 (Option.none : Option Jvm.ClassFile.FieldType) 1 0 0 D (tyl cf) B [.ref a0, .int x1] (wr ++ ([(a0, .inr (3, [.int 0, .int 0]))])) (fun v w => v = none ∧ w = wr ++ lC a0 x1 cf) := by
  refine e_start (by decide) (Nat.le_of_ble_eq_true rfl) ?_
  intro p e s m args below meth c C hr hlk hin E ls hl
  have hl : lv_has ls 2 [(0, .ref a0), (1, .int x1)] := hl
  have C : CallFix p m c cX5_init 2 s args TB RX5 := C
  refine lv_aload_n C.1 C.2.1 dX5_init_0 rfl (lv_at hl 0 rfl) ?_
  refine e_obj C mo_X5_3 im_obj cd_obj hl.1 dX5_init_1 (Nat.le_of_ble_eq_true rfl) ?_
  refine lv_aload_n C.1 C.2.1 dX5_init_4 rfl (lv_at hl 0 rfl) ?_
  have K : ∀ y : Int32, y = lyo x1 → W p l e (rmE 1 0 0) s m args below meth c s.heap [] 0 0 (MQ below (QE D (tyl cf) B (fun v w => v = none ∧ w = wr ++ lC a0 x1 cf)) args s 0 0 (fun q => B ≤ q)) (F0 m 15 ls [.int y, .ref a0]) := by
    intro y hy
    refine e_putF C E hin (wr.length + 0) (ap_get rfl) rfl uw_X5 tyX5 tyX5_ok nmX5 0 (by decide) fl_X5_9 rfl rfl rfl rfl (Nat.le_of_ble_eq_true rfl) dX5_init_15 (fun H locs E => ?_)
    have E : El D (tyl cf) B s (wr ++ [(a0, .inr (3, [.int y, .int 0]))]) H locs := by rw [ap_set] at E; exact E
    refine lv_aload_n C.1 C.2.1 dX5_init_18 rfl (lv_at hl 0 rfl) ?_
    refine lv_aload_n C.1 C.2.1 dX5_init_19 rfl (lv_at hl 0 rfl) ?_
    refine e_get C E (wr.length + 0) (ap_get rfl) rfl uw_X5 0 (by decide) fl_X5_9 rfl dX5_init_20 ?_
    refine lv_iconst (v := 1) C.1 C.2.1 dX5_init_23 (by decide) ?_
    refine lv_isub C.1 C.2.1 dX5_init_24 ?_
    refine e_putF C E hin (wr.length + 0) (ap_get rfl) rfl uw_X5 tyX5 tyX5_ok nmX5 1 (by decide) fl_X5_15 rfl rfl rfl rfl (Nat.le_of_ble_eq_true rfl) dX5_init_25 (fun H locs E => ?_)
    have E : El D (tyl cf) B s (wr ++ [(a0, .inr (3, [.int y, .int (y - 1)]))]) H locs := by rw [ap_set] at E; exact E
    subst hy
    exact e_vret C E hr hlk (Nat.le_refl _) (Nat.le_refl _) ⟨rfl, rfl⟩ dX5_init_28
  refine lv_iload_n C.1 C.2.1 dX5_init_5 rfl (lv_at hl 1 rfl) ?_
  refine lv_iconst (v := 3) C.1 C.2.1 dX5_init_6 (by decide) ?_
  refine n_icmp_ge C (tgt := 14) (Y := 3) dX5_init_7 (by decide) rfl rfl (fun q => ?_) (fun q => ?_)
  · refine lv_iload_n C.1 C.2.1 dX5_init_14 rfl (lv_at hl 1 rfl) ?_
    refine K x1 ?_
    unfold lyo
    rw [if_neg]
    intro h
    have := Int32.lt_iff_toInt_lt.mp h
    have e3 : (3 : Int32).toInt = 3 := rfl
    omega
  · refine lv_iconst (v := 3) C.1 C.2.1 dX5_init_10 (by decide) ?_
    refine lv_goto (tgt := 15) C.1 C.2.1 dX5_init_11 (by decide) ?_
    refine K 3 ?_
    unfold lyo
    rw [if_pos]
    have e3 : (3 : Int32).toInt = 3 := rfl
    exact Int32.lt_iff_toInt_lt.mpr (by omega)
theorem ce_fill (l : Launch) (D : va_G) (cf : Nat → ClassId) (B : Nat) (ws : va_W) (k a n : Nat) (h : ws[k]? = some (a, .inl (cf 0, n, .inl fun _ => 0))) (hn : n < 5000) : CtE l yJ7_fill_53178 cJ7_fill_53178 4 (Option.none : Option Jvm.ClassFile.FieldType) 1 0 0 D (tyl cf) B [.ref a, .int 0] ws (fun v w => v = none ∧ w = ws) := by
  refine e_start (by decide) (Nat.le_of_ble_eq_true rfl) ?_
  intro p e s m args below meth c C hr hlk hin E ls hl
  have hl : lv_has ls 4 [(0, .ref a), (1, .int 0)] := hl
  have C : CallFix p m c cJ7_fill_53178 4 s args TB RJ7 := C
  have hN : (Int32.ofNat n).toInt = (n : Int) := by
    exact Int32.toInt_ofNat_of_lt (by omega)
  have L5 : ∀ (n5 : Nat) (y : Int32) (H : Heap) (locs : List Loc) (ls : Array Slot), 0 ≤ y.toInt → y.toInt ≤ n → (n : Int) - y.toInt < (n5 : Int) → El D (tyl cf) B s ws H locs → lv_has ls 4 [(2, .int y), (3, .int (Int32.ofNat n)), (0, .ref a), (1, .int 0)] → W p l e (rmE 1 0 0) s m args below meth c H locs 0 0 (MQ below (QE D (tyl cf) B (fun v w => v = none ∧ w = ws)) args s 0 0 (fun q => B ≤ q)) (F0 m 5 ls []) := by
    intro n5
    induction n5 with
    | zero =>
      intro y H locs ls f1 f2 f3 E hl
      exact absurd f3 (by omega)
    | succ n5 ih =>
      intro y H locs ls f1 f2 f3 E hl
      refine lv_iload_n C.1 C.2.1 dJ7_fill_53178_5 rfl (lv_at hl 0 rfl) ?_
      refine lv_iload_n C.1 C.2.1 dJ7_fill_53178_6 rfl (lv_at hl 1 rfl) ?_
      refine n_icmp_ge C (tgt := 20) dJ7_fill_53178_7 (by decide) rfl rfl (fun q => ?_) (fun q => ?_)
      · exact e_vret C E hr hlk (Nat.le_refl _) (Nat.le_refl _) ⟨rfl, rfl⟩ dJ7_fill_53178_20
      · refine lv_aload_n C.1 C.2.1 dJ7_fill_53178_10 rfl (lv_at hl 2 rfl) ?_
        refine lv_iload_n C.1 C.2.1 dJ7_fill_53178_11 rfl (lv_at hl 0 rfl) ?_
        refine lv_iload_n C.1 C.2.1 dJ7_fill_53178_12 rfl (lv_at hl 3 rfl) ?_
        refine e_iast C E k 0 h rfl (i_in f1 (by omega)) dJ7_fill_53178_13 (fun H locs E => ?_)
        rw [upd0, set_id h] at E
        refine n_iinc C (k := 0) (N := 1) (lv' := fun v => [(2, .int v), (3, .int (Int32.ofNat n)), (0, .ref a), (1, .int 0)]) dJ7_fill_53178_14 hl rfl (by decide) rfl rfl (by omega) (by omega) (fun _ => rfl) (fun v9 ls e9 hl => ?_)
        refine lv_goto (tgt := 5) C.1 C.2.1 dJ7_fill_53178_17 (by decide) ?_
        exact ih v9 H locs ls (by omega) (by omega) (by omega) E hl
  refine lv_iconst (v := 0) C.1 C.2.1 dJ7_fill_53178_0 (by decide) ?_
  refine lv_istore_n (lv' := [(2, .int 0), (0, .ref a), (1, .int 0)]) C.1 C.2.1 dJ7_fill_53178_1 rfl hl (by decide) rfl (fun ls hl => ?_)
  refine lv_aload_n C.1 C.2.1 dJ7_fill_53178_2 rfl (lv_at hl 1 rfl) ?_
  refine va_alen (D := D) C.1 C.2.1 E.2.1 E.2.2.1 k 0 h rfl rfl dJ7_fill_53178_3 ?_
  refine lv_istore_n (lv' := [(3, .int (Int32.ofNat n)), (2, .int 0), (0, .ref a), (1, .int 0)]) C.1 C.2.1 dJ7_fill_53178_4 rfl hl (by decide) rfl (fun ls hl => ?_)
  exact L5 (n + 1) 0 _ _ ls (by decide) (by show (0 : Int) ≤ n; omega) (by show (n : Int) - 0 < _; omega) E (lv_sub hl [1, 0, 2, 3] rfl)
theorem ce_X3_clear (l : Launch) (D : va_G) (cf : Nat → ClassId) (B : Nat) (ws : va_W) (a0 kd kw kf ko wa fa oa : Nat) (n0 r0 l0 x1 x2 : Int32) (hd : ws[kd]? = some (a0, .inr (1, [.ref wa, .ref fa, .ref oa, .int n0, .int r0, .int l0]))) (hw : ws[kw]? = some (wa, .inl (cf 0, 280, .inl fun _ => 0))) (hf : ws[kf]? = some (fa, .inl (cf 0, 280, .inl fun _ => 0))) (ho : ws[ko]? = some (oa, .inl (cf 0, 7, .inl fun _ => 0))) : CtE l yX3_clear cX3_clear 3 (Option.none : Option Jvm.ClassFile.FieldType) 2 0 0 D (tyl cf) B [.ref a0, .int x1, .int x2] ws (fun v w => v = none ∧ w = ws.set kd (a0, .inr (1, [.ref wa, .ref fa, .ref oa, .int x1, .int x2, .int (-1)]))) := by
  refine e_start (by decide) (Nat.le_of_ble_eq_true rfl) ?_
  intro p e s m args below meth c C hr hlk hin E ls hl
  have hl : lv_has ls 3 [(0, .ref a0), (1, .int x1), (2, .int x2)] := hl
  have C : CallFix p m c cX3_clear 3 s args TB RX3 := C
  have hlen : kd < ws.length := (List.getElem?_eq_some_iff.mp hd).1
  refine lv_aload_n C.1 C.2.1 dX3_clear_0 rfl (lv_at hl 0 rfl) ?_
  refine e_get C E kd hd rfl uw_X3 0 (by decide) fl_X3_9 rfl dX3_clear_1 ?_
  refine lv_iconst (v := 0) C.1 C.2.1 dX3_clear_4 (by decide) ?_
  refine e_callS (n := 2) C E (ce_fill l D cf B ws kw wa 280 hw (by decide)) ml_X3_25 sc_J7_fill_53178 ini_J7 cd_J7_fill_53178 (by decide) ⟨Nat.le_of_ble_eq_true rfl, Nat.le_of_ble_eq_true rfl⟩ rfl hl.1 rfl (Nat.le_of_ble_eq_true rfl) dX3_clear_5 ⟨Nat.le_refl _, Nat.le_refl _⟩ (fun v w H locs hp E9 => ?_)
  obtain ⟨rfl, e9⟩ := hp
  rw [e9] at E9
  have E := E9
  refine lv_aload_n C.1 C.2.1 dX3_clear_8 rfl (lv_at hl 0 rfl) ?_
  refine e_get C E kd hd rfl uw_X3 1 (by decide) fl_X3_15 rfl dX3_clear_9 ?_
  refine lv_iconst (v := 0) C.1 C.2.1 dX3_clear_12 (by decide) ?_
  refine e_callS (n := 2) C E (ce_fill l D cf B ws kf fa 280 hf (by decide)) ml_X3_25 sc_J7_fill_53178 ini_J7 cd_J7_fill_53178 (by decide) ⟨Nat.le_of_ble_eq_true rfl, Nat.le_of_ble_eq_true rfl⟩ rfl hl.1 rfl (Nat.le_of_ble_eq_true rfl) dX3_clear_13 ⟨Nat.le_refl _, Nat.le_refl _⟩ (fun v w H locs hp E9 => ?_)
  obtain ⟨rfl, e9⟩ := hp
  rw [e9] at E9
  have E := E9
  refine lv_aload_n C.1 C.2.1 dX3_clear_16 rfl (lv_at hl 0 rfl) ?_
  refine e_get C E kd hd rfl uw_X3 2 (by decide) fl_X3_18 rfl dX3_clear_17 ?_
  refine lv_iconst (v := 0) C.1 C.2.1 dX3_clear_20 (by decide) ?_
  refine e_callS (n := 2) C E (ce_fill l D cf B ws ko oa 7 ho (by decide)) ml_X3_25 sc_J7_fill_53178 ini_J7 cd_J7_fill_53178 (by decide) ⟨Nat.le_of_ble_eq_true rfl, Nat.le_of_ble_eq_true rfl⟩ rfl hl.1 rfl (Nat.le_of_ble_eq_true rfl) dX3_clear_21 ⟨Nat.le_refl _, Nat.le_refl _⟩ (fun v w H locs hp E9 => ?_)
  obtain ⟨rfl, e9⟩ := hp
  rw [e9] at E9
  have E := E9
  refine lv_aload_n C.1 C.2.1 dX3_clear_24 rfl (lv_at hl 0 rfl) ?_
  refine lv_iload_n C.1 C.2.1 dX3_clear_25 rfl (lv_at hl 1 rfl) ?_
  refine e_put C E kd hd rfl uw_X3 tyX3 tyX3_ok nmX3 3 (by decide) fl_X3_31 rfl rfl rfl (Nat.le_of_ble_eq_true rfl) dX3_clear_26 (fun H locs E => ?_)
  refine lv_aload_n C.1 C.2.1 dX3_clear_29 rfl (lv_at hl 0 rfl) ?_
  refine lv_iload_n C.1 C.2.1 dX3_clear_30 rfl (lv_at hl 2 rfl) ?_
  refine e_put C E kd (List.getElem?_set_self hlen) rfl uw_X3 tyX3 tyX3_ok nmX3 4 (by decide) fl_X3_34 rfl rfl rfl (Nat.le_of_ble_eq_true rfl) dX3_clear_31 (fun H locs E => ?_)
  rw [List.set_set] at E
  refine lv_aload_n C.1 C.2.1 dX3_clear_34 rfl (lv_at hl 0 rfl) ?_
  refine lv_iconst (v := -1) C.1 C.2.1 dX3_clear_35 (by decide) ?_
  refine e_put C E kd (List.getElem?_set_self hlen) rfl uw_X3 tyX3 tyX3_ok nmX3 5 (by decide) fl_X3_21 rfl rfl rfl (Nat.le_of_ble_eq_true rfl) dX3_clear_36 (fun H locs E => ?_)
  rw [List.set_set] at E
  exact e_vret C E hr hlk (Nat.le_refl _) (Nat.le_refl _) ⟨rfl, rfl⟩ dX3_clear_39
theorem ce_X4_layoutOf (l : Launch) (D : va_G) (cf : Nat → ClassId) (B : Nat) (ws : va_W) (a0 kh kl r : Nat) (fs : List Value) (f : Nat → Option Nat) (y : Nat) (hh : ws[kh]? = some (a0, .inr (2, fs))) (h2 : fs[2]? = some (.ref r)) (hr0 : ws[kl]? = some (r, .inl (cf 40, 8, .inr (.inr (.inr (.inr f)))))) (hy : f 4 = some y) : CtE l yX4_layoutOf cX4_layoutOf 2 (Option.some (Jvm.ClassFile.FieldType.object "GrowHouse$Layout")) 1 0 0 D (tyl cf) B [.ref a0, .int 4] ws (fun v w => v = some (.ref y) ∧ w = ws) := by
  refine e_start (by decide) (Nat.le_of_ble_eq_true rfl) ?_
  intro p e s m args below meth c C hr hlk hin E ls hl
  have hl : lv_has ls 2 [(0, .ref a0), (1, .int 4)] := hl
  have C : CallFix p m c cX4_layoutOf 2 s args TB RX4 := C
  refine lv_iload_n C.1 C.2.1 dX4_layoutOf_0 rfl (lv_at hl 1 rfl) ?_
  refine n_if_lt C (tgt := 13) (X := 4) dX4_layoutOf_1 (by decide) rfl (fun q => absurd q (by omega)) (fun q => ?_)
  refine lv_iload_n C.1 C.2.1 dX4_layoutOf_4 rfl (lv_at hl 1 rfl) ?_
  refine lv_aload_n C.1 C.2.1 dX4_layoutOf_5 rfl (lv_at hl 0 rfl) ?_
  refine e_get C E kh hh rfl uw_X4 2 (by decide) fl_X4_27 h2 dX4_layoutOf_6 ?_
  refine va_alen (D := D) C.1 C.2.1 E.2.1 E.2.2.1 kl 3 hr0 rfl (v := 8) rfl dX4_layoutOf_9 ?_
  refine n_icmp_lt C (tgt := 22) (X := 4) (Y := 8) dX4_layoutOf_10 (by decide) rfl rfl (fun q => ?_) (fun q => absurd q (by omega))
  refine lv_aload_n C.1 C.2.1 dX4_layoutOf_22 rfl (lv_at hl 0 rfl) ?_
  refine e_get C E kh hh rfl uw_X4 2 (by decide) fl_X4_27 h2 dX4_layoutOf_23 ?_
  refine lv_iload_n C.1 C.2.1 dX4_layoutOf_26 rfl (lv_at hl 1 rfl) ?_
  refine va_aldq (D := D) C.1 C.2.1 E.2.1 E.2.2.1 kl 3 hr0 rfl (i_in (x := 4) (by decide) (by decide)) dX4_layoutOf_27 ?_
  have e4 : f (Int32.toNatClampNeg 4) = some y := hy
  rw [e4]
  exact e_aret C E hr hlk (Nat.le_refl _) (Nat.le_refl _) ⟨rfl, rfl⟩ dX4_layoutOf_28

set_option maxHeartbeats 4000000 in
set_option maxRecDepth 100000 in
theorem ce_X4_begin (l : Launch) (D : va_G) (cf : Nat → ClassId) (B : Nat) (wr : va_W) (a0 : Nat) (f : Nat → Nat) : CtE l yX4_begin cX4_begin 3 (Option.none : Option Jvm.ClassFile.FieldType) 3 0 0 D (tyl cf) B [.ref a0, .int 4, .int 12] (wr ++ ([(a0, .inr (2, [.ref (f 0), .ref (f 4), .ref (f 6), .ref (f 7), .ref (f 8), .ref (f 9), .null, .null, .int 0, .int 0, .int 0, .int 0, .int 0, .int 0, .int 0, .int 0, .int 0])), ((f 0), .inr (1, [.ref (f 1), .ref (f 2), .ref (f 3), .int 0, .int 0, .int (-1)])), ((f 1), .inl (cf 0, 280, .inl (fun _ => 0))), ((f 2), .inl (cf 0, 280, .inl (fun _ => 0))), ((f 3), .inl (cf 0, 7, .inl (fun _ => 0))), ((f 4), .inr (4, [.ref (f 5), .int 0, .int 0])), ((f 5), .inl (cf 0, 100, .inl (fun _ => 0))), ((f 6), .inl (cf 40, 8, .inr (.inr (.inr (.inr (va_up (va_up (va_up (va_up (va_up (va_up (va_up (va_up (fun _ => none) 0 (some (f 10))) 1 (some (f 11))) 2 (some (f 12))) 3 (some (f 13))) 4 (some (f 14))) 5 (some (f 15))) 6 (some (f 16))) 7 (some (f 17)))))))), ((f 7), .inl (cf 0, 24, .inl (fun _ => 0))), ((f 8), .inr (0, [.int 0, .int 0, .int 0, .int 0, .int 0, .int 0, .int 0])), ((f 9), .inr (0, [.int 0, .int 0, .int 0, .int 0, .int 0, .int 0, .int 0])), ((f 10), .inr (3, [.int (lyo 0), .int (lyo 0 - 1)])), ((f 11), .inr (3, [.int (lyo 1), .int (lyo 1 - 1)])), ((f 12), .inr (3, [.int (lyo 2), .int (lyo 2 - 1)])), ((f 13), .inr (3, [.int (lyo 3), .int (lyo 3 - 1)])), ((f 14), .inr (3, [.int (lyo 4), .int (lyo 4 - 1)])), ((f 15), .inr (3, [.int (lyo 5), .int (lyo 5 - 1)])), ((f 16), .inr (3, [.int (lyo 6), .int (lyo 6 - 1)])), ((f 17), .inr (3, [.int (lyo 7), .int (lyo 7 - 1)]))])) (fun v w => v = none ∧ w = wr ++ hCells a0 f cf) := by
  refine e_start (by decide) (Nat.le_of_ble_eq_true rfl) ?_
  intro p e s m args below meth c C hr hlk hin E ls hl
  have hl : lv_has ls 3 [(0, .ref a0), (1, .int 4), (2, .int 12)] := hl
  have C : CallFix p m c cX4_begin 3 s args TB RX4 := C
  refine lv_aload_n C.1 C.2.1 dX4_begin_0 rfl (lv_at hl 0 rfl) ?_
  refine e_get C E (wr.length + 0) (ap_get rfl) rfl uw_X4 0 (by decide) fl_X4_12 rfl dX4_begin_1 ?_
  refine lv_iload_n C.1 C.2.1 dX4_begin_4 rfl (lv_at hl 1 rfl) ?_
  refine lv_iload_n C.1 C.2.1 dX4_begin_5 rfl (lv_at hl 2 rfl) ?_
  refine e_callV (n := 2) C E (k0 := wr.length + 1) (ap_get rfl) rfl (ce_X3_clear l D cf B (wr ++ ([(a0, .inr (2, [.ref (f 0), .ref (f 4), .ref (f 6), .ref (f 7), .ref (f 8), .ref (f 9), .null, .null, .int 0, .int 0, .int 0, .int 0, .int 0, .int 0, .int 0, .int 0, .int 0])), ((f 0), .inr (1, [.ref (f 1), .ref (f 2), .ref (f 3), .int 0, .int 0, .int (-1)])), ((f 1), .inl (cf 0, 280, .inl (fun _ => 0))), ((f 2), .inl (cf 0, 280, .inl (fun _ => 0))), ((f 3), .inl (cf 0, 7, .inl (fun _ => 0))), ((f 4), .inr (4, [.ref (f 5), .int 0, .int 0])), ((f 5), .inl (cf 0, 100, .inl (fun _ => 0))), ((f 6), .inl (cf 40, 8, .inr (.inr (.inr (.inr (va_up (va_up (va_up (va_up (va_up (va_up (va_up (va_up (fun _ => none) 0 (some (f 10))) 1 (some (f 11))) 2 (some (f 12))) 3 (some (f 13))) 4 (some (f 14))) 5 (some (f 15))) 6 (some (f 16))) 7 (some (f 17)))))))), ((f 7), .inl (cf 0, 24, .inl (fun _ => 0))), ((f 8), .inr (0, [.int 0, .int 0, .int 0, .int 0, .int 0, .int 0, .int 0])), ((f 9), .inr (0, [.int 0, .int 0, .int 0, .int 0, .int 0, .int 0, .int 0])), ((f 10), .inr (3, [.int (lyo 0), .int (lyo 0 - 1)])), ((f 11), .inr (3, [.int (lyo 1), .int (lyo 1 - 1)])), ((f 12), .inr (3, [.int (lyo 2), .int (lyo 2 - 1)])), ((f 13), .inr (3, [.int (lyo 3), .int (lyo 3 - 1)])), ((f 14), .inr (3, [.int (lyo 4), .int (lyo 4 - 1)])), ((f 15), .inr (3, [.int (lyo 5), .int (lyo 5 - 1)])), ((f 16), .inr (3, [.int (lyo 6), .int (lyo 6 - 1)])), ((f 17), .inr (3, [.int (lyo 7), .int (lyo 7 - 1)]))])) (f 0) (wr.length + 1) (wr.length + 2) (wr.length + 3) (wr.length + 4) _ _ _ _ _ _ 4 12 (ap_get rfl) (ap_get rfl) (ap_get rfl) (ap_get rfl)) ml_X4_52 im_X3_clear se_X3_clear ini_X3 cd_X3_clear (by decide) ⟨(Nat.le_of_ble_eq_true rfl), (Nat.le_of_ble_eq_true rfl)⟩ rfl hl.1 rfl (Nat.le_of_ble_eq_true rfl) dX4_begin_6 ⟨(Nat.le_of_ble_eq_true rfl), (Nat.le_of_ble_eq_true rfl)⟩ (fun v w H locs hp E9 => ?_)
  obtain ⟨rfl, e9⟩ := hp
  rw [e9] at E9
  have E : El D (tyl cf) B s (wr ++ ([(a0, .inr (2, [.ref (f 0), .ref (f 4), .ref (f 6), .ref (f 7), .ref (f 8), .ref (f 9), .null, .null, .int 0, .int 0, .int 0, .int 0, .int 0, .int 0, .int 0, .int 0, .int 0])), ((f 0), .inr (1, [.ref (f 1), .ref (f 2), .ref (f 3), .int 4, .int 12, .int (-1)])), ((f 1), .inl (cf 0, 280, .inl (fun _ => 0))), ((f 2), .inl (cf 0, 280, .inl (fun _ => 0))), ((f 3), .inl (cf 0, 7, .inl (fun _ => 0))), ((f 4), .inr (4, [.ref (f 5), .int 0, .int 0])), ((f 5), .inl (cf 0, 100, .inl (fun _ => 0))), ((f 6), .inl (cf 40, 8, .inr (.inr (.inr (.inr (va_up (va_up (va_up (va_up (va_up (va_up (va_up (va_up (fun _ => none) 0 (some (f 10))) 1 (some (f 11))) 2 (some (f 12))) 3 (some (f 13))) 4 (some (f 14))) 5 (some (f 15))) 6 (some (f 16))) 7 (some (f 17)))))))), ((f 7), .inl (cf 0, 24, .inl (fun _ => 0))), ((f 8), .inr (0, [.int 0, .int 0, .int 0, .int 0, .int 0, .int 0, .int 0])), ((f 9), .inr (0, [.int 0, .int 0, .int 0, .int 0, .int 0, .int 0, .int 0])), ((f 10), .inr (3, [.int (lyo 0), .int (lyo 0 - 1)])), ((f 11), .inr (3, [.int (lyo 1), .int (lyo 1 - 1)])), ((f 12), .inr (3, [.int (lyo 2), .int (lyo 2 - 1)])), ((f 13), .inr (3, [.int (lyo 3), .int (lyo 3 - 1)])), ((f 14), .inr (3, [.int (lyo 4), .int (lyo 4 - 1)])), ((f 15), .inr (3, [.int (lyo 5), .int (lyo 5 - 1)])), ((f 16), .inr (3, [.int (lyo 6), .int (lyo 6 - 1)])), ((f 17), .inr (3, [.int (lyo 7), .int (lyo 7 - 1)]))])) H locs := by rw [ap_set] at E9; exact E9
  change W p l e (rmE 3 0 0) s m args below meth c H locs _ _ _ (F0 m 9 ls [])
  refine lv_aload_n C.1 C.2.1 dX4_begin_9 rfl (lv_at hl 0 rfl) ?_
  refine e_get C E (wr.length + 0) (ap_get rfl) rfl uw_X4 1 (by decide) fl_X4_21 rfl dX4_begin_10 ?_
  refine lv_iconst (v := 0) C.1 C.2.1 dX4_begin_13 (by decide) ?_
  refine e_put C E (wr.length + 5) (ap_get rfl) rfl uw_X6 tyX6 tyX6_ok nmX6 1 (by decide) fl_X4_55 rfl rfl rfl (Nat.le_of_ble_eq_true rfl) dX4_begin_14 (fun H locs E => ?_)
  have E : El D (tyl cf) B s (wr ++ ([(a0, .inr (2, [.ref (f 0), .ref (f 4), .ref (f 6), .ref (f 7), .ref (f 8), .ref (f 9), .null, .null, .int 0, .int 0, .int 0, .int 0, .int 0, .int 0, .int 0, .int 0, .int 0])), ((f 0), .inr (1, [.ref (f 1), .ref (f 2), .ref (f 3), .int 4, .int 12, .int (-1)])), ((f 1), .inl (cf 0, 280, .inl (fun _ => 0))), ((f 2), .inl (cf 0, 280, .inl (fun _ => 0))), ((f 3), .inl (cf 0, 7, .inl (fun _ => 0))), ((f 4), .inr (4, [.ref (f 5), .int 0, .int 0])), ((f 5), .inl (cf 0, 100, .inl (fun _ => 0))), ((f 6), .inl (cf 40, 8, .inr (.inr (.inr (.inr (va_up (va_up (va_up (va_up (va_up (va_up (va_up (va_up (fun _ => none) 0 (some (f 10))) 1 (some (f 11))) 2 (some (f 12))) 3 (some (f 13))) 4 (some (f 14))) 5 (some (f 15))) 6 (some (f 16))) 7 (some (f 17)))))))), ((f 7), .inl (cf 0, 24, .inl (fun _ => 0))), ((f 8), .inr (0, [.int 0, .int 0, .int 0, .int 0, .int 0, .int 0, .int 0])), ((f 9), .inr (0, [.int 0, .int 0, .int 0, .int 0, .int 0, .int 0, .int 0])), ((f 10), .inr (3, [.int (lyo 0), .int (lyo 0 - 1)])), ((f 11), .inr (3, [.int (lyo 1), .int (lyo 1 - 1)])), ((f 12), .inr (3, [.int (lyo 2), .int (lyo 2 - 1)])), ((f 13), .inr (3, [.int (lyo 3), .int (lyo 3 - 1)])), ((f 14), .inr (3, [.int (lyo 4), .int (lyo 4 - 1)])), ((f 15), .inr (3, [.int (lyo 5), .int (lyo 5 - 1)])), ((f 16), .inr (3, [.int (lyo 6), .int (lyo 6 - 1)])), ((f 17), .inr (3, [.int (lyo 7), .int (lyo 7 - 1)]))])) H locs := by rw [ap_set] at E; exact E
  refine lv_aload_n C.1 C.2.1 dX4_begin_17 rfl (lv_at hl 0 rfl) ?_
  refine e_get C E (wr.length + 0) (ap_get rfl) rfl uw_X4 1 (by decide) fl_X4_21 rfl dX4_begin_18 ?_
  refine lv_iconst (v := 0) C.1 C.2.1 dX4_begin_21 (by decide) ?_
  refine e_put C E (wr.length + 5) (ap_get rfl) rfl uw_X6 tyX6 tyX6_ok nmX6 2 (by decide) fl_X4_59 rfl rfl rfl (Nat.le_of_ble_eq_true rfl) dX4_begin_22 (fun H locs E => ?_)
  have E : El D (tyl cf) B s (wr ++ ([(a0, .inr (2, [.ref (f 0), .ref (f 4), .ref (f 6), .ref (f 7), .ref (f 8), .ref (f 9), .null, .null, .int 0, .int 0, .int 0, .int 0, .int 0, .int 0, .int 0, .int 0, .int 0])), ((f 0), .inr (1, [.ref (f 1), .ref (f 2), .ref (f 3), .int 4, .int 12, .int (-1)])), ((f 1), .inl (cf 0, 280, .inl (fun _ => 0))), ((f 2), .inl (cf 0, 280, .inl (fun _ => 0))), ((f 3), .inl (cf 0, 7, .inl (fun _ => 0))), ((f 4), .inr (4, [.ref (f 5), .int 0, .int 0])), ((f 5), .inl (cf 0, 100, .inl (fun _ => 0))), ((f 6), .inl (cf 40, 8, .inr (.inr (.inr (.inr (va_up (va_up (va_up (va_up (va_up (va_up (va_up (va_up (fun _ => none) 0 (some (f 10))) 1 (some (f 11))) 2 (some (f 12))) 3 (some (f 13))) 4 (some (f 14))) 5 (some (f 15))) 6 (some (f 16))) 7 (some (f 17)))))))), ((f 7), .inl (cf 0, 24, .inl (fun _ => 0))), ((f 8), .inr (0, [.int 0, .int 0, .int 0, .int 0, .int 0, .int 0, .int 0])), ((f 9), .inr (0, [.int 0, .int 0, .int 0, .int 0, .int 0, .int 0, .int 0])), ((f 10), .inr (3, [.int (lyo 0), .int (lyo 0 - 1)])), ((f 11), .inr (3, [.int (lyo 1), .int (lyo 1 - 1)])), ((f 12), .inr (3, [.int (lyo 2), .int (lyo 2 - 1)])), ((f 13), .inr (3, [.int (lyo 3), .int (lyo 3 - 1)])), ((f 14), .inr (3, [.int (lyo 4), .int (lyo 4 - 1)])), ((f 15), .inr (3, [.int (lyo 5), .int (lyo 5 - 1)])), ((f 16), .inr (3, [.int (lyo 6), .int (lyo 6 - 1)])), ((f 17), .inr (3, [.int (lyo 7), .int (lyo 7 - 1)]))])) H locs := by rw [ap_set] at E; exact E
  refine lv_aload_n C.1 C.2.1 dX4_begin_25 rfl (lv_at hl 0 rfl) ?_
  refine lv_aload_n C.1 C.2.1 dX4_begin_26 rfl (lv_at hl 0 rfl) ?_
  refine lv_iload_n C.1 C.2.1 dX4_begin_27 rfl (lv_at hl 1 rfl) ?_
  refine e_callV (n := 1) C E (k0 := wr.length + 0) (ap_get rfl) rfl (ce_X4_layoutOf l D cf B (wr ++ ([(a0, .inr (2, [.ref (f 0), .ref (f 4), .ref (f 6), .ref (f 7), .ref (f 8), .ref (f 9), .null, .null, .int 0, .int 0, .int 0, .int 0, .int 0, .int 0, .int 0, .int 0, .int 0])), ((f 0), .inr (1, [.ref (f 1), .ref (f 2), .ref (f 3), .int 4, .int 12, .int (-1)])), ((f 1), .inl (cf 0, 280, .inl (fun _ => 0))), ((f 2), .inl (cf 0, 280, .inl (fun _ => 0))), ((f 3), .inl (cf 0, 7, .inl (fun _ => 0))), ((f 4), .inr (4, [.ref (f 5), .int 0, .int 0])), ((f 5), .inl (cf 0, 100, .inl (fun _ => 0))), ((f 6), .inl (cf 40, 8, .inr (.inr (.inr (.inr (va_up (va_up (va_up (va_up (va_up (va_up (va_up (va_up (fun _ => none) 0 (some (f 10))) 1 (some (f 11))) 2 (some (f 12))) 3 (some (f 13))) 4 (some (f 14))) 5 (some (f 15))) 6 (some (f 16))) 7 (some (f 17)))))))), ((f 7), .inl (cf 0, 24, .inl (fun _ => 0))), ((f 8), .inr (0, [.int 0, .int 0, .int 0, .int 0, .int 0, .int 0, .int 0])), ((f 9), .inr (0, [.int 0, .int 0, .int 0, .int 0, .int 0, .int 0, .int 0])), ((f 10), .inr (3, [.int (lyo 0), .int (lyo 0 - 1)])), ((f 11), .inr (3, [.int (lyo 1), .int (lyo 1 - 1)])), ((f 12), .inr (3, [.int (lyo 2), .int (lyo 2 - 1)])), ((f 13), .inr (3, [.int (lyo 3), .int (lyo 3 - 1)])), ((f 14), .inr (3, [.int (lyo 4), .int (lyo 4 - 1)])), ((f 15), .inr (3, [.int (lyo 5), .int (lyo 5 - 1)])), ((f 16), .inr (3, [.int (lyo 6), .int (lyo 6 - 1)])), ((f 17), .inr (3, [.int (lyo 7), .int (lyo 7 - 1)]))])) a0 (wr.length + 0) (wr.length + 7) _ _ _ (f 14) (ap_get rfl) rfl (ap_get rfl) rfl) ml_X4_62 im_X4_layoutOf se_X4_layoutOf ini_X4 cd_X4_layoutOf (by decide) ⟨(Nat.le_of_ble_eq_true rfl), (Nat.le_of_ble_eq_true rfl)⟩ rfl hl.1 rfl (Nat.le_of_ble_eq_true rfl) dX4_begin_28 ⟨(Nat.le_of_ble_eq_true rfl), (Nat.le_of_ble_eq_true rfl)⟩ (fun v w H locs hp E9 => ?_)
  obtain ⟨rfl, e9⟩ := hp
  rw [e9] at E9
  have E : El D (tyl cf) B s (wr ++ ([(a0, .inr (2, [.ref (f 0), .ref (f 4), .ref (f 6), .ref (f 7), .ref (f 8), .ref (f 9), .null, .null, .int 0, .int 0, .int 0, .int 0, .int 0, .int 0, .int 0, .int 0, .int 0])), ((f 0), .inr (1, [.ref (f 1), .ref (f 2), .ref (f 3), .int 4, .int 12, .int (-1)])), ((f 1), .inl (cf 0, 280, .inl (fun _ => 0))), ((f 2), .inl (cf 0, 280, .inl (fun _ => 0))), ((f 3), .inl (cf 0, 7, .inl (fun _ => 0))), ((f 4), .inr (4, [.ref (f 5), .int 0, .int 0])), ((f 5), .inl (cf 0, 100, .inl (fun _ => 0))), ((f 6), .inl (cf 40, 8, .inr (.inr (.inr (.inr (va_up (va_up (va_up (va_up (va_up (va_up (va_up (va_up (fun _ => none) 0 (some (f 10))) 1 (some (f 11))) 2 (some (f 12))) 3 (some (f 13))) 4 (some (f 14))) 5 (some (f 15))) 6 (some (f 16))) 7 (some (f 17)))))))), ((f 7), .inl (cf 0, 24, .inl (fun _ => 0))), ((f 8), .inr (0, [.int 0, .int 0, .int 0, .int 0, .int 0, .int 0, .int 0])), ((f 9), .inr (0, [.int 0, .int 0, .int 0, .int 0, .int 0, .int 0, .int 0])), ((f 10), .inr (3, [.int (lyo 0), .int (lyo 0 - 1)])), ((f 11), .inr (3, [.int (lyo 1), .int (lyo 1 - 1)])), ((f 12), .inr (3, [.int (lyo 2), .int (lyo 2 - 1)])), ((f 13), .inr (3, [.int (lyo 3), .int (lyo 3 - 1)])), ((f 14), .inr (3, [.int (lyo 4), .int (lyo 4 - 1)])), ((f 15), .inr (3, [.int (lyo 5), .int (lyo 5 - 1)])), ((f 16), .inr (3, [.int (lyo 6), .int (lyo 6 - 1)])), ((f 17), .inr (3, [.int (lyo 7), .int (lyo 7 - 1)]))])) H locs := E9
  change W p l e (rmE 3 0 0) s m args below meth c H locs _ _ _ (F0 m 31 ls [.ref (f 14), .ref a0])
  refine e_put C E (wr.length + 0) (ap_get rfl) rfl uw_X4 tyX4 tyX4_ok nmX4 6 (by decide) fl_X4_66 rfl rfl rfl (Nat.le_of_ble_eq_true rfl) dX4_begin_31 (fun H locs E => ?_)
  have E : El D (tyl cf) B s (wr ++ ([(a0, .inr (2, [.ref (f 0), .ref (f 4), .ref (f 6), .ref (f 7), .ref (f 8), .ref (f 9), .ref (f 14), .null, .int 0, .int 0, .int 0, .int 0, .int 0, .int 0, .int 0, .int 0, .int 0])), ((f 0), .inr (1, [.ref (f 1), .ref (f 2), .ref (f 3), .int 4, .int 12, .int (-1)])), ((f 1), .inl (cf 0, 280, .inl (fun _ => 0))), ((f 2), .inl (cf 0, 280, .inl (fun _ => 0))), ((f 3), .inl (cf 0, 7, .inl (fun _ => 0))), ((f 4), .inr (4, [.ref (f 5), .int 0, .int 0])), ((f 5), .inl (cf 0, 100, .inl (fun _ => 0))), ((f 6), .inl (cf 40, 8, .inr (.inr (.inr (.inr (va_up (va_up (va_up (va_up (va_up (va_up (va_up (va_up (fun _ => none) 0 (some (f 10))) 1 (some (f 11))) 2 (some (f 12))) 3 (some (f 13))) 4 (some (f 14))) 5 (some (f 15))) 6 (some (f 16))) 7 (some (f 17)))))))), ((f 7), .inl (cf 0, 24, .inl (fun _ => 0))), ((f 8), .inr (0, [.int 0, .int 0, .int 0, .int 0, .int 0, .int 0, .int 0])), ((f 9), .inr (0, [.int 0, .int 0, .int 0, .int 0, .int 0, .int 0, .int 0])), ((f 10), .inr (3, [.int (lyo 0), .int (lyo 0 - 1)])), ((f 11), .inr (3, [.int (lyo 1), .int (lyo 1 - 1)])), ((f 12), .inr (3, [.int (lyo 2), .int (lyo 2 - 1)])), ((f 13), .inr (3, [.int (lyo 3), .int (lyo 3 - 1)])), ((f 14), .inr (3, [.int (lyo 4), .int (lyo 4 - 1)])), ((f 15), .inr (3, [.int (lyo 5), .int (lyo 5 - 1)])), ((f 16), .inr (3, [.int (lyo 6), .int (lyo 6 - 1)])), ((f 17), .inr (3, [.int (lyo 7), .int (lyo 7 - 1)]))])) H locs := by rw [ap_set] at E; exact E
  refine lv_aload_n C.1 C.2.1 dX4_begin_34 rfl (lv_at hl 0 rfl) ?_
  refine lv_aload_n C.1 C.2.1 dX4_begin_35 rfl (lv_at hl 0 rfl) ?_
  refine e_get C E (wr.length + 0) (ap_get rfl) rfl uw_X4 6 (by decide) fl_X4_66 rfl dX4_begin_36 ?_
  refine e_put C E (wr.length + 0) (ap_get rfl) rfl uw_X4 tyX4 tyX4_ok nmX4 7 (by decide) fl_X4_70 rfl rfl rfl (Nat.le_of_ble_eq_true rfl) dX4_begin_39 (fun H locs E => ?_)
  have E : El D (tyl cf) B s (wr ++ ([(a0, .inr (2, [.ref (f 0), .ref (f 4), .ref (f 6), .ref (f 7), .ref (f 8), .ref (f 9), .ref (f 14), .ref (f 14), .int 0, .int 0, .int 0, .int 0, .int 0, .int 0, .int 0, .int 0, .int 0])), ((f 0), .inr (1, [.ref (f 1), .ref (f 2), .ref (f 3), .int 4, .int 12, .int (-1)])), ((f 1), .inl (cf 0, 280, .inl (fun _ => 0))), ((f 2), .inl (cf 0, 280, .inl (fun _ => 0))), ((f 3), .inl (cf 0, 7, .inl (fun _ => 0))), ((f 4), .inr (4, [.ref (f 5), .int 0, .int 0])), ((f 5), .inl (cf 0, 100, .inl (fun _ => 0))), ((f 6), .inl (cf 40, 8, .inr (.inr (.inr (.inr (va_up (va_up (va_up (va_up (va_up (va_up (va_up (va_up (fun _ => none) 0 (some (f 10))) 1 (some (f 11))) 2 (some (f 12))) 3 (some (f 13))) 4 (some (f 14))) 5 (some (f 15))) 6 (some (f 16))) 7 (some (f 17)))))))), ((f 7), .inl (cf 0, 24, .inl (fun _ => 0))), ((f 8), .inr (0, [.int 0, .int 0, .int 0, .int 0, .int 0, .int 0, .int 0])), ((f 9), .inr (0, [.int 0, .int 0, .int 0, .int 0, .int 0, .int 0, .int 0])), ((f 10), .inr (3, [.int (lyo 0), .int (lyo 0 - 1)])), ((f 11), .inr (3, [.int (lyo 1), .int (lyo 1 - 1)])), ((f 12), .inr (3, [.int (lyo 2), .int (lyo 2 - 1)])), ((f 13), .inr (3, [.int (lyo 3), .int (lyo 3 - 1)])), ((f 14), .inr (3, [.int (lyo 4), .int (lyo 4 - 1)])), ((f 15), .inr (3, [.int (lyo 5), .int (lyo 5 - 1)])), ((f 16), .inr (3, [.int (lyo 6), .int (lyo 6 - 1)])), ((f 17), .inr (3, [.int (lyo 7), .int (lyo 7 - 1)]))])) H locs := by rw [ap_set] at E; exact E
  refine lv_aload_n C.1 C.2.1 dX4_begin_42 rfl (lv_at hl 0 rfl) ?_
  refine lv_iconst (v := 0) C.1 C.2.1 dX4_begin_43 (by decide) ?_
  refine e_put C E (wr.length + 0) (ap_get rfl) rfl uw_X4 tyX4 tyX4_ok nmX4 8 (by decide) fl_X4_73 rfl rfl rfl (Nat.le_of_ble_eq_true rfl) dX4_begin_44 (fun H locs E => ?_)
  have E : El D (tyl cf) B s (wr ++ ([(a0, .inr (2, [.ref (f 0), .ref (f 4), .ref (f 6), .ref (f 7), .ref (f 8), .ref (f 9), .ref (f 14), .ref (f 14), .int 0, .int 0, .int 0, .int 0, .int 0, .int 0, .int 0, .int 0, .int 0])), ((f 0), .inr (1, [.ref (f 1), .ref (f 2), .ref (f 3), .int 4, .int 12, .int (-1)])), ((f 1), .inl (cf 0, 280, .inl (fun _ => 0))), ((f 2), .inl (cf 0, 280, .inl (fun _ => 0))), ((f 3), .inl (cf 0, 7, .inl (fun _ => 0))), ((f 4), .inr (4, [.ref (f 5), .int 0, .int 0])), ((f 5), .inl (cf 0, 100, .inl (fun _ => 0))), ((f 6), .inl (cf 40, 8, .inr (.inr (.inr (.inr (va_up (va_up (va_up (va_up (va_up (va_up (va_up (va_up (fun _ => none) 0 (some (f 10))) 1 (some (f 11))) 2 (some (f 12))) 3 (some (f 13))) 4 (some (f 14))) 5 (some (f 15))) 6 (some (f 16))) 7 (some (f 17)))))))), ((f 7), .inl (cf 0, 24, .inl (fun _ => 0))), ((f 8), .inr (0, [.int 0, .int 0, .int 0, .int 0, .int 0, .int 0, .int 0])), ((f 9), .inr (0, [.int 0, .int 0, .int 0, .int 0, .int 0, .int 0, .int 0])), ((f 10), .inr (3, [.int (lyo 0), .int (lyo 0 - 1)])), ((f 11), .inr (3, [.int (lyo 1), .int (lyo 1 - 1)])), ((f 12), .inr (3, [.int (lyo 2), .int (lyo 2 - 1)])), ((f 13), .inr (3, [.int (lyo 3), .int (lyo 3 - 1)])), ((f 14), .inr (3, [.int (lyo 4), .int (lyo 4 - 1)])), ((f 15), .inr (3, [.int (lyo 5), .int (lyo 5 - 1)])), ((f 16), .inr (3, [.int (lyo 6), .int (lyo 6 - 1)])), ((f 17), .inr (3, [.int (lyo 7), .int (lyo 7 - 1)]))])) H locs := by rw [ap_set] at E; exact E
  refine lv_aload_n C.1 C.2.1 dX4_begin_47 rfl (lv_at hl 0 rfl) ?_
  refine lv_iconst (v := 0) C.1 C.2.1 dX4_begin_48 (by decide) ?_
  refine e_put C E (wr.length + 0) (ap_get rfl) rfl uw_X4 tyX4 tyX4_ok nmX4 9 (by decide) fl_X4_77 rfl rfl rfl (Nat.le_of_ble_eq_true rfl) dX4_begin_49 (fun H locs E => ?_)
  have E : El D (tyl cf) B s (wr ++ ([(a0, .inr (2, [.ref (f 0), .ref (f 4), .ref (f 6), .ref (f 7), .ref (f 8), .ref (f 9), .ref (f 14), .ref (f 14), .int 0, .int 0, .int 0, .int 0, .int 0, .int 0, .int 0, .int 0, .int 0])), ((f 0), .inr (1, [.ref (f 1), .ref (f 2), .ref (f 3), .int 4, .int 12, .int (-1)])), ((f 1), .inl (cf 0, 280, .inl (fun _ => 0))), ((f 2), .inl (cf 0, 280, .inl (fun _ => 0))), ((f 3), .inl (cf 0, 7, .inl (fun _ => 0))), ((f 4), .inr (4, [.ref (f 5), .int 0, .int 0])), ((f 5), .inl (cf 0, 100, .inl (fun _ => 0))), ((f 6), .inl (cf 40, 8, .inr (.inr (.inr (.inr (va_up (va_up (va_up (va_up (va_up (va_up (va_up (va_up (fun _ => none) 0 (some (f 10))) 1 (some (f 11))) 2 (some (f 12))) 3 (some (f 13))) 4 (some (f 14))) 5 (some (f 15))) 6 (some (f 16))) 7 (some (f 17)))))))), ((f 7), .inl (cf 0, 24, .inl (fun _ => 0))), ((f 8), .inr (0, [.int 0, .int 0, .int 0, .int 0, .int 0, .int 0, .int 0])), ((f 9), .inr (0, [.int 0, .int 0, .int 0, .int 0, .int 0, .int 0, .int 0])), ((f 10), .inr (3, [.int (lyo 0), .int (lyo 0 - 1)])), ((f 11), .inr (3, [.int (lyo 1), .int (lyo 1 - 1)])), ((f 12), .inr (3, [.int (lyo 2), .int (lyo 2 - 1)])), ((f 13), .inr (3, [.int (lyo 3), .int (lyo 3 - 1)])), ((f 14), .inr (3, [.int (lyo 4), .int (lyo 4 - 1)])), ((f 15), .inr (3, [.int (lyo 5), .int (lyo 5 - 1)])), ((f 16), .inr (3, [.int (lyo 6), .int (lyo 6 - 1)])), ((f 17), .inr (3, [.int (lyo 7), .int (lyo 7 - 1)]))])) H locs := by rw [ap_set] at E; exact E
  refine lv_aload_n C.1 C.2.1 dX4_begin_52 rfl (lv_at hl 0 rfl) ?_
  refine lv_iconst (v := 2) C.1 C.2.1 dX4_begin_53 (by decide) ?_
  refine e_put C E (wr.length + 0) (ap_get rfl) rfl uw_X4 tyX4 tyX4_ok nmX4 10 (by decide) fl_X4_80 rfl rfl rfl (Nat.le_of_ble_eq_true rfl) dX4_begin_54 (fun H locs E => ?_)
  have E : El D (tyl cf) B s (wr ++ ([(a0, .inr (2, [.ref (f 0), .ref (f 4), .ref (f 6), .ref (f 7), .ref (f 8), .ref (f 9), .ref (f 14), .ref (f 14), .int 0, .int 0, .int 2, .int 0, .int 0, .int 0, .int 0, .int 0, .int 0])), ((f 0), .inr (1, [.ref (f 1), .ref (f 2), .ref (f 3), .int 4, .int 12, .int (-1)])), ((f 1), .inl (cf 0, 280, .inl (fun _ => 0))), ((f 2), .inl (cf 0, 280, .inl (fun _ => 0))), ((f 3), .inl (cf 0, 7, .inl (fun _ => 0))), ((f 4), .inr (4, [.ref (f 5), .int 0, .int 0])), ((f 5), .inl (cf 0, 100, .inl (fun _ => 0))), ((f 6), .inl (cf 40, 8, .inr (.inr (.inr (.inr (va_up (va_up (va_up (va_up (va_up (va_up (va_up (va_up (fun _ => none) 0 (some (f 10))) 1 (some (f 11))) 2 (some (f 12))) 3 (some (f 13))) 4 (some (f 14))) 5 (some (f 15))) 6 (some (f 16))) 7 (some (f 17)))))))), ((f 7), .inl (cf 0, 24, .inl (fun _ => 0))), ((f 8), .inr (0, [.int 0, .int 0, .int 0, .int 0, .int 0, .int 0, .int 0])), ((f 9), .inr (0, [.int 0, .int 0, .int 0, .int 0, .int 0, .int 0, .int 0])), ((f 10), .inr (3, [.int (lyo 0), .int (lyo 0 - 1)])), ((f 11), .inr (3, [.int (lyo 1), .int (lyo 1 - 1)])), ((f 12), .inr (3, [.int (lyo 2), .int (lyo 2 - 1)])), ((f 13), .inr (3, [.int (lyo 3), .int (lyo 3 - 1)])), ((f 14), .inr (3, [.int (lyo 4), .int (lyo 4 - 1)])), ((f 15), .inr (3, [.int (lyo 5), .int (lyo 5 - 1)])), ((f 16), .inr (3, [.int (lyo 6), .int (lyo 6 - 1)])), ((f 17), .inr (3, [.int (lyo 7), .int (lyo 7 - 1)]))])) H locs := by rw [ap_set] at E; exact E
  refine lv_aload_n C.1 C.2.1 dX4_begin_57 rfl (lv_at hl 0 rfl) ?_
  refine lv_iconst (v := 0) C.1 C.2.1 dX4_begin_58 (by decide) ?_
  refine e_put C E (wr.length + 0) (ap_get rfl) rfl uw_X4 tyX4 tyX4_ok nmX4 11 (by decide) fl_X4_81 rfl rfl rfl (Nat.le_of_ble_eq_true rfl) dX4_begin_59 (fun H locs E => ?_)
  have E : El D (tyl cf) B s (wr ++ ([(a0, .inr (2, [.ref (f 0), .ref (f 4), .ref (f 6), .ref (f 7), .ref (f 8), .ref (f 9), .ref (f 14), .ref (f 14), .int 0, .int 0, .int 2, .int 0, .int 0, .int 0, .int 0, .int 0, .int 0])), ((f 0), .inr (1, [.ref (f 1), .ref (f 2), .ref (f 3), .int 4, .int 12, .int (-1)])), ((f 1), .inl (cf 0, 280, .inl (fun _ => 0))), ((f 2), .inl (cf 0, 280, .inl (fun _ => 0))), ((f 3), .inl (cf 0, 7, .inl (fun _ => 0))), ((f 4), .inr (4, [.ref (f 5), .int 0, .int 0])), ((f 5), .inl (cf 0, 100, .inl (fun _ => 0))), ((f 6), .inl (cf 40, 8, .inr (.inr (.inr (.inr (va_up (va_up (va_up (va_up (va_up (va_up (va_up (va_up (fun _ => none) 0 (some (f 10))) 1 (some (f 11))) 2 (some (f 12))) 3 (some (f 13))) 4 (some (f 14))) 5 (some (f 15))) 6 (some (f 16))) 7 (some (f 17)))))))), ((f 7), .inl (cf 0, 24, .inl (fun _ => 0))), ((f 8), .inr (0, [.int 0, .int 0, .int 0, .int 0, .int 0, .int 0, .int 0])), ((f 9), .inr (0, [.int 0, .int 0, .int 0, .int 0, .int 0, .int 0, .int 0])), ((f 10), .inr (3, [.int (lyo 0), .int (lyo 0 - 1)])), ((f 11), .inr (3, [.int (lyo 1), .int (lyo 1 - 1)])), ((f 12), .inr (3, [.int (lyo 2), .int (lyo 2 - 1)])), ((f 13), .inr (3, [.int (lyo 3), .int (lyo 3 - 1)])), ((f 14), .inr (3, [.int (lyo 4), .int (lyo 4 - 1)])), ((f 15), .inr (3, [.int (lyo 5), .int (lyo 5 - 1)])), ((f 16), .inr (3, [.int (lyo 6), .int (lyo 6 - 1)])), ((f 17), .inr (3, [.int (lyo 7), .int (lyo 7 - 1)]))])) H locs := by rw [ap_set] at E; exact E
  refine lv_aload_n C.1 C.2.1 dX4_begin_62 rfl (lv_at hl 0 rfl) ?_
  refine lv_iconst (v := 0) C.1 C.2.1 dX4_begin_63 (by decide) ?_
  refine e_put C E (wr.length + 0) (ap_get rfl) rfl uw_X4 tyX4 tyX4_ok nmX4 12 (by decide) fl_X4_84 rfl rfl rfl (Nat.le_of_ble_eq_true rfl) dX4_begin_64 (fun H locs E => ?_)
  have E : El D (tyl cf) B s (wr ++ ([(a0, .inr (2, [.ref (f 0), .ref (f 4), .ref (f 6), .ref (f 7), .ref (f 8), .ref (f 9), .ref (f 14), .ref (f 14), .int 0, .int 0, .int 2, .int 0, .int 0, .int 0, .int 0, .int 0, .int 0])), ((f 0), .inr (1, [.ref (f 1), .ref (f 2), .ref (f 3), .int 4, .int 12, .int (-1)])), ((f 1), .inl (cf 0, 280, .inl (fun _ => 0))), ((f 2), .inl (cf 0, 280, .inl (fun _ => 0))), ((f 3), .inl (cf 0, 7, .inl (fun _ => 0))), ((f 4), .inr (4, [.ref (f 5), .int 0, .int 0])), ((f 5), .inl (cf 0, 100, .inl (fun _ => 0))), ((f 6), .inl (cf 40, 8, .inr (.inr (.inr (.inr (va_up (va_up (va_up (va_up (va_up (va_up (va_up (va_up (fun _ => none) 0 (some (f 10))) 1 (some (f 11))) 2 (some (f 12))) 3 (some (f 13))) 4 (some (f 14))) 5 (some (f 15))) 6 (some (f 16))) 7 (some (f 17)))))))), ((f 7), .inl (cf 0, 24, .inl (fun _ => 0))), ((f 8), .inr (0, [.int 0, .int 0, .int 0, .int 0, .int 0, .int 0, .int 0])), ((f 9), .inr (0, [.int 0, .int 0, .int 0, .int 0, .int 0, .int 0, .int 0])), ((f 10), .inr (3, [.int (lyo 0), .int (lyo 0 - 1)])), ((f 11), .inr (3, [.int (lyo 1), .int (lyo 1 - 1)])), ((f 12), .inr (3, [.int (lyo 2), .int (lyo 2 - 1)])), ((f 13), .inr (3, [.int (lyo 3), .int (lyo 3 - 1)])), ((f 14), .inr (3, [.int (lyo 4), .int (lyo 4 - 1)])), ((f 15), .inr (3, [.int (lyo 5), .int (lyo 5 - 1)])), ((f 16), .inr (3, [.int (lyo 6), .int (lyo 6 - 1)])), ((f 17), .inr (3, [.int (lyo 7), .int (lyo 7 - 1)]))])) H locs := by rw [ap_set] at E; exact E
  refine lv_aload_n C.1 C.2.1 dX4_begin_67 rfl (lv_at hl 0 rfl) ?_
  refine lv_iconst (v := 2) C.1 C.2.1 dX4_begin_68 (by decide) ?_
  refine e_put C E (wr.length + 0) (ap_get rfl) rfl uw_X4 tyX4 tyX4_ok nmX4 13 (by decide) fl_X4_87 rfl rfl rfl (Nat.le_of_ble_eq_true rfl) dX4_begin_69 (fun H locs E => ?_)
  have E : El D (tyl cf) B s (wr ++ ([(a0, .inr (2, [.ref (f 0), .ref (f 4), .ref (f 6), .ref (f 7), .ref (f 8), .ref (f 9), .ref (f 14), .ref (f 14), .int 0, .int 0, .int 2, .int 0, .int 0, .int 2, .int 0, .int 0, .int 0])), ((f 0), .inr (1, [.ref (f 1), .ref (f 2), .ref (f 3), .int 4, .int 12, .int (-1)])), ((f 1), .inl (cf 0, 280, .inl (fun _ => 0))), ((f 2), .inl (cf 0, 280, .inl (fun _ => 0))), ((f 3), .inl (cf 0, 7, .inl (fun _ => 0))), ((f 4), .inr (4, [.ref (f 5), .int 0, .int 0])), ((f 5), .inl (cf 0, 100, .inl (fun _ => 0))), ((f 6), .inl (cf 40, 8, .inr (.inr (.inr (.inr (va_up (va_up (va_up (va_up (va_up (va_up (va_up (va_up (fun _ => none) 0 (some (f 10))) 1 (some (f 11))) 2 (some (f 12))) 3 (some (f 13))) 4 (some (f 14))) 5 (some (f 15))) 6 (some (f 16))) 7 (some (f 17)))))))), ((f 7), .inl (cf 0, 24, .inl (fun _ => 0))), ((f 8), .inr (0, [.int 0, .int 0, .int 0, .int 0, .int 0, .int 0, .int 0])), ((f 9), .inr (0, [.int 0, .int 0, .int 0, .int 0, .int 0, .int 0, .int 0])), ((f 10), .inr (3, [.int (lyo 0), .int (lyo 0 - 1)])), ((f 11), .inr (3, [.int (lyo 1), .int (lyo 1 - 1)])), ((f 12), .inr (3, [.int (lyo 2), .int (lyo 2 - 1)])), ((f 13), .inr (3, [.int (lyo 3), .int (lyo 3 - 1)])), ((f 14), .inr (3, [.int (lyo 4), .int (lyo 4 - 1)])), ((f 15), .inr (3, [.int (lyo 5), .int (lyo 5 - 1)])), ((f 16), .inr (3, [.int (lyo 6), .int (lyo 6 - 1)])), ((f 17), .inr (3, [.int (lyo 7), .int (lyo 7 - 1)]))])) H locs := by rw [ap_set] at E; exact E
  refine lv_aload_n C.1 C.2.1 dX4_begin_72 rfl (lv_at hl 0 rfl) ?_
  refine lv_bipush (v := 20) C.1 C.2.1 dX4_begin_73 (by decide) ?_
  refine e_put C E (wr.length + 0) (ap_get rfl) rfl uw_X4 tyX4 tyX4_ok nmX4 14 (by decide) fl_X4_90 rfl rfl rfl (Nat.le_of_ble_eq_true rfl) dX4_begin_75 (fun H locs E => ?_)
  have E : El D (tyl cf) B s (wr ++ ([(a0, .inr (2, [.ref (f 0), .ref (f 4), .ref (f 6), .ref (f 7), .ref (f 8), .ref (f 9), .ref (f 14), .ref (f 14), .int 0, .int 0, .int 2, .int 0, .int 0, .int 2, .int 20, .int 0, .int 0])), ((f 0), .inr (1, [.ref (f 1), .ref (f 2), .ref (f 3), .int 4, .int 12, .int (-1)])), ((f 1), .inl (cf 0, 280, .inl (fun _ => 0))), ((f 2), .inl (cf 0, 280, .inl (fun _ => 0))), ((f 3), .inl (cf 0, 7, .inl (fun _ => 0))), ((f 4), .inr (4, [.ref (f 5), .int 0, .int 0])), ((f 5), .inl (cf 0, 100, .inl (fun _ => 0))), ((f 6), .inl (cf 40, 8, .inr (.inr (.inr (.inr (va_up (va_up (va_up (va_up (va_up (va_up (va_up (va_up (fun _ => none) 0 (some (f 10))) 1 (some (f 11))) 2 (some (f 12))) 3 (some (f 13))) 4 (some (f 14))) 5 (some (f 15))) 6 (some (f 16))) 7 (some (f 17)))))))), ((f 7), .inl (cf 0, 24, .inl (fun _ => 0))), ((f 8), .inr (0, [.int 0, .int 0, .int 0, .int 0, .int 0, .int 0, .int 0])), ((f 9), .inr (0, [.int 0, .int 0, .int 0, .int 0, .int 0, .int 0, .int 0])), ((f 10), .inr (3, [.int (lyo 0), .int (lyo 0 - 1)])), ((f 11), .inr (3, [.int (lyo 1), .int (lyo 1 - 1)])), ((f 12), .inr (3, [.int (lyo 2), .int (lyo 2 - 1)])), ((f 13), .inr (3, [.int (lyo 3), .int (lyo 3 - 1)])), ((f 14), .inr (3, [.int (lyo 4), .int (lyo 4 - 1)])), ((f 15), .inr (3, [.int (lyo 5), .int (lyo 5 - 1)])), ((f 16), .inr (3, [.int (lyo 6), .int (lyo 6 - 1)])), ((f 17), .inr (3, [.int (lyo 7), .int (lyo 7 - 1)]))])) H locs := by rw [ap_set] at E; exact E
  refine lv_aload_n C.1 C.2.1 dX4_begin_78 rfl (lv_at hl 0 rfl) ?_
  refine lv_iconst (v := 0) C.1 C.2.1 dX4_begin_79 (by decide) ?_
  refine e_put C E (wr.length + 0) (ap_get rfl) rfl uw_X4 tyX4 tyX4_ok nmX4 15 (by decide) fl_X4_93 rfl rfl rfl (Nat.le_of_ble_eq_true rfl) dX4_begin_80 (fun H locs E => ?_)
  have E : El D (tyl cf) B s (wr ++ ([(a0, .inr (2, [.ref (f 0), .ref (f 4), .ref (f 6), .ref (f 7), .ref (f 8), .ref (f 9), .ref (f 14), .ref (f 14), .int 0, .int 0, .int 2, .int 0, .int 0, .int 2, .int 20, .int 0, .int 0])), ((f 0), .inr (1, [.ref (f 1), .ref (f 2), .ref (f 3), .int 4, .int 12, .int (-1)])), ((f 1), .inl (cf 0, 280, .inl (fun _ => 0))), ((f 2), .inl (cf 0, 280, .inl (fun _ => 0))), ((f 3), .inl (cf 0, 7, .inl (fun _ => 0))), ((f 4), .inr (4, [.ref (f 5), .int 0, .int 0])), ((f 5), .inl (cf 0, 100, .inl (fun _ => 0))), ((f 6), .inl (cf 40, 8, .inr (.inr (.inr (.inr (va_up (va_up (va_up (va_up (va_up (va_up (va_up (va_up (fun _ => none) 0 (some (f 10))) 1 (some (f 11))) 2 (some (f 12))) 3 (some (f 13))) 4 (some (f 14))) 5 (some (f 15))) 6 (some (f 16))) 7 (some (f 17)))))))), ((f 7), .inl (cf 0, 24, .inl (fun _ => 0))), ((f 8), .inr (0, [.int 0, .int 0, .int 0, .int 0, .int 0, .int 0, .int 0])), ((f 9), .inr (0, [.int 0, .int 0, .int 0, .int 0, .int 0, .int 0, .int 0])), ((f 10), .inr (3, [.int (lyo 0), .int (lyo 0 - 1)])), ((f 11), .inr (3, [.int (lyo 1), .int (lyo 1 - 1)])), ((f 12), .inr (3, [.int (lyo 2), .int (lyo 2 - 1)])), ((f 13), .inr (3, [.int (lyo 3), .int (lyo 3 - 1)])), ((f 14), .inr (3, [.int (lyo 4), .int (lyo 4 - 1)])), ((f 15), .inr (3, [.int (lyo 5), .int (lyo 5 - 1)])), ((f 16), .inr (3, [.int (lyo 6), .int (lyo 6 - 1)])), ((f 17), .inr (3, [.int (lyo 7), .int (lyo 7 - 1)]))])) H locs := by rw [ap_set] at E; exact E
  refine lv_aload_n C.1 C.2.1 dX4_begin_83 rfl (lv_at hl 0 rfl) ?_
  refine lv_iconst (v := 0) C.1 C.2.1 dX4_begin_84 (by decide) ?_
  refine e_put C E (wr.length + 0) (ap_get rfl) rfl uw_X4 tyX4 tyX4_ok nmX4 16 (by decide) fl_X4_96 rfl rfl rfl (Nat.le_of_ble_eq_true rfl) dX4_begin_85 (fun H locs E => ?_)
  have E : El D (tyl cf) B s (wr ++ ([(a0, .inr (2, [.ref (f 0), .ref (f 4), .ref (f 6), .ref (f 7), .ref (f 8), .ref (f 9), .ref (f 14), .ref (f 14), .int 0, .int 0, .int 2, .int 0, .int 0, .int 2, .int 20, .int 0, .int 0])), ((f 0), .inr (1, [.ref (f 1), .ref (f 2), .ref (f 3), .int 4, .int 12, .int (-1)])), ((f 1), .inl (cf 0, 280, .inl (fun _ => 0))), ((f 2), .inl (cf 0, 280, .inl (fun _ => 0))), ((f 3), .inl (cf 0, 7, .inl (fun _ => 0))), ((f 4), .inr (4, [.ref (f 5), .int 0, .int 0])), ((f 5), .inl (cf 0, 100, .inl (fun _ => 0))), ((f 6), .inl (cf 40, 8, .inr (.inr (.inr (.inr (va_up (va_up (va_up (va_up (va_up (va_up (va_up (va_up (fun _ => none) 0 (some (f 10))) 1 (some (f 11))) 2 (some (f 12))) 3 (some (f 13))) 4 (some (f 14))) 5 (some (f 15))) 6 (some (f 16))) 7 (some (f 17)))))))), ((f 7), .inl (cf 0, 24, .inl (fun _ => 0))), ((f 8), .inr (0, [.int 0, .int 0, .int 0, .int 0, .int 0, .int 0, .int 0])), ((f 9), .inr (0, [.int 0, .int 0, .int 0, .int 0, .int 0, .int 0, .int 0])), ((f 10), .inr (3, [.int (lyo 0), .int (lyo 0 - 1)])), ((f 11), .inr (3, [.int (lyo 1), .int (lyo 1 - 1)])), ((f 12), .inr (3, [.int (lyo 2), .int (lyo 2 - 1)])), ((f 13), .inr (3, [.int (lyo 3), .int (lyo 3 - 1)])), ((f 14), .inr (3, [.int (lyo 4), .int (lyo 4 - 1)])), ((f 15), .inr (3, [.int (lyo 5), .int (lyo 5 - 1)])), ((f 16), .inr (3, [.int (lyo 6), .int (lyo 6 - 1)])), ((f 17), .inr (3, [.int (lyo 7), .int (lyo 7 - 1)]))])) H locs := by rw [ap_set] at E; exact E
  exact e_vret C E hr hlk (Nat.le_of_ble_eq_true rfl) (Nat.le_of_ble_eq_true rfl) ⟨rfl, rfl⟩ dX4_begin_88

set_option maxHeartbeats 4000000 in
set_option maxRecDepth 100000 in
theorem ce_X4_init (l : Launch) (D : va_G) (cf : Nat → ClassId) (B : Nat) (wr : va_W) (a0 : Nat) : CtE l yX4_init cX4_init 2 (Option.none : Option Jvm.ClassFile.FieldType) 4 18 738 D (tyl cf) B [.ref a0] (wr ++ ([(a0, .inr (2, [.null, .null, .null, .null, .null, .null, .null, .null, .int 0, .int 0, .int 0, .int 0, .int 0, .int 0, .int 0, .int 0, .int 0]))])) (fun v w => v = none ∧ ∃ f : Nat → Nat, w = wr ++ hCells a0 f cf) := by
  refine e_start (by decide) (Nat.le_of_ble_eq_true rfl) ?_
  intro p e s m args below meth c C hr hlk hin E ls hl
  have hl : lv_has ls 2 [(0, .ref a0)] := hl
  have C : CallFix p m c cX4_init 2 s args TB RX4 := C
  refine lv_aload_n C.1 C.2.1 dX4_init_0 rfl (lv_at hl 0 rfl) ?_
  refine e_obj C mo_X4_3 im_obj cd_obj hl.1 dX4_init_1 (Nat.le_of_ble_eq_true rfl) ?_
  refine lv_aload_n C.1 C.2.1 dX4_init_4 rfl (lv_at hl 0 rfl) ?_
  refine e_new C E (t := 1) (fs := [.null, .null, .null, .int 0, .int 0, .int 0]) rfl uw_X3 tyX3 tyX3_ok cl_X4_9 ins_X3 ini_X3 (by decide) (Nat.le_of_ble_eq_true rfl) (Nat.le_of_ble_eq_true rfl) dX4_init_5 (fun q1 H E => ?_)
  have E : El D (tyl cf) B s (wr ++ ([(a0, .inr (2, [.null, .null, .null, .null, .null, .null, .null, .null, .int 0, .int 0, .int 0, .int 0, .int 0, .int 0, .int 0, .int 0, .int 0])), (q1, .inr (1, [.null, .null, .null, .int 0, .int 0, .int 0]))])) H [] := by rw [List.append_assoc] at E; exact E
  refine lv_dup C.1 C.2.1 dX4_init_8 rfl ?_
  have E : El D (tyl cf) B s ((wr ++ ([(a0, .inr (2, [.null, .null, .null, .null, .null, .null, .null, .null, .int 0, .int 0, .int 0, .int 0, .int 0, .int 0, .int 0, .int 0, .int 0]))])) ++ [(q1, .inr (1, [.null, .null, .null, .int 0, .int 0, .int 0]))]) H [] := by rw [List.append_assoc]; exact E
  refine e_callN (n := 0) C E (ce_X3_init l D cf B (wr ++ ([(a0, .inr (2, [.null, .null, .null, .null, .null, .null, .null, .null, .int 0, .int 0, .int 0, .int 0, .int 0, .int 0, .int 0, .int 0, .int 0]))])) q1) mi_X4_11 im_X3_init ini_X3 cd_X3_init rfl (by decide) ⟨(Nat.le_of_ble_eq_true rfl), (Nat.le_of_ble_eq_true rfl)⟩ rfl hl.1 rfl (Nat.le_of_ble_eq_true rfl) dX4_init_9 ⟨(Nat.le_of_ble_eq_true rfl), (Nat.le_of_ble_eq_true rfl)⟩ (fun v w H locs hp E9 => ?_)
  obtain ⟨rfl, f2, e9⟩ := hp
  have E : El D (tyl cf) B s (wr ++ ([(a0, .inr (2, [.null, .null, .null, .null, .null, .null, .null, .null, .int 0, .int 0, .int 0, .int 0, .int 0, .int 0, .int 0, .int 0, .int 0]))] ++ dC q1 f2 cf)) H locs := by rw [e9, List.append_assoc] at E9; exact E9
  change W p l e (rmE 4 18 738) s m args below meth c H locs _ _ _ (F0 m 12 ls [.ref q1, .ref a0])
  refine e_putF C E hin (wr.length + 0) (ap_get rfl) rfl uw_X4 tyX4 tyX4_ok nmX4 0 (by decide) fl_X4_12 rfl rfl rfl rfl (Nat.le_of_ble_eq_true rfl) dX4_init_12 (fun H locs E => ?_)
  have E : El D (tyl cf) B s (wr ++ ([(a0, .inr (2, [.ref q1, .null, .null, .null, .null, .null, .null, .null, .int 0, .int 0, .int 0, .int 0, .int 0, .int 0, .int 0, .int 0, .int 0]))] ++ dC q1 f2 cf)) H locs := by rw [ap_set] at E; exact E
  refine lv_aload_n C.1 C.2.1 dX4_init_15 rfl (lv_at hl 0 rfl) ?_
  refine e_new C E (t := 4) (fs := [.null, .int 0, .int 0]) rfl uw_X6 tyX6 tyX6_ok cl_X4_18 ins_X6 ini_X6 (by decide) (Nat.le_of_ble_eq_true rfl) (Nat.le_of_ble_eq_true rfl) dX4_init_16 (fun q3 H E => ?_)
  have E : El D (tyl cf) B s (wr ++ ([(a0, .inr (2, [.ref q1, .null, .null, .null, .null, .null, .null, .null, .int 0, .int 0, .int 0, .int 0, .int 0, .int 0, .int 0, .int 0, .int 0]))] ++ (dC q1 f2 cf ++ [(q3, .inr (4, [.null, .int 0, .int 0]))]))) H locs := by rw [List.append_assoc] at E; exact E
  refine lv_dup C.1 C.2.1 dX4_init_19 rfl ?_
  have E : El D (tyl cf) B s ((wr ++ ([(a0, .inr (2, [.ref q1, .null, .null, .null, .null, .null, .null, .null, .int 0, .int 0, .int 0, .int 0, .int 0, .int 0, .int 0, .int 0, .int 0]))] ++ dC q1 f2 cf)) ++ [(q3, .inr (4, [.null, .int 0, .int 0]))]) H locs := by rw [List.append_assoc]; exact E
  refine e_callN (n := 0) C E (ce_X6_init l D cf B (wr ++ ([(a0, .inr (2, [.ref q1, .null, .null, .null, .null, .null, .null, .null, .int 0, .int 0, .int 0, .int 0, .int 0, .int 0, .int 0, .int 0, .int 0]))] ++ dC q1 f2 cf)) q3) mi_X4_20 im_X6_init ini_X6 cd_X6_init rfl (by decide) ⟨(Nat.le_of_ble_eq_true rfl), (Nat.le_of_ble_eq_true rfl)⟩ rfl hl.1 rfl (Nat.le_of_ble_eq_true rfl) dX4_init_20 ⟨(Nat.le_of_ble_eq_true rfl), (Nat.le_of_ble_eq_true rfl)⟩ (fun v w H locs hp E9 => ?_)
  obtain ⟨rfl, f4, e9⟩ := hp
  have E : El D (tyl cf) B s (wr ++ ([(a0, .inr (2, [.ref q1, .null, .null, .null, .null, .null, .null, .null, .int 0, .int 0, .int 0, .int 0, .int 0, .int 0, .int 0, .int 0, .int 0]))] ++ (dC q1 f2 cf ++ qC q3 f4 cf))) H locs := by rw [e9, List.append_assoc] at E9; exact E9
  change W p l e (rmE 4 18 738) s m args below meth c H locs _ _ _ (F0 m 23 ls [.ref q3, .ref a0])
  refine e_putF C E hin (wr.length + 0) (ap_get rfl) rfl uw_X4 tyX4 tyX4_ok nmX4 1 (by decide) fl_X4_21 rfl rfl rfl rfl (Nat.le_of_ble_eq_true rfl) dX4_init_23 (fun H locs E => ?_)
  have E : El D (tyl cf) B s (wr ++ ([(a0, .inr (2, [.ref q1, .ref q3, .null, .null, .null, .null, .null, .null, .int 0, .int 0, .int 0, .int 0, .int 0, .int 0, .int 0, .int 0, .int 0]))] ++ (dC q1 f2 cf ++ qC q3 f4 cf))) H locs := by rw [ap_set] at E; exact E
  refine lv_aload_n C.1 C.2.1 dX4_init_26 rfl (lv_at hl 0 rfl) ?_
  refine lv_bipush (v := 8) C.1 C.2.1 dX4_init_27 (by decide) ?_
  refine e_newq C E cl_X4_25 E.1.2.2.1 3 rfl (n := 8) (N' := 8) (by decide) rfl (Nat.le_of_ble_eq_true rfl) (Nat.le_of_ble_eq_true rfl) (Nat.le_of_ble_eq_true rfl) dX4_init_29 (fun q5 H E => ?_)
  have E : El D (tyl cf) B s (wr ++ ([(a0, .inr (2, [.ref q1, .ref q3, .null, .null, .null, .null, .null, .null, .int 0, .int 0, .int 0, .int 0, .int 0, .int 0, .int 0, .int 0, .int 0]))] ++ (dC q1 f2 cf ++ (qC q3 f4 cf ++ [(q5, .inl (cf 40, 8, .inr (.inr (.inr (.inr (fun _ => none))))))])))) H locs := by rw [List.append_assoc] at E; exact E
  refine e_putF C E hin (wr.length + 0) (ap_get rfl) rfl uw_X4 tyX4 tyX4_ok nmX4 2 (by decide) fl_X4_27 rfl rfl rfl rfl (Nat.le_of_ble_eq_true rfl) dX4_init_32 (fun H locs E => ?_)
  have E : El D (tyl cf) B s (wr ++ ([(a0, .inr (2, [.ref q1, .ref q3, .ref q5, .null, .null, .null, .null, .null, .int 0, .int 0, .int 0, .int 0, .int 0, .int 0, .int 0, .int 0, .int 0]))] ++ (dC q1 f2 cf ++ (qC q3 f4 cf ++ [(q5, .inl (cf 40, 8, .inr (.inr (.inr (.inr (fun _ => none))))))])))) H locs := by rw [ap_set] at E; exact E
  refine lv_aload_n C.1 C.2.1 dX4_init_35 rfl (lv_at hl 0 rfl) ?_
  refine lv_bipush (v := 24) C.1 C.2.1 dX4_init_36 (by decide) ?_
  refine e_newa C E (atype := .int) ac_int 0 rfl (n := 24) (N' := 24) (fun _ => rfl) (by decide) rfl (Nat.le_of_ble_eq_true rfl) (Nat.le_of_ble_eq_true rfl) (Nat.le_of_ble_eq_true rfl) dX4_init_38 (fun q6 H E => ?_)
  have E : El D (tyl cf) B s (wr ++ ([(a0, .inr (2, [.ref q1, .ref q3, .ref q5, .null, .null, .null, .null, .null, .int 0, .int 0, .int 0, .int 0, .int 0, .int 0, .int 0, .int 0, .int 0]))] ++ (dC q1 f2 cf ++ (qC q3 f4 cf ++ [(q5, .inl (cf 40, 8, .inr (.inr (.inr (.inr (fun _ => none)))))), (q6, .inl (cf 0, 24, .inl (fun _ => 0)))])))) H locs := by rw [List.append_assoc] at E; exact E
  refine e_putF C E hin (wr.length + 0) (ap_get rfl) rfl uw_X4 tyX4 tyX4_ok nmX4 3 (by decide) fl_X4_31 rfl rfl rfl rfl (Nat.le_of_ble_eq_true rfl) dX4_init_40 (fun H locs E => ?_)
  have E : El D (tyl cf) B s (wr ++ ([(a0, .inr (2, [.ref q1, .ref q3, .ref q5, .ref q6, .null, .null, .null, .null, .int 0, .int 0, .int 0, .int 0, .int 0, .int 0, .int 0, .int 0, .int 0]))] ++ (dC q1 f2 cf ++ (qC q3 f4 cf ++ [(q5, .inl (cf 40, 8, .inr (.inr (.inr (.inr (fun _ => none)))))), (q6, .inl (cf 0, 24, .inl (fun _ => 0)))])))) H locs := by rw [ap_set] at E; exact E
  refine lv_aload_n C.1 C.2.1 dX4_init_43 rfl (lv_at hl 0 rfl) ?_
  refine e_new C E (t := 0) (fs := [.int 0, .int 0, .int 0, .int 0, .int 0, .int 0, .int 0]) rfl uw_X1 tyX1 tyX1_ok cl_X4_35 ins_X1 ini_X1 (by decide) (Nat.le_of_ble_eq_true rfl) (Nat.le_of_ble_eq_true rfl) dX4_init_44 (fun q7 H E => ?_)
  have E : El D (tyl cf) B s (wr ++ ([(a0, .inr (2, [.ref q1, .ref q3, .ref q5, .ref q6, .null, .null, .null, .null, .int 0, .int 0, .int 0, .int 0, .int 0, .int 0, .int 0, .int 0, .int 0]))] ++ (dC q1 f2 cf ++ (qC q3 f4 cf ++ [(q5, .inl (cf 40, 8, .inr (.inr (.inr (.inr (fun _ => none)))))), (q6, .inl (cf 0, 24, .inl (fun _ => 0))), (q7, .inr (0, [.int 0, .int 0, .int 0, .int 0, .int 0, .int 0, .int 0]))])))) H locs := by rw [List.append_assoc] at E; exact E
  refine lv_dup C.1 C.2.1 dX4_init_47 rfl ?_
  have E : El D (tyl cf) B s ((wr ++ ([(a0, .inr (2, [.ref q1, .ref q3, .ref q5, .ref q6, .null, .null, .null, .null, .int 0, .int 0, .int 0, .int 0, .int 0, .int 0, .int 0, .int 0, .int 0]))] ++ (dC q1 f2 cf ++ (qC q3 f4 cf ++ [(q5, .inl (cf 40, 8, .inr (.inr (.inr (.inr (fun _ => none)))))), (q6, .inl (cf 0, 24, .inl (fun _ => 0)))])))) ++ [(q7, .inr (0, [.int 0, .int 0, .int 0, .int 0, .int 0, .int 0, .int 0]))]) H locs := by rw [List.append_assoc]; exact E
  refine e_callN (n := 0) C E (ce_X1_init l D cf B (wr ++ ([(a0, .inr (2, [.ref q1, .ref q3, .ref q5, .ref q6, .null, .null, .null, .null, .int 0, .int 0, .int 0, .int 0, .int 0, .int 0, .int 0, .int 0, .int 0]))] ++ (dC q1 f2 cf ++ (qC q3 f4 cf ++ [(q5, .inl (cf 40, 8, .inr (.inr (.inr (.inr (fun _ => none)))))), (q6, .inl (cf 0, 24, .inl (fun _ => 0)))])))) q7) mi_X4_37 im_X1_init ini_X1 cd_X1_init rfl (by decide) ⟨(Nat.le_of_ble_eq_true rfl), (Nat.le_of_ble_eq_true rfl)⟩ rfl hl.1 rfl (Nat.le_of_ble_eq_true rfl) dX4_init_48 ⟨(Nat.le_of_ble_eq_true rfl), (Nat.le_of_ble_eq_true rfl)⟩ (fun v w H locs hp E9 => ?_)
  obtain ⟨rfl, e9⟩ := hp
  have E : El D (tyl cf) B s (wr ++ ([(a0, .inr (2, [.ref q1, .ref q3, .ref q5, .ref q6, .null, .null, .null, .null, .int 0, .int 0, .int 0, .int 0, .int 0, .int 0, .int 0, .int 0, .int 0]))] ++ (dC q1 f2 cf ++ (qC q3 f4 cf ++ ([(q5, .inl (cf 40, 8, .inr (.inr (.inr (.inr (fun _ => none)))))), (q6, .inl (cf 0, 24, .inl (fun _ => 0)))] ++ bC q7 cf))))) H locs := by rw [e9, List.append_assoc] at E9; exact E9
  change W p l e (rmE 4 18 738) s m args below meth c H locs _ _ _ (F0 m 51 ls [.ref q7, .ref a0])
  refine e_putF C E hin (wr.length + 0) (ap_get rfl) rfl uw_X4 tyX4 tyX4_ok nmX4 4 (by decide) fl_X4_38 rfl rfl rfl rfl (Nat.le_of_ble_eq_true rfl) dX4_init_51 (fun H locs E => ?_)
  have E : El D (tyl cf) B s (wr ++ ([(a0, .inr (2, [.ref q1, .ref q3, .ref q5, .ref q6, .ref q7, .null, .null, .null, .int 0, .int 0, .int 0, .int 0, .int 0, .int 0, .int 0, .int 0, .int 0]))] ++ (dC q1 f2 cf ++ (qC q3 f4 cf ++ ([(q5, .inl (cf 40, 8, .inr (.inr (.inr (.inr (fun _ => none)))))), (q6, .inl (cf 0, 24, .inl (fun _ => 0)))] ++ bC q7 cf))))) H locs := by rw [ap_set] at E; exact E
  refine lv_aload_n C.1 C.2.1 dX4_init_54 rfl (lv_at hl 0 rfl) ?_
  refine e_new C E (t := 0) (fs := [.int 0, .int 0, .int 0, .int 0, .int 0, .int 0, .int 0]) rfl uw_X1 tyX1 tyX1_ok cl_X4_35 ins_X1 ini_X1 (by decide) (Nat.le_of_ble_eq_true rfl) (Nat.le_of_ble_eq_true rfl) dX4_init_55 (fun q8 H E => ?_)
  have E : El D (tyl cf) B s (wr ++ ([(a0, .inr (2, [.ref q1, .ref q3, .ref q5, .ref q6, .ref q7, .null, .null, .null, .int 0, .int 0, .int 0, .int 0, .int 0, .int 0, .int 0, .int 0, .int 0]))] ++ (dC q1 f2 cf ++ (qC q3 f4 cf ++ ([(q5, .inl (cf 40, 8, .inr (.inr (.inr (.inr (fun _ => none)))))), (q6, .inl (cf 0, 24, .inl (fun _ => 0)))] ++ (bC q7 cf ++ [(q8, .inr (0, [.int 0, .int 0, .int 0, .int 0, .int 0, .int 0, .int 0]))])))))) H locs := by rw [List.append_assoc] at E; exact E
  refine lv_dup C.1 C.2.1 dX4_init_58 rfl ?_
  have E : El D (tyl cf) B s ((wr ++ ([(a0, .inr (2, [.ref q1, .ref q3, .ref q5, .ref q6, .ref q7, .null, .null, .null, .int 0, .int 0, .int 0, .int 0, .int 0, .int 0, .int 0, .int 0, .int 0]))] ++ (dC q1 f2 cf ++ (qC q3 f4 cf ++ ([(q5, .inl (cf 40, 8, .inr (.inr (.inr (.inr (fun _ => none)))))), (q6, .inl (cf 0, 24, .inl (fun _ => 0)))] ++ bC q7 cf))))) ++ [(q8, .inr (0, [.int 0, .int 0, .int 0, .int 0, .int 0, .int 0, .int 0]))]) H locs := by rw [List.append_assoc]; exact E
  refine e_callN (n := 0) C E (ce_X1_init l D cf B (wr ++ ([(a0, .inr (2, [.ref q1, .ref q3, .ref q5, .ref q6, .ref q7, .null, .null, .null, .int 0, .int 0, .int 0, .int 0, .int 0, .int 0, .int 0, .int 0, .int 0]))] ++ (dC q1 f2 cf ++ (qC q3 f4 cf ++ ([(q5, .inl (cf 40, 8, .inr (.inr (.inr (.inr (fun _ => none)))))), (q6, .inl (cf 0, 24, .inl (fun _ => 0)))] ++ bC q7 cf))))) q8) mi_X4_37 im_X1_init ini_X1 cd_X1_init rfl (by decide) ⟨(Nat.le_of_ble_eq_true rfl), (Nat.le_of_ble_eq_true rfl)⟩ rfl hl.1 rfl (Nat.le_of_ble_eq_true rfl) dX4_init_59 ⟨(Nat.le_of_ble_eq_true rfl), (Nat.le_of_ble_eq_true rfl)⟩ (fun v w H locs hp E9 => ?_)
  obtain ⟨rfl, e9⟩ := hp
  have E : El D (tyl cf) B s (wr ++ ([(a0, .inr (2, [.ref q1, .ref q3, .ref q5, .ref q6, .ref q7, .null, .null, .null, .int 0, .int 0, .int 0, .int 0, .int 0, .int 0, .int 0, .int 0, .int 0]))] ++ (dC q1 f2 cf ++ (qC q3 f4 cf ++ ([(q5, .inl (cf 40, 8, .inr (.inr (.inr (.inr (fun _ => none)))))), (q6, .inl (cf 0, 24, .inl (fun _ => 0)))] ++ (bC q7 cf ++ bC q8 cf)))))) H locs := by rw [e9, List.append_assoc] at E9; exact E9
  change W p l e (rmE 4 18 738) s m args below meth c H locs _ _ _ (F0 m 62 ls [.ref q8, .ref a0])
  refine e_putF C E hin (wr.length + 0) (ap_get rfl) rfl uw_X4 tyX4 tyX4_ok nmX4 5 (by decide) fl_X4_42 rfl rfl rfl rfl (Nat.le_of_ble_eq_true rfl) dX4_init_62 (fun H locs E => ?_)
  have E : El D (tyl cf) B s (wr ++ ([(a0, .inr (2, [.ref q1, .ref q3, .ref q5, .ref q6, .ref q7, .ref q8, .null, .null, .int 0, .int 0, .int 0, .int 0, .int 0, .int 0, .int 0, .int 0, .int 0]))] ++ (dC q1 f2 cf ++ (qC q3 f4 cf ++ ([(q5, .inl (cf 40, 8, .inr (.inr (.inr (.inr (fun _ => none)))))), (q6, .inl (cf 0, 24, .inl (fun _ => 0)))] ++ (bC q7 cf ++ bC q8 cf)))))) H locs := by rw [ap_set] at E; exact E
  refine lv_iconst (v := 0) C.1 C.2.1 dX4_init_65 (by decide) ?_
  refine lv_istore_n (lv' := [(1, .int 0), (0, .ref a0)]) C.1 C.2.1 dX4_init_66 rfl hl (by decide) rfl (fun ls hl => ?_)
  refine lv_iload_n C.1 C.2.1 dX4_init_67 rfl (lv_at hl 0 rfl) ?_
  refine lv_aload_n C.1 C.2.1 dX4_init_68 rfl (lv_at hl 1 rfl) ?_
  refine e_get C E (wr.length + 0) (ap_get rfl) rfl uw_X4 2 (by decide) fl_X4_27 rfl dX4_init_69 ?_
  refine va_alen (D := D) C.1 C.2.1 E.2.1 E.2.2.1 (wr.length + 7) 3 (ap_get rfl) rfl (v := 8) rfl dX4_init_72 ?_
  refine n_icmp_ge C (tgt := 96) (X := 0) (Y := 8) dX4_init_73 (by decide) rfl rfl (fun q => absurd q (by omega)) (fun q => ?_)
  refine lv_aload_n C.1 C.2.1 dX4_init_76 rfl (lv_at hl 1 rfl) ?_
  refine e_get C E (wr.length + 0) (ap_get rfl) rfl uw_X4 2 (by decide) fl_X4_27 rfl dX4_init_77 ?_
  refine lv_iload_n C.1 C.2.1 dX4_init_80 rfl (lv_at hl 0 rfl) ?_
  refine e_new C E (t := 3) (fs := [.int 0, .int 0]) rfl uw_X5 tyX5 tyX5_ok cl_X4_25 ins_X5 ini_X5 (by decide) (Nat.le_of_ble_eq_true rfl) (Nat.le_of_ble_eq_true rfl) dX4_init_81 (fun q9 H E => ?_)
  have E : El D (tyl cf) B s (wr ++ ([(a0, .inr (2, [.ref q1, .ref q3, .ref q5, .ref q6, .ref q7, .ref q8, .null, .null, .int 0, .int 0, .int 0, .int 0, .int 0, .int 0, .int 0, .int 0, .int 0]))] ++ (dC q1 f2 cf ++ (qC q3 f4 cf ++ ([(q5, .inl (cf 40, 8, .inr (.inr (.inr (.inr (fun _ => none)))))), (q6, .inl (cf 0, 24, .inl (fun _ => 0)))] ++ (bC q7 cf ++ (bC q8 cf ++ [(q9, .inr (3, [.int 0, .int 0]))]))))))) H locs := by rw [List.append_assoc] at E; exact E
  refine lv_dup C.1 C.2.1 dX4_init_84 rfl ?_
  refine lv_iload_n C.1 C.2.1 dX4_init_85 rfl (lv_at hl 0 rfl) ?_
  have E : El D (tyl cf) B s ((wr ++ ([(a0, .inr (2, [.ref q1, .ref q3, .ref q5, .ref q6, .ref q7, .ref q8, .null, .null, .int 0, .int 0, .int 0, .int 0, .int 0, .int 0, .int 0, .int 0, .int 0]))] ++ (dC q1 f2 cf ++ (qC q3 f4 cf ++ ([(q5, .inl (cf 40, 8, .inr (.inr (.inr (.inr (fun _ => none)))))), (q6, .inl (cf 0, 24, .inl (fun _ => 0)))] ++ (bC q7 cf ++ bC q8 cf)))))) ++ [(q9, .inr (3, [.int 0, .int 0]))]) H locs := by rw [List.append_assoc]; exact E
  refine e_callI (n := 1) C E (ce_X5_init l D cf B (wr ++ ([(a0, .inr (2, [.ref q1, .ref q3, .ref q5, .ref q6, .ref q7, .ref q8, .null, .null, .int 0, .int 0, .int 0, .int 0, .int 0, .int 0, .int 0, .int 0, .int 0]))] ++ (dC q1 f2 cf ++ (qC q3 f4 cf ++ ([(q5, .inl (cf 40, 8, .inr (.inr (.inr (.inr (fun _ => none)))))), (q6, .inl (cf 0, 24, .inl (fun _ => 0)))] ++ (bC q7 cf ++ bC q8 cf)))))) q9 0) mi_X4_45 im_X5_init ini_X5 cd_X5_init rfl (by decide) ⟨(Nat.le_of_ble_eq_true rfl), (Nat.le_of_ble_eq_true rfl)⟩ rfl hl.1 rfl (Nat.le_of_ble_eq_true rfl) dX4_init_86 ⟨(Nat.le_of_ble_eq_true rfl), (Nat.le_of_ble_eq_true rfl)⟩ (fun v w H locs hp E9 => ?_)
  obtain ⟨rfl, e9⟩ := hp
  have E : El D (tyl cf) B s (wr ++ ([(a0, .inr (2, [.ref q1, .ref q3, .ref q5, .ref q6, .ref q7, .ref q8, .null, .null, .int 0, .int 0, .int 0, .int 0, .int 0, .int 0, .int 0, .int 0, .int 0]))] ++ (dC q1 f2 cf ++ (qC q3 f4 cf ++ ([(q5, .inl (cf 40, 8, .inr (.inr (.inr (.inr (fun _ => none)))))), (q6, .inl (cf 0, 24, .inl (fun _ => 0)))] ++ (bC q7 cf ++ (bC q8 cf ++ lC q9 0 cf))))))) H locs := by rw [e9, List.append_assoc] at E9; exact E9
  change W p l e (rmE 4 18 738) s m args below meth c H locs _ _ _ (F0 m 89 ls [.ref q9, .int 0, .ref q5])
  refine e_aast C E (wr.length + 7) 3 (wr.length + 11) 3 (ap_get rfl) rfl (ap_get rfl) (r := (RX5, TX5, 2)) rfl (i_in (x := 0) (by decide) (by decide)) dX4_init_89 (fun H locs E => ?_)
  have E : El D (tyl cf) B s (wr ++ ([(a0, .inr (2, [.ref q1, .ref q3, .ref q5, .ref q6, .ref q7, .ref q8, .null, .null, .int 0, .int 0, .int 0, .int 0, .int 0, .int 0, .int 0, .int 0, .int 0]))] ++ (dC q1 f2 cf ++ (qC q3 f4 cf ++ ([(q5, .inl (cf 40, 8, .inr (.inr (.inr (.inr (va_up (fun _ => none) 0 (some q9))))))), (q6, .inl (cf 0, 24, .inl (fun _ => 0)))] ++ (bC q7 cf ++ (bC q8 cf ++ lC q9 0 cf))))))) H locs := by rw [ap_set] at E; exact E
  refine n_iinc C (X := 0) (k := 0) (N := 1) (lv' := fun v => [(1, .int v), (0, .ref a0)]) dX4_init_90 hl rfl (by decide) rfl rfl (by omega) (by omega) (fun _ => rfl) (fun v10 ls ev10 hl => ?_)
  obtain rfl : v10 = 1 := Int32.toInt_inj.mp (by rw [ev10]; rfl)
  refine lv_goto (tgt := 67) C.1 C.2.1 dX4_init_93 (by decide) ?_
  refine lv_iload_n C.1 C.2.1 dX4_init_67 rfl (lv_at hl 0 rfl) ?_
  refine lv_aload_n C.1 C.2.1 dX4_init_68 rfl (lv_at hl 1 rfl) ?_
  refine e_get C E (wr.length + 0) (ap_get rfl) rfl uw_X4 2 (by decide) fl_X4_27 rfl dX4_init_69 ?_
  refine va_alen (D := D) C.1 C.2.1 E.2.1 E.2.2.1 (wr.length + 7) 3 (ap_get rfl) rfl (v := 8) rfl dX4_init_72 ?_
  refine n_icmp_ge C (tgt := 96) (X := 1) (Y := 8) dX4_init_73 (by decide) rfl rfl (fun q => absurd q (by omega)) (fun q => ?_)
  refine lv_aload_n C.1 C.2.1 dX4_init_76 rfl (lv_at hl 1 rfl) ?_
  refine e_get C E (wr.length + 0) (ap_get rfl) rfl uw_X4 2 (by decide) fl_X4_27 rfl dX4_init_77 ?_
  refine lv_iload_n C.1 C.2.1 dX4_init_80 rfl (lv_at hl 0 rfl) ?_
  refine e_new C E (t := 3) (fs := [.int 0, .int 0]) rfl uw_X5 tyX5 tyX5_ok cl_X4_25 ins_X5 ini_X5 (by decide) (Nat.le_of_ble_eq_true rfl) (Nat.le_of_ble_eq_true rfl) dX4_init_81 (fun q11 H E => ?_)
  have E : El D (tyl cf) B s (wr ++ ([(a0, .inr (2, [.ref q1, .ref q3, .ref q5, .ref q6, .ref q7, .ref q8, .null, .null, .int 0, .int 0, .int 0, .int 0, .int 0, .int 0, .int 0, .int 0, .int 0]))] ++ (dC q1 f2 cf ++ (qC q3 f4 cf ++ ([(q5, .inl (cf 40, 8, .inr (.inr (.inr (.inr (va_up (fun _ => none) 0 (some q9))))))), (q6, .inl (cf 0, 24, .inl (fun _ => 0)))] ++ (bC q7 cf ++ (bC q8 cf ++ (lC q9 0 cf ++ [(q11, .inr (3, [.int 0, .int 0]))])))))))) H locs := by rw [List.append_assoc] at E; exact E
  refine lv_dup C.1 C.2.1 dX4_init_84 rfl ?_
  refine lv_iload_n C.1 C.2.1 dX4_init_85 rfl (lv_at hl 0 rfl) ?_
  have E : El D (tyl cf) B s ((wr ++ ([(a0, .inr (2, [.ref q1, .ref q3, .ref q5, .ref q6, .ref q7, .ref q8, .null, .null, .int 0, .int 0, .int 0, .int 0, .int 0, .int 0, .int 0, .int 0, .int 0]))] ++ (dC q1 f2 cf ++ (qC q3 f4 cf ++ ([(q5, .inl (cf 40, 8, .inr (.inr (.inr (.inr (va_up (fun _ => none) 0 (some q9))))))), (q6, .inl (cf 0, 24, .inl (fun _ => 0)))] ++ (bC q7 cf ++ (bC q8 cf ++ lC q9 0 cf))))))) ++ [(q11, .inr (3, [.int 0, .int 0]))]) H locs := by rw [List.append_assoc]; exact E
  refine e_callI (n := 1) C E (ce_X5_init l D cf B (wr ++ ([(a0, .inr (2, [.ref q1, .ref q3, .ref q5, .ref q6, .ref q7, .ref q8, .null, .null, .int 0, .int 0, .int 0, .int 0, .int 0, .int 0, .int 0, .int 0, .int 0]))] ++ (dC q1 f2 cf ++ (qC q3 f4 cf ++ ([(q5, .inl (cf 40, 8, .inr (.inr (.inr (.inr (va_up (fun _ => none) 0 (some q9))))))), (q6, .inl (cf 0, 24, .inl (fun _ => 0)))] ++ (bC q7 cf ++ (bC q8 cf ++ lC q9 0 cf))))))) q11 1) mi_X4_45 im_X5_init ini_X5 cd_X5_init rfl (by decide) ⟨(Nat.le_of_ble_eq_true rfl), (Nat.le_of_ble_eq_true rfl)⟩ rfl hl.1 rfl (Nat.le_of_ble_eq_true rfl) dX4_init_86 ⟨(Nat.le_of_ble_eq_true rfl), (Nat.le_of_ble_eq_true rfl)⟩ (fun v w H locs hp E9 => ?_)
  obtain ⟨rfl, e9⟩ := hp
  have E : El D (tyl cf) B s (wr ++ ([(a0, .inr (2, [.ref q1, .ref q3, .ref q5, .ref q6, .ref q7, .ref q8, .null, .null, .int 0, .int 0, .int 0, .int 0, .int 0, .int 0, .int 0, .int 0, .int 0]))] ++ (dC q1 f2 cf ++ (qC q3 f4 cf ++ ([(q5, .inl (cf 40, 8, .inr (.inr (.inr (.inr (va_up (fun _ => none) 0 (some q9))))))), (q6, .inl (cf 0, 24, .inl (fun _ => 0)))] ++ (bC q7 cf ++ (bC q8 cf ++ (lC q9 0 cf ++ lC q11 1 cf)))))))) H locs := by rw [e9, List.append_assoc] at E9; exact E9
  change W p l e (rmE 4 18 738) s m args below meth c H locs _ _ _ (F0 m 89 ls [.ref q11, .int 1, .ref q5])
  refine e_aast C E (wr.length + 7) 3 (wr.length + 12) 3 (ap_get rfl) rfl (ap_get rfl) (r := (RX5, TX5, 2)) rfl (i_in (x := 1) (by decide) (by decide)) dX4_init_89 (fun H locs E => ?_)
  have E : El D (tyl cf) B s (wr ++ ([(a0, .inr (2, [.ref q1, .ref q3, .ref q5, .ref q6, .ref q7, .ref q8, .null, .null, .int 0, .int 0, .int 0, .int 0, .int 0, .int 0, .int 0, .int 0, .int 0]))] ++ (dC q1 f2 cf ++ (qC q3 f4 cf ++ ([(q5, .inl (cf 40, 8, .inr (.inr (.inr (.inr (va_up (va_up (fun _ => none) 0 (some q9)) 1 (some q11))))))), (q6, .inl (cf 0, 24, .inl (fun _ => 0)))] ++ (bC q7 cf ++ (bC q8 cf ++ (lC q9 0 cf ++ lC q11 1 cf)))))))) H locs := by rw [ap_set] at E; exact E
  refine n_iinc C (X := 1) (k := 0) (N := 1) (lv' := fun v => [(1, .int v), (0, .ref a0)]) dX4_init_90 hl rfl (by decide) rfl rfl (by omega) (by omega) (fun _ => rfl) (fun v12 ls ev12 hl => ?_)
  obtain rfl : v12 = 2 := Int32.toInt_inj.mp (by rw [ev12]; rfl)
  refine lv_goto (tgt := 67) C.1 C.2.1 dX4_init_93 (by decide) ?_
  refine lv_iload_n C.1 C.2.1 dX4_init_67 rfl (lv_at hl 0 rfl) ?_
  refine lv_aload_n C.1 C.2.1 dX4_init_68 rfl (lv_at hl 1 rfl) ?_
  refine e_get C E (wr.length + 0) (ap_get rfl) rfl uw_X4 2 (by decide) fl_X4_27 rfl dX4_init_69 ?_
  refine va_alen (D := D) C.1 C.2.1 E.2.1 E.2.2.1 (wr.length + 7) 3 (ap_get rfl) rfl (v := 8) rfl dX4_init_72 ?_
  refine n_icmp_ge C (tgt := 96) (X := 2) (Y := 8) dX4_init_73 (by decide) rfl rfl (fun q => absurd q (by omega)) (fun q => ?_)
  refine lv_aload_n C.1 C.2.1 dX4_init_76 rfl (lv_at hl 1 rfl) ?_
  refine e_get C E (wr.length + 0) (ap_get rfl) rfl uw_X4 2 (by decide) fl_X4_27 rfl dX4_init_77 ?_
  refine lv_iload_n C.1 C.2.1 dX4_init_80 rfl (lv_at hl 0 rfl) ?_
  refine e_new C E (t := 3) (fs := [.int 0, .int 0]) rfl uw_X5 tyX5 tyX5_ok cl_X4_25 ins_X5 ini_X5 (by decide) (Nat.le_of_ble_eq_true rfl) (Nat.le_of_ble_eq_true rfl) dX4_init_81 (fun q13 H E => ?_)
  have E : El D (tyl cf) B s (wr ++ ([(a0, .inr (2, [.ref q1, .ref q3, .ref q5, .ref q6, .ref q7, .ref q8, .null, .null, .int 0, .int 0, .int 0, .int 0, .int 0, .int 0, .int 0, .int 0, .int 0]))] ++ (dC q1 f2 cf ++ (qC q3 f4 cf ++ ([(q5, .inl (cf 40, 8, .inr (.inr (.inr (.inr (va_up (va_up (fun _ => none) 0 (some q9)) 1 (some q11))))))), (q6, .inl (cf 0, 24, .inl (fun _ => 0)))] ++ (bC q7 cf ++ (bC q8 cf ++ (lC q9 0 cf ++ (lC q11 1 cf ++ [(q13, .inr (3, [.int 0, .int 0]))]))))))))) H locs := by rw [List.append_assoc] at E; exact E
  refine lv_dup C.1 C.2.1 dX4_init_84 rfl ?_
  refine lv_iload_n C.1 C.2.1 dX4_init_85 rfl (lv_at hl 0 rfl) ?_
  have E : El D (tyl cf) B s ((wr ++ ([(a0, .inr (2, [.ref q1, .ref q3, .ref q5, .ref q6, .ref q7, .ref q8, .null, .null, .int 0, .int 0, .int 0, .int 0, .int 0, .int 0, .int 0, .int 0, .int 0]))] ++ (dC q1 f2 cf ++ (qC q3 f4 cf ++ ([(q5, .inl (cf 40, 8, .inr (.inr (.inr (.inr (va_up (va_up (fun _ => none) 0 (some q9)) 1 (some q11))))))), (q6, .inl (cf 0, 24, .inl (fun _ => 0)))] ++ (bC q7 cf ++ (bC q8 cf ++ (lC q9 0 cf ++ lC q11 1 cf)))))))) ++ [(q13, .inr (3, [.int 0, .int 0]))]) H locs := by rw [List.append_assoc]; exact E
  refine e_callI (n := 1) C E (ce_X5_init l D cf B (wr ++ ([(a0, .inr (2, [.ref q1, .ref q3, .ref q5, .ref q6, .ref q7, .ref q8, .null, .null, .int 0, .int 0, .int 0, .int 0, .int 0, .int 0, .int 0, .int 0, .int 0]))] ++ (dC q1 f2 cf ++ (qC q3 f4 cf ++ ([(q5, .inl (cf 40, 8, .inr (.inr (.inr (.inr (va_up (va_up (fun _ => none) 0 (some q9)) 1 (some q11))))))), (q6, .inl (cf 0, 24, .inl (fun _ => 0)))] ++ (bC q7 cf ++ (bC q8 cf ++ (lC q9 0 cf ++ lC q11 1 cf)))))))) q13 2) mi_X4_45 im_X5_init ini_X5 cd_X5_init rfl (by decide) ⟨(Nat.le_of_ble_eq_true rfl), (Nat.le_of_ble_eq_true rfl)⟩ rfl hl.1 rfl (Nat.le_of_ble_eq_true rfl) dX4_init_86 ⟨(Nat.le_of_ble_eq_true rfl), (Nat.le_of_ble_eq_true rfl)⟩ (fun v w H locs hp E9 => ?_)
  obtain ⟨rfl, e9⟩ := hp
  have E : El D (tyl cf) B s (wr ++ ([(a0, .inr (2, [.ref q1, .ref q3, .ref q5, .ref q6, .ref q7, .ref q8, .null, .null, .int 0, .int 0, .int 0, .int 0, .int 0, .int 0, .int 0, .int 0, .int 0]))] ++ (dC q1 f2 cf ++ (qC q3 f4 cf ++ ([(q5, .inl (cf 40, 8, .inr (.inr (.inr (.inr (va_up (va_up (fun _ => none) 0 (some q9)) 1 (some q11))))))), (q6, .inl (cf 0, 24, .inl (fun _ => 0)))] ++ (bC q7 cf ++ (bC q8 cf ++ (lC q9 0 cf ++ (lC q11 1 cf ++ lC q13 2 cf))))))))) H locs := by rw [e9, List.append_assoc] at E9; exact E9
  change W p l e (rmE 4 18 738) s m args below meth c H locs _ _ _ (F0 m 89 ls [.ref q13, .int 2, .ref q5])
  refine e_aast C E (wr.length + 7) 3 (wr.length + 13) 3 (ap_get rfl) rfl (ap_get rfl) (r := (RX5, TX5, 2)) rfl (i_in (x := 2) (by decide) (by decide)) dX4_init_89 (fun H locs E => ?_)
  have E : El D (tyl cf) B s (wr ++ ([(a0, .inr (2, [.ref q1, .ref q3, .ref q5, .ref q6, .ref q7, .ref q8, .null, .null, .int 0, .int 0, .int 0, .int 0, .int 0, .int 0, .int 0, .int 0, .int 0]))] ++ (dC q1 f2 cf ++ (qC q3 f4 cf ++ ([(q5, .inl (cf 40, 8, .inr (.inr (.inr (.inr (va_up (va_up (va_up (fun _ => none) 0 (some q9)) 1 (some q11)) 2 (some q13))))))), (q6, .inl (cf 0, 24, .inl (fun _ => 0)))] ++ (bC q7 cf ++ (bC q8 cf ++ (lC q9 0 cf ++ (lC q11 1 cf ++ lC q13 2 cf))))))))) H locs := by rw [ap_set] at E; exact E
  refine n_iinc C (X := 2) (k := 0) (N := 1) (lv' := fun v => [(1, .int v), (0, .ref a0)]) dX4_init_90 hl rfl (by decide) rfl rfl (by omega) (by omega) (fun _ => rfl) (fun v14 ls ev14 hl => ?_)
  obtain rfl : v14 = 3 := Int32.toInt_inj.mp (by rw [ev14]; rfl)
  refine lv_goto (tgt := 67) C.1 C.2.1 dX4_init_93 (by decide) ?_
  refine lv_iload_n C.1 C.2.1 dX4_init_67 rfl (lv_at hl 0 rfl) ?_
  refine lv_aload_n C.1 C.2.1 dX4_init_68 rfl (lv_at hl 1 rfl) ?_
  refine e_get C E (wr.length + 0) (ap_get rfl) rfl uw_X4 2 (by decide) fl_X4_27 rfl dX4_init_69 ?_
  refine va_alen (D := D) C.1 C.2.1 E.2.1 E.2.2.1 (wr.length + 7) 3 (ap_get rfl) rfl (v := 8) rfl dX4_init_72 ?_
  refine n_icmp_ge C (tgt := 96) (X := 3) (Y := 8) dX4_init_73 (by decide) rfl rfl (fun q => absurd q (by omega)) (fun q => ?_)
  refine lv_aload_n C.1 C.2.1 dX4_init_76 rfl (lv_at hl 1 rfl) ?_
  refine e_get C E (wr.length + 0) (ap_get rfl) rfl uw_X4 2 (by decide) fl_X4_27 rfl dX4_init_77 ?_
  refine lv_iload_n C.1 C.2.1 dX4_init_80 rfl (lv_at hl 0 rfl) ?_
  refine e_new C E (t := 3) (fs := [.int 0, .int 0]) rfl uw_X5 tyX5 tyX5_ok cl_X4_25 ins_X5 ini_X5 (by decide) (Nat.le_of_ble_eq_true rfl) (Nat.le_of_ble_eq_true rfl) dX4_init_81 (fun q15 H E => ?_)
  have E : El D (tyl cf) B s (wr ++ ([(a0, .inr (2, [.ref q1, .ref q3, .ref q5, .ref q6, .ref q7, .ref q8, .null, .null, .int 0, .int 0, .int 0, .int 0, .int 0, .int 0, .int 0, .int 0, .int 0]))] ++ (dC q1 f2 cf ++ (qC q3 f4 cf ++ ([(q5, .inl (cf 40, 8, .inr (.inr (.inr (.inr (va_up (va_up (va_up (fun _ => none) 0 (some q9)) 1 (some q11)) 2 (some q13))))))), (q6, .inl (cf 0, 24, .inl (fun _ => 0)))] ++ (bC q7 cf ++ (bC q8 cf ++ (lC q9 0 cf ++ (lC q11 1 cf ++ (lC q13 2 cf ++ [(q15, .inr (3, [.int 0, .int 0]))])))))))))) H locs := by rw [List.append_assoc] at E; exact E
  refine lv_dup C.1 C.2.1 dX4_init_84 rfl ?_
  refine lv_iload_n C.1 C.2.1 dX4_init_85 rfl (lv_at hl 0 rfl) ?_
  have E : El D (tyl cf) B s ((wr ++ ([(a0, .inr (2, [.ref q1, .ref q3, .ref q5, .ref q6, .ref q7, .ref q8, .null, .null, .int 0, .int 0, .int 0, .int 0, .int 0, .int 0, .int 0, .int 0, .int 0]))] ++ (dC q1 f2 cf ++ (qC q3 f4 cf ++ ([(q5, .inl (cf 40, 8, .inr (.inr (.inr (.inr (va_up (va_up (va_up (fun _ => none) 0 (some q9)) 1 (some q11)) 2 (some q13))))))), (q6, .inl (cf 0, 24, .inl (fun _ => 0)))] ++ (bC q7 cf ++ (bC q8 cf ++ (lC q9 0 cf ++ (lC q11 1 cf ++ lC q13 2 cf))))))))) ++ [(q15, .inr (3, [.int 0, .int 0]))]) H locs := by rw [List.append_assoc]; exact E
  refine e_callI (n := 1) C E (ce_X5_init l D cf B (wr ++ ([(a0, .inr (2, [.ref q1, .ref q3, .ref q5, .ref q6, .ref q7, .ref q8, .null, .null, .int 0, .int 0, .int 0, .int 0, .int 0, .int 0, .int 0, .int 0, .int 0]))] ++ (dC q1 f2 cf ++ (qC q3 f4 cf ++ ([(q5, .inl (cf 40, 8, .inr (.inr (.inr (.inr (va_up (va_up (va_up (fun _ => none) 0 (some q9)) 1 (some q11)) 2 (some q13))))))), (q6, .inl (cf 0, 24, .inl (fun _ => 0)))] ++ (bC q7 cf ++ (bC q8 cf ++ (lC q9 0 cf ++ (lC q11 1 cf ++ lC q13 2 cf))))))))) q15 3) mi_X4_45 im_X5_init ini_X5 cd_X5_init rfl (by decide) ⟨(Nat.le_of_ble_eq_true rfl), (Nat.le_of_ble_eq_true rfl)⟩ rfl hl.1 rfl (Nat.le_of_ble_eq_true rfl) dX4_init_86 ⟨(Nat.le_of_ble_eq_true rfl), (Nat.le_of_ble_eq_true rfl)⟩ (fun v w H locs hp E9 => ?_)
  obtain ⟨rfl, e9⟩ := hp
  have E : El D (tyl cf) B s (wr ++ ([(a0, .inr (2, [.ref q1, .ref q3, .ref q5, .ref q6, .ref q7, .ref q8, .null, .null, .int 0, .int 0, .int 0, .int 0, .int 0, .int 0, .int 0, .int 0, .int 0]))] ++ (dC q1 f2 cf ++ (qC q3 f4 cf ++ ([(q5, .inl (cf 40, 8, .inr (.inr (.inr (.inr (va_up (va_up (va_up (fun _ => none) 0 (some q9)) 1 (some q11)) 2 (some q13))))))), (q6, .inl (cf 0, 24, .inl (fun _ => 0)))] ++ (bC q7 cf ++ (bC q8 cf ++ (lC q9 0 cf ++ (lC q11 1 cf ++ (lC q13 2 cf ++ lC q15 3 cf)))))))))) H locs := by rw [e9, List.append_assoc] at E9; exact E9
  change W p l e (rmE 4 18 738) s m args below meth c H locs _ _ _ (F0 m 89 ls [.ref q15, .int 3, .ref q5])
  refine e_aast C E (wr.length + 7) 3 (wr.length + 14) 3 (ap_get rfl) rfl (ap_get rfl) (r := (RX5, TX5, 2)) rfl (i_in (x := 3) (by decide) (by decide)) dX4_init_89 (fun H locs E => ?_)
  have E : El D (tyl cf) B s (wr ++ ([(a0, .inr (2, [.ref q1, .ref q3, .ref q5, .ref q6, .ref q7, .ref q8, .null, .null, .int 0, .int 0, .int 0, .int 0, .int 0, .int 0, .int 0, .int 0, .int 0]))] ++ (dC q1 f2 cf ++ (qC q3 f4 cf ++ ([(q5, .inl (cf 40, 8, .inr (.inr (.inr (.inr (va_up (va_up (va_up (va_up (fun _ => none) 0 (some q9)) 1 (some q11)) 2 (some q13)) 3 (some q15))))))), (q6, .inl (cf 0, 24, .inl (fun _ => 0)))] ++ (bC q7 cf ++ (bC q8 cf ++ (lC q9 0 cf ++ (lC q11 1 cf ++ (lC q13 2 cf ++ lC q15 3 cf)))))))))) H locs := by rw [ap_set] at E; exact E
  refine n_iinc C (X := 3) (k := 0) (N := 1) (lv' := fun v => [(1, .int v), (0, .ref a0)]) dX4_init_90 hl rfl (by decide) rfl rfl (by omega) (by omega) (fun _ => rfl) (fun v16 ls ev16 hl => ?_)
  obtain rfl : v16 = 4 := Int32.toInt_inj.mp (by rw [ev16]; rfl)
  refine lv_goto (tgt := 67) C.1 C.2.1 dX4_init_93 (by decide) ?_
  refine lv_iload_n C.1 C.2.1 dX4_init_67 rfl (lv_at hl 0 rfl) ?_
  refine lv_aload_n C.1 C.2.1 dX4_init_68 rfl (lv_at hl 1 rfl) ?_
  refine e_get C E (wr.length + 0) (ap_get rfl) rfl uw_X4 2 (by decide) fl_X4_27 rfl dX4_init_69 ?_
  refine va_alen (D := D) C.1 C.2.1 E.2.1 E.2.2.1 (wr.length + 7) 3 (ap_get rfl) rfl (v := 8) rfl dX4_init_72 ?_
  refine n_icmp_ge C (tgt := 96) (X := 4) (Y := 8) dX4_init_73 (by decide) rfl rfl (fun q => absurd q (by omega)) (fun q => ?_)
  refine lv_aload_n C.1 C.2.1 dX4_init_76 rfl (lv_at hl 1 rfl) ?_
  refine e_get C E (wr.length + 0) (ap_get rfl) rfl uw_X4 2 (by decide) fl_X4_27 rfl dX4_init_77 ?_
  refine lv_iload_n C.1 C.2.1 dX4_init_80 rfl (lv_at hl 0 rfl) ?_
  refine e_new C E (t := 3) (fs := [.int 0, .int 0]) rfl uw_X5 tyX5 tyX5_ok cl_X4_25 ins_X5 ini_X5 (by decide) (Nat.le_of_ble_eq_true rfl) (Nat.le_of_ble_eq_true rfl) dX4_init_81 (fun q17 H E => ?_)
  have E : El D (tyl cf) B s (wr ++ ([(a0, .inr (2, [.ref q1, .ref q3, .ref q5, .ref q6, .ref q7, .ref q8, .null, .null, .int 0, .int 0, .int 0, .int 0, .int 0, .int 0, .int 0, .int 0, .int 0]))] ++ (dC q1 f2 cf ++ (qC q3 f4 cf ++ ([(q5, .inl (cf 40, 8, .inr (.inr (.inr (.inr (va_up (va_up (va_up (va_up (fun _ => none) 0 (some q9)) 1 (some q11)) 2 (some q13)) 3 (some q15))))))), (q6, .inl (cf 0, 24, .inl (fun _ => 0)))] ++ (bC q7 cf ++ (bC q8 cf ++ (lC q9 0 cf ++ (lC q11 1 cf ++ (lC q13 2 cf ++ (lC q15 3 cf ++ [(q17, .inr (3, [.int 0, .int 0]))]))))))))))) H locs := by rw [List.append_assoc] at E; exact E
  refine lv_dup C.1 C.2.1 dX4_init_84 rfl ?_
  refine lv_iload_n C.1 C.2.1 dX4_init_85 rfl (lv_at hl 0 rfl) ?_
  have E : El D (tyl cf) B s ((wr ++ ([(a0, .inr (2, [.ref q1, .ref q3, .ref q5, .ref q6, .ref q7, .ref q8, .null, .null, .int 0, .int 0, .int 0, .int 0, .int 0, .int 0, .int 0, .int 0, .int 0]))] ++ (dC q1 f2 cf ++ (qC q3 f4 cf ++ ([(q5, .inl (cf 40, 8, .inr (.inr (.inr (.inr (va_up (va_up (va_up (va_up (fun _ => none) 0 (some q9)) 1 (some q11)) 2 (some q13)) 3 (some q15))))))), (q6, .inl (cf 0, 24, .inl (fun _ => 0)))] ++ (bC q7 cf ++ (bC q8 cf ++ (lC q9 0 cf ++ (lC q11 1 cf ++ (lC q13 2 cf ++ lC q15 3 cf)))))))))) ++ [(q17, .inr (3, [.int 0, .int 0]))]) H locs := by rw [List.append_assoc]; exact E
  refine e_callI (n := 1) C E (ce_X5_init l D cf B (wr ++ ([(a0, .inr (2, [.ref q1, .ref q3, .ref q5, .ref q6, .ref q7, .ref q8, .null, .null, .int 0, .int 0, .int 0, .int 0, .int 0, .int 0, .int 0, .int 0, .int 0]))] ++ (dC q1 f2 cf ++ (qC q3 f4 cf ++ ([(q5, .inl (cf 40, 8, .inr (.inr (.inr (.inr (va_up (va_up (va_up (va_up (fun _ => none) 0 (some q9)) 1 (some q11)) 2 (some q13)) 3 (some q15))))))), (q6, .inl (cf 0, 24, .inl (fun _ => 0)))] ++ (bC q7 cf ++ (bC q8 cf ++ (lC q9 0 cf ++ (lC q11 1 cf ++ (lC q13 2 cf ++ lC q15 3 cf)))))))))) q17 4) mi_X4_45 im_X5_init ini_X5 cd_X5_init rfl (by decide) ⟨(Nat.le_of_ble_eq_true rfl), (Nat.le_of_ble_eq_true rfl)⟩ rfl hl.1 rfl (Nat.le_of_ble_eq_true rfl) dX4_init_86 ⟨(Nat.le_of_ble_eq_true rfl), (Nat.le_of_ble_eq_true rfl)⟩ (fun v w H locs hp E9 => ?_)
  obtain ⟨rfl, e9⟩ := hp
  have E : El D (tyl cf) B s (wr ++ ([(a0, .inr (2, [.ref q1, .ref q3, .ref q5, .ref q6, .ref q7, .ref q8, .null, .null, .int 0, .int 0, .int 0, .int 0, .int 0, .int 0, .int 0, .int 0, .int 0]))] ++ (dC q1 f2 cf ++ (qC q3 f4 cf ++ ([(q5, .inl (cf 40, 8, .inr (.inr (.inr (.inr (va_up (va_up (va_up (va_up (fun _ => none) 0 (some q9)) 1 (some q11)) 2 (some q13)) 3 (some q15))))))), (q6, .inl (cf 0, 24, .inl (fun _ => 0)))] ++ (bC q7 cf ++ (bC q8 cf ++ (lC q9 0 cf ++ (lC q11 1 cf ++ (lC q13 2 cf ++ (lC q15 3 cf ++ lC q17 4 cf))))))))))) H locs := by rw [e9, List.append_assoc] at E9; exact E9
  change W p l e (rmE 4 18 738) s m args below meth c H locs _ _ _ (F0 m 89 ls [.ref q17, .int 4, .ref q5])
  refine e_aast C E (wr.length + 7) 3 (wr.length + 15) 3 (ap_get rfl) rfl (ap_get rfl) (r := (RX5, TX5, 2)) rfl (i_in (x := 4) (by decide) (by decide)) dX4_init_89 (fun H locs E => ?_)
  have E : El D (tyl cf) B s (wr ++ ([(a0, .inr (2, [.ref q1, .ref q3, .ref q5, .ref q6, .ref q7, .ref q8, .null, .null, .int 0, .int 0, .int 0, .int 0, .int 0, .int 0, .int 0, .int 0, .int 0]))] ++ (dC q1 f2 cf ++ (qC q3 f4 cf ++ ([(q5, .inl (cf 40, 8, .inr (.inr (.inr (.inr (va_up (va_up (va_up (va_up (va_up (fun _ => none) 0 (some q9)) 1 (some q11)) 2 (some q13)) 3 (some q15)) 4 (some q17))))))), (q6, .inl (cf 0, 24, .inl (fun _ => 0)))] ++ (bC q7 cf ++ (bC q8 cf ++ (lC q9 0 cf ++ (lC q11 1 cf ++ (lC q13 2 cf ++ (lC q15 3 cf ++ lC q17 4 cf))))))))))) H locs := by rw [ap_set] at E; exact E
  refine n_iinc C (X := 4) (k := 0) (N := 1) (lv' := fun v => [(1, .int v), (0, .ref a0)]) dX4_init_90 hl rfl (by decide) rfl rfl (by omega) (by omega) (fun _ => rfl) (fun v18 ls ev18 hl => ?_)
  obtain rfl : v18 = 5 := Int32.toInt_inj.mp (by rw [ev18]; rfl)
  refine lv_goto (tgt := 67) C.1 C.2.1 dX4_init_93 (by decide) ?_
  refine lv_iload_n C.1 C.2.1 dX4_init_67 rfl (lv_at hl 0 rfl) ?_
  refine lv_aload_n C.1 C.2.1 dX4_init_68 rfl (lv_at hl 1 rfl) ?_
  refine e_get C E (wr.length + 0) (ap_get rfl) rfl uw_X4 2 (by decide) fl_X4_27 rfl dX4_init_69 ?_
  refine va_alen (D := D) C.1 C.2.1 E.2.1 E.2.2.1 (wr.length + 7) 3 (ap_get rfl) rfl (v := 8) rfl dX4_init_72 ?_
  refine n_icmp_ge C (tgt := 96) (X := 5) (Y := 8) dX4_init_73 (by decide) rfl rfl (fun q => absurd q (by omega)) (fun q => ?_)
  refine lv_aload_n C.1 C.2.1 dX4_init_76 rfl (lv_at hl 1 rfl) ?_
  refine e_get C E (wr.length + 0) (ap_get rfl) rfl uw_X4 2 (by decide) fl_X4_27 rfl dX4_init_77 ?_
  refine lv_iload_n C.1 C.2.1 dX4_init_80 rfl (lv_at hl 0 rfl) ?_
  refine e_new C E (t := 3) (fs := [.int 0, .int 0]) rfl uw_X5 tyX5 tyX5_ok cl_X4_25 ins_X5 ini_X5 (by decide) (Nat.le_of_ble_eq_true rfl) (Nat.le_of_ble_eq_true rfl) dX4_init_81 (fun q19 H E => ?_)
  have E : El D (tyl cf) B s (wr ++ ([(a0, .inr (2, [.ref q1, .ref q3, .ref q5, .ref q6, .ref q7, .ref q8, .null, .null, .int 0, .int 0, .int 0, .int 0, .int 0, .int 0, .int 0, .int 0, .int 0]))] ++ (dC q1 f2 cf ++ (qC q3 f4 cf ++ ([(q5, .inl (cf 40, 8, .inr (.inr (.inr (.inr (va_up (va_up (va_up (va_up (va_up (fun _ => none) 0 (some q9)) 1 (some q11)) 2 (some q13)) 3 (some q15)) 4 (some q17))))))), (q6, .inl (cf 0, 24, .inl (fun _ => 0)))] ++ (bC q7 cf ++ (bC q8 cf ++ (lC q9 0 cf ++ (lC q11 1 cf ++ (lC q13 2 cf ++ (lC q15 3 cf ++ (lC q17 4 cf ++ [(q19, .inr (3, [.int 0, .int 0]))])))))))))))) H locs := by rw [List.append_assoc] at E; exact E
  refine lv_dup C.1 C.2.1 dX4_init_84 rfl ?_
  refine lv_iload_n C.1 C.2.1 dX4_init_85 rfl (lv_at hl 0 rfl) ?_
  have E : El D (tyl cf) B s ((wr ++ ([(a0, .inr (2, [.ref q1, .ref q3, .ref q5, .ref q6, .ref q7, .ref q8, .null, .null, .int 0, .int 0, .int 0, .int 0, .int 0, .int 0, .int 0, .int 0, .int 0]))] ++ (dC q1 f2 cf ++ (qC q3 f4 cf ++ ([(q5, .inl (cf 40, 8, .inr (.inr (.inr (.inr (va_up (va_up (va_up (va_up (va_up (fun _ => none) 0 (some q9)) 1 (some q11)) 2 (some q13)) 3 (some q15)) 4 (some q17))))))), (q6, .inl (cf 0, 24, .inl (fun _ => 0)))] ++ (bC q7 cf ++ (bC q8 cf ++ (lC q9 0 cf ++ (lC q11 1 cf ++ (lC q13 2 cf ++ (lC q15 3 cf ++ lC q17 4 cf))))))))))) ++ [(q19, .inr (3, [.int 0, .int 0]))]) H locs := by rw [List.append_assoc]; exact E
  refine e_callI (n := 1) C E (ce_X5_init l D cf B (wr ++ ([(a0, .inr (2, [.ref q1, .ref q3, .ref q5, .ref q6, .ref q7, .ref q8, .null, .null, .int 0, .int 0, .int 0, .int 0, .int 0, .int 0, .int 0, .int 0, .int 0]))] ++ (dC q1 f2 cf ++ (qC q3 f4 cf ++ ([(q5, .inl (cf 40, 8, .inr (.inr (.inr (.inr (va_up (va_up (va_up (va_up (va_up (fun _ => none) 0 (some q9)) 1 (some q11)) 2 (some q13)) 3 (some q15)) 4 (some q17))))))), (q6, .inl (cf 0, 24, .inl (fun _ => 0)))] ++ (bC q7 cf ++ (bC q8 cf ++ (lC q9 0 cf ++ (lC q11 1 cf ++ (lC q13 2 cf ++ (lC q15 3 cf ++ lC q17 4 cf))))))))))) q19 5) mi_X4_45 im_X5_init ini_X5 cd_X5_init rfl (by decide) ⟨(Nat.le_of_ble_eq_true rfl), (Nat.le_of_ble_eq_true rfl)⟩ rfl hl.1 rfl (Nat.le_of_ble_eq_true rfl) dX4_init_86 ⟨(Nat.le_of_ble_eq_true rfl), (Nat.le_of_ble_eq_true rfl)⟩ (fun v w H locs hp E9 => ?_)
  obtain ⟨rfl, e9⟩ := hp
  have E : El D (tyl cf) B s (wr ++ ([(a0, .inr (2, [.ref q1, .ref q3, .ref q5, .ref q6, .ref q7, .ref q8, .null, .null, .int 0, .int 0, .int 0, .int 0, .int 0, .int 0, .int 0, .int 0, .int 0]))] ++ (dC q1 f2 cf ++ (qC q3 f4 cf ++ ([(q5, .inl (cf 40, 8, .inr (.inr (.inr (.inr (va_up (va_up (va_up (va_up (va_up (fun _ => none) 0 (some q9)) 1 (some q11)) 2 (some q13)) 3 (some q15)) 4 (some q17))))))), (q6, .inl (cf 0, 24, .inl (fun _ => 0)))] ++ (bC q7 cf ++ (bC q8 cf ++ (lC q9 0 cf ++ (lC q11 1 cf ++ (lC q13 2 cf ++ (lC q15 3 cf ++ (lC q17 4 cf ++ lC q19 5 cf)))))))))))) H locs := by rw [e9, List.append_assoc] at E9; exact E9
  change W p l e (rmE 4 18 738) s m args below meth c H locs _ _ _ (F0 m 89 ls [.ref q19, .int 5, .ref q5])
  refine e_aast C E (wr.length + 7) 3 (wr.length + 16) 3 (ap_get rfl) rfl (ap_get rfl) (r := (RX5, TX5, 2)) rfl (i_in (x := 5) (by decide) (by decide)) dX4_init_89 (fun H locs E => ?_)
  have E : El D (tyl cf) B s (wr ++ ([(a0, .inr (2, [.ref q1, .ref q3, .ref q5, .ref q6, .ref q7, .ref q8, .null, .null, .int 0, .int 0, .int 0, .int 0, .int 0, .int 0, .int 0, .int 0, .int 0]))] ++ (dC q1 f2 cf ++ (qC q3 f4 cf ++ ([(q5, .inl (cf 40, 8, .inr (.inr (.inr (.inr (va_up (va_up (va_up (va_up (va_up (va_up (fun _ => none) 0 (some q9)) 1 (some q11)) 2 (some q13)) 3 (some q15)) 4 (some q17)) 5 (some q19))))))), (q6, .inl (cf 0, 24, .inl (fun _ => 0)))] ++ (bC q7 cf ++ (bC q8 cf ++ (lC q9 0 cf ++ (lC q11 1 cf ++ (lC q13 2 cf ++ (lC q15 3 cf ++ (lC q17 4 cf ++ lC q19 5 cf)))))))))))) H locs := by rw [ap_set] at E; exact E
  refine n_iinc C (X := 5) (k := 0) (N := 1) (lv' := fun v => [(1, .int v), (0, .ref a0)]) dX4_init_90 hl rfl (by decide) rfl rfl (by omega) (by omega) (fun _ => rfl) (fun v20 ls ev20 hl => ?_)
  obtain rfl : v20 = 6 := Int32.toInt_inj.mp (by rw [ev20]; rfl)
  refine lv_goto (tgt := 67) C.1 C.2.1 dX4_init_93 (by decide) ?_
  refine lv_iload_n C.1 C.2.1 dX4_init_67 rfl (lv_at hl 0 rfl) ?_
  refine lv_aload_n C.1 C.2.1 dX4_init_68 rfl (lv_at hl 1 rfl) ?_
  refine e_get C E (wr.length + 0) (ap_get rfl) rfl uw_X4 2 (by decide) fl_X4_27 rfl dX4_init_69 ?_
  refine va_alen (D := D) C.1 C.2.1 E.2.1 E.2.2.1 (wr.length + 7) 3 (ap_get rfl) rfl (v := 8) rfl dX4_init_72 ?_
  refine n_icmp_ge C (tgt := 96) (X := 6) (Y := 8) dX4_init_73 (by decide) rfl rfl (fun q => absurd q (by omega)) (fun q => ?_)
  refine lv_aload_n C.1 C.2.1 dX4_init_76 rfl (lv_at hl 1 rfl) ?_
  refine e_get C E (wr.length + 0) (ap_get rfl) rfl uw_X4 2 (by decide) fl_X4_27 rfl dX4_init_77 ?_
  refine lv_iload_n C.1 C.2.1 dX4_init_80 rfl (lv_at hl 0 rfl) ?_
  refine e_new C E (t := 3) (fs := [.int 0, .int 0]) rfl uw_X5 tyX5 tyX5_ok cl_X4_25 ins_X5 ini_X5 (by decide) (Nat.le_of_ble_eq_true rfl) (Nat.le_of_ble_eq_true rfl) dX4_init_81 (fun q21 H E => ?_)
  have E : El D (tyl cf) B s (wr ++ ([(a0, .inr (2, [.ref q1, .ref q3, .ref q5, .ref q6, .ref q7, .ref q8, .null, .null, .int 0, .int 0, .int 0, .int 0, .int 0, .int 0, .int 0, .int 0, .int 0]))] ++ (dC q1 f2 cf ++ (qC q3 f4 cf ++ ([(q5, .inl (cf 40, 8, .inr (.inr (.inr (.inr (va_up (va_up (va_up (va_up (va_up (va_up (fun _ => none) 0 (some q9)) 1 (some q11)) 2 (some q13)) 3 (some q15)) 4 (some q17)) 5 (some q19))))))), (q6, .inl (cf 0, 24, .inl (fun _ => 0)))] ++ (bC q7 cf ++ (bC q8 cf ++ (lC q9 0 cf ++ (lC q11 1 cf ++ (lC q13 2 cf ++ (lC q15 3 cf ++ (lC q17 4 cf ++ (lC q19 5 cf ++ [(q21, .inr (3, [.int 0, .int 0]))]))))))))))))) H locs := by rw [List.append_assoc] at E; exact E
  refine lv_dup C.1 C.2.1 dX4_init_84 rfl ?_
  refine lv_iload_n C.1 C.2.1 dX4_init_85 rfl (lv_at hl 0 rfl) ?_
  have E : El D (tyl cf) B s ((wr ++ ([(a0, .inr (2, [.ref q1, .ref q3, .ref q5, .ref q6, .ref q7, .ref q8, .null, .null, .int 0, .int 0, .int 0, .int 0, .int 0, .int 0, .int 0, .int 0, .int 0]))] ++ (dC q1 f2 cf ++ (qC q3 f4 cf ++ ([(q5, .inl (cf 40, 8, .inr (.inr (.inr (.inr (va_up (va_up (va_up (va_up (va_up (va_up (fun _ => none) 0 (some q9)) 1 (some q11)) 2 (some q13)) 3 (some q15)) 4 (some q17)) 5 (some q19))))))), (q6, .inl (cf 0, 24, .inl (fun _ => 0)))] ++ (bC q7 cf ++ (bC q8 cf ++ (lC q9 0 cf ++ (lC q11 1 cf ++ (lC q13 2 cf ++ (lC q15 3 cf ++ (lC q17 4 cf ++ lC q19 5 cf)))))))))))) ++ [(q21, .inr (3, [.int 0, .int 0]))]) H locs := by rw [List.append_assoc]; exact E
  refine e_callI (n := 1) C E (ce_X5_init l D cf B (wr ++ ([(a0, .inr (2, [.ref q1, .ref q3, .ref q5, .ref q6, .ref q7, .ref q8, .null, .null, .int 0, .int 0, .int 0, .int 0, .int 0, .int 0, .int 0, .int 0, .int 0]))] ++ (dC q1 f2 cf ++ (qC q3 f4 cf ++ ([(q5, .inl (cf 40, 8, .inr (.inr (.inr (.inr (va_up (va_up (va_up (va_up (va_up (va_up (fun _ => none) 0 (some q9)) 1 (some q11)) 2 (some q13)) 3 (some q15)) 4 (some q17)) 5 (some q19))))))), (q6, .inl (cf 0, 24, .inl (fun _ => 0)))] ++ (bC q7 cf ++ (bC q8 cf ++ (lC q9 0 cf ++ (lC q11 1 cf ++ (lC q13 2 cf ++ (lC q15 3 cf ++ (lC q17 4 cf ++ lC q19 5 cf)))))))))))) q21 6) mi_X4_45 im_X5_init ini_X5 cd_X5_init rfl (by decide) ⟨(Nat.le_of_ble_eq_true rfl), (Nat.le_of_ble_eq_true rfl)⟩ rfl hl.1 rfl (Nat.le_of_ble_eq_true rfl) dX4_init_86 ⟨(Nat.le_of_ble_eq_true rfl), (Nat.le_of_ble_eq_true rfl)⟩ (fun v w H locs hp E9 => ?_)
  obtain ⟨rfl, e9⟩ := hp
  have E : El D (tyl cf) B s (wr ++ ([(a0, .inr (2, [.ref q1, .ref q3, .ref q5, .ref q6, .ref q7, .ref q8, .null, .null, .int 0, .int 0, .int 0, .int 0, .int 0, .int 0, .int 0, .int 0, .int 0]))] ++ (dC q1 f2 cf ++ (qC q3 f4 cf ++ ([(q5, .inl (cf 40, 8, .inr (.inr (.inr (.inr (va_up (va_up (va_up (va_up (va_up (va_up (fun _ => none) 0 (some q9)) 1 (some q11)) 2 (some q13)) 3 (some q15)) 4 (some q17)) 5 (some q19))))))), (q6, .inl (cf 0, 24, .inl (fun _ => 0)))] ++ (bC q7 cf ++ (bC q8 cf ++ (lC q9 0 cf ++ (lC q11 1 cf ++ (lC q13 2 cf ++ (lC q15 3 cf ++ (lC q17 4 cf ++ (lC q19 5 cf ++ lC q21 6 cf))))))))))))) H locs := by rw [e9, List.append_assoc] at E9; exact E9
  change W p l e (rmE 4 18 738) s m args below meth c H locs _ _ _ (F0 m 89 ls [.ref q21, .int 6, .ref q5])
  refine e_aast C E (wr.length + 7) 3 (wr.length + 17) 3 (ap_get rfl) rfl (ap_get rfl) (r := (RX5, TX5, 2)) rfl (i_in (x := 6) (by decide) (by decide)) dX4_init_89 (fun H locs E => ?_)
  have E : El D (tyl cf) B s (wr ++ ([(a0, .inr (2, [.ref q1, .ref q3, .ref q5, .ref q6, .ref q7, .ref q8, .null, .null, .int 0, .int 0, .int 0, .int 0, .int 0, .int 0, .int 0, .int 0, .int 0]))] ++ (dC q1 f2 cf ++ (qC q3 f4 cf ++ ([(q5, .inl (cf 40, 8, .inr (.inr (.inr (.inr (va_up (va_up (va_up (va_up (va_up (va_up (va_up (fun _ => none) 0 (some q9)) 1 (some q11)) 2 (some q13)) 3 (some q15)) 4 (some q17)) 5 (some q19)) 6 (some q21))))))), (q6, .inl (cf 0, 24, .inl (fun _ => 0)))] ++ (bC q7 cf ++ (bC q8 cf ++ (lC q9 0 cf ++ (lC q11 1 cf ++ (lC q13 2 cf ++ (lC q15 3 cf ++ (lC q17 4 cf ++ (lC q19 5 cf ++ lC q21 6 cf))))))))))))) H locs := by rw [ap_set] at E; exact E
  refine n_iinc C (X := 6) (k := 0) (N := 1) (lv' := fun v => [(1, .int v), (0, .ref a0)]) dX4_init_90 hl rfl (by decide) rfl rfl (by omega) (by omega) (fun _ => rfl) (fun v22 ls ev22 hl => ?_)
  obtain rfl : v22 = 7 := Int32.toInt_inj.mp (by rw [ev22]; rfl)
  refine lv_goto (tgt := 67) C.1 C.2.1 dX4_init_93 (by decide) ?_
  refine lv_iload_n C.1 C.2.1 dX4_init_67 rfl (lv_at hl 0 rfl) ?_
  refine lv_aload_n C.1 C.2.1 dX4_init_68 rfl (lv_at hl 1 rfl) ?_
  refine e_get C E (wr.length + 0) (ap_get rfl) rfl uw_X4 2 (by decide) fl_X4_27 rfl dX4_init_69 ?_
  refine va_alen (D := D) C.1 C.2.1 E.2.1 E.2.2.1 (wr.length + 7) 3 (ap_get rfl) rfl (v := 8) rfl dX4_init_72 ?_
  refine n_icmp_ge C (tgt := 96) (X := 7) (Y := 8) dX4_init_73 (by decide) rfl rfl (fun q => absurd q (by omega)) (fun q => ?_)
  refine lv_aload_n C.1 C.2.1 dX4_init_76 rfl (lv_at hl 1 rfl) ?_
  refine e_get C E (wr.length + 0) (ap_get rfl) rfl uw_X4 2 (by decide) fl_X4_27 rfl dX4_init_77 ?_
  refine lv_iload_n C.1 C.2.1 dX4_init_80 rfl (lv_at hl 0 rfl) ?_
  refine e_new C E (t := 3) (fs := [.int 0, .int 0]) rfl uw_X5 tyX5 tyX5_ok cl_X4_25 ins_X5 ini_X5 (by decide) (Nat.le_of_ble_eq_true rfl) (Nat.le_of_ble_eq_true rfl) dX4_init_81 (fun q23 H E => ?_)
  have E : El D (tyl cf) B s (wr ++ ([(a0, .inr (2, [.ref q1, .ref q3, .ref q5, .ref q6, .ref q7, .ref q8, .null, .null, .int 0, .int 0, .int 0, .int 0, .int 0, .int 0, .int 0, .int 0, .int 0]))] ++ (dC q1 f2 cf ++ (qC q3 f4 cf ++ ([(q5, .inl (cf 40, 8, .inr (.inr (.inr (.inr (va_up (va_up (va_up (va_up (va_up (va_up (va_up (fun _ => none) 0 (some q9)) 1 (some q11)) 2 (some q13)) 3 (some q15)) 4 (some q17)) 5 (some q19)) 6 (some q21))))))), (q6, .inl (cf 0, 24, .inl (fun _ => 0)))] ++ (bC q7 cf ++ (bC q8 cf ++ (lC q9 0 cf ++ (lC q11 1 cf ++ (lC q13 2 cf ++ (lC q15 3 cf ++ (lC q17 4 cf ++ (lC q19 5 cf ++ (lC q21 6 cf ++ [(q23, .inr (3, [.int 0, .int 0]))])))))))))))))) H locs := by rw [List.append_assoc] at E; exact E
  refine lv_dup C.1 C.2.1 dX4_init_84 rfl ?_
  refine lv_iload_n C.1 C.2.1 dX4_init_85 rfl (lv_at hl 0 rfl) ?_
  have E : El D (tyl cf) B s ((wr ++ ([(a0, .inr (2, [.ref q1, .ref q3, .ref q5, .ref q6, .ref q7, .ref q8, .null, .null, .int 0, .int 0, .int 0, .int 0, .int 0, .int 0, .int 0, .int 0, .int 0]))] ++ (dC q1 f2 cf ++ (qC q3 f4 cf ++ ([(q5, .inl (cf 40, 8, .inr (.inr (.inr (.inr (va_up (va_up (va_up (va_up (va_up (va_up (va_up (fun _ => none) 0 (some q9)) 1 (some q11)) 2 (some q13)) 3 (some q15)) 4 (some q17)) 5 (some q19)) 6 (some q21))))))), (q6, .inl (cf 0, 24, .inl (fun _ => 0)))] ++ (bC q7 cf ++ (bC q8 cf ++ (lC q9 0 cf ++ (lC q11 1 cf ++ (lC q13 2 cf ++ (lC q15 3 cf ++ (lC q17 4 cf ++ (lC q19 5 cf ++ lC q21 6 cf))))))))))))) ++ [(q23, .inr (3, [.int 0, .int 0]))]) H locs := by rw [List.append_assoc]; exact E
  refine e_callI (n := 1) C E (ce_X5_init l D cf B (wr ++ ([(a0, .inr (2, [.ref q1, .ref q3, .ref q5, .ref q6, .ref q7, .ref q8, .null, .null, .int 0, .int 0, .int 0, .int 0, .int 0, .int 0, .int 0, .int 0, .int 0]))] ++ (dC q1 f2 cf ++ (qC q3 f4 cf ++ ([(q5, .inl (cf 40, 8, .inr (.inr (.inr (.inr (va_up (va_up (va_up (va_up (va_up (va_up (va_up (fun _ => none) 0 (some q9)) 1 (some q11)) 2 (some q13)) 3 (some q15)) 4 (some q17)) 5 (some q19)) 6 (some q21))))))), (q6, .inl (cf 0, 24, .inl (fun _ => 0)))] ++ (bC q7 cf ++ (bC q8 cf ++ (lC q9 0 cf ++ (lC q11 1 cf ++ (lC q13 2 cf ++ (lC q15 3 cf ++ (lC q17 4 cf ++ (lC q19 5 cf ++ lC q21 6 cf))))))))))))) q23 7) mi_X4_45 im_X5_init ini_X5 cd_X5_init rfl (by decide) ⟨(Nat.le_of_ble_eq_true rfl), (Nat.le_of_ble_eq_true rfl)⟩ rfl hl.1 rfl (Nat.le_of_ble_eq_true rfl) dX4_init_86 ⟨(Nat.le_of_ble_eq_true rfl), (Nat.le_of_ble_eq_true rfl)⟩ (fun v w H locs hp E9 => ?_)
  obtain ⟨rfl, e9⟩ := hp
  have E : El D (tyl cf) B s (wr ++ ([(a0, .inr (2, [.ref q1, .ref q3, .ref q5, .ref q6, .ref q7, .ref q8, .null, .null, .int 0, .int 0, .int 0, .int 0, .int 0, .int 0, .int 0, .int 0, .int 0]))] ++ (dC q1 f2 cf ++ (qC q3 f4 cf ++ ([(q5, .inl (cf 40, 8, .inr (.inr (.inr (.inr (va_up (va_up (va_up (va_up (va_up (va_up (va_up (fun _ => none) 0 (some q9)) 1 (some q11)) 2 (some q13)) 3 (some q15)) 4 (some q17)) 5 (some q19)) 6 (some q21))))))), (q6, .inl (cf 0, 24, .inl (fun _ => 0)))] ++ (bC q7 cf ++ (bC q8 cf ++ (lC q9 0 cf ++ (lC q11 1 cf ++ (lC q13 2 cf ++ (lC q15 3 cf ++ (lC q17 4 cf ++ (lC q19 5 cf ++ (lC q21 6 cf ++ lC q23 7 cf)))))))))))))) H locs := by rw [e9, List.append_assoc] at E9; exact E9
  change W p l e (rmE 4 18 738) s m args below meth c H locs _ _ _ (F0 m 89 ls [.ref q23, .int 7, .ref q5])
  refine e_aast C E (wr.length + 7) 3 (wr.length + 18) 3 (ap_get rfl) rfl (ap_get rfl) (r := (RX5, TX5, 2)) rfl (i_in (x := 7) (by decide) (by decide)) dX4_init_89 (fun H locs E => ?_)
  have E : El D (tyl cf) B s (wr ++ ([(a0, .inr (2, [.ref q1, .ref q3, .ref q5, .ref q6, .ref q7, .ref q8, .null, .null, .int 0, .int 0, .int 0, .int 0, .int 0, .int 0, .int 0, .int 0, .int 0]))] ++ (dC q1 f2 cf ++ (qC q3 f4 cf ++ ([(q5, .inl (cf 40, 8, .inr (.inr (.inr (.inr (va_up (va_up (va_up (va_up (va_up (va_up (va_up (va_up (fun _ => none) 0 (some q9)) 1 (some q11)) 2 (some q13)) 3 (some q15)) 4 (some q17)) 5 (some q19)) 6 (some q21)) 7 (some q23))))))), (q6, .inl (cf 0, 24, .inl (fun _ => 0)))] ++ (bC q7 cf ++ (bC q8 cf ++ (lC q9 0 cf ++ (lC q11 1 cf ++ (lC q13 2 cf ++ (lC q15 3 cf ++ (lC q17 4 cf ++ (lC q19 5 cf ++ (lC q21 6 cf ++ lC q23 7 cf)))))))))))))) H locs := by rw [ap_set] at E; exact E
  refine n_iinc C (X := 7) (k := 0) (N := 1) (lv' := fun v => [(1, .int v), (0, .ref a0)]) dX4_init_90 hl rfl (by decide) rfl rfl (by omega) (by omega) (fun _ => rfl) (fun v24 ls ev24 hl => ?_)
  obtain rfl : v24 = 8 := Int32.toInt_inj.mp (by rw [ev24]; rfl)
  refine lv_goto (tgt := 67) C.1 C.2.1 dX4_init_93 (by decide) ?_
  refine lv_iload_n C.1 C.2.1 dX4_init_67 rfl (lv_at hl 0 rfl) ?_
  refine lv_aload_n C.1 C.2.1 dX4_init_68 rfl (lv_at hl 1 rfl) ?_
  refine e_get C E (wr.length + 0) (ap_get rfl) rfl uw_X4 2 (by decide) fl_X4_27 rfl dX4_init_69 ?_
  refine va_alen (D := D) C.1 C.2.1 E.2.1 E.2.2.1 (wr.length + 7) 3 (ap_get rfl) rfl (v := 8) rfl dX4_init_72 ?_
  refine n_icmp_ge C (tgt := 96) (X := 8) (Y := 8) dX4_init_73 (by decide) rfl rfl (fun q => ?_) (fun q => absurd q (by omega))
  refine lv_aload_n C.1 C.2.1 dX4_init_96 rfl (lv_at hl 1 rfl) ?_
  refine lv_iconst (v := 4) C.1 C.2.1 dX4_init_97 (by decide) ?_
  refine lv_bipush (v := 12) C.1 C.2.1 dX4_init_98 (by decide) ?_
  refine e_callV (n := 2) C E (k0 := wr.length + 0) (ap_get rfl) rfl (ce_X4_begin l D cf B wr a0 (fun i => [q1, (f2 0), (f2 1), (f2 2), q3, (f4 0), q5, q6, q7, q8, q9, q11, q13, q15, q17, q19, q21, q23].getD i 0)) ml_X4_48 im_X4_begin se_X4_begin ini_X4 cd_X4_begin (by decide) ⟨(Nat.le_of_ble_eq_true rfl), (Nat.le_of_ble_eq_true rfl)⟩ rfl hl.1 rfl (Nat.le_of_ble_eq_true rfl) dX4_init_100 ⟨(Nat.le_of_ble_eq_true rfl), (Nat.le_of_ble_eq_true rfl)⟩ (fun v w H locs hp E9 => ?_)
  obtain ⟨rfl, e9⟩ := hp
  rw [e9] at E9
  have E : El D (tyl cf) B s (wr ++ (hCells a0 (fun i => [q1, (f2 0), (f2 1), (f2 2), q3, (f4 0), q5, q6, q7, q8, q9, q11, q13, q15, q17, q19, q21, q23].getD i 0) cf)) H locs := E9
  change W p l e (rmE 4 18 738) s m args below meth c H locs _ _ _ (F0 m 103 ls [])
  exact e_vret C E hr hlk (Nat.le_of_ble_eq_true rfl) (Nat.le_of_ble_eq_true rfl) ⟨rfl, _, rfl⟩ dX4_init_103

set_option maxHeartbeats 4000000 in
set_option maxRecDepth 100000 in
theorem ce_X10_init (l : Launch) (D : va_G) (cf : Nat → ClassId) (B : Nat) (wr : va_W) (a0 : Nat) : CtE l yX10_init cX10_init 2 (Option.none : Option Jvm.ClassFile.FieldType) 5 90 5100 D (tyl cf) B [.ref a0] (wr ++ ([(a0, .inr (8, [.null, .null, .null, .null, .null, .null, .null, .null]))])) (fun v w => v = none ∧ ∃ (h : Nat → Nat) (fh : Nat → Nat → Nat), w = wr ++ xCells a0 h fh cf) := by
  refine e_start (by decide) (Nat.le_of_ble_eq_true rfl) ?_
  intro p e s m args below meth c C hr hlk hin E ls hl
  have hl : lv_has ls 2 [(0, .ref a0)] := hl
  have C : CallFix p m c cX10_init 2 s args TB RX10 := C
  refine lv_aload_n C.1 C.2.1 dX10_init_0 rfl (lv_at hl 0 rfl) ?_
  refine e_obj C mo_X10_1 im_obj cd_obj hl.1 dX10_init_1 (Nat.le_of_ble_eq_true rfl) ?_
  refine lv_aload_n C.1 C.2.1 dX10_init_4 rfl (lv_at hl 0 rfl) ?_
  refine e_new C E (t := 2) (fs := [.null, .null, .null, .null, .null, .null, .null, .null, .int 0, .int 0, .int 0, .int 0, .int 0, .int 0, .int 0, .int 0, .int 0]) rfl uw_X4 tyX4 tyX4_ok cl_X10_7 ins_X4 ini_X4 (by decide) (Nat.le_of_ble_eq_true rfl) (Nat.le_of_ble_eq_true rfl) dX10_init_5 (fun q1 H E => ?_)
  have E : El D (tyl cf) B s (wr ++ ([(a0, .inr (8, [.null, .null, .null, .null, .null, .null, .null, .null])), (q1, .inr (2, [.null, .null, .null, .null, .null, .null, .null, .null, .int 0, .int 0, .int 0, .int 0, .int 0, .int 0, .int 0, .int 0, .int 0]))])) H [] := by rw [List.append_assoc] at E; exact E
  refine lv_dup C.1 C.2.1 dX10_init_8 rfl ?_
  have E : El D (tyl cf) B s ((wr ++ ([(a0, .inr (8, [.null, .null, .null, .null, .null, .null, .null, .null]))])) ++ [(q1, .inr (2, [.null, .null, .null, .null, .null, .null, .null, .null, .int 0, .int 0, .int 0, .int 0, .int 0, .int 0, .int 0, .int 0, .int 0]))]) H [] := by rw [List.append_assoc]; exact E
  refine e_callI (n := 0) C E (ce_X4_init l D cf B (wr ++ ([(a0, .inr (8, [.null, .null, .null, .null, .null, .null, .null, .null]))])) q1) mi_X10_9 im_X4_init ini_X4 cd_X4_init rfl (by decide) ⟨(Nat.le_of_ble_eq_true rfl), (Nat.le_of_ble_eq_true rfl)⟩ rfl hl.1 rfl (Nat.le_of_ble_eq_true rfl) dX10_init_9 ⟨(Nat.le_of_ble_eq_true rfl), (Nat.le_of_ble_eq_true rfl)⟩ (fun v w H locs hp E9 => ?_)
  obtain ⟨rfl, f2, e9⟩ := hp
  have E : El D (tyl cf) B s (wr ++ ([(a0, .inr (8, [.null, .null, .null, .null, .null, .null, .null, .null]))] ++ hCells q1 f2 cf)) H locs := by rw [e9, List.append_assoc] at E9; exact E9
  change W p l e (rmE 5 90 5100) s m args below meth c H locs _ _ _ (F0 m 12 ls [.ref q1, .ref a0])
  refine e_putF C E hin (wr.length + 0) (ap_get rfl) rfl uw_X10 tyX10 tyX10_ok nmX10 0 (by decide) fl_X10_10 rfl rfl rfl rfl (Nat.le_of_ble_eq_true rfl) dX10_init_12 (fun H locs E => ?_)
  have E : El D (tyl cf) B s (wr ++ ([(a0, .inr (8, [.ref q1, .null, .null, .null, .null, .null, .null, .null]))] ++ hCells q1 f2 cf)) H locs := by rw [ap_set] at E; exact E
  refine lv_aload_n C.1 C.2.1 dX10_init_15 rfl (lv_at hl 0 rfl) ?_
  refine e_new C E (t := 2) (fs := [.null, .null, .null, .null, .null, .null, .null, .null, .int 0, .int 0, .int 0, .int 0, .int 0, .int 0, .int 0, .int 0, .int 0]) rfl uw_X4 tyX4 tyX4_ok cl_X10_7 ins_X4 ini_X4 (by decide) (Nat.le_of_ble_eq_true rfl) (Nat.le_of_ble_eq_true rfl) dX10_init_16 (fun q3 H E => ?_)
  have E : El D (tyl cf) B s (wr ++ ([(a0, .inr (8, [.ref q1, .null, .null, .null, .null, .null, .null, .null]))] ++ (hCells q1 f2 cf ++ [(q3, .inr (2, [.null, .null, .null, .null, .null, .null, .null, .null, .int 0, .int 0, .int 0, .int 0, .int 0, .int 0, .int 0, .int 0, .int 0]))]))) H locs := by rw [List.append_assoc] at E; exact E
  refine lv_dup C.1 C.2.1 dX10_init_19 rfl ?_
  have E : El D (tyl cf) B s ((wr ++ ([(a0, .inr (8, [.ref q1, .null, .null, .null, .null, .null, .null, .null]))] ++ hCells q1 f2 cf)) ++ [(q3, .inr (2, [.null, .null, .null, .null, .null, .null, .null, .null, .int 0, .int 0, .int 0, .int 0, .int 0, .int 0, .int 0, .int 0, .int 0]))]) H locs := by rw [List.append_assoc]; exact E
  refine e_callI (n := 0) C E (ce_X4_init l D cf B (wr ++ ([(a0, .inr (8, [.ref q1, .null, .null, .null, .null, .null, .null, .null]))] ++ hCells q1 f2 cf)) q3) mi_X10_9 im_X4_init ini_X4 cd_X4_init rfl (by decide) ⟨(Nat.le_of_ble_eq_true rfl), (Nat.le_of_ble_eq_true rfl)⟩ rfl hl.1 rfl (Nat.le_of_ble_eq_true rfl) dX10_init_20 ⟨(Nat.le_of_ble_eq_true rfl), (Nat.le_of_ble_eq_true rfl)⟩ (fun v w H locs hp E9 => ?_)
  obtain ⟨rfl, f4, e9⟩ := hp
  have E : El D (tyl cf) B s (wr ++ ([(a0, .inr (8, [.ref q1, .null, .null, .null, .null, .null, .null, .null]))] ++ (hCells q1 f2 cf ++ hCells q3 f4 cf))) H locs := by rw [e9, List.append_assoc] at E9; exact E9
  change W p l e (rmE 5 90 5100) s m args below meth c H locs _ _ _ (F0 m 23 ls [.ref q3, .ref a0])
  refine e_putF C E hin (wr.length + 0) (ap_get rfl) rfl uw_X10 tyX10 tyX10_ok nmX10 1 (by decide) fl_X10_16 rfl rfl rfl rfl (Nat.le_of_ble_eq_true rfl) dX10_init_23 (fun H locs E => ?_)
  have E : El D (tyl cf) B s (wr ++ ([(a0, .inr (8, [.ref q1, .ref q3, .null, .null, .null, .null, .null, .null]))] ++ (hCells q1 f2 cf ++ hCells q3 f4 cf))) H locs := by rw [ap_set] at E; exact E
  refine lv_aload_n C.1 C.2.1 dX10_init_26 rfl (lv_at hl 0 rfl) ?_
  refine lv_iconst (v := 2) C.1 C.2.1 dX10_init_27 (by decide) ?_
  refine e_newq C E cl_X10_7 E.1.2.2.2.1 4 rfl (n := 2) (N' := 2) (by decide) rfl (Nat.le_of_ble_eq_true rfl) (Nat.le_of_ble_eq_true rfl) (Nat.le_of_ble_eq_true rfl) dX10_init_28 (fun q5 H E => ?_)
  have E : El D (tyl cf) B s (wr ++ ([(a0, .inr (8, [.ref q1, .ref q3, .null, .null, .null, .null, .null, .null]))] ++ (hCells q1 f2 cf ++ (hCells q3 f4 cf ++ [(q5, .inl (cf 41, 2, .inr (.inr (.inr (.inr (fun _ => none))))))])))) H locs := by rw [List.append_assoc] at E; exact E
  refine e_putF C E hin (wr.length + 0) (ap_get rfl) rfl uw_X10 tyX10 tyX10_ok nmX10 2 (by decide) fl_X10_19 rfl rfl rfl rfl (Nat.le_of_ble_eq_true rfl) dX10_init_31 (fun H locs E => ?_)
  have E : El D (tyl cf) B s (wr ++ ([(a0, .inr (8, [.ref q1, .ref q3, .ref q5, .null, .null, .null, .null, .null]))] ++ (hCells q1 f2 cf ++ (hCells q3 f4 cf ++ [(q5, .inl (cf 41, 2, .inr (.inr (.inr (.inr (fun _ => none))))))])))) H locs := by rw [ap_set] at E; exact E
  refine lv_aload_n C.1 C.2.1 dX10_init_34 rfl (lv_at hl 0 rfl) ?_
  refine lv_iconst (v := 2) C.1 C.2.1 dX10_init_35 (by decide) ?_
  refine e_newa C E (atype := .boolean) ac_boolean 2 rfl (n := 2) (N' := 2) (fun _ => rfl) (by decide) rfl (Nat.le_of_ble_eq_true rfl) (Nat.le_of_ble_eq_true rfl) (Nat.le_of_ble_eq_true rfl) dX10_init_36 (fun q6 H E => ?_)
  have E : El D (tyl cf) B s (wr ++ ([(a0, .inr (8, [.ref q1, .ref q3, .ref q5, .null, .null, .null, .null, .null]))] ++ (hCells q1 f2 cf ++ (hCells q3 f4 cf ++ [(q5, .inl (cf 41, 2, .inr (.inr (.inr (.inr (fun _ => none)))))), (q6, .inl (cf 2, 2, .inl (fun _ => 0)))])))) H locs := by rw [List.append_assoc] at E; exact E
  refine e_putF C E hin (wr.length + 0) (ap_get rfl) rfl uw_X10 tyX10 tyX10_ok nmX10 3 (by decide) fl_X10_23 rfl rfl rfl rfl (Nat.le_of_ble_eq_true rfl) dX10_init_38 (fun H locs E => ?_)
  have E : El D (tyl cf) B s (wr ++ ([(a0, .inr (8, [.ref q1, .ref q3, .ref q5, .ref q6, .null, .null, .null, .null]))] ++ (hCells q1 f2 cf ++ (hCells q3 f4 cf ++ [(q5, .inl (cf 41, 2, .inr (.inr (.inr (.inr (fun _ => none)))))), (q6, .inl (cf 2, 2, .inl (fun _ => 0)))])))) H locs := by rw [ap_set] at E; exact E
  refine lv_aload_n C.1 C.2.1 dX10_init_41 rfl (lv_at hl 0 rfl) ?_
  refine e_new C E (t := 6) (fs := [.null, .int 0, .int 0]) rfl uw_X8 tyX8 tyX8_ok cl_X10_27 ins_X8 ini_X8 (by decide) (Nat.le_of_ble_eq_true rfl) (Nat.le_of_ble_eq_true rfl) dX10_init_42 (fun q7 H E => ?_)
  have E : El D (tyl cf) B s (wr ++ ([(a0, .inr (8, [.ref q1, .ref q3, .ref q5, .ref q6, .null, .null, .null, .null]))] ++ (hCells q1 f2 cf ++ (hCells q3 f4 cf ++ [(q5, .inl (cf 41, 2, .inr (.inr (.inr (.inr (fun _ => none)))))), (q6, .inl (cf 2, 2, .inl (fun _ => 0))), (q7, .inr (6, [.null, .int 0, .int 0]))])))) H locs := by rw [List.append_assoc] at E; exact E
  refine lv_dup C.1 C.2.1 dX10_init_45 rfl ?_
  have E : El D (tyl cf) B s ((wr ++ ([(a0, .inr (8, [.ref q1, .ref q3, .ref q5, .ref q6, .null, .null, .null, .null]))] ++ (hCells q1 f2 cf ++ (hCells q3 f4 cf ++ [(q5, .inl (cf 41, 2, .inr (.inr (.inr (.inr (fun _ => none)))))), (q6, .inl (cf 2, 2, .inl (fun _ => 0)))])))) ++ [(q7, .inr (6, [.null, .int 0, .int 0]))]) H locs := by rw [List.append_assoc]; exact E
  refine e_callN (n := 0) C E (ce_X8_init l D cf B (wr ++ ([(a0, .inr (8, [.ref q1, .ref q3, .ref q5, .ref q6, .null, .null, .null, .null]))] ++ (hCells q1 f2 cf ++ (hCells q3 f4 cf ++ [(q5, .inl (cf 41, 2, .inr (.inr (.inr (.inr (fun _ => none)))))), (q6, .inl (cf 2, 2, .inl (fun _ => 0)))])))) q7) mi_X10_29 im_X8_init ini_X8 cd_X8_init rfl (by decide) ⟨(Nat.le_of_ble_eq_true rfl), (Nat.le_of_ble_eq_true rfl)⟩ rfl hl.1 rfl (Nat.le_of_ble_eq_true rfl) dX10_init_46 ⟨(Nat.le_of_ble_eq_true rfl), (Nat.le_of_ble_eq_true rfl)⟩ (fun v w H locs hp E9 => ?_)
  obtain ⟨rfl, f8, e9⟩ := hp
  have E : El D (tyl cf) B s (wr ++ ([(a0, .inr (8, [.ref q1, .ref q3, .ref q5, .ref q6, .null, .null, .null, .null]))] ++ (hCells q1 f2 cf ++ (hCells q3 f4 cf ++ ([(q5, .inl (cf 41, 2, .inr (.inr (.inr (.inr (fun _ => none)))))), (q6, .inl (cf 2, 2, .inl (fun _ => 0)))] ++ vC q7 f8 cf))))) H locs := by rw [e9, List.append_assoc] at E9; exact E9
  change W p l e (rmE 5 90 5100) s m args below meth c H locs _ _ _ (F0 m 49 ls [.ref q7, .ref a0])
  refine e_putF C E hin (wr.length + 0) (ap_get rfl) rfl uw_X10 tyX10 tyX10_ok nmX10 4 (by decide) fl_X10_30 rfl rfl rfl rfl (Nat.le_of_ble_eq_true rfl) dX10_init_49 (fun H locs E => ?_)
  have E : El D (tyl cf) B s (wr ++ ([(a0, .inr (8, [.ref q1, .ref q3, .ref q5, .ref q6, .ref q7, .null, .null, .null]))] ++ (hCells q1 f2 cf ++ (hCells q3 f4 cf ++ ([(q5, .inl (cf 41, 2, .inr (.inr (.inr (.inr (fun _ => none)))))), (q6, .inl (cf 2, 2, .inl (fun _ => 0)))] ++ vC q7 f8 cf))))) H locs := by rw [ap_set] at E; exact E
  refine lv_aload_n C.1 C.2.1 dX10_init_52 rfl (lv_at hl 0 rfl) ?_
  refine e_new C E (t := 6) (fs := [.null, .int 0, .int 0]) rfl uw_X8 tyX8 tyX8_ok cl_X10_27 ins_X8 ini_X8 (by decide) (Nat.le_of_ble_eq_true rfl) (Nat.le_of_ble_eq_true rfl) dX10_init_53 (fun q9 H E => ?_)
  have E : El D (tyl cf) B s (wr ++ ([(a0, .inr (8, [.ref q1, .ref q3, .ref q5, .ref q6, .ref q7, .null, .null, .null]))] ++ (hCells q1 f2 cf ++ (hCells q3 f4 cf ++ ([(q5, .inl (cf 41, 2, .inr (.inr (.inr (.inr (fun _ => none)))))), (q6, .inl (cf 2, 2, .inl (fun _ => 0)))] ++ (vC q7 f8 cf ++ [(q9, .inr (6, [.null, .int 0, .int 0]))])))))) H locs := by rw [List.append_assoc] at E; exact E
  refine lv_dup C.1 C.2.1 dX10_init_56 rfl ?_
  have E : El D (tyl cf) B s ((wr ++ ([(a0, .inr (8, [.ref q1, .ref q3, .ref q5, .ref q6, .ref q7, .null, .null, .null]))] ++ (hCells q1 f2 cf ++ (hCells q3 f4 cf ++ ([(q5, .inl (cf 41, 2, .inr (.inr (.inr (.inr (fun _ => none)))))), (q6, .inl (cf 2, 2, .inl (fun _ => 0)))] ++ vC q7 f8 cf))))) ++ [(q9, .inr (6, [.null, .int 0, .int 0]))]) H locs := by rw [List.append_assoc]; exact E
  refine e_callN (n := 0) C E (ce_X8_init l D cf B (wr ++ ([(a0, .inr (8, [.ref q1, .ref q3, .ref q5, .ref q6, .ref q7, .null, .null, .null]))] ++ (hCells q1 f2 cf ++ (hCells q3 f4 cf ++ ([(q5, .inl (cf 41, 2, .inr (.inr (.inr (.inr (fun _ => none)))))), (q6, .inl (cf 2, 2, .inl (fun _ => 0)))] ++ vC q7 f8 cf))))) q9) mi_X10_29 im_X8_init ini_X8 cd_X8_init rfl (by decide) ⟨(Nat.le_of_ble_eq_true rfl), (Nat.le_of_ble_eq_true rfl)⟩ rfl hl.1 rfl (Nat.le_of_ble_eq_true rfl) dX10_init_57 ⟨(Nat.le_of_ble_eq_true rfl), (Nat.le_of_ble_eq_true rfl)⟩ (fun v w H locs hp E9 => ?_)
  obtain ⟨rfl, f10, e9⟩ := hp
  have E : El D (tyl cf) B s (wr ++ ([(a0, .inr (8, [.ref q1, .ref q3, .ref q5, .ref q6, .ref q7, .null, .null, .null]))] ++ (hCells q1 f2 cf ++ (hCells q3 f4 cf ++ ([(q5, .inl (cf 41, 2, .inr (.inr (.inr (.inr (fun _ => none)))))), (q6, .inl (cf 2, 2, .inl (fun _ => 0)))] ++ (vC q7 f8 cf ++ vC q9 f10 cf)))))) H locs := by rw [e9, List.append_assoc] at E9; exact E9
  change W p l e (rmE 5 90 5100) s m args below meth c H locs _ _ _ (F0 m 60 ls [.ref q9, .ref a0])
  refine e_putF C E hin (wr.length + 0) (ap_get rfl) rfl uw_X10 tyX10 tyX10_ok nmX10 5 (by decide) fl_X10_34 rfl rfl rfl rfl (Nat.le_of_ble_eq_true rfl) dX10_init_60 (fun H locs E => ?_)
  have E : El D (tyl cf) B s (wr ++ ([(a0, .inr (8, [.ref q1, .ref q3, .ref q5, .ref q6, .ref q7, .ref q9, .null, .null]))] ++ (hCells q1 f2 cf ++ (hCells q3 f4 cf ++ ([(q5, .inl (cf 41, 2, .inr (.inr (.inr (.inr (fun _ => none)))))), (q6, .inl (cf 2, 2, .inl (fun _ => 0)))] ++ (vC q7 f8 cf ++ vC q9 f10 cf)))))) H locs := by rw [ap_set] at E; exact E
  refine lv_aload_n C.1 C.2.1 dX10_init_63 rfl (lv_at hl 0 rfl) ?_
  refine e_new C E (t := 7) (fs := [.null, .int 0]) rfl uw_X9 tyX9 tyX9_ok cl_X10_37 ins_X9 ini_X9 (by decide) (Nat.le_of_ble_eq_true rfl) (Nat.le_of_ble_eq_true rfl) dX10_init_64 (fun q11 H E => ?_)
  have E : El D (tyl cf) B s (wr ++ ([(a0, .inr (8, [.ref q1, .ref q3, .ref q5, .ref q6, .ref q7, .ref q9, .null, .null]))] ++ (hCells q1 f2 cf ++ (hCells q3 f4 cf ++ ([(q5, .inl (cf 41, 2, .inr (.inr (.inr (.inr (fun _ => none)))))), (q6, .inl (cf 2, 2, .inl (fun _ => 0)))] ++ (vC q7 f8 cf ++ (vC q9 f10 cf ++ [(q11, .inr (7, [.null, .int 0]))]))))))) H locs := by rw [List.append_assoc] at E; exact E
  refine lv_dup C.1 C.2.1 dX10_init_67 rfl ?_
  have E : El D (tyl cf) B s ((wr ++ ([(a0, .inr (8, [.ref q1, .ref q3, .ref q5, .ref q6, .ref q7, .ref q9, .null, .null]))] ++ (hCells q1 f2 cf ++ (hCells q3 f4 cf ++ ([(q5, .inl (cf 41, 2, .inr (.inr (.inr (.inr (fun _ => none)))))), (q6, .inl (cf 2, 2, .inl (fun _ => 0)))] ++ (vC q7 f8 cf ++ vC q9 f10 cf)))))) ++ [(q11, .inr (7, [.null, .int 0]))]) H locs := by rw [List.append_assoc]; exact E
  refine e_callN (n := 0) C E (ce_X9_init l D cf B (wr ++ ([(a0, .inr (8, [.ref q1, .ref q3, .ref q5, .ref q6, .ref q7, .ref q9, .null, .null]))] ++ (hCells q1 f2 cf ++ (hCells q3 f4 cf ++ ([(q5, .inl (cf 41, 2, .inr (.inr (.inr (.inr (fun _ => none)))))), (q6, .inl (cf 2, 2, .inl (fun _ => 0)))] ++ (vC q7 f8 cf ++ vC q9 f10 cf)))))) q11) mi_X10_39 im_X9_init ini_X9 cd_X9_init rfl (by decide) ⟨(Nat.le_of_ble_eq_true rfl), (Nat.le_of_ble_eq_true rfl)⟩ rfl hl.1 rfl (Nat.le_of_ble_eq_true rfl) dX10_init_68 ⟨(Nat.le_of_ble_eq_true rfl), (Nat.le_of_ble_eq_true rfl)⟩ (fun v w H locs hp E9 => ?_)
  obtain ⟨rfl, f12, e9⟩ := hp
  have E : El D (tyl cf) B s (wr ++ ([(a0, .inr (8, [.ref q1, .ref q3, .ref q5, .ref q6, .ref q7, .ref q9, .null, .null]))] ++ (hCells q1 f2 cf ++ (hCells q3 f4 cf ++ ([(q5, .inl (cf 41, 2, .inr (.inr (.inr (.inr (fun _ => none)))))), (q6, .inl (cf 2, 2, .inl (fun _ => 0)))] ++ (vC q7 f8 cf ++ (vC q9 f10 cf ++ tC q11 f12 cf))))))) H locs := by rw [e9, List.append_assoc] at E9; exact E9
  change W p l e (rmE 5 90 5100) s m args below meth c H locs _ _ _ (F0 m 71 ls [.ref q11, .ref a0])
  refine e_putF C E hin (wr.length + 0) (ap_get rfl) rfl uw_X10 tyX10 tyX10_ok nmX10 6 (by decide) fl_X10_40 rfl rfl rfl rfl (Nat.le_of_ble_eq_true rfl) dX10_init_71 (fun H locs E => ?_)
  have E : El D (tyl cf) B s (wr ++ ([(a0, .inr (8, [.ref q1, .ref q3, .ref q5, .ref q6, .ref q7, .ref q9, .ref q11, .null]))] ++ (hCells q1 f2 cf ++ (hCells q3 f4 cf ++ ([(q5, .inl (cf 41, 2, .inr (.inr (.inr (.inr (fun _ => none)))))), (q6, .inl (cf 2, 2, .inl (fun _ => 0)))] ++ (vC q7 f8 cf ++ (vC q9 f10 cf ++ tC q11 f12 cf))))))) H locs := by rw [ap_set] at E; exact E
  refine lv_aload_n C.1 C.2.1 dX10_init_74 rfl (lv_at hl 0 rfl) ?_
  refine e_new C E (t := 5) (fs := [.null, .null, .null, .null, .null, .int 0, .int 0, .int 0, .int 0, .int 0]) rfl uw_X7 tyX7 tyX7_ok cl_X10_44 ins_X7 ini_X7 (by decide) (Nat.le_of_ble_eq_true rfl) (Nat.le_of_ble_eq_true rfl) dX10_init_75 (fun q13 H E => ?_)
  have E : El D (tyl cf) B s (wr ++ ([(a0, .inr (8, [.ref q1, .ref q3, .ref q5, .ref q6, .ref q7, .ref q9, .ref q11, .null]))] ++ (hCells q1 f2 cf ++ (hCells q3 f4 cf ++ ([(q5, .inl (cf 41, 2, .inr (.inr (.inr (.inr (fun _ => none)))))), (q6, .inl (cf 2, 2, .inl (fun _ => 0)))] ++ (vC q7 f8 cf ++ (vC q9 f10 cf ++ (tC q11 f12 cf ++ [(q13, .inr (5, [.null, .null, .null, .null, .null, .int 0, .int 0, .int 0, .int 0, .int 0]))])))))))) H locs := by rw [List.append_assoc] at E; exact E
  refine lv_dup C.1 C.2.1 dX10_init_78 rfl ?_
  have E : El D (tyl cf) B s ((wr ++ ([(a0, .inr (8, [.ref q1, .ref q3, .ref q5, .ref q6, .ref q7, .ref q9, .ref q11, .null]))] ++ (hCells q1 f2 cf ++ (hCells q3 f4 cf ++ ([(q5, .inl (cf 41, 2, .inr (.inr (.inr (.inr (fun _ => none)))))), (q6, .inl (cf 2, 2, .inl (fun _ => 0)))] ++ (vC q7 f8 cf ++ (vC q9 f10 cf ++ tC q11 f12 cf))))))) ++ [(q13, .inr (5, [.null, .null, .null, .null, .null, .int 0, .int 0, .int 0, .int 0, .int 0]))]) H locs := by rw [List.append_assoc]; exact E
  refine e_callN (n := 0) C E (ce_X7_init l D cf B (wr ++ ([(a0, .inr (8, [.ref q1, .ref q3, .ref q5, .ref q6, .ref q7, .ref q9, .ref q11, .null]))] ++ (hCells q1 f2 cf ++ (hCells q3 f4 cf ++ ([(q5, .inl (cf 41, 2, .inr (.inr (.inr (.inr (fun _ => none)))))), (q6, .inl (cf 2, 2, .inl (fun _ => 0)))] ++ (vC q7 f8 cf ++ (vC q9 f10 cf ++ tC q11 f12 cf))))))) q13) mi_X10_46 im_X7_init ini_X7 cd_X7_init rfl (by decide) ⟨(Nat.le_of_ble_eq_true rfl), (Nat.le_of_ble_eq_true rfl)⟩ rfl hl.1 rfl (Nat.le_of_ble_eq_true rfl) dX10_init_79 ⟨(Nat.le_of_ble_eq_true rfl), (Nat.le_of_ble_eq_true rfl)⟩ (fun v w H locs hp E9 => ?_)
  obtain ⟨rfl, f14, e9⟩ := hp
  have E : El D (tyl cf) B s (wr ++ ([(a0, .inr (8, [.ref q1, .ref q3, .ref q5, .ref q6, .ref q7, .ref q9, .ref q11, .null]))] ++ (hCells q1 f2 cf ++ (hCells q3 f4 cf ++ ([(q5, .inl (cf 41, 2, .inr (.inr (.inr (.inr (fun _ => none)))))), (q6, .inl (cf 2, 2, .inl (fun _ => 0)))] ++ (vC q7 f8 cf ++ (vC q9 f10 cf ++ (tC q11 f12 cf ++ sC q13 f14 cf)))))))) H locs := by rw [e9, List.append_assoc] at E9; exact E9
  change W p l e (rmE 5 90 5100) s m args below meth c H locs _ _ _ (F0 m 82 ls [.ref q13, .ref a0])
  refine e_putF C E hin (wr.length + 0) (ap_get rfl) rfl uw_X10 tyX10 tyX10_ok nmX10 7 (by decide) fl_X10_47 rfl rfl rfl rfl (Nat.le_of_ble_eq_true rfl) dX10_init_82 (fun H locs E => ?_)
  have E : El D (tyl cf) B s (wr ++ ([(a0, .inr (8, [.ref q1, .ref q3, .ref q5, .ref q6, .ref q7, .ref q9, .ref q11, .ref q13]))] ++ (hCells q1 f2 cf ++ (hCells q3 f4 cf ++ ([(q5, .inl (cf 41, 2, .inr (.inr (.inr (.inr (fun _ => none)))))), (q6, .inl (cf 2, 2, .inl (fun _ => 0)))] ++ (vC q7 f8 cf ++ (vC q9 f10 cf ++ (tC q11 f12 cf ++ sC q13 f14 cf)))))))) H locs := by rw [ap_set] at E; exact E
  refine lv_iconst (v := 0) C.1 C.2.1 dX10_init_85 (by decide) ?_
  refine lv_istore_n (lv' := [(1, .int 0), (0, .ref a0)]) C.1 C.2.1 dX10_init_86 rfl hl (by decide) rfl (fun ls hl => ?_)
  refine lv_iload_n C.1 C.2.1 dX10_init_87 rfl (lv_at hl 0 rfl) ?_
  refine lv_iconst (v := 2) C.1 C.2.1 dX10_init_88 (by decide) ?_
  refine n_icmp_ge C (tgt := 111) (X := 0) (Y := 2) dX10_init_89 (by decide) rfl rfl (fun q => absurd q (by omega)) (fun q => ?_)
  refine lv_aload_n C.1 C.2.1 dX10_init_92 rfl (lv_at hl 1 rfl) ?_
  refine e_get C E (wr.length + 0) (ap_get rfl) rfl uw_X10 2 (by decide) fl_X10_19 rfl dX10_init_93 ?_
  refine lv_iload_n C.1 C.2.1 dX10_init_96 rfl (lv_at hl 0 rfl) ?_
  refine e_new C E (t := 2) (fs := [.null, .null, .null, .null, .null, .null, .null, .null, .int 0, .int 0, .int 0, .int 0, .int 0, .int 0, .int 0, .int 0, .int 0]) rfl uw_X4 tyX4 tyX4_ok cl_X10_7 ins_X4 ini_X4 (by decide) (Nat.le_of_ble_eq_true rfl) (Nat.le_of_ble_eq_true rfl) dX10_init_97 (fun q15 H E => ?_)
  have E : El D (tyl cf) B s (wr ++ ([(a0, .inr (8, [.ref q1, .ref q3, .ref q5, .ref q6, .ref q7, .ref q9, .ref q11, .ref q13]))] ++ (hCells q1 f2 cf ++ (hCells q3 f4 cf ++ ([(q5, .inl (cf 41, 2, .inr (.inr (.inr (.inr (fun _ => none)))))), (q6, .inl (cf 2, 2, .inl (fun _ => 0)))] ++ (vC q7 f8 cf ++ (vC q9 f10 cf ++ (tC q11 f12 cf ++ (sC q13 f14 cf ++ [(q15, .inr (2, [.null, .null, .null, .null, .null, .null, .null, .null, .int 0, .int 0, .int 0, .int 0, .int 0, .int 0, .int 0, .int 0, .int 0]))]))))))))) H locs := by rw [List.append_assoc] at E; exact E
  refine lv_dup C.1 C.2.1 dX10_init_100 rfl ?_
  have E : El D (tyl cf) B s ((wr ++ ([(a0, .inr (8, [.ref q1, .ref q3, .ref q5, .ref q6, .ref q7, .ref q9, .ref q11, .ref q13]))] ++ (hCells q1 f2 cf ++ (hCells q3 f4 cf ++ ([(q5, .inl (cf 41, 2, .inr (.inr (.inr (.inr (fun _ => none)))))), (q6, .inl (cf 2, 2, .inl (fun _ => 0)))] ++ (vC q7 f8 cf ++ (vC q9 f10 cf ++ (tC q11 f12 cf ++ sC q13 f14 cf)))))))) ++ [(q15, .inr (2, [.null, .null, .null, .null, .null, .null, .null, .null, .int 0, .int 0, .int 0, .int 0, .int 0, .int 0, .int 0, .int 0, .int 0]))]) H locs := by rw [List.append_assoc]; exact E
  refine e_callI (n := 0) C E (ce_X4_init l D cf B (wr ++ ([(a0, .inr (8, [.ref q1, .ref q3, .ref q5, .ref q6, .ref q7, .ref q9, .ref q11, .ref q13]))] ++ (hCells q1 f2 cf ++ (hCells q3 f4 cf ++ ([(q5, .inl (cf 41, 2, .inr (.inr (.inr (.inr (fun _ => none)))))), (q6, .inl (cf 2, 2, .inl (fun _ => 0)))] ++ (vC q7 f8 cf ++ (vC q9 f10 cf ++ (tC q11 f12 cf ++ sC q13 f14 cf)))))))) q15) mi_X10_9 im_X4_init ini_X4 cd_X4_init rfl (by decide) ⟨(Nat.le_of_ble_eq_true rfl), (Nat.le_of_ble_eq_true rfl)⟩ rfl hl.1 rfl (Nat.le_of_ble_eq_true rfl) dX10_init_101 ⟨(Nat.le_of_ble_eq_true rfl), (Nat.le_of_ble_eq_true rfl)⟩ (fun v w H locs hp E9 => ?_)
  obtain ⟨rfl, f16, e9⟩ := hp
  have E : El D (tyl cf) B s (wr ++ ([(a0, .inr (8, [.ref q1, .ref q3, .ref q5, .ref q6, .ref q7, .ref q9, .ref q11, .ref q13]))] ++ (hCells q1 f2 cf ++ (hCells q3 f4 cf ++ ([(q5, .inl (cf 41, 2, .inr (.inr (.inr (.inr (fun _ => none)))))), (q6, .inl (cf 2, 2, .inl (fun _ => 0)))] ++ (vC q7 f8 cf ++ (vC q9 f10 cf ++ (tC q11 f12 cf ++ (sC q13 f14 cf ++ hCells q15 f16 cf))))))))) H locs := by rw [e9, List.append_assoc] at E9; exact E9
  change W p l e (rmE 5 90 5100) s m args below meth c H locs _ _ _ (F0 m 104 ls [.ref q15, .int 0, .ref q5])
  refine e_aast C E (wr.length + 39) 4 (wr.length + 53) 2 (ap_get rfl) rfl (ap_get rfl) (r := (RX4, TX4, 17)) rfl (i_in (x := 0) (by decide) (by decide)) dX10_init_104 (fun H locs E => ?_)
  have E : El D (tyl cf) B s (wr ++ ([(a0, .inr (8, [.ref q1, .ref q3, .ref q5, .ref q6, .ref q7, .ref q9, .ref q11, .ref q13]))] ++ (hCells q1 f2 cf ++ (hCells q3 f4 cf ++ ([(q5, .inl (cf 41, 2, .inr (.inr (.inr (.inr (va_up (fun _ => none) 0 (some q15))))))), (q6, .inl (cf 2, 2, .inl (fun _ => 0)))] ++ (vC q7 f8 cf ++ (vC q9 f10 cf ++ (tC q11 f12 cf ++ (sC q13 f14 cf ++ hCells q15 f16 cf))))))))) H locs := by rw [ap_set] at E; exact E
  refine n_iinc C (X := 0) (k := 0) (N := 1) (lv' := fun v => [(1, .int v), (0, .ref a0)]) dX10_init_105 hl rfl (by decide) rfl rfl (by omega) (by omega) (fun _ => rfl) (fun v17 ls ev17 hl => ?_)
  obtain rfl : v17 = 1 := Int32.toInt_inj.mp (by rw [ev17]; rfl)
  refine lv_goto (tgt := 87) C.1 C.2.1 dX10_init_108 (by decide) ?_
  refine lv_iload_n C.1 C.2.1 dX10_init_87 rfl (lv_at hl 0 rfl) ?_
  refine lv_iconst (v := 2) C.1 C.2.1 dX10_init_88 (by decide) ?_
  refine n_icmp_ge C (tgt := 111) (X := 1) (Y := 2) dX10_init_89 (by decide) rfl rfl (fun q => absurd q (by omega)) (fun q => ?_)
  refine lv_aload_n C.1 C.2.1 dX10_init_92 rfl (lv_at hl 1 rfl) ?_
  refine e_get C E (wr.length + 0) (ap_get rfl) rfl uw_X10 2 (by decide) fl_X10_19 rfl dX10_init_93 ?_
  refine lv_iload_n C.1 C.2.1 dX10_init_96 rfl (lv_at hl 0 rfl) ?_
  refine e_new C E (t := 2) (fs := [.null, .null, .null, .null, .null, .null, .null, .null, .int 0, .int 0, .int 0, .int 0, .int 0, .int 0, .int 0, .int 0, .int 0]) rfl uw_X4 tyX4 tyX4_ok cl_X10_7 ins_X4 ini_X4 (by decide) (Nat.le_of_ble_eq_true rfl) (Nat.le_of_ble_eq_true rfl) dX10_init_97 (fun q18 H E => ?_)
  have E : El D (tyl cf) B s (wr ++ ([(a0, .inr (8, [.ref q1, .ref q3, .ref q5, .ref q6, .ref q7, .ref q9, .ref q11, .ref q13]))] ++ (hCells q1 f2 cf ++ (hCells q3 f4 cf ++ ([(q5, .inl (cf 41, 2, .inr (.inr (.inr (.inr (va_up (fun _ => none) 0 (some q15))))))), (q6, .inl (cf 2, 2, .inl (fun _ => 0)))] ++ (vC q7 f8 cf ++ (vC q9 f10 cf ++ (tC q11 f12 cf ++ (sC q13 f14 cf ++ (hCells q15 f16 cf ++ [(q18, .inr (2, [.null, .null, .null, .null, .null, .null, .null, .null, .int 0, .int 0, .int 0, .int 0, .int 0, .int 0, .int 0, .int 0, .int 0]))])))))))))) H locs := by rw [List.append_assoc] at E; exact E
  refine lv_dup C.1 C.2.1 dX10_init_100 rfl ?_
  have E : El D (tyl cf) B s ((wr ++ ([(a0, .inr (8, [.ref q1, .ref q3, .ref q5, .ref q6, .ref q7, .ref q9, .ref q11, .ref q13]))] ++ (hCells q1 f2 cf ++ (hCells q3 f4 cf ++ ([(q5, .inl (cf 41, 2, .inr (.inr (.inr (.inr (va_up (fun _ => none) 0 (some q15))))))), (q6, .inl (cf 2, 2, .inl (fun _ => 0)))] ++ (vC q7 f8 cf ++ (vC q9 f10 cf ++ (tC q11 f12 cf ++ (sC q13 f14 cf ++ hCells q15 f16 cf))))))))) ++ [(q18, .inr (2, [.null, .null, .null, .null, .null, .null, .null, .null, .int 0, .int 0, .int 0, .int 0, .int 0, .int 0, .int 0, .int 0, .int 0]))]) H locs := by rw [List.append_assoc]; exact E
  refine e_callI (n := 0) C E (ce_X4_init l D cf B (wr ++ ([(a0, .inr (8, [.ref q1, .ref q3, .ref q5, .ref q6, .ref q7, .ref q9, .ref q11, .ref q13]))] ++ (hCells q1 f2 cf ++ (hCells q3 f4 cf ++ ([(q5, .inl (cf 41, 2, .inr (.inr (.inr (.inr (va_up (fun _ => none) 0 (some q15))))))), (q6, .inl (cf 2, 2, .inl (fun _ => 0)))] ++ (vC q7 f8 cf ++ (vC q9 f10 cf ++ (tC q11 f12 cf ++ (sC q13 f14 cf ++ hCells q15 f16 cf))))))))) q18) mi_X10_9 im_X4_init ini_X4 cd_X4_init rfl (by decide) ⟨(Nat.le_of_ble_eq_true rfl), (Nat.le_of_ble_eq_true rfl)⟩ rfl hl.1 rfl (Nat.le_of_ble_eq_true rfl) dX10_init_101 ⟨(Nat.le_of_ble_eq_true rfl), (Nat.le_of_ble_eq_true rfl)⟩ (fun v w H locs hp E9 => ?_)
  obtain ⟨rfl, f19, e9⟩ := hp
  have E : El D (tyl cf) B s (wr ++ ([(a0, .inr (8, [.ref q1, .ref q3, .ref q5, .ref q6, .ref q7, .ref q9, .ref q11, .ref q13]))] ++ (hCells q1 f2 cf ++ (hCells q3 f4 cf ++ ([(q5, .inl (cf 41, 2, .inr (.inr (.inr (.inr (va_up (fun _ => none) 0 (some q15))))))), (q6, .inl (cf 2, 2, .inl (fun _ => 0)))] ++ (vC q7 f8 cf ++ (vC q9 f10 cf ++ (tC q11 f12 cf ++ (sC q13 f14 cf ++ (hCells q15 f16 cf ++ hCells q18 f19 cf)))))))))) H locs := by rw [e9, List.append_assoc] at E9; exact E9
  change W p l e (rmE 5 90 5100) s m args below meth c H locs _ _ _ (F0 m 104 ls [.ref q18, .int 1, .ref q5])
  refine e_aast C E (wr.length + 39) 4 (wr.length + 72) 2 (ap_get rfl) rfl (ap_get rfl) (r := (RX4, TX4, 17)) rfl (i_in (x := 1) (by decide) (by decide)) dX10_init_104 (fun H locs E => ?_)
  have E : El D (tyl cf) B s (wr ++ ([(a0, .inr (8, [.ref q1, .ref q3, .ref q5, .ref q6, .ref q7, .ref q9, .ref q11, .ref q13]))] ++ (hCells q1 f2 cf ++ (hCells q3 f4 cf ++ ([(q5, .inl (cf 41, 2, .inr (.inr (.inr (.inr (va_up (va_up (fun _ => none) 0 (some q15)) 1 (some q18))))))), (q6, .inl (cf 2, 2, .inl (fun _ => 0)))] ++ (vC q7 f8 cf ++ (vC q9 f10 cf ++ (tC q11 f12 cf ++ (sC q13 f14 cf ++ (hCells q15 f16 cf ++ hCells q18 f19 cf)))))))))) H locs := by rw [ap_set] at E; exact E
  refine n_iinc C (X := 1) (k := 0) (N := 1) (lv' := fun v => [(1, .int v), (0, .ref a0)]) dX10_init_105 hl rfl (by decide) rfl rfl (by omega) (by omega) (fun _ => rfl) (fun v20 ls ev20 hl => ?_)
  obtain rfl : v20 = 2 := Int32.toInt_inj.mp (by rw [ev20]; rfl)
  refine lv_goto (tgt := 87) C.1 C.2.1 dX10_init_108 (by decide) ?_
  refine lv_iload_n C.1 C.2.1 dX10_init_87 rfl (lv_at hl 0 rfl) ?_
  refine lv_iconst (v := 2) C.1 C.2.1 dX10_init_88 (by decide) ?_
  refine n_icmp_ge C (tgt := 111) (X := 2) (Y := 2) dX10_init_89 (by decide) rfl rfl (fun q => ?_) (fun q => absurd q (by omega))
  exact e_vret C E hr hlk (Nat.le_of_ble_eq_true rfl) (Nat.le_of_ble_eq_true rfl) ⟨rfl, (fun i => [q1, q3, q5, q6, q7, q9, q11, q13, q15, q18].getD i 0), (fun i => [f2, f4, (fun _ => 0), (fun _ => 0), f8, f10, f12, f14, f16, f19].getD i (fun _ => 0)), rfl⟩ dX10_init_111

set_option maxHeartbeats 4000000 in
set_option maxRecDepth 100000 in
theorem ce_X11_begins (l : Launch) (D : va_G) (cf : Nat → ClassId) (B : Nat) (wr : va_W) (a0 : Nat) (f : Nat → Nat) : CtE l yX11_begins cX11_begins 4 (Option.none : Option Jvm.ClassFile.FieldType) 1 0 0 D (tyl cf) B [.ref a0, .int 4, .int 12] (wr ++ ([(a0, .inr (9, [.ref (f 0), .ref (f 1), .ref (f 2), .ref (f 3), .ref (f 4), .int 0, .int 0, .ref (f 5), .int 0, .int 0, .int 0, .int 0, .ref (f 6), .ref (f 7), .int 0, .int 0, .int 0, .int 0, .long 0, .int 0, .int 0, .int 0, .int 0, .int 0])), ((f 0), .inl (cf 0, 729, .inl (fun _ => 0))), ((f 1), .inl (cf 0, 729, .inl (fun _ => 0))), ((f 2), .inl (cf 0, 1458, .inl (fun _ => 0))), ((f 3), .inl (cf 2, 2, .inl (fun _ => 0))), ((f 4), .inl (cf 0, 120, .inl (fun _ => 0))), ((f 5), .inl (cf 0, 264, .inl (fun _ => 0))), ((f 6), .inl (cf 0, 240, .inl (fun _ => 0))), ((f 7), .inl (cf 2, 240, .inl (fun _ => 0)))])) (fun v w => v = none ∧ w = wr ++ mCells a0 f cf) := by
  refine e_start (by decide) (Nat.le_of_ble_eq_true rfl) ?_
  intro p e s m args below meth c C hr hlk hin E ls hl
  have hl : lv_has ls 4 [(0, .ref a0), (1, .int 4), (2, .int 12)] := hl
  have C : CallFix p m c cX11_begins 4 s args TB RX11 := C
  have L2 : ∀ (n2 : Nat) (y3 : Int32) (H : Heap) (locs : List Loc) (ls : Array Slot), 0 ≤ y3.toInt → y3.toInt ≤ 729 → 729 - y3.toInt < (n2 : Int) → El D (tyl cf) B s (wr ++ ([(a0, .inr (9, [.ref (f 0), .ref (f 1), .ref (f 2), .ref (f 3), .ref (f 4), .int 0, .int 0, .ref (f 5), .int 0, .int 0, .int 0, .int 0, .ref (f 6), .ref (f 7), .int 0, .int 0, .int 0, .int 0, .long 0, .int 0, .int 0, .int 0, .int 0, .int 0])), ((f 0), .inl (cf 0, 729, .inl (fun _ => 0))), ((f 1), .inl (cf 0, 729, .inl (fun _ => 0))), ((f 2), .inl (cf 0, 1458, .inl (fun _ => 0))), ((f 3), .inl (cf 2, 2, .inl (fun _ => 0))), ((f 4), .inl (cf 0, 120, .inl (fun _ => 0))), ((f 5), .inl (cf 0, 264, .inl (fun _ => 0))), ((f 6), .inl (cf 0, 240, .inl (fun _ => 0))), ((f 7), .inl (cf 2, 240, .inl (fun _ => 0)))])) H locs → lv_has ls 4 [(3, .int y3), (0, .ref a0), (1, .int 4), (2, .int 12)] → W p l e (rmE 1 0 0) s m args below meth c H locs 0 0 (MQ below (QE D (tyl cf) B (fun v w => v = none ∧ w = wr ++ mCells a0 f cf)) args s 0 0 (fun q => B ≤ q)) (F0 m 2 ls []) := by
    intro n2
    induction n2 with
    | zero =>
      intro y3 H locs ls f1 f2 f3 E hl
      exact absurd f3 (by omega)
    | succ n2 ih2 =>
      intro y3 H locs ls f1 f2 f3 E hl
      refine lv_iload_n C.1 C.2.1 dX11_begins_2 rfl (lv_at hl 0 rfl) ?_
      refine lv_sipush (v := 729) C.1 C.2.1 dX11_begins_3 (by decide) ?_
      refine n_icmp_ge C (tgt := 22) (Y := 729) dX11_begins_6 (by decide) rfl rfl (fun q => ?_) (fun q => ?_)
      ·
          refine lv_aload_n C.1 C.2.1 dX11_begins_22 rfl (lv_at hl 1 rfl) ?_
          refine e_get C E (wr.length + 0) (ap_get rfl) rfl uw_X11 0 (by decide) fl_X11_7 rfl dX11_begins_23 ?_
          refine lv_sipush (v := 715) C.1 C.2.1 dX11_begins_26 (by decide) ?_
          refine lv_iload_n C.1 C.2.1 dX11_begins_29 rfl (lv_at hl 2 rfl) ?_
          refine e_iast C E (wr.length + 1) 0 (ap_get rfl) rfl (i_in (x := 715) (by decide) (by decide)) dX11_begins_30 (fun H locs E => ?_)
          have E : El D (tyl cf) B s (wr ++ ([(a0, .inr (9, [.ref (f 0), .ref (f 1), .ref (f 2), .ref (f 3), .ref (f 4), .int 0, .int 0, .ref (f 5), .int 0, .int 0, .int 0, .int 0, .ref (f 6), .ref (f 7), .int 0, .int 0, .int 0, .int 0, .long 0, .int 0, .int 0, .int 0, .int 0, .int 0])), ((f 0), .inl (cf 0, 729, .inl (upd (fun _ => 0) 715 4))), ((f 1), .inl (cf 0, 729, .inl (fun _ => 0))), ((f 2), .inl (cf 0, 1458, .inl (fun _ => 0))), ((f 3), .inl (cf 2, 2, .inl (fun _ => 0))), ((f 4), .inl (cf 0, 120, .inl (fun _ => 0))), ((f 5), .inl (cf 0, 264, .inl (fun _ => 0))), ((f 6), .inl (cf 0, 240, .inl (fun _ => 0))), ((f 7), .inl (cf 2, 240, .inl (fun _ => 0)))])) H locs := by rw [ap_set] at E; exact E
          refine lv_aload_n C.1 C.2.1 dX11_begins_31 rfl (lv_at hl 1 rfl) ?_
          refine e_get C E (wr.length + 0) (ap_get rfl) rfl uw_X11 0 (by decide) fl_X11_7 rfl dX11_begins_32 ?_
          refine lv_sipush (v := 716) C.1 C.2.1 dX11_begins_35 (by decide) ?_
          refine lv_iload_n C.1 C.2.1 dX11_begins_38 rfl (lv_at hl 3 rfl) ?_
          refine e_iast C E (wr.length + 1) 0 (ap_get rfl) rfl (i_in (x := 716) (by decide) (by decide)) dX11_begins_39 (fun H locs E => ?_)
          have E : El D (tyl cf) B s (wr ++ ([(a0, .inr (9, [.ref (f 0), .ref (f 1), .ref (f 2), .ref (f 3), .ref (f 4), .int 0, .int 0, .ref (f 5), .int 0, .int 0, .int 0, .int 0, .ref (f 6), .ref (f 7), .int 0, .int 0, .int 0, .int 0, .long 0, .int 0, .int 0, .int 0, .int 0, .int 0])), ((f 0), .inl (cf 0, 729, .inl (upd (upd (fun _ => 0) 715 4) 716 12))), ((f 1), .inl (cf 0, 729, .inl (fun _ => 0))), ((f 2), .inl (cf 0, 1458, .inl (fun _ => 0))), ((f 3), .inl (cf 2, 2, .inl (fun _ => 0))), ((f 4), .inl (cf 0, 120, .inl (fun _ => 0))), ((f 5), .inl (cf 0, 264, .inl (fun _ => 0))), ((f 6), .inl (cf 0, 240, .inl (fun _ => 0))), ((f 7), .inl (cf 2, 240, .inl (fun _ => 0)))])) H locs := by rw [ap_set] at E; exact E
          refine lv_aload_n C.1 C.2.1 dX11_begins_40 rfl (lv_at hl 1 rfl) ?_
          refine e_get C E (wr.length + 0) (ap_get rfl) rfl uw_X11 0 (by decide) fl_X11_7 rfl dX11_begins_41 ?_
          refine lv_sipush (v := 721) C.1 C.2.1 dX11_begins_44 (by decide) ?_
          refine lv_iconst (v := -1) C.1 C.2.1 dX11_begins_47 (by decide) ?_
          refine e_iast C E (wr.length + 1) 0 (ap_get rfl) rfl (i_in (x := 721) (by decide) (by decide)) dX11_begins_48 (fun H locs E => ?_)
          have E : El D (tyl cf) B s (wr ++ ([(a0, .inr (9, [.ref (f 0), .ref (f 1), .ref (f 2), .ref (f 3), .ref (f 4), .int 0, .int 0, .ref (f 5), .int 0, .int 0, .int 0, .int 0, .ref (f 6), .ref (f 7), .int 0, .int 0, .int 0, .int 0, .long 0, .int 0, .int 0, .int 0, .int 0, .int 0])), ((f 0), .inl (cf 0, 729, .inl (upd (upd (upd (fun _ => 0) 715 4) 716 12) 721 (-1)))), ((f 1), .inl (cf 0, 729, .inl (fun _ => 0))), ((f 2), .inl (cf 0, 1458, .inl (fun _ => 0))), ((f 3), .inl (cf 2, 2, .inl (fun _ => 0))), ((f 4), .inl (cf 0, 120, .inl (fun _ => 0))), ((f 5), .inl (cf 0, 264, .inl (fun _ => 0))), ((f 6), .inl (cf 0, 240, .inl (fun _ => 0))), ((f 7), .inl (cf 2, 240, .inl (fun _ => 0)))])) H locs := by rw [ap_set] at E; exact E
          refine lv_aload_n C.1 C.2.1 dX11_begins_49 rfl (lv_at hl 1 rfl) ?_
          refine e_get C E (wr.length + 0) (ap_get rfl) rfl uw_X11 0 (by decide) fl_X11_7 rfl dX11_begins_50 ?_
          refine lv_sipush (v := 722) C.1 C.2.1 dX11_begins_53 (by decide) ?_
          refine lv_iconst (v := 2) C.1 C.2.1 dX11_begins_56 (by decide) ?_
          refine e_iast C E (wr.length + 1) 0 (ap_get rfl) rfl (i_in (x := 722) (by decide) (by decide)) dX11_begins_57 (fun H locs E => ?_)
          have E : El D (tyl cf) B s (wr ++ ([(a0, .inr (9, [.ref (f 0), .ref (f 1), .ref (f 2), .ref (f 3), .ref (f 4), .int 0, .int 0, .ref (f 5), .int 0, .int 0, .int 0, .int 0, .ref (f 6), .ref (f 7), .int 0, .int 0, .int 0, .int 0, .long 0, .int 0, .int 0, .int 0, .int 0, .int 0])), ((f 0), .inl (cf 0, 729, .inl (upd (upd (upd (upd (fun _ => 0) 715 4) 716 12) 721 (-1)) 722 2))), ((f 1), .inl (cf 0, 729, .inl (fun _ => 0))), ((f 2), .inl (cf 0, 1458, .inl (fun _ => 0))), ((f 3), .inl (cf 2, 2, .inl (fun _ => 0))), ((f 4), .inl (cf 0, 120, .inl (fun _ => 0))), ((f 5), .inl (cf 0, 264, .inl (fun _ => 0))), ((f 6), .inl (cf 0, 240, .inl (fun _ => 0))), ((f 7), .inl (cf 2, 240, .inl (fun _ => 0)))])) H locs := by rw [ap_set] at E; exact E
          refine lv_aload_n C.1 C.2.1 dX11_begins_58 rfl (lv_at hl 1 rfl) ?_
          refine e_get C E (wr.length + 0) (ap_get rfl) rfl uw_X11 0 (by decide) fl_X11_7 rfl dX11_begins_59 ?_
          refine lv_sipush (v := 723) C.1 C.2.1 dX11_begins_62 (by decide) ?_
          refine lv_iconst (v := 2) C.1 C.2.1 dX11_begins_65 (by decide) ?_
          refine e_iast C E (wr.length + 1) 0 (ap_get rfl) rfl (i_in (x := 723) (by decide) (by decide)) dX11_begins_66 (fun H locs E => ?_)
          have E : El D (tyl cf) B s (wr ++ ([(a0, .inr (9, [.ref (f 0), .ref (f 1), .ref (f 2), .ref (f 3), .ref (f 4), .int 0, .int 0, .ref (f 5), .int 0, .int 0, .int 0, .int 0, .ref (f 6), .ref (f 7), .int 0, .int 0, .int 0, .int 0, .long 0, .int 0, .int 0, .int 0, .int 0, .int 0])), ((f 0), .inl (cf 0, 729, .inl (upd (upd (upd (upd (upd (fun _ => 0) 715 4) 716 12) 721 (-1)) 722 2) 723 2))), ((f 1), .inl (cf 0, 729, .inl (fun _ => 0))), ((f 2), .inl (cf 0, 1458, .inl (fun _ => 0))), ((f 3), .inl (cf 2, 2, .inl (fun _ => 0))), ((f 4), .inl (cf 0, 120, .inl (fun _ => 0))), ((f 5), .inl (cf 0, 264, .inl (fun _ => 0))), ((f 6), .inl (cf 0, 240, .inl (fun _ => 0))), ((f 7), .inl (cf 2, 240, .inl (fun _ => 0)))])) H locs := by rw [ap_set] at E; exact E
          refine lv_aload_n C.1 C.2.1 dX11_begins_67 rfl (lv_at hl 1 rfl) ?_
          refine e_get C E (wr.length + 0) (ap_get rfl) rfl uw_X11 0 (by decide) fl_X11_7 rfl dX11_begins_68 ?_
          refine lv_sipush (v := 724) C.1 C.2.1 dX11_begins_71 (by decide) ?_
          refine lv_bipush (v := 20) C.1 C.2.1 dX11_begins_74 (by decide) ?_
          refine e_iast C E (wr.length + 1) 0 (ap_get rfl) rfl (i_in (x := 724) (by decide) (by decide)) dX11_begins_76 (fun H locs E => ?_)
          have E : El D (tyl cf) B s (wr ++ ([(a0, .inr (9, [.ref (f 0), .ref (f 1), .ref (f 2), .ref (f 3), .ref (f 4), .int 0, .int 0, .ref (f 5), .int 0, .int 0, .int 0, .int 0, .ref (f 6), .ref (f 7), .int 0, .int 0, .int 0, .int 0, .long 0, .int 0, .int 0, .int 0, .int 0, .int 0])), ((f 0), .inl (cf 0, 729, .inl (upd (upd (upd (upd (upd (upd (fun _ => 0) 715 4) 716 12) 721 (-1)) 722 2) 723 2) 724 20))), ((f 1), .inl (cf 0, 729, .inl (fun _ => 0))), ((f 2), .inl (cf 0, 1458, .inl (fun _ => 0))), ((f 3), .inl (cf 2, 2, .inl (fun _ => 0))), ((f 4), .inl (cf 0, 120, .inl (fun _ => 0))), ((f 5), .inl (cf 0, 264, .inl (fun _ => 0))), ((f 6), .inl (cf 0, 240, .inl (fun _ => 0))), ((f 7), .inl (cf 2, 240, .inl (fun _ => 0)))])) H locs := by rw [ap_set] at E; exact E
          refine lv_aload_n C.1 C.2.1 dX11_begins_77 rfl (lv_at hl 1 rfl) ?_
          refine lv_iconst (v := 0) C.1 C.2.1 dX11_begins_78 (by decide) ?_
          refine e_put C E (wr.length + 0) (ap_get rfl) rfl uw_X11 tyX11 tyX11_ok nmX11 5 (by decide) fl_X11_43 rfl rfl rfl (Nat.le_of_ble_eq_true rfl) dX11_begins_79 (fun H locs E => ?_)
          have E : El D (tyl cf) B s (wr ++ ([(a0, .inr (9, [.ref (f 0), .ref (f 1), .ref (f 2), .ref (f 3), .ref (f 4), .int 0, .int 0, .ref (f 5), .int 0, .int 0, .int 0, .int 0, .ref (f 6), .ref (f 7), .int 0, .int 0, .int 0, .int 0, .long 0, .int 0, .int 0, .int 0, .int 0, .int 0])), ((f 0), .inl (cf 0, 729, .inl (upd (upd (upd (upd (upd (upd (fun _ => 0) 715 4) 716 12) 721 (-1)) 722 2) 723 2) 724 20))), ((f 1), .inl (cf 0, 729, .inl (fun _ => 0))), ((f 2), .inl (cf 0, 1458, .inl (fun _ => 0))), ((f 3), .inl (cf 2, 2, .inl (fun _ => 0))), ((f 4), .inl (cf 0, 120, .inl (fun _ => 0))), ((f 5), .inl (cf 0, 264, .inl (fun _ => 0))), ((f 6), .inl (cf 0, 240, .inl (fun _ => 0))), ((f 7), .inl (cf 2, 240, .inl (fun _ => 0)))])) H locs := by rw [ap_set] at E; exact E
          refine lv_aload_n C.1 C.2.1 dX11_begins_82 rfl (lv_at hl 1 rfl) ?_
          refine e_get C E (wr.length + 0) (ap_get rfl) rfl uw_X11 3 (by decide) fl_X11_19 rfl dX11_begins_83 ?_
          refine lv_iconst (v := 0) C.1 C.2.1 dX11_begins_86 (by decide) ?_
          refine lv_iconst (v := 0) C.1 C.2.1 dX11_begins_87 (by decide) ?_
          refine e_zast C E (wr.length + 4) (ap_get rfl) (x := 0) (by decide) (by decide) dX11_begins_88 (fun H locs E => ?_)
          refine lv_aload_n C.1 C.2.1 dX11_begins_89 rfl (lv_at hl 1 rfl) ?_
          refine e_get C E (wr.length + 0) (ap_get rfl) rfl uw_X11 3 (by decide) fl_X11_19 rfl dX11_begins_90 ?_
          refine lv_iconst (v := 1) C.1 C.2.1 dX11_begins_93 (by decide) ?_
          refine lv_iconst (v := 0) C.1 C.2.1 dX11_begins_94 (by decide) ?_
          refine e_zast C E (wr.length + 4) (ap_get rfl) (x := 1) (by decide) (by decide) dX11_begins_95 (fun H locs E => ?_)
          exact e_vret C E hr hlk (Nat.le_of_ble_eq_true rfl) (Nat.le_of_ble_eq_true rfl) ⟨rfl, rfl⟩ dX11_begins_96
      ·
        refine lv_aload_n C.1 C.2.1 dX11_begins_9 rfl (lv_at hl 1 rfl) ?_
        refine e_get C E (wr.length + 0) (ap_get rfl) rfl uw_X11 0 (by decide) fl_X11_7 rfl dX11_begins_10 ?_
        refine lv_iload_n C.1 C.2.1 dX11_begins_13 rfl (lv_at hl 0 rfl) ?_
        refine lv_iconst (v := 0) C.1 C.2.1 dX11_begins_14 (by decide) ?_
        refine e_iast C E (wr.length + 1) 0 (ap_get rfl) rfl (i_in f1 (by omega)) dX11_begins_15 (fun H locs E => ?_)
        rw [upd0, set_id (ap_get rfl)] at E
        refine n_iinc C (k := 0) (N := 1) (lv' := fun v => [(3, .int v), (0, .ref a0), (1, .int 4), (2, .int 12)]) dX11_begins_16 hl rfl (by decide) rfl rfl (by omega) (by omega) (fun _ => rfl) (fun v9 ls e9 hl => ?_)
        refine lv_goto (tgt := 2) C.1 C.2.1 dX11_begins_19 (by decide) ?_
        exact ih2 v9 H locs ls (by omega) (by omega) (by omega) E hl
  refine lv_iconst (v := 0) C.1 C.2.1 dX11_begins_0 (by decide) ?_
  refine lv_istore_n (lv' := [(3, .int 0), (0, .ref a0), (1, .int 4), (2, .int 12)]) C.1 C.2.1 dX11_begins_1 rfl hl (by decide) rfl (fun ls hl => ?_)
  exact L2 800 0 _ _ ls (by decide) (by decide) (by decide) E hl

set_option maxHeartbeats 4000000 in
set_option maxRecDepth 100000 in
theorem ce_X11_init (l : Launch) (D : va_G) (cf : Nat → ClassId) (B : Nat) (wr : va_W) (a0 : Nat) : CtE l yX11_init cX11_init 1 (Option.none : Option Jvm.ClassFile.FieldType) 2 8 3783 D (tyl cf) B [.ref a0] (wr ++ ([(a0, .inr (9, [.null, .null, .null, .null, .null, .int 0, .int 0, .null, .int 0, .int 0, .int 0, .int 0, .null, .null, .int 0, .int 0, .int 0, .int 0, .long 0, .int 0, .int 0, .int 0, .int 0, .int 0]))])) (fun v w => v = none ∧ ∃ f : Nat → Nat, w = wr ++ mCells a0 f cf) := by
  refine e_start (by decide) (Nat.le_of_ble_eq_true rfl) ?_
  intro p e s m args below meth c C hr hlk hin E ls hl
  have hl : lv_has ls 1 [(0, .ref a0)] := hl
  have C : CallFix p m c cX11_init 1 s args TB RX11 := C
  refine lv_aload_n C.1 C.2.1 dX11_init_0 rfl (lv_at hl 0 rfl) ?_
  refine e_obj C mo_X11_1 im_obj cd_obj hl.1 dX11_init_1 (Nat.le_of_ble_eq_true rfl) ?_
  refine lv_aload_n C.1 C.2.1 dX11_init_4 rfl (lv_at hl 0 rfl) ?_
  refine lv_sipush (v := 729) C.1 C.2.1 dX11_init_5 (by decide) ?_
  refine e_newa C E (atype := .int) ac_int 0 rfl (n := 729) (N' := 729) (fun _ => rfl) (by decide) rfl (Nat.le_of_ble_eq_true rfl) (Nat.le_of_ble_eq_true rfl) (Nat.le_of_ble_eq_true rfl) dX11_init_8 (fun q1 H E => ?_)
  have E : El D (tyl cf) B s (wr ++ ([(a0, .inr (9, [.null, .null, .null, .null, .null, .int 0, .int 0, .null, .int 0, .int 0, .int 0, .int 0, .null, .null, .int 0, .int 0, .int 0, .int 0, .long 0, .int 0, .int 0, .int 0, .int 0, .int 0])), (q1, .inl (cf 0, 729, .inl (fun _ => 0)))])) H [] := by rw [List.append_assoc] at E; exact E
  refine e_putF C E hin (wr.length + 0) (ap_get rfl) rfl uw_X11 tyX11 tyX11_ok nmX11 0 (by decide) fl_X11_7 rfl rfl rfl rfl (Nat.le_of_ble_eq_true rfl) dX11_init_10 (fun H locs E => ?_)
  have E : El D (tyl cf) B s (wr ++ ([(a0, .inr (9, [.ref q1, .null, .null, .null, .null, .int 0, .int 0, .null, .int 0, .int 0, .int 0, .int 0, .null, .null, .int 0, .int 0, .int 0, .int 0, .long 0, .int 0, .int 0, .int 0, .int 0, .int 0])), (q1, .inl (cf 0, 729, .inl (fun _ => 0)))])) H locs := by rw [ap_set] at E; exact E
  refine lv_aload_n C.1 C.2.1 dX11_init_13 rfl (lv_at hl 0 rfl) ?_
  refine lv_sipush (v := 729) C.1 C.2.1 dX11_init_14 (by decide) ?_
  refine e_newa C E (atype := .int) ac_int 0 rfl (n := 729) (N' := 729) (fun _ => rfl) (by decide) rfl (Nat.le_of_ble_eq_true rfl) (Nat.le_of_ble_eq_true rfl) (Nat.le_of_ble_eq_true rfl) dX11_init_17 (fun q2 H E => ?_)
  have E : El D (tyl cf) B s (wr ++ ([(a0, .inr (9, [.ref q1, .null, .null, .null, .null, .int 0, .int 0, .null, .int 0, .int 0, .int 0, .int 0, .null, .null, .int 0, .int 0, .int 0, .int 0, .long 0, .int 0, .int 0, .int 0, .int 0, .int 0])), (q1, .inl (cf 0, 729, .inl (fun _ => 0))), (q2, .inl (cf 0, 729, .inl (fun _ => 0)))])) H locs := by rw [List.append_assoc] at E; exact E
  refine e_putF C E hin (wr.length + 0) (ap_get rfl) rfl uw_X11 tyX11 tyX11_ok nmX11 1 (by decide) fl_X11_13 rfl rfl rfl rfl (Nat.le_of_ble_eq_true rfl) dX11_init_19 (fun H locs E => ?_)
  have E : El D (tyl cf) B s (wr ++ ([(a0, .inr (9, [.ref q1, .ref q2, .null, .null, .null, .int 0, .int 0, .null, .int 0, .int 0, .int 0, .int 0, .null, .null, .int 0, .int 0, .int 0, .int 0, .long 0, .int 0, .int 0, .int 0, .int 0, .int 0])), (q1, .inl (cf 0, 729, .inl (fun _ => 0))), (q2, .inl (cf 0, 729, .inl (fun _ => 0)))])) H locs := by rw [ap_set] at E; exact E
  refine lv_aload_n C.1 C.2.1 dX11_init_22 rfl (lv_at hl 0 rfl) ?_
  refine lv_sipush (v := 1458) C.1 C.2.1 dX11_init_23 (by decide) ?_
  refine e_newa C E (atype := .int) ac_int 0 rfl (n := 1458) (N' := 1458) (fun _ => rfl) (by decide) rfl (Nat.le_of_ble_eq_true rfl) (Nat.le_of_ble_eq_true rfl) (Nat.le_of_ble_eq_true rfl) dX11_init_26 (fun q3 H E => ?_)
  have E : El D (tyl cf) B s (wr ++ ([(a0, .inr (9, [.ref q1, .ref q2, .null, .null, .null, .int 0, .int 0, .null, .int 0, .int 0, .int 0, .int 0, .null, .null, .int 0, .int 0, .int 0, .int 0, .long 0, .int 0, .int 0, .int 0, .int 0, .int 0])), (q1, .inl (cf 0, 729, .inl (fun _ => 0))), (q2, .inl (cf 0, 729, .inl (fun _ => 0))), (q3, .inl (cf 0, 1458, .inl (fun _ => 0)))])) H locs := by rw [List.append_assoc] at E; exact E
  refine e_putF C E hin (wr.length + 0) (ap_get rfl) rfl uw_X11 tyX11 tyX11_ok nmX11 2 (by decide) fl_X11_16 rfl rfl rfl rfl (Nat.le_of_ble_eq_true rfl) dX11_init_28 (fun H locs E => ?_)
  have E : El D (tyl cf) B s (wr ++ ([(a0, .inr (9, [.ref q1, .ref q2, .ref q3, .null, .null, .int 0, .int 0, .null, .int 0, .int 0, .int 0, .int 0, .null, .null, .int 0, .int 0, .int 0, .int 0, .long 0, .int 0, .int 0, .int 0, .int 0, .int 0])), (q1, .inl (cf 0, 729, .inl (fun _ => 0))), (q2, .inl (cf 0, 729, .inl (fun _ => 0))), (q3, .inl (cf 0, 1458, .inl (fun _ => 0)))])) H locs := by rw [ap_set] at E; exact E
  refine lv_aload_n C.1 C.2.1 dX11_init_31 rfl (lv_at hl 0 rfl) ?_
  refine lv_iconst (v := 2) C.1 C.2.1 dX11_init_32 (by decide) ?_
  refine e_newa C E (atype := .boolean) ac_boolean 2 rfl (n := 2) (N' := 2) (fun _ => rfl) (by decide) rfl (Nat.le_of_ble_eq_true rfl) (Nat.le_of_ble_eq_true rfl) (Nat.le_of_ble_eq_true rfl) dX11_init_33 (fun q4 H E => ?_)
  have E : El D (tyl cf) B s (wr ++ ([(a0, .inr (9, [.ref q1, .ref q2, .ref q3, .null, .null, .int 0, .int 0, .null, .int 0, .int 0, .int 0, .int 0, .null, .null, .int 0, .int 0, .int 0, .int 0, .long 0, .int 0, .int 0, .int 0, .int 0, .int 0])), (q1, .inl (cf 0, 729, .inl (fun _ => 0))), (q2, .inl (cf 0, 729, .inl (fun _ => 0))), (q3, .inl (cf 0, 1458, .inl (fun _ => 0))), (q4, .inl (cf 2, 2, .inl (fun _ => 0)))])) H locs := by rw [List.append_assoc] at E; exact E
  refine e_putF C E hin (wr.length + 0) (ap_get rfl) rfl uw_X11 tyX11 tyX11_ok nmX11 3 (by decide) fl_X11_19 rfl rfl rfl rfl (Nat.le_of_ble_eq_true rfl) dX11_init_35 (fun H locs E => ?_)
  have E : El D (tyl cf) B s (wr ++ ([(a0, .inr (9, [.ref q1, .ref q2, .ref q3, .ref q4, .null, .int 0, .int 0, .null, .int 0, .int 0, .int 0, .int 0, .null, .null, .int 0, .int 0, .int 0, .int 0, .long 0, .int 0, .int 0, .int 0, .int 0, .int 0])), (q1, .inl (cf 0, 729, .inl (fun _ => 0))), (q2, .inl (cf 0, 729, .inl (fun _ => 0))), (q3, .inl (cf 0, 1458, .inl (fun _ => 0))), (q4, .inl (cf 2, 2, .inl (fun _ => 0)))])) H locs := by rw [ap_set] at E; exact E
  refine lv_aload_n C.1 C.2.1 dX11_init_38 rfl (lv_at hl 0 rfl) ?_
  refine lv_bipush (v := 120) C.1 C.2.1 dX11_init_39 (by decide) ?_
  refine e_newa C E (atype := .int) ac_int 0 rfl (n := 120) (N' := 120) (fun _ => rfl) (by decide) rfl (Nat.le_of_ble_eq_true rfl) (Nat.le_of_ble_eq_true rfl) (Nat.le_of_ble_eq_true rfl) dX11_init_41 (fun q5 H E => ?_)
  have E : El D (tyl cf) B s (wr ++ ([(a0, .inr (9, [.ref q1, .ref q2, .ref q3, .ref q4, .null, .int 0, .int 0, .null, .int 0, .int 0, .int 0, .int 0, .null, .null, .int 0, .int 0, .int 0, .int 0, .long 0, .int 0, .int 0, .int 0, .int 0, .int 0])), (q1, .inl (cf 0, 729, .inl (fun _ => 0))), (q2, .inl (cf 0, 729, .inl (fun _ => 0))), (q3, .inl (cf 0, 1458, .inl (fun _ => 0))), (q4, .inl (cf 2, 2, .inl (fun _ => 0))), (q5, .inl (cf 0, 120, .inl (fun _ => 0)))])) H locs := by rw [List.append_assoc] at E; exact E
  refine e_putF C E hin (wr.length + 0) (ap_get rfl) rfl uw_X11 tyX11 tyX11_ok nmX11 4 (by decide) fl_X11_23 rfl rfl rfl rfl (Nat.le_of_ble_eq_true rfl) dX11_init_43 (fun H locs E => ?_)
  have E : El D (tyl cf) B s (wr ++ ([(a0, .inr (9, [.ref q1, .ref q2, .ref q3, .ref q4, .ref q5, .int 0, .int 0, .null, .int 0, .int 0, .int 0, .int 0, .null, .null, .int 0, .int 0, .int 0, .int 0, .long 0, .int 0, .int 0, .int 0, .int 0, .int 0])), (q1, .inl (cf 0, 729, .inl (fun _ => 0))), (q2, .inl (cf 0, 729, .inl (fun _ => 0))), (q3, .inl (cf 0, 1458, .inl (fun _ => 0))), (q4, .inl (cf 2, 2, .inl (fun _ => 0))), (q5, .inl (cf 0, 120, .inl (fun _ => 0)))])) H locs := by rw [ap_set] at E; exact E
  refine lv_aload_n C.1 C.2.1 dX11_init_46 rfl (lv_at hl 0 rfl) ?_
  refine lv_sipush (v := 264) C.1 C.2.1 dX11_init_47 (by decide) ?_
  refine e_newa C E (atype := .int) ac_int 0 rfl (n := 264) (N' := 264) (fun _ => rfl) (by decide) rfl (Nat.le_of_ble_eq_true rfl) (Nat.le_of_ble_eq_true rfl) (Nat.le_of_ble_eq_true rfl) dX11_init_50 (fun q6 H E => ?_)
  have E : El D (tyl cf) B s (wr ++ ([(a0, .inr (9, [.ref q1, .ref q2, .ref q3, .ref q4, .ref q5, .int 0, .int 0, .null, .int 0, .int 0, .int 0, .int 0, .null, .null, .int 0, .int 0, .int 0, .int 0, .long 0, .int 0, .int 0, .int 0, .int 0, .int 0])), (q1, .inl (cf 0, 729, .inl (fun _ => 0))), (q2, .inl (cf 0, 729, .inl (fun _ => 0))), (q3, .inl (cf 0, 1458, .inl (fun _ => 0))), (q4, .inl (cf 2, 2, .inl (fun _ => 0))), (q5, .inl (cf 0, 120, .inl (fun _ => 0))), (q6, .inl (cf 0, 264, .inl (fun _ => 0)))])) H locs := by rw [List.append_assoc] at E; exact E
  refine e_putF C E hin (wr.length + 0) (ap_get rfl) rfl uw_X11 tyX11 tyX11_ok nmX11 7 (by decide) fl_X11_26 rfl rfl rfl rfl (Nat.le_of_ble_eq_true rfl) dX11_init_52 (fun H locs E => ?_)
  have E : El D (tyl cf) B s (wr ++ ([(a0, .inr (9, [.ref q1, .ref q2, .ref q3, .ref q4, .ref q5, .int 0, .int 0, .ref q6, .int 0, .int 0, .int 0, .int 0, .null, .null, .int 0, .int 0, .int 0, .int 0, .long 0, .int 0, .int 0, .int 0, .int 0, .int 0])), (q1, .inl (cf 0, 729, .inl (fun _ => 0))), (q2, .inl (cf 0, 729, .inl (fun _ => 0))), (q3, .inl (cf 0, 1458, .inl (fun _ => 0))), (q4, .inl (cf 2, 2, .inl (fun _ => 0))), (q5, .inl (cf 0, 120, .inl (fun _ => 0))), (q6, .inl (cf 0, 264, .inl (fun _ => 0)))])) H locs := by rw [ap_set] at E; exact E
  refine lv_aload_n C.1 C.2.1 dX11_init_55 rfl (lv_at hl 0 rfl) ?_
  refine lv_sipush (v := 240) C.1 C.2.1 dX11_init_56 (by decide) ?_
  refine e_newa C E (atype := .int) ac_int 0 rfl (n := 240) (N' := 240) (fun _ => rfl) (by decide) rfl (Nat.le_of_ble_eq_true rfl) (Nat.le_of_ble_eq_true rfl) (Nat.le_of_ble_eq_true rfl) dX11_init_59 (fun q7 H E => ?_)
  have E : El D (tyl cf) B s (wr ++ ([(a0, .inr (9, [.ref q1, .ref q2, .ref q3, .ref q4, .ref q5, .int 0, .int 0, .ref q6, .int 0, .int 0, .int 0, .int 0, .null, .null, .int 0, .int 0, .int 0, .int 0, .long 0, .int 0, .int 0, .int 0, .int 0, .int 0])), (q1, .inl (cf 0, 729, .inl (fun _ => 0))), (q2, .inl (cf 0, 729, .inl (fun _ => 0))), (q3, .inl (cf 0, 1458, .inl (fun _ => 0))), (q4, .inl (cf 2, 2, .inl (fun _ => 0))), (q5, .inl (cf 0, 120, .inl (fun _ => 0))), (q6, .inl (cf 0, 264, .inl (fun _ => 0))), (q7, .inl (cf 0, 240, .inl (fun _ => 0)))])) H locs := by rw [List.append_assoc] at E; exact E
  refine e_putF C E hin (wr.length + 0) (ap_get rfl) rfl uw_X11 tyX11 tyX11_ok nmX11 12 (by decide) fl_X11_29 rfl rfl rfl rfl (Nat.le_of_ble_eq_true rfl) dX11_init_61 (fun H locs E => ?_)
  have E : El D (tyl cf) B s (wr ++ ([(a0, .inr (9, [.ref q1, .ref q2, .ref q3, .ref q4, .ref q5, .int 0, .int 0, .ref q6, .int 0, .int 0, .int 0, .int 0, .ref q7, .null, .int 0, .int 0, .int 0, .int 0, .long 0, .int 0, .int 0, .int 0, .int 0, .int 0])), (q1, .inl (cf 0, 729, .inl (fun _ => 0))), (q2, .inl (cf 0, 729, .inl (fun _ => 0))), (q3, .inl (cf 0, 1458, .inl (fun _ => 0))), (q4, .inl (cf 2, 2, .inl (fun _ => 0))), (q5, .inl (cf 0, 120, .inl (fun _ => 0))), (q6, .inl (cf 0, 264, .inl (fun _ => 0))), (q7, .inl (cf 0, 240, .inl (fun _ => 0)))])) H locs := by rw [ap_set] at E; exact E
  refine lv_aload_n C.1 C.2.1 dX11_init_64 rfl (lv_at hl 0 rfl) ?_
  refine lv_sipush (v := 240) C.1 C.2.1 dX11_init_65 (by decide) ?_
  refine e_newa C E (atype := .boolean) ac_boolean 2 rfl (n := 240) (N' := 240) (fun _ => rfl) (by decide) rfl (Nat.le_of_ble_eq_true rfl) (Nat.le_of_ble_eq_true rfl) (Nat.le_of_ble_eq_true rfl) dX11_init_68 (fun q8 H E => ?_)
  have E : El D (tyl cf) B s (wr ++ ([(a0, .inr (9, [.ref q1, .ref q2, .ref q3, .ref q4, .ref q5, .int 0, .int 0, .ref q6, .int 0, .int 0, .int 0, .int 0, .ref q7, .null, .int 0, .int 0, .int 0, .int 0, .long 0, .int 0, .int 0, .int 0, .int 0, .int 0])), (q1, .inl (cf 0, 729, .inl (fun _ => 0))), (q2, .inl (cf 0, 729, .inl (fun _ => 0))), (q3, .inl (cf 0, 1458, .inl (fun _ => 0))), (q4, .inl (cf 2, 2, .inl (fun _ => 0))), (q5, .inl (cf 0, 120, .inl (fun _ => 0))), (q6, .inl (cf 0, 264, .inl (fun _ => 0))), (q7, .inl (cf 0, 240, .inl (fun _ => 0))), (q8, .inl (cf 2, 240, .inl (fun _ => 0)))])) H locs := by rw [List.append_assoc] at E; exact E
  refine e_putF C E hin (wr.length + 0) (ap_get rfl) rfl uw_X11 tyX11 tyX11_ok nmX11 13 (by decide) fl_X11_32 rfl rfl rfl rfl (Nat.le_of_ble_eq_true rfl) dX11_init_70 (fun H locs E => ?_)
  have E : El D (tyl cf) B s (wr ++ ([(a0, .inr (9, [.ref q1, .ref q2, .ref q3, .ref q4, .ref q5, .int 0, .int 0, .ref q6, .int 0, .int 0, .int 0, .int 0, .ref q7, .ref q8, .int 0, .int 0, .int 0, .int 0, .long 0, .int 0, .int 0, .int 0, .int 0, .int 0])), (q1, .inl (cf 0, 729, .inl (fun _ => 0))), (q2, .inl (cf 0, 729, .inl (fun _ => 0))), (q3, .inl (cf 0, 1458, .inl (fun _ => 0))), (q4, .inl (cf 2, 2, .inl (fun _ => 0))), (q5, .inl (cf 0, 120, .inl (fun _ => 0))), (q6, .inl (cf 0, 264, .inl (fun _ => 0))), (q7, .inl (cf 0, 240, .inl (fun _ => 0))), (q8, .inl (cf 2, 240, .inl (fun _ => 0)))])) H locs := by rw [ap_set] at E; exact E
  refine lv_aload_n C.1 C.2.1 dX11_init_73 rfl (lv_at hl 0 rfl) ?_
  refine lv_iconst (v := 4) C.1 C.2.1 dX11_init_74 (by decide) ?_
  refine lv_bipush (v := 12) C.1 C.2.1 dX11_init_75 (by decide) ?_
  refine e_callV (n := 2) C E (k0 := wr.length + 0) (ap_get rfl) rfl (ce_X11_begins l D cf B wr a0 (fun i => [q1, q2, q3, q4, q5, q6, q7, q8].getD i 0)) ml_X11_35 im_X11_begins se_X11_begins ini_X11 cd_X11_begins (by decide) ⟨(Nat.le_of_ble_eq_true rfl), (Nat.le_of_ble_eq_true rfl)⟩ rfl hl.1 rfl (Nat.le_of_ble_eq_true rfl) dX11_init_77 ⟨(Nat.le_of_ble_eq_true rfl), (Nat.le_of_ble_eq_true rfl)⟩ (fun v w H locs hp E9 => ?_)
  obtain ⟨rfl, e9⟩ := hp
  rw [e9] at E9
  have E : El D (tyl cf) B s (wr ++ (mCells a0 (fun i => [q1, q2, q3, q4, q5, q6, q7, q8].getD i 0) cf)) H locs := E9
  change W p l e (rmE 2 8 3783) s m args below meth c H locs _ _ _ (F0 m 80 ls [])
  exact e_vret C E hr hlk (Nat.le_of_ble_eq_true rfl) (Nat.le_of_ble_eq_true rfl) ⟨rfl, _, rfl⟩ dX11_init_80
