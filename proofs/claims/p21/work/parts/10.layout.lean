abbrev md_J7_fill_53178_k16 : List (Nat × Nat) := [(16, 0)]
set_option maxHeartbeats 4000000 in
set_option maxRecDepth 100000 in
theorem ct_J7_fill_53178_k16 (l : Launch) (g : Gs) (I : Ms) (J : Js) (a0 : Nat) (x1 : Int32) (h0_ : Is g a0 16) : Ctr l yJ7_fill_53178 cJ7_fill_53178 4 (Option.none : Option Jvm.ClassFile.FieldType) 1 g [.ref a0, .int x1] I J (PV g md_J7_fill_53178_k16 I (fun I1 J1 => J1 = J ∧ (True))) := by
  refine m_start (by decide) (Nat.le_of_ble_eq_true rfl) ?_
  intro p e s m args below meth c C hr hlk M ls hl
  have hl : lv_has ls 4 [(0, .ref a0), (1, .int x1)] := hl
  have C : CallFix p m c cJ7_fill_53178 4 s args TB RJ7 := C
  have F : Fr g md_J7_fill_53178_k16 I I := fr_rf
  refine lv_iconst (v := 0) C.1 C.2.1 dJ7_fill_53178_0 (by decide) ?_
  refine lv_istore_n (lv' := [(2, .int 0), (0, .ref a0), (1, .int x1)]) C.1 C.2.1 dJ7_fill_53178_1 rfl hl (by decide) rfl (fun ls hl => ?_)
  refine lv_aload_n C.1 C.2.1 dJ7_fill_53178_2 rfl (lv_at hl 1 rfl) ?_
  refine a_ln C M h0_ rfl (v := 280) rfl dJ7_fill_53178_3 ?_
  refine lv_istore_n (lv' := [(3, .int 280), (2, .int 0), (0, .ref a0), (1, .int x1)]) C.1 C.2.1 dJ7_fill_53178_4 rfl hl (by decide) rfl (fun ls hl => ?_)
  have L5 : ∀ (n5 : Nat) (y1 : Int32) (I2 : Ms) (H : Heap) (locs : List Loc) (ls : Array Slot), 0 ≤ y1.toInt → y1.toInt ≤ 280 → 280 - y1.toInt < (n5 : Int) → Fr g md_J7_fill_53178_k16 I I2 → Mm g s I2 J H locs → lv_has ls 4 [(0, .ref a0), (1, .int x1), (2, .int y1), (3, .int 280)] → W p l e (rmL 1) s m args below meth c H locs 0 0 (MQg below g (PV g md_J7_fill_53178_k16 I (fun I1 J1 => J1 = J ∧ (True))) args s) (F0 m 5 ls []) := by
    intro n5
    induction n5 with
    | zero =>
      intro y1 I2 H locs ls f3 f4 hm5 F M hl
      exact absurd hm5 (by omega)
    | succ n5 ih5 =>
      intro y1 I2 H locs ls f3 f4 hm5 F M hl
      refine lv_iload_n C.1 C.2.1 dJ7_fill_53178_5 rfl (lv_at hl 2 rfl) ?_
      refine lv_iload_n C.1 C.2.1 dJ7_fill_53178_6 rfl (lv_at hl 3 rfl) ?_
      refine n_icmp_ge C (tgt := 20) (Y := 280) dJ7_fill_53178_7 (by decide) rfl rfl (fun q5 => ?_) (fun q5 => ?_)
      ·
        exact r_PV C M hr hlk F ⟨rfl, trivial⟩ dJ7_fill_53178_20
      ·
        refine lv_aload_n C.1 C.2.1 dJ7_fill_53178_10 rfl (lv_at hl 0 rfl) ?_
        refine lv_iload_n C.1 C.2.1 dJ7_fill_53178_11 rfl (lv_at hl 2 rfl) ?_
        refine lv_iload_n C.1 C.2.1 dJ7_fill_53178_12 rfl (lv_at hl 1 rfl) ?_
        refine a_stU C M h0_ (n := 280) rfl rfl rfl (by omega) (by omega) rfl rfl dJ7_fill_53178_13 (fun H locs I6 k8 f7 M => ?_)
        have F := fr_put F h0_ (Or.inl (by decide)) f7
        refine n_iinc C (k := 2) (N := 1) (lv' := fun v => [(2, .int v), (0, .ref a0), (1, .int x1), (3, .int 280)]) dJ7_fill_53178_14 hl rfl (by decide) rfl rfl (by omega) (by omega) (fun _ => rfl) (fun v9 ls ev9 hl => ?_)
        refine lv_goto (tgt := 5) C.1 C.2.1 dJ7_fill_53178_17 (by decide) ?_
        exact ih5 v9 I6 _ _ _ (by omega) (by omega) (by omega) F M (lv_sub hl [1, 2, 0, 3] rfl)
  have cz10 : (0 : Int32).toInt = 0 := rfl
  exact L5 _ 0 I _ _ _ (by omega) (by omega) (n_big _) F M (lv_sub hl [2, 3, 1, 0] rfl)

abbrev md_J7_fill_53178_k17 : List (Nat × Nat) := [(17, 0)]
set_option maxHeartbeats 4000000 in
set_option maxRecDepth 100000 in
theorem ct_J7_fill_53178_k17 (l : Launch) (g : Gs) (I : Ms) (J : Js) (a0 : Nat) (x1 : Int32) (h0_ : Is g a0 17) : Ctr l yJ7_fill_53178 cJ7_fill_53178 4 (Option.none : Option Jvm.ClassFile.FieldType) 1 g [.ref a0, .int x1] I J (PV g md_J7_fill_53178_k17 I (fun I1 J1 => J1 = J ∧ (True))) := by
  refine m_start (by decide) (Nat.le_of_ble_eq_true rfl) ?_
  intro p e s m args below meth c C hr hlk M ls hl
  have hl : lv_has ls 4 [(0, .ref a0), (1, .int x1)] := hl
  have C : CallFix p m c cJ7_fill_53178 4 s args TB RJ7 := C
  have F : Fr g md_J7_fill_53178_k17 I I := fr_rf
  refine lv_iconst (v := 0) C.1 C.2.1 dJ7_fill_53178_0 (by decide) ?_
  refine lv_istore_n (lv' := [(2, .int 0), (0, .ref a0), (1, .int x1)]) C.1 C.2.1 dJ7_fill_53178_1 rfl hl (by decide) rfl (fun ls hl => ?_)
  refine lv_aload_n C.1 C.2.1 dJ7_fill_53178_2 rfl (lv_at hl 1 rfl) ?_
  refine a_ln C M h0_ rfl (v := 280) rfl dJ7_fill_53178_3 ?_
  refine lv_istore_n (lv' := [(3, .int 280), (2, .int 0), (0, .ref a0), (1, .int x1)]) C.1 C.2.1 dJ7_fill_53178_4 rfl hl (by decide) rfl (fun ls hl => ?_)
  have L5 : ∀ (n5 : Nat) (y1 : Int32) (I2 : Ms) (H : Heap) (locs : List Loc) (ls : Array Slot), 0 ≤ y1.toInt → y1.toInt ≤ 280 → 280 - y1.toInt < (n5 : Int) → Fr g md_J7_fill_53178_k17 I I2 → Mm g s I2 J H locs → lv_has ls 4 [(0, .ref a0), (1, .int x1), (2, .int y1), (3, .int 280)] → W p l e (rmL 1) s m args below meth c H locs 0 0 (MQg below g (PV g md_J7_fill_53178_k17 I (fun I1 J1 => J1 = J ∧ (True))) args s) (F0 m 5 ls []) := by
    intro n5
    induction n5 with
    | zero =>
      intro y1 I2 H locs ls f3 f4 hm5 F M hl
      exact absurd hm5 (by omega)
    | succ n5 ih5 =>
      intro y1 I2 H locs ls f3 f4 hm5 F M hl
      refine lv_iload_n C.1 C.2.1 dJ7_fill_53178_5 rfl (lv_at hl 2 rfl) ?_
      refine lv_iload_n C.1 C.2.1 dJ7_fill_53178_6 rfl (lv_at hl 3 rfl) ?_
      refine n_icmp_ge C (tgt := 20) (Y := 280) dJ7_fill_53178_7 (by decide) rfl rfl (fun q5 => ?_) (fun q5 => ?_)
      ·
        exact r_PV C M hr hlk F ⟨rfl, trivial⟩ dJ7_fill_53178_20
      ·
        refine lv_aload_n C.1 C.2.1 dJ7_fill_53178_10 rfl (lv_at hl 0 rfl) ?_
        refine lv_iload_n C.1 C.2.1 dJ7_fill_53178_11 rfl (lv_at hl 2 rfl) ?_
        refine lv_iload_n C.1 C.2.1 dJ7_fill_53178_12 rfl (lv_at hl 1 rfl) ?_
        refine a_stU C M h0_ (n := 280) rfl rfl rfl (by omega) (by omega) rfl rfl dJ7_fill_53178_13 (fun H locs I6 k8 f7 M => ?_)
        have F := fr_put F h0_ (Or.inl (by decide)) f7
        refine n_iinc C (k := 2) (N := 1) (lv' := fun v => [(2, .int v), (0, .ref a0), (1, .int x1), (3, .int 280)]) dJ7_fill_53178_14 hl rfl (by decide) rfl rfl (by omega) (by omega) (fun _ => rfl) (fun v9 ls ev9 hl => ?_)
        refine lv_goto (tgt := 5) C.1 C.2.1 dJ7_fill_53178_17 (by decide) ?_
        exact ih5 v9 I6 _ _ _ (by omega) (by omega) (by omega) F M (lv_sub hl [1, 2, 0, 3] rfl)
  have cz10 : (0 : Int32).toInt = 0 := rfl
  exact L5 _ 0 I _ _ _ (by omega) (by omega) (n_big _) F M (lv_sub hl [2, 3, 1, 0] rfl)

abbrev md_J7_fill_53178_k18 : List (Nat × Nat) := [(18, 0)]
set_option maxHeartbeats 4000000 in
set_option maxRecDepth 100000 in
theorem ct_J7_fill_53178_k18 (l : Launch) (g : Gs) (I : Ms) (J : Js) (a0 : Nat) (x1 : Int32) (h0_ : Is g a0 18) : Ctr l yJ7_fill_53178 cJ7_fill_53178 4 (Option.none : Option Jvm.ClassFile.FieldType) 1 g [.ref a0, .int x1] I J (PV g md_J7_fill_53178_k18 I (fun I1 J1 => J1 = J ∧ (True))) := by
  refine m_start (by decide) (Nat.le_of_ble_eq_true rfl) ?_
  intro p e s m args below meth c C hr hlk M ls hl
  have hl : lv_has ls 4 [(0, .ref a0), (1, .int x1)] := hl
  have C : CallFix p m c cJ7_fill_53178 4 s args TB RJ7 := C
  have F : Fr g md_J7_fill_53178_k18 I I := fr_rf
  refine lv_iconst (v := 0) C.1 C.2.1 dJ7_fill_53178_0 (by decide) ?_
  refine lv_istore_n (lv' := [(2, .int 0), (0, .ref a0), (1, .int x1)]) C.1 C.2.1 dJ7_fill_53178_1 rfl hl (by decide) rfl (fun ls hl => ?_)
  refine lv_aload_n C.1 C.2.1 dJ7_fill_53178_2 rfl (lv_at hl 1 rfl) ?_
  refine a_ln C M h0_ rfl (v := 7) rfl dJ7_fill_53178_3 ?_
  refine lv_istore_n (lv' := [(3, .int 7), (2, .int 0), (0, .ref a0), (1, .int x1)]) C.1 C.2.1 dJ7_fill_53178_4 rfl hl (by decide) rfl (fun ls hl => ?_)
  have L5 : ∀ (n5 : Nat) (y1 : Int32) (I2 : Ms) (H : Heap) (locs : List Loc) (ls : Array Slot), 0 ≤ y1.toInt → y1.toInt ≤ 7 → 7 - y1.toInt < (n5 : Int) → Fr g md_J7_fill_53178_k18 I I2 → Mm g s I2 J H locs → lv_has ls 4 [(0, .ref a0), (1, .int x1), (2, .int y1), (3, .int 7)] → W p l e (rmL 1) s m args below meth c H locs 0 0 (MQg below g (PV g md_J7_fill_53178_k18 I (fun I1 J1 => J1 = J ∧ (True))) args s) (F0 m 5 ls []) := by
    intro n5
    induction n5 with
    | zero =>
      intro y1 I2 H locs ls f3 f4 hm5 F M hl
      exact absurd hm5 (by omega)
    | succ n5 ih5 =>
      intro y1 I2 H locs ls f3 f4 hm5 F M hl
      refine lv_iload_n C.1 C.2.1 dJ7_fill_53178_5 rfl (lv_at hl 2 rfl) ?_
      refine lv_iload_n C.1 C.2.1 dJ7_fill_53178_6 rfl (lv_at hl 3 rfl) ?_
      refine n_icmp_ge C (tgt := 20) (Y := 7) dJ7_fill_53178_7 (by decide) rfl rfl (fun q5 => ?_) (fun q5 => ?_)
      ·
        exact r_PV C M hr hlk F ⟨rfl, trivial⟩ dJ7_fill_53178_20
      ·
        refine lv_aload_n C.1 C.2.1 dJ7_fill_53178_10 rfl (lv_at hl 0 rfl) ?_
        refine lv_iload_n C.1 C.2.1 dJ7_fill_53178_11 rfl (lv_at hl 2 rfl) ?_
        refine lv_iload_n C.1 C.2.1 dJ7_fill_53178_12 rfl (lv_at hl 1 rfl) ?_
        refine a_stU C M h0_ (n := 7) rfl rfl rfl (by omega) (by omega) rfl rfl dJ7_fill_53178_13 (fun H locs I6 k8 f7 M => ?_)
        have F := fr_put F h0_ (Or.inl (by decide)) f7
        refine n_iinc C (k := 2) (N := 1) (lv' := fun v => [(2, .int v), (0, .ref a0), (1, .int x1), (3, .int 7)]) dJ7_fill_53178_14 hl rfl (by decide) rfl rfl (by omega) (by omega) (fun _ => rfl) (fun v9 ls ev9 hl => ?_)
        refine lv_goto (tgt := 5) C.1 C.2.1 dJ7_fill_53178_17 (by decide) ?_
        exact ih5 v9 I6 _ _ _ (by omega) (by omega) (by omega) F M (lv_sub hl [1, 2, 0, 3] rfl)
  have cz10 : (0 : Int32).toInt = 0 := rfl
  exact L5 _ 0 I _ _ _ (by omega) (by omega) (n_big _) F M (lv_sub hl [2, 3, 1, 0] rfl)

abbrev md_J7_fill_53178_k21 : List (Nat × Nat) := [(21, 0)]
set_option maxHeartbeats 4000000 in
set_option maxRecDepth 100000 in
theorem ct_J7_fill_53178_k21 (l : Launch) (g : Gs) (I : Ms) (J : Js) (a0 : Nat) (x1 : Int32) (h0_ : Is g a0 21) : Ctr l yJ7_fill_53178 cJ7_fill_53178 4 (Option.none : Option Jvm.ClassFile.FieldType) 1 g [.ref a0, .int x1] I J (PV g md_J7_fill_53178_k21 I (fun I1 J1 => J1 = J ∧ (True))) := by
  refine m_start (by decide) (Nat.le_of_ble_eq_true rfl) ?_
  intro p e s m args below meth c C hr hlk M ls hl
  have hl : lv_has ls 4 [(0, .ref a0), (1, .int x1)] := hl
  have C : CallFix p m c cJ7_fill_53178 4 s args TB RJ7 := C
  have F : Fr g md_J7_fill_53178_k21 I I := fr_rf
  refine lv_iconst (v := 0) C.1 C.2.1 dJ7_fill_53178_0 (by decide) ?_
  refine lv_istore_n (lv' := [(2, .int 0), (0, .ref a0), (1, .int x1)]) C.1 C.2.1 dJ7_fill_53178_1 rfl hl (by decide) rfl (fun ls hl => ?_)
  refine lv_aload_n C.1 C.2.1 dJ7_fill_53178_2 rfl (lv_at hl 1 rfl) ?_
  refine a_ln C M h0_ rfl (v := 24) rfl dJ7_fill_53178_3 ?_
  refine lv_istore_n (lv' := [(3, .int 24), (2, .int 0), (0, .ref a0), (1, .int x1)]) C.1 C.2.1 dJ7_fill_53178_4 rfl hl (by decide) rfl (fun ls hl => ?_)
  have L5 : ∀ (n5 : Nat) (y1 : Int32) (I2 : Ms) (H : Heap) (locs : List Loc) (ls : Array Slot), 0 ≤ y1.toInt → y1.toInt ≤ 24 → 24 - y1.toInt < (n5 : Int) → Fr g md_J7_fill_53178_k21 I I2 → Mm g s I2 J H locs → lv_has ls 4 [(0, .ref a0), (1, .int x1), (2, .int y1), (3, .int 24)] → W p l e (rmL 1) s m args below meth c H locs 0 0 (MQg below g (PV g md_J7_fill_53178_k21 I (fun I1 J1 => J1 = J ∧ (True))) args s) (F0 m 5 ls []) := by
    intro n5
    induction n5 with
    | zero =>
      intro y1 I2 H locs ls f3 f4 hm5 F M hl
      exact absurd hm5 (by omega)
    | succ n5 ih5 =>
      intro y1 I2 H locs ls f3 f4 hm5 F M hl
      refine lv_iload_n C.1 C.2.1 dJ7_fill_53178_5 rfl (lv_at hl 2 rfl) ?_
      refine lv_iload_n C.1 C.2.1 dJ7_fill_53178_6 rfl (lv_at hl 3 rfl) ?_
      refine n_icmp_ge C (tgt := 20) (Y := 24) dJ7_fill_53178_7 (by decide) rfl rfl (fun q5 => ?_) (fun q5 => ?_)
      ·
        exact r_PV C M hr hlk F ⟨rfl, trivial⟩ dJ7_fill_53178_20
      ·
        refine lv_aload_n C.1 C.2.1 dJ7_fill_53178_10 rfl (lv_at hl 0 rfl) ?_
        refine lv_iload_n C.1 C.2.1 dJ7_fill_53178_11 rfl (lv_at hl 2 rfl) ?_
        refine lv_iload_n C.1 C.2.1 dJ7_fill_53178_12 rfl (lv_at hl 1 rfl) ?_
        refine a_stU C M h0_ (n := 24) rfl rfl rfl (by omega) (by omega) rfl rfl dJ7_fill_53178_13 (fun H locs I6 k8 f7 M => ?_)
        have F := fr_put F h0_ (Or.inl (by decide)) f7
        refine n_iinc C (k := 2) (N := 1) (lv' := fun v => [(2, .int v), (0, .ref a0), (1, .int x1), (3, .int 24)]) dJ7_fill_53178_14 hl rfl (by decide) rfl rfl (by omega) (by omega) (fun _ => rfl) (fun v9 ls ev9 hl => ?_)
        refine lv_goto (tgt := 5) C.1 C.2.1 dJ7_fill_53178_17 (by decide) ?_
        exact ih5 v9 I6 _ _ _ (by omega) (by omega) (by omega) F M (lv_sub hl [1, 2, 0, 3] rfl)
  have cz10 : (0 : Int32).toInt = 0 := rfl
  exact L5 _ 0 I _ _ _ (by omega) (by omega) (n_big _) F M (lv_sub hl [2, 3, 1, 0] rfl)

set_option maxHeartbeats 4000000 in
set_option maxRecDepth 100000 in
theorem ct_X5_rowOf (l : Launch) (g : Gs) (I : Ms) (J : Js) (a0 : Nat) (x1 : Int32) (h0_ : Is g a0 3) : Ctr l yX5_rowOf cX5_rowOf 2 (Option.some Jvm.ClassFile.FieldType.int) 1 g [.ref a0, .int x1] I J (PI I J (fun z => True)) := by
  refine m_start (by decide) (Nat.le_of_ble_eq_true rfl) ?_
  intro p e s m args below meth c C hr hlk M ls hl
  have hl : lv_has ls 2 [(0, .ref a0), (1, .int x1)] := hl
  have C : CallFix p m c cX5_rowOf 2 s args TB RX5 := C
  refine lv_iload_n C.1 C.2.1 dX5_rowOf_0 rfl (lv_at hl 1 rfl) ?_
  refine lv_aload_n C.1 C.2.1 dX5_rowOf_1 rfl (lv_at hl 0 rfl) ?_
  refine gi_X5_15 C M h0_ dX5_rowOf_2 (fun v1 kv1 tv1 uv1 => ?_)
  refine n_idivU C dX5_rowOf_5 rfl (by omega) (fun v2 => ?_)
  exact r_PI C M hr hlk rfl trivial dX5_rowOf_6

set_option maxHeartbeats 4000000 in
set_option maxRecDepth 100000 in
theorem ct_X5_parityDisk (l : Launch) (g : Gs) (I : Ms) (J : Js) (a0 : Nat) (x1 : Int32) (h0_ : Is g a0 3) : Ctr l yX5_parityDisk cX5_parityDisk 2 (Option.some Jvm.ClassFile.FieldType.int) 1 g [.ref a0, .int x1] I J (PI I J (fun z => True)) := by
  refine m_start (by decide) (Nat.le_of_ble_eq_true rfl) ?_
  intro p e s m args below meth c C hr hlk M ls hl
  have hl : lv_has ls 2 [(0, .ref a0), (1, .int x1)] := hl
  have C : CallFix p m c cX5_parityDisk 2 s args TB RX5 := C
  refine lv_aload_n C.1 C.2.1 dX5_parityDisk_0 rfl (lv_at hl 0 rfl) ?_
  refine gi_X5_9 C M h0_ dX5_parityDisk_1 (fun v1 kv1 tv1 uv1 => ?_)
  refine lv_iconst (v := 1) C.1 C.2.1 dX5_parityDisk_4 (by decide) ?_
  refine n_isub C (Y := 1) dX5_parityDisk_5 rfl rfl (by omega) (by omega) (fun v2 ev2 => ?_)
  refine lv_iload_n C.1 C.2.1 dX5_parityDisk_6 rfl (lv_at hl 1 rfl) ?_
  refine lv_aload_n C.1 C.2.1 dX5_parityDisk_7 rfl (lv_at hl 0 rfl) ?_
  refine gk_X5_9 C M h0_ kv1 dX5_parityDisk_8 ?_
  refine n_iremP C dX5_parityDisk_11 rfl (by omega) (fun v3 lv3 uv3 => ?_)
  refine n_isub C dX5_parityDisk_12 rfl rfl (by omega) (by omega) (fun v4 ev4 => ?_)
  exact r_PI C M hr hlk rfl trivial dX5_parityDisk_13

set_option maxHeartbeats 4000000 in
set_option maxRecDepth 100000 in
theorem ct_X5_diskOf (l : Launch) (g : Gs) (I : Ms) (J : Js) (a0 : Nat) (x1 : Int32) (h0_ : Is g a0 3) : Ctr l yX5_diskOf cX5_diskOf 2 (Option.some Jvm.ClassFile.FieldType.int) 2 g [.ref a0, .int x1] I J (PI I J (fun z => True)) := by
  refine m_start (by decide) (Nat.le_of_ble_eq_true rfl) ?_
  intro p e s m args below meth c C hr hlk M ls hl
  have hl : lv_has ls 2 [(0, .ref a0), (1, .int x1)] := hl
  have C : CallFix p m c cX5_diskOf 2 s args TB RX5 := C
  refine lv_aload_n C.1 C.2.1 dX5_diskOf_0 rfl (lv_at hl 0 rfl) ?_
  refine lv_iload_n C.1 C.2.1 dX5_diskOf_1 rfl (lv_at hl 1 rfl) ?_
  refine lv_aload_n C.1 C.2.1 dX5_diskOf_2 rfl (lv_at hl 0 rfl) ?_
  refine gi_X5_15 C M h0_ dX5_diskOf_3 (fun v1 kv1 tv1 uv1 => ?_)
  refine n_idivU C dX5_diskOf_6 rfl (by omega) (fun v2 => ?_)
  refine k_PI C M h0_ (by decide) rfl (ct_X5_parityDisk l g I J a0 v2 h0_) (cw_X5_18 C.2.2.2.2 (by decide)) rfl hl.1 rfl (Nat.le_of_ble_eq_true rfl) dX5_diskOf_7 ⟨Nat.le_refl _, Nat.le_refl _⟩ (fun r3 H locs p4r M => ?_)
  have p4 : True := p4r
  refine lv_iconst (v := 1) C.1 C.2.1 dX5_diskOf_10 (by decide) ?_
  refine n_iaddU C dX5_diskOf_11 (fun v5 => ?_)
  refine lv_iload_n C.1 C.2.1 dX5_diskOf_12 rfl (lv_at hl 1 rfl) ?_
  refine lv_aload_n C.1 C.2.1 dX5_diskOf_13 rfl (lv_at hl 0 rfl) ?_
  refine gk_X5_15 C M h0_ kv1 dX5_diskOf_14 ?_
  refine n_iremP C dX5_diskOf_17 rfl (by omega) (fun v6 lv6 uv6 => ?_)
  refine n_iaddU C dX5_diskOf_18 (fun v7 => ?_)
  refine lv_aload_n C.1 C.2.1 dX5_diskOf_19 rfl (lv_at hl 0 rfl) ?_
  refine gi_X5_9 C M h0_ dX5_diskOf_20 (fun v8 kv8 tv8 uv8 => ?_)
  refine n_iremP C dX5_diskOf_23 rfl (by omega) (fun v9 lv9 uv9 => ?_)
  exact r_PI C M hr hlk rfl trivial dX5_diskOf_24
