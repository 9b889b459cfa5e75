set_option maxHeartbeats 4000000 in
set_option maxRecDepth 100000 in
theorem ct_X11_within (l : Launch) (g : Gs) (I : Ms) (J : Js) (x0 : Int32) (x1 : Int32) (x2 : Int32) : Ctr l yX11_within cX11_within 3 (Option.some Jvm.ClassFile.FieldType.boolean) 1 g [.int x0, .int x1, .int x2] I J (PI I J (fun z => 0 ≤ z ∧ z ≤ 1 ∧ (z = 1 ↔ x1.toInt ≤ x0.toInt ∧ x0.toInt ≤ x2.toInt))) := by
  refine m_start (by decide) (Nat.le_of_ble_eq_true rfl) ?_
  intro p e s m args below meth c C hr hlk M ls hl
  have hl : lv_has ls 3 [(0, .int x0), (1, .int x1), (2, .int x2)] := hl
  have C : CallFix p m c cX11_within 3 s args TB RX11 := C
  refine lv_iload_n C.1 C.2.1 dX11_within_0 rfl (lv_at hl 0 rfl) ?_
  refine lv_iload_n C.1 C.2.1 dX11_within_1 rfl (lv_at hl 1 rfl) ?_
  refine n_icmp_lt C (tgt := 14) dX11_within_2 (by decide) rfl rfl (fun q1 => ?_) (fun q1 => ?_)
  ·
    refine lv_iconst (v := 0) C.1 C.2.1 dX11_within_14 (by decide) ?_
    exact r_PIz C M (z := 0) hr hlk rfl (by omega) (by omega) (by omega) dX11_within_15
  ·
    refine lv_iload_n C.1 C.2.1 dX11_within_5 rfl (lv_at hl 0 rfl) ?_
    refine lv_iload_n C.1 C.2.1 dX11_within_6 rfl (lv_at hl 2 rfl) ?_
    refine n_icmp_gt C (tgt := 14) dX11_within_7 (by decide) rfl rfl (fun q2 => ?_) (fun q2 => ?_)
    ·
      refine lv_iconst (v := 0) C.1 C.2.1 dX11_within_14 (by decide) ?_
      exact r_PIz C M (z := 0) hr hlk rfl (by omega) (by omega) (by omega) dX11_within_15
    ·
      refine lv_iconst (v := 1) C.1 C.2.1 dX11_within_10 (by decide) ?_
      refine lv_goto (tgt := 15) C.1 C.2.1 dX11_within_11 (by decide) ?_
      exact r_PIz C M (z := 1) hr hlk rfl (by omega) (by omega) (by omega) dX11_within_15

set_option maxHeartbeats 4000000 in
set_option maxRecDepth 100000 in
theorem ct_X11_parityOf (l : Launch) (g : Gs) (I : Ms) (J : Js) (x0 : Int32) (x1 : Int32) (g0 : 3 ≤ x0.toInt) (g1 : x0.toInt ≤ 8) (g2 : 0 ≤ x1.toInt) : Ctr l yX11_parityOf cX11_parityOf 2 (Option.some Jvm.ClassFile.FieldType.int) 1 g [.int x0, .int x1] I J (PI I J (fun z => 0 ≤ z ∧ z ≤ x0.toInt - 1)) := by
  refine m_start (by decide) (Nat.le_of_ble_eq_true rfl) ?_
  intro p e s m args below meth c C hr hlk M ls hl
  have hl : lv_has ls 2 [(0, .int x0), (1, .int x1)] := hl
  have C : CallFix p m c cX11_parityOf 2 s args TB RX11 := C
  refine lv_iload_n C.1 C.2.1 dX11_parityOf_0 rfl (lv_at hl 0 rfl) ?_
  refine lv_iconst (v := 1) C.1 C.2.1 dX11_parityOf_1 (by decide) ?_
  refine n_isub C (Y := 1) dX11_parityOf_2 rfl rfl (by omega) (by omega) (fun v1 ev1 => ?_)
  refine lv_iload_n C.1 C.2.1 dX11_parityOf_3 rfl (lv_at hl 1 rfl) ?_
  refine lv_iload_n C.1 C.2.1 dX11_parityOf_4 rfl (lv_at hl 0 rfl) ?_
  refine n_irem0 C dX11_parityOf_5 rfl rfl (by omega) (by omega) (fun v2 ev2 lv2 uv2 => ?_)
  refine n_isub C dX11_parityOf_6 rfl rfl (by omega) (by omega) (fun v3 ev3 => ?_)
  exact r_PI C M hr hlk rfl (by omega) dX11_parityOf_7

set_option maxHeartbeats 4000000 in
set_option maxRecDepth 100000 in
theorem ct_X11_diskOf (l : Launch) (g : Gs) (I : Ms) (J : Js) (x0 : Int32) (x1 : Int32) (g0 : 3 ≤ x0.toInt) (g1 : x0.toInt ≤ 8) (g2 : 0 ≤ x1.toInt) (g3 : x1.toInt ≤ 1000) : Ctr l yX11_diskOf cX11_diskOf 2 (Option.some Jvm.ClassFile.FieldType.int) 2 g [.int x0, .int x1] I J (PI I J (fun z => 0 ≤ z ∧ z ≤ x0.toInt - 1)) := by
  refine m_start (by decide) (Nat.le_of_ble_eq_true rfl) ?_
  intro p e s m args below meth c C hr hlk M ls hl
  have hl : lv_has ls 2 [(0, .int x0), (1, .int x1)] := hl
  have C : CallFix p m c cX11_diskOf 2 s args TB RX11 := C
  refine lv_iload_n C.1 C.2.1 dX11_diskOf_0 rfl (lv_at hl 0 rfl) ?_
  refine lv_iload_n C.1 C.2.1 dX11_diskOf_1 rfl (lv_at hl 1 rfl) ?_
  refine lv_iload_n C.1 C.2.1 dX11_diskOf_2 rfl (lv_at hl 0 rfl) ?_
  refine lv_iconst (v := 1) C.1 C.2.1 dX11_diskOf_3 (by decide) ?_
  refine n_isub C (Y := 1) dX11_diskOf_4 rfl rfl (by omega) (by omega) (fun v1 ev1 => ?_)
  refine n_idiv0 C dX11_diskOf_5 rfl rfl (by omega) (by omega) (fun v2 ev2 lv2 uv2 => ?_)
  have q3 : v2.toInt ≤ 500 := by rw [ev2]; exact i_dle (by omega) (by omega) (by omega)
  refine ks_PI C M (ct_X11_parityOf l g I J x0 v2 (by omega) (by omega) (by omega)) (cw_X11_46 C.2.2.2.2 (by decide)) rfl hl.1 rfl (Nat.le_of_ble_eq_true rfl) dX11_diskOf_6 ⟨Nat.le_refl _, Nat.le_refl _⟩ (fun r4 H locs p5r M => ?_)
  have p5 : 0 ≤ r4.toInt ∧ r4.toInt ≤ x0.toInt - 1 := p5r
  refine lv_iconst (v := 1) C.1 C.2.1 dX11_diskOf_9 (by decide) ?_
  refine n_iadd C (Y := 1) dX11_diskOf_10 rfl rfl (by omega) (by omega) (fun v6 ev6 => ?_)
  refine lv_iload_n C.1 C.2.1 dX11_diskOf_11 rfl (lv_at hl 1 rfl) ?_
  refine lv_iload_n C.1 C.2.1 dX11_diskOf_12 rfl (lv_at hl 0 rfl) ?_
  refine lv_iconst (v := 1) C.1 C.2.1 dX11_diskOf_13 (by decide) ?_
  refine n_isub C (Y := 1) dX11_diskOf_14 rfl rfl (by omega) (by omega) (fun v7 ev7 => ?_)
  refine n_irem0 C dX11_diskOf_15 rfl rfl (by omega) (by omega) (fun v8 ev8 lv8 uv8 => ?_)
  refine n_iadd C dX11_diskOf_16 rfl rfl (by omega) (by omega) (fun v9 ev9 => ?_)
  refine lv_iload_n C.1 C.2.1 dX11_diskOf_17 rfl (lv_at hl 0 rfl) ?_
  refine n_irem0 C dX11_diskOf_18 rfl rfl (by omega) (by omega) (fun v10 ev10 lv10 uv10 => ?_)
  exact r_PI C M hr hlk rfl (by omega) dX11_diskOf_19

set_option maxHeartbeats 4000000 in
set_option maxRecDepth 100000 in
theorem ct_X11_rowOf (l : Launch) (g : Gs) (I : Ms) (J : Js) (x0 : Int32) (x1 : Int32) (g0 : 3 ≤ x0.toInt) (g1 : x0.toInt ≤ 8) (g2 : 0 ≤ x1.toInt) (g3 : x1.toInt ≤ 1000) : Ctr l yX11_rowOf cX11_rowOf 2 (Option.some Jvm.ClassFile.FieldType.int) 1 g [.int x0, .int x1] I J (PI I J (fun z => z = x1.toInt / (x0.toInt - 1) ∧ 0 ≤ z ∧ 2 * z ≤ x1.toInt)) := by
  refine m_start (by decide) (Nat.le_of_ble_eq_true rfl) ?_
  intro p e s m args below meth c C hr hlk M ls hl
  have hl : lv_has ls 2 [(0, .int x0), (1, .int x1)] := hl
  have C : CallFix p m c cX11_rowOf 2 s args TB RX11 := C
  refine lv_iload_n C.1 C.2.1 dX11_rowOf_0 rfl (lv_at hl 1 rfl) ?_
  refine lv_iload_n C.1 C.2.1 dX11_rowOf_1 rfl (lv_at hl 0 rfl) ?_
  refine lv_iconst (v := 1) C.1 C.2.1 dX11_rowOf_2 (by decide) ?_
  refine n_isub C (Y := 1) dX11_rowOf_3 rfl rfl (by omega) (by omega) (fun v1 ev1 => ?_)
  refine n_idiv0 C dX11_rowOf_4 rfl rfl (by omega) (by omega) (fun v2 ev2 lv2 uv2 => ?_)
  have q3 : v2.toInt ≤ 500 := by rw [ev2]; exact i_dle (by omega) (by omega) (by omega)
  exact r_PI C M hr hlk rfl (by have e9 : v2.toInt = x1.toInt / (x0.toInt - 1) := (by rw [ev2]; congr 1); have e8 := i_half (X := x1.toInt) (Y := x0.toInt - 1) (by omega) (by omega); exact ⟨e9, by omega, by omega⟩) dX11_rowOf_5

set_option maxHeartbeats 4000000 in
set_option maxRecDepth 100000 in
theorem ct_X11_at (l : Launch) (g : Gs) (I : Ms) (J : Js) (x0 : Int32) (x1 : Int32) (g0 : 0 ≤ x0.toInt) (g1 : x0.toInt ≤ 7) (g2 : 0 ≤ x1.toInt) (g3 : x1.toInt ≤ 200) : Ctr l yX11_at cX11_at 2 (Option.some Jvm.ClassFile.FieldType.int) 1 g [.int x0, .int x1] I J (PI I J (fun z => z = 40 * x0.toInt + x1.toInt)) := by
  refine m_start (by decide) (Nat.le_of_ble_eq_true rfl) ?_
  intro p e s m args below meth c C hr hlk M ls hl
  have hl : lv_has ls 2 [(0, .int x0), (1, .int x1)] := hl
  have C : CallFix p m c cX11_at 2 s args TB RX11 := C
  refine lv_bipush (v := 40) C.1 C.2.1 dX11_at_0 (by decide) ?_
  refine lv_iload_n C.1 C.2.1 dX11_at_2 rfl (lv_at hl 0 rfl) ?_
  refine n_imul C (X := 40) dX11_at_3 rfl rfl (by omega) (by omega) (fun v1 ev1 => ?_)
  refine lv_iload_n C.1 C.2.1 dX11_at_4 rfl (lv_at hl 1 rfl) ?_
  refine n_iadd C dX11_at_5 rfl rfl (by omega) (by omega) (fun v2 ev2 => ?_)
  exact r_PI C M hr hlk rfl (by omega) dX11_at_6

set_option maxHeartbeats 4000000 in
set_option maxRecDepth 100000 in
theorem ct_X11_isReadable (l : Launch) (g : Gs) (I : Ms) (J : Js) (a0 : Nat) (x1 : Int32) (x2 : Int32) (h0_ : Is g a0 9) (g0 : 0 ≤ x1.toInt) (g1 : x1.toInt ≤ 7) (g2 : 0 ≤ x2.toInt) (g3 : x2.toInt ≤ 160) : Ctr l yX11_isReadable cX11_isReadable 3 (Option.some Jvm.ClassFile.FieldType.boolean) 2 g [.ref a0, .int x1, .int x2] I J (PI I J (fun z => 0 ≤ z ∧ z ≤ 1)) := by
  refine m_start (by decide) (Nat.le_of_ble_eq_true rfl) ?_
  intro p e s m args below meth c C hr hlk M ls hl
  have hl : lv_has ls 3 [(0, .ref a0), (1, .int x1), (2, .int x2)] := hl
  have C : CallFix p m c cX11_isReadable 3 s args TB RX11 := C
  refine lv_aload_n C.1 C.2.1 dX11_isReadable_0 rfl (lv_at hl 0 rfl) ?_
  refine gi_X11_7 C M h0_ dX11_isReadable_1 (fun h1 => ?_)
  refine lv_sipush (v := 721) C.1 C.2.1 dX11_isReadable_4 (by decide) ?_
  refine a_ld C M (X := 721) (j := 721) h1 (n := 729) rfl rfl rfl (by omega) (by omega) rfl dX11_isReadable_7 (fun v2 kv2 => ?_)
  have tv2 := m_rng M h1 721 kv2 rfl
  have tv2 : -1 ≤ v2.toInt ∧ v2.toInt ≤ 6 := tv2
  refine lv_iload_n C.1 C.2.1 dX11_isReadable_8 rfl (lv_at hl 1 rfl) ?_
  refine n_icmp_eq C (tgt := 33) dX11_isReadable_9 (by decide) rfl rfl (fun q3 => ?_) (fun q3 => ?_)
  ·
    refine lv_iconst (v := 0) C.1 C.2.1 dX11_isReadable_33 (by decide) ?_
    exact r_PIz C M (z := 0) hr hlk rfl (by omega) (by omega) (by omega) dX11_isReadable_34
  ·
    refine lv_aload_n C.1 C.2.1 dX11_isReadable_12 rfl (lv_at hl 0 rfl) ?_
    refine gi_X11_7 C M h0_ dX11_isReadable_13 (fun h4 => ?_)
    refine lv_sipush (v := 280) C.1 C.2.1 dX11_isReadable_16 (by decide) ?_
    refine lv_iload_n C.1 C.2.1 dX11_isReadable_19 rfl (lv_at hl 1 rfl) ?_
    refine lv_iload_n C.1 C.2.1 dX11_isReadable_20 rfl (lv_at hl 2 rfl) ?_
    refine ks_PI C M (ct_X11_at l g I J x1 x2 (by omega) (by omega) (by omega) (by omega)) (cw_X11_50 C.2.2.2.2 (by decide)) rfl hl.1 rfl (Nat.le_of_ble_eq_true rfl) dX11_isReadable_21 ⟨Nat.le_refl _, Nat.le_refl _⟩ (fun r5 H locs p6r M => ?_)
    have p6 : r5.toInt = 40 * x1.toInt + x2.toInt := p6r
    refine n_iadd C (X := 280) dX11_isReadable_24 rfl rfl (by omega) (by omega) (fun v7 ev7 => ?_)
    refine a_ld C M h1 (n := 729) rfl rfl rfl (by omega) (by omega) rfl dX11_isReadable_25 (fun v8 kv8 => ?_)
    refine n_if_ne C (tgt := 33) dX11_isReadable_26 (by decide) rfl (fun q9 => ?_) (fun q9 => ?_)
    ·
      refine lv_iconst (v := 0) C.1 C.2.1 dX11_isReadable_33 (by decide) ?_
      exact r_PIz C M (z := 0) hr hlk rfl (by omega) (by omega) (by omega) dX11_isReadable_34
    ·
      refine lv_iconst (v := 1) C.1 C.2.1 dX11_isReadable_29 (by decide) ?_
      refine lv_goto (tgt := 34) C.1 C.2.1 dX11_isReadable_30 (by decide) ?_
      exact r_PIz C M (z := 1) hr hlk rfl (by omega) (by omega) (by omega) dX11_isReadable_34

abbrev md_X11_reads : List (Nat × Nat) := [(9, 11), (9, 12)]
set_option maxHeartbeats 4000000 in
set_option maxRecDepth 100000 in
theorem ct_X11_reads (l : Launch) (g : Gs) (I : Ms) (J : Js) (a0 : Nat) (x1 : Int32) (x2 : Int32) (x3 : Int32) (h0_ : Is g a0 9) (g0 : 3 ≤ x1.toInt) (g1 : x1.toInt ≤ 8) (g2 : 0 ≤ x2.toInt) (g3 : x2.toInt ≤ 7) (g4 : 0 ≤ x3.toInt) (g5 : x3.toInt ≤ 160) : Ctr l yX11_reads cX11_reads 5 (Option.some Jvm.ClassFile.FieldType.boolean) 3 g [.ref a0, .int x1, .int x2, .int x3] I J (PM g md_X11_reads I (fun z I1 J1 => J1 = J ∧ (0 ≤ z ∧ z ≤ 1))) := by
  refine m_start (by decide) (Nat.le_of_ble_eq_true rfl) ?_
  intro p e s m args below meth c C hr hlk M ls hl
  have hl : lv_has ls 5 [(0, .ref a0), (1, .int x1), (2, .int x2), (3, .int x3)] := hl
  have C : CallFix p m c cX11_reads 5 s args TB RX11 := C
  have F : Fr g md_X11_reads I I := fr_rf
  refine lv_aload_n C.1 C.2.1 dX11_reads_0 rfl (lv_at hl 0 rfl) ?_
  refine lv_aload_n C.1 C.2.1 dX11_reads_1 rfl (lv_at hl 0 rfl) ?_
  refine gi_X11_7 C M h0_ dX11_reads_2 (fun h1 => ?_)
  refine lv_iconst (v := 0) C.1 C.2.1 dX11_reads_5 (by decide) ?_
  refine lv_iload_n C.1 C.2.1 dX11_reads_6 rfl (lv_at hl 2 rfl) ?_
  refine lv_iload_n C.1 C.2.1 dX11_reads_7 rfl (lv_at hl 3 rfl) ?_
  refine ks_PI C M (ct_X11_at l g I J x2 x3 (by omega) (by omega) (by omega) (by omega)) (cw_X11_50 C.2.2.2.2 (by decide)) rfl hl.1 rfl (Nat.le_of_ble_eq_true rfl) dX11_reads_8 ⟨Nat.le_refl _, Nat.le_refl _⟩ (fun r2 H locs p3r M => ?_)
  have p3 : r2.toInt = 40 * x2.toInt + x3.toInt := p3r
  refine n_iadd C (X := 0) dX11_reads_11 rfl rfl (by omega) (by omega) (fun v4 ev4 => ?_)
  refine a_ld C M h1 (n := 729) rfl rfl rfl (by omega) (by omega) rfl dX11_reads_12 (fun v5 kv5 => ?_)
  refine pi_X11_53 C M h0_ dX11_reads_13 (fun H locs I6 k8 f7 M => ?_)
  have F := fr_put F h0_ (Or.inr (by decide)) f7
  refine lv_aload_n C.1 C.2.1 dX11_reads_16 rfl (lv_at hl 0 rfl) ?_
  refine lv_iconst (v := 1) C.1 C.2.1 dX11_reads_17 (by decide) ?_
  refine pi_X11_56 C M h0_ dX11_reads_18 (fun H locs I9 k11 f10 M => ?_)
  have F := fr_put F h0_ (Or.inr (by decide)) f10
  refine lv_aload_n C.1 C.2.1 dX11_reads_21 rfl (lv_at hl 0 rfl) ?_
  refine lv_iload_n C.1 C.2.1 dX11_reads_22 rfl (lv_at hl 2 rfl) ?_
  refine lv_iload_n C.1 C.2.1 dX11_reads_23 rfl (lv_at hl 3 rfl) ?_
  refine k_PI C M h0_ (by decide) rfl (ct_X11_isReadable l g I9 J a0 x2 x3 h0_ (by omega) (by omega) (by omega) (by omega)) (cw_X11_59 C.2.2.2.2 (by decide)) rfl hl.1 rfl (Nat.le_of_ble_eq_true rfl) dX11_reads_24 ⟨Nat.le_refl _, Nat.le_refl _⟩ (fun r12 H locs p13r M => ?_)
  have p13 : 0 ≤ r12.toInt ∧ r12.toInt ≤ 1 := p13r
  refine n_if_eq C (tgt := 32) dX11_reads_27 (by decide) rfl (fun q14 => ?_) (fun q14 => ?_)
  ·
    refine lv_aload_n C.1 C.2.1 dX11_reads_32 rfl (lv_at hl 0 rfl) ?_
    refine lv_iconst (v := 0) C.1 C.2.1 dX11_reads_33 (by decide) ?_
    refine pi_X11_53 C M h0_ dX11_reads_34 (fun H locs I15 k17 f16 M => ?_)
    have F := fr_put F h0_ (Or.inr (by decide)) f16
    refine lv_aload_n C.1 C.2.1 dX11_reads_37 rfl (lv_at hl 0 rfl) ?_
    refine lv_iload_n C.1 C.2.1 dX11_reads_38 rfl (lv_at hl 1 rfl) ?_
    refine lv_iconst (v := 1) C.1 C.2.1 dX11_reads_39 (by decide) ?_
    refine n_isub C (Y := 1) dX11_reads_40 rfl rfl (by omega) (by omega) (fun v18 ev18 => ?_)
    refine pi_X11_56 C M h0_ dX11_reads_41 (fun H locs I19 k21 f20 M => ?_)
    have F := fr_put F h0_ (Or.inr (by decide)) f20
    refine lv_iconst (v := 0) C.1 C.2.1 dX11_reads_44 (by decide) ?_
    refine lv_istore (lv' := [(4, .int 0), (0, .ref a0), (1, .int x1), (2, .int x2), (3, .int x3)]) C.1 C.2.1 dX11_reads_45 hl (by decide) rfl (fun ls hl => ?_)
    have L47 : ∀ (n47 : Nat) (y22 : Int32) (I23 : Ms) (H : Heap) (locs : List Loc) (ls : Array Slot), I23 a0 11 = v18 → I23 (gr g a0 0) v4.toInt.toNat = v5 → 0 ≤ y22.toInt → y22.toInt ≤ 8 → 8 - y22.toInt < (n47 : Int) → Fr g md_X11_reads I I23 → Mm g s I23 J H locs → lv_has ls 5 [(0, .ref a0), (1, .int x1), (2, .int x2), (3, .int x3), (4, .int y22)] → W p l e (rmL 3) s m args below meth c H locs 0 0 (MQg below g (PM g md_X11_reads I (fun z I1 J1 => J1 = J ∧ (0 ≤ z ∧ z ≤ 1))) args s) (F0 m 47 ls []) := by
      intro n47
      induction n47 with
      | zero =>
        intro y22 I23 H locs ls k24 k25 f26 f27 hm47 F M hl
        exact absurd hm47 (by omega)
      | succ n47 ih47 =>
        intro y22 I23 H locs ls k24 k25 f26 f27 hm47 F M hl
        refine lv_iload C.1 C.2.1 dX11_reads_47 (lv_at hl 4 rfl) ?_
        refine lv_iload_n C.1 C.2.1 dX11_reads_49 rfl (lv_at hl 1 rfl) ?_
        refine n_icmp_ge C (tgt := 107) dX11_reads_50 (by decide) rfl rfl (fun q28 => ?_) (fun q28 => ?_)
        ·
          refine lv_iconst (v := 1) C.1 C.2.1 dX11_reads_107 (by decide) ?_
          exact r_PMz C M (z := 1) hr hlk F rfl (by omega) (by omega) ⟨rfl, (by omega)⟩ dX11_reads_108
        ·
          refine lv_iload C.1 C.2.1 dX11_reads_53 (lv_at hl 4 rfl) ?_
          refine lv_iload_n C.1 C.2.1 dX11_reads_55 rfl (lv_at hl 2 rfl) ?_
          refine n_icmp_ne C (tgt := 62) dX11_reads_56 (by decide) rfl rfl (fun q29 => ?_) (fun q29 => ?_)
          ·
            refine lv_aload_n C.1 C.2.1 dX11_reads_62 rfl (lv_at hl 0 rfl) ?_
            refine lv_iload C.1 C.2.1 dX11_reads_63 (lv_at hl 4 rfl) ?_
            refine lv_iload_n C.1 C.2.1 dX11_reads_65 rfl (lv_at hl 3 rfl) ?_
            refine k_PI C M h0_ (by decide) rfl (ct_X11_isReadable l g I23 J a0 y22 x3 h0_ (by omega) (by omega) (by omega) (by omega)) (cw_X11_59 C.2.2.2.2 (by decide)) rfl hl.1 rfl (Nat.le_of_ble_eq_true rfl) dX11_reads_66 ⟨Nat.le_refl _, Nat.le_refl _⟩ (fun r30 H locs p31r M => ?_)
            have p31 : 0 ≤ r30.toInt ∧ r30.toInt ≤ 1 := p31r
            refine n_if_ne C (tgt := 79) dX11_reads_69 (by decide) rfl (fun q32 => ?_) (fun q32 => ?_)
            ·
              refine lv_aload_n C.1 C.2.1 dX11_reads_79 rfl (lv_at hl 0 rfl) ?_
              refine lv_dup C.1 C.2.1 dX11_reads_80 rfl ?_
              refine gi_X11_53 C M h0_ dX11_reads_81 (fun v33 kv33 => ?_)
              refine lv_aload_n C.1 C.2.1 dX11_reads_84 rfl (lv_at hl 0 rfl) ?_
              refine gi_X11_7 C M h0_ dX11_reads_85 (fun h34 => ?_)
              refine lv_iconst (v := 0) C.1 C.2.1 dX11_reads_88 (by decide) ?_
              refine lv_iload C.1 C.2.1 dX11_reads_89 (lv_at hl 4 rfl) ?_
              refine lv_iload_n C.1 C.2.1 dX11_reads_91 rfl (lv_at hl 3 rfl) ?_
              refine ks_PI C M (ct_X11_at l g I23 J y22 x3 (by omega) (by omega) (by omega) (by omega)) (cw_X11_50 C.2.2.2.2 (by decide)) rfl hl.1 rfl (Nat.le_of_ble_eq_true rfl) dX11_reads_92 ⟨Nat.le_refl _, Nat.le_refl _⟩ (fun r35 H locs p36r M => ?_)
              have p36 : r35.toInt = 40 * y22.toInt + x3.toInt := p36r
              refine n_iadd C (X := 0) dX11_reads_95 rfl rfl (by omega) (by omega) (fun v37 ev37 => ?_)
              refine a_ld C M h1 (n := 729) rfl rfl rfl (by omega) (by omega) rfl dX11_reads_96 (fun v38 kv38 => ?_)
              refine n_ixorU C dX11_reads_97 (fun v39 => ?_)
              refine pi_X11_53 C M h0_ dX11_reads_98 (fun H locs I40 k42 f41 M => ?_)
              have F := fr_put F h0_ (Or.inr (by decide)) f41
              refine n_iinc C (k := 4) (N := 1) (lv' := fun v => [(4, .int v), (0, .ref a0), (1, .int x1), (2, .int x2), (3, .int x3)]) dX11_reads_101 hl rfl (by decide) rfl rfl (by omega) (by omega) (fun _ => rfl) (fun v43 ls ev43 hl => ?_)
              refine lv_goto (tgt := 47) C.1 C.2.1 dX11_reads_104 (by decide) ?_
              exact ih47 v43 I40 _ _ _ ((f41 a0 11 (Or.inr (by decide))).trans k24) ((f41 (gr g a0 0) v4.toInt.toNat (Or.inl (is_ne h0_ h1 (by decide)))).trans k25) (by omega) (by omega) (by omega) F M (lv_sub hl [1, 2, 3, 4, 0] rfl)
            ·
              refine lv_aload_n C.1 C.2.1 dX11_reads_72 rfl (lv_at hl 0 rfl) ?_
              refine lv_iconst (v := 0) C.1 C.2.1 dX11_reads_73 (by decide) ?_
              refine pi_X11_56 C M h0_ dX11_reads_74 (fun H locs I44 k46 f45 M => ?_)
              have F := fr_put F h0_ (Or.inr (by decide)) f45
              refine lv_iconst (v := 0) C.1 C.2.1 dX11_reads_77 (by decide) ?_
              exact r_PMz C M (z := 0) hr hlk F rfl (by omega) (by omega) ⟨rfl, (by omega)⟩ dX11_reads_78
          ·
            refine lv_goto (tgt := 101) C.1 C.2.1 dX11_reads_59 (by decide) ?_
            refine n_iinc C (k := 4) (N := 1) (lv' := fun v => [(4, .int v), (0, .ref a0), (1, .int x1), (2, .int x2), (3, .int x3)]) dX11_reads_101 hl rfl (by decide) rfl rfl (by omega) (by omega) (fun _ => rfl) (fun v47 ls ev47 hl => ?_)
            refine lv_goto (tgt := 47) C.1 C.2.1 dX11_reads_104 (by decide) ?_
            exact ih47 v47 I23 _ _ _ k24 k25 (by omega) (by omega) (by omega) F M (lv_sub hl [1, 2, 3, 4, 0] rfl)
    have cz48 : (0 : Int32).toInt = 0 := rfl
    exact L47 _ 0 I19 _ _ _ k21 ((f20 (gr g a0 0) v4.toInt.toNat (Or.inl (is_ne h0_ h1 (by decide)))).trans ((f16 (gr g a0 0) v4.toInt.toNat (Or.inl (is_ne h0_ h1 (by decide)))).trans ((f10 (gr g a0 0) v4.toInt.toNat (Or.inl (is_ne h0_ h1 (by decide)))).trans ((f7 (gr g a0 0) v4.toInt.toNat (Or.inl (is_ne h0_ h1 (by decide)))).trans kv5)))) (by omega) (by omega) (n_big _) F M (lv_sub hl [1, 2, 3, 4, 0] rfl)
  ·
    refine lv_iconst (v := 1) C.1 C.2.1 dX11_reads_30 (by decide) ?_
    exact r_PMz C M (z := 1) hr hlk F rfl (by omega) (by omega) ⟨rfl, (by omega)⟩ dX11_reads_31

abbrev md_X11_lays : List (Nat × Nat) := [(28, 0)]
set_option maxHeartbeats 4000000 in
set_option maxRecDepth 100000 in
theorem ct_X11_lays (l : Launch) (g : Gs) (I : Ms) (J : Js) (a0 : Nat) (x1 : Int32) (x2 : Int32) (x3 : Int32) (h0_ : Is g a0 9) (g0 : 0 ≤ x1.toInt) (g1 : x1.toInt ≤ 6) (g2 : 0 ≤ x2.toInt) (g3 : x2.toInt ≤ 160) (g4 : 40 * x1.toInt + x2.toInt ≤ 327) : Ctr l yX11_lays cX11_lays 4 (Option.none : Option Jvm.ClassFile.FieldType) 2 g [.ref a0, .int x1, .int x2, .int x3] I J (PV g md_X11_lays I (fun I1 J1 => J1 = J ∧ ((True) ∧ (∀ j, 715 ≤ j → I1 (gr g a0 0) j = I (gr g a0 0) j)))) := by
  refine m_start (by decide) (Nat.le_of_ble_eq_true rfl) ?_
  intro p e s m args below meth c C hr hlk M ls hl
  have hl : lv_has ls 4 [(0, .ref a0), (1, .int x1), (2, .int x2), (3, .int x3)] := hl
  have C : CallFix p m c cX11_lays 4 s args TB RX11 := C
  have F : Fr g md_X11_lays I I := fr_rf
  have hS0 := is_ref M h0_ 0 28 rfl rfl
  have Hi : ∀ j, 715 ≤ j → I (gr g a0 0) j = I (gr g a0 0) j := by intros; rfl
  refine lv_aload_n C.1 C.2.1 dX11_lays_0 rfl (lv_at hl 0 rfl) ?_
  refine gi_X11_7 C M h0_ dX11_lays_1 (fun h1 => ?_)
  refine lv_sipush (v := 721) C.1 C.2.1 dX11_lays_4 (by decide) ?_
  refine a_ld C M (X := 721) (j := 721) h1 (n := 729) rfl rfl rfl (by omega) (by omega) rfl dX11_lays_7 (fun v2 kv2 => ?_)
  have tv2 := m_rng M h1 721 kv2 rfl
  have tv2 : -1 ≤ v2.toInt ∧ v2.toInt ≤ 6 := tv2
  refine lv_iload_n C.1 C.2.1 dX11_lays_8 rfl (lv_at hl 1 rfl) ?_
  refine n_icmp_ne C (tgt := 13) dX11_lays_9 (by decide) rfl rfl (fun q3 => ?_) (fun q3 => ?_)
  ·
    refine lv_aload_n C.1 C.2.1 dX11_lays_13 rfl (lv_at hl 0 rfl) ?_
    refine gi_X11_7 C M h0_ dX11_lays_14 (fun h4 => ?_)
    refine lv_iconst (v := 0) C.1 C.2.1 dX11_lays_17 (by decide) ?_
    refine lv_iload_n C.1 C.2.1 dX11_lays_18 rfl (lv_at hl 1 rfl) ?_
    refine lv_iload_n C.1 C.2.1 dX11_lays_19 rfl (lv_at hl 2 rfl) ?_
    refine ks_PI C M (ct_X11_at l g I J x1 x2 (by omega) (by omega) (by omega) (by omega)) (cw_X11_50 C.2.2.2.2 (by decide)) rfl hl.1 rfl (Nat.le_of_ble_eq_true rfl) dX11_lays_20 ⟨Nat.le_refl _, Nat.le_refl _⟩ (fun r5 H locs p6r M => ?_)
    have p6 : r5.toInt = 40 * x1.toInt + x2.toInt := p6r
    refine n_iadd C (X := 0) dX11_lays_23 rfl rfl (by omega) (by omega) (fun v7 ev7 => ?_)
    refine lv_iload_n C.1 C.2.1 dX11_lays_24 rfl (lv_at hl 3 rfl) ?_
    refine a_stU C M h1 (n := 729) rfl rfl rfl (by omega) (by omega) rfl (rng28_lo (by omega)) dX11_lays_25 (fun H locs I8 k10 f9 M => ?_)
    have F := fr_put F h1 (Or.inl (by decide)) f9
    have Hi : ∀ j, 715 ≤ j → I8 (gr g a0 0) j = I (gr g a0 0) j := fun j hj => (f9 (gr g a0 0) j (Or.inr (by omega))).trans (Hi j hj)
    refine lv_aload_n C.1 C.2.1 dX11_lays_26 rfl (lv_at hl 0 rfl) ?_
    refine gi_X11_7 C M h0_ dX11_lays_27 (fun h11 => ?_)
    refine lv_sipush (v := 280) C.1 C.2.1 dX11_lays_30 (by decide) ?_
    refine lv_iload_n C.1 C.2.1 dX11_lays_33 rfl (lv_at hl 1 rfl) ?_
    refine lv_iload_n C.1 C.2.1 dX11_lays_34 rfl (lv_at hl 2 rfl) ?_
    refine ks_PI C M (ct_X11_at l g I8 J x1 x2 (by omega) (by omega) (by omega) (by omega)) (cw_X11_50 C.2.2.2.2 (by decide)) rfl hl.1 rfl (Nat.le_of_ble_eq_true rfl) dX11_lays_35 ⟨Nat.le_refl _, Nat.le_refl _⟩ (fun r12 H locs p13r M => ?_)
    have p13 : r12.toInt = 40 * x1.toInt + x2.toInt := p13r
    refine n_iadd C (X := 280) dX11_lays_38 rfl rfl (by omega) (by omega) (fun v14 ev14 => ?_)
    refine lv_iconst (v := 0) C.1 C.2.1 dX11_lays_39 (by decide) ?_
    refine a_stU C M h1 (n := 729) rfl rfl rfl (by omega) (by omega) rfl (rng28_lo (by omega)) dX11_lays_40 (fun H locs I15 k17 f16 M => ?_)
    have F := fr_put F h1 (Or.inl (by decide)) f16
    have Hi : ∀ j, 715 ≤ j → I15 (gr g a0 0) j = I (gr g a0 0) j := fun j hj => (f16 (gr g a0 0) j (Or.inr (by omega))).trans (Hi j hj)
    refine lv_aload_n C.1 C.2.1 dX11_lays_41 rfl (lv_at hl 0 rfl) ?_
    refine gi_X11_7 C M h0_ dX11_lays_42 (fun h18 => ?_)
    refine lv_sipush (v := 708) C.1 C.2.1 dX11_lays_45 (by decide) ?_
    refine lv_iload_n C.1 C.2.1 dX11_lays_48 rfl (lv_at hl 1 rfl) ?_
    refine n_iadd C (X := 708) dX11_lays_49 rfl rfl (by omega) (by omega) (fun v19 ev19 => ?_)
    refine lv_dup2_11 C.1 C.2.1 dX11_lays_50 rfl rfl ?_
    refine a_ld C M h1 (n := 729) rfl rfl rfl (by omega) (by omega) rfl dX11_lays_51 (fun v20 kv20 => ?_)
    refine lv_iconst (v := 1) C.1 C.2.1 dX11_lays_52 (by decide) ?_
    refine n_iaddU C dX11_lays_53 (fun v21 => ?_)
    refine a_stU C M h1 (n := 729) rfl rfl rfl (by omega) (by omega) rfl (rng28_laid (by omega) (by omega)) dX11_lays_54 (fun H locs I22 k24 f23 M => ?_)
    have F := fr_put F h1 (Or.inl (by decide)) f23
    have Hi : ∀ j, 715 ≤ j → I22 (gr g a0 0) j = I (gr g a0 0) j := fun j hj => (f23 (gr g a0 0) j (Or.inr (by omega))).trans (Hi j hj)
    exact r_PV C M hr hlk F ⟨rfl, ⟨trivial, Hi⟩⟩ dX11_lays_55
  ·
    exact r_PV C M hr hlk F ⟨rfl, ⟨trivial, Hi⟩⟩ dX11_lays_12

set_option maxHeartbeats 4000000 in
set_option maxRecDepth 100000 in
theorem ct_X11_isGrown (l : Launch) (g : Gs) (I : Ms) (J : Js) (a0 : Nat) (h0_ : Is g a0 9) : Ctr l yX11_isGrown cX11_isGrown 1 (Option.some Jvm.ClassFile.FieldType.boolean) 1 g [.ref a0] I J (PI I J (fun z => 0 ≤ z ∧ z ≤ 1 ∧ (z = 1 ↔ (I (gr g a0 0) 717).toInt = 1))) := by
  refine m_start (by decide) (Nat.le_of_ble_eq_true rfl) ?_
  intro p e s m args below meth c C hr hlk M ls hl
  have hl : lv_has ls 1 [(0, .ref a0)] := hl
  have C : CallFix p m c cX11_isGrown 1 s args TB RX11 := C
  have h1 := is_ref M h0_ 0 28 rfl rfl
  obtain ⟨i2, ki2⟩ : ∃ z : Int32, I (gr g a0 0) 717 = z := ⟨_, rfl⟩
  have ti2 : 0 ≤ i2.toInt ∧ i2.toInt ≤ 1 := m_rng M h1 717 ki2 rfl
  have ci2 : (I (gr g a0 0) 717).toInt = i2.toInt := congrArg Int32.toInt ki2
  refine lv_aload_n C.1 C.2.1 dX11_isGrown_0 rfl (lv_at hl 0 rfl) ?_
  refine gi_X11_7 C M h0_ dX11_isGrown_1 (fun h3 => ?_)
  refine lv_sipush (v := 717) C.1 C.2.1 dX11_isGrown_4 (by decide) ?_
  refine a_ldK C M (X := 717) (j := 717) h1 (n := 729) rfl rfl rfl (by omega) (by omega) rfl ki2 dX11_isGrown_7 ?_
  refine lv_iconst (v := 1) C.1 C.2.1 dX11_isGrown_8 (by decide) ?_
  refine n_icmp_ne C (tgt := 16) (Y := 1) dX11_isGrown_9 (by decide) rfl rfl (fun q4 => ?_) (fun q4 => ?_)
  ·
    refine lv_iconst (v := 0) C.1 C.2.1 dX11_isGrown_16 (by decide) ?_
    exact r_PIz C M (z := 0) hr hlk rfl (by omega) (by omega) (by rw [ci2]; omega) dX11_isGrown_17
  ·
    refine lv_iconst (v := 1) C.1 C.2.1 dX11_isGrown_12 (by decide) ?_
    refine lv_goto (tgt := 17) C.1 C.2.1 dX11_isGrown_13 (by decide) ?_
    exact r_PIz C M (z := 1) hr hlk rfl (by omega) (by omega) (by rw [ci2]; omega) dX11_isGrown_17

set_option maxHeartbeats 4000000 in
set_option maxRecDepth 100000 in
theorem ct_X11_disks (l : Launch) (g : Gs) (I : Ms) (J : Js) (a0 : Nat) (h0_ : Is g a0 9) : Ctr l yX11_disks cX11_disks 1 (Option.some Jvm.ClassFile.FieldType.int) 1 g [.ref a0] I J (PI I J (fun z => z = (I (gr g a0 0) 715).toInt + (I (gr g a0 0) 717).toInt)) := by
  refine m_start (by decide) (Nat.le_of_ble_eq_true rfl) ?_
  intro p e s m args below meth c C hr hlk M ls hl
  have hl : lv_has ls 1 [(0, .ref a0)] := hl
  have C : CallFix p m c cX11_disks 1 s args TB RX11 := C
  have h1 := is_ref M h0_ 0 28 rfl rfl
  obtain ⟨i2, ki2⟩ : ∃ z : Int32, I (gr g a0 0) 715 = z := ⟨_, rfl⟩
  have ti2 : 3 ≤ i2.toInt ∧ i2.toInt ≤ 7 := m_rng M h1 715 ki2 rfl
  have ci2 : (I (gr g a0 0) 715).toInt = i2.toInt := congrArg Int32.toInt ki2
  obtain ⟨i3, ki3⟩ : ∃ z : Int32, I (gr g a0 0) 717 = z := ⟨_, rfl⟩
  have ti3 : 0 ≤ i3.toInt ∧ i3.toInt ≤ 1 := m_rng M h1 717 ki3 rfl
  have ci3 : (I (gr g a0 0) 717).toInt = i3.toInt := congrArg Int32.toInt ki3
  refine lv_aload_n C.1 C.2.1 dX11_disks_0 rfl (lv_at hl 0 rfl) ?_
  refine gi_X11_7 C M h0_ dX11_disks_1 (fun h4 => ?_)
  refine lv_sipush (v := 715) C.1 C.2.1 dX11_disks_4 (by decide) ?_
  refine a_ldK C M (X := 715) (j := 715) h1 (n := 729) rfl rfl rfl (by omega) (by omega) rfl ki2 dX11_disks_7 ?_
  refine lv_aload_n C.1 C.2.1 dX11_disks_8 rfl (lv_at hl 0 rfl) ?_
  refine gi_X11_7 C M h0_ dX11_disks_9 (fun h5 => ?_)
  refine lv_sipush (v := 717) C.1 C.2.1 dX11_disks_12 (by decide) ?_
  refine a_ldK C M (X := 717) (j := 717) h1 (n := 729) rfl rfl rfl (by omega) (by omega) rfl ki3 dX11_disks_15 ?_
  refine n_iadd C dX11_disks_16 rfl rfl (by omega) (by omega) (fun v6 ev6 => ?_)
  exact r_PI C M hr hlk rfl (by simp only [ci2, ci3]; omega) dX11_disks_17

set_option maxHeartbeats 4000000 in
set_option maxRecDepth 100000 in
theorem ct_X11_blocks (l : Launch) (g : Gs) (I : Ms) (J : Js) (a0 : Nat) (h0_ : Is g a0 9) : Ctr l yX11_blocks cX11_blocks 1 (Option.some Jvm.ClassFile.FieldType.int) 1 g [.ref a0] I J (PI I J (fun z => z = mBl (I (gr g a0 0) 716).toInt (I (gr g a0 0) 715).toInt ∧ 8 ≤ z ∧ z ≤ 240)) := by
  refine m_start (by decide) (Nat.le_of_ble_eq_true rfl) ?_
  intro p e s m args below meth c C hr hlk M ls hl
  have hl : lv_has ls 1 [(0, .ref a0)] := hl
  have C : CallFix p m c cX11_blocks 1 s args TB RX11 := C
  have h1 := is_ref M h0_ 0 28 rfl rfl
  obtain ⟨i2, ki2⟩ : ∃ z : Int32, I (gr g a0 0) 715 = z := ⟨_, rfl⟩
  have ti2 : 3 ≤ i2.toInt ∧ i2.toInt ≤ 7 := m_rng M h1 715 ki2 rfl
  have ci2 : (I (gr g a0 0) 715).toInt = i2.toInt := congrArg Int32.toInt ki2
  obtain ⟨i3, ki3⟩ : ∃ z : Int32, I (gr g a0 0) 716 = z := ⟨_, rfl⟩
  have ti3 : 4 ≤ i3.toInt ∧ i3.toInt ≤ 40 := m_rng M h1 716 ki3 rfl
  have ci3 : (I (gr g a0 0) 716).toInt = i3.toInt := congrArg Int32.toInt ki3
  refine lv_aload_n C.1 C.2.1 dX11_blocks_0 rfl (lv_at hl 0 rfl) ?_
  refine gi_X11_7 C M h0_ dX11_blocks_1 (fun h4 => ?_)
  refine lv_sipush (v := 716) C.1 C.2.1 dX11_blocks_4 (by decide) ?_
  refine a_ldK C M (X := 716) (j := 716) h1 (n := 729) rfl rfl rfl (by omega) (by omega) rfl ki3 dX11_blocks_7 ?_
  refine lv_aload_n C.1 C.2.1 dX11_blocks_8 rfl (lv_at hl 0 rfl) ?_
  refine gi_X11_7 C M h0_ dX11_blocks_9 (fun h5 => ?_)
  refine lv_sipush (v := 715) C.1 C.2.1 dX11_blocks_12 (by decide) ?_
  refine a_ldK C M (X := 715) (j := 715) h1 (n := 729) rfl rfl rfl (by omega) (by omega) rfl ki2 dX11_blocks_15 ?_
  refine lv_iconst (v := 1) C.1 C.2.1 dX11_blocks_16 (by decide) ?_
  refine n_isub C (Y := 1) dX11_blocks_17 rfl rfl (by omega) (by omega) (fun v6 ev6 => ?_)
  have bp8 := i_prod (x := i3.toInt) (y := v6.toInt) (A := 40) (B := 6) (by omega) (by omega) (by omega) (by omega)
  refine n_imul C dX11_blocks_18 rfl rfl (by omega) (by omega) (fun v7 ev7 => ?_)
  exact r_PI C M hr hlk rfl (by simp only [ci2, ci3]; have e9 : v7.toInt = mBl i3.toInt i2.toInt := (by unfold mBl; rw [ev7]; congr 1); have e8 := mBl_b (R := i3.toInt) (N := i2.toInt) (by omega) (by omega) (by omega) (by omega); exact ⟨e9, by omega, by omega⟩) dX11_blocks_19

set_option maxHeartbeats 4000000 in
set_option maxRecDepth 100000 in
theorem ct_X11_newStripes (l : Launch) (g : Gs) (I : Ms) (J : Js) (a0 : Nat) (h0_ : Is g a0 9) : Ctr l yX11_newStripes cX11_newStripes 1 (Option.some Jvm.ClassFile.FieldType.int) 2 g [.ref a0] I J (PI I J (fun z => z = mNs (I (gr g a0 0) 716).toInt (I (gr g a0 0) 715).toInt ∧ 1 ≤ z ∧ z ≤ (I (gr g a0 0) 716).toInt)) := by
  refine m_start (by decide) (Nat.le_of_ble_eq_true rfl) ?_
  intro p e s m args below meth c C hr hlk M ls hl
  have hl : lv_has ls 1 [(0, .ref a0)] := hl
  have C : CallFix p m c cX11_newStripes 1 s args TB RX11 := C
  have h1 := is_ref M h0_ 0 28 rfl rfl
  obtain ⟨i2, ki2⟩ : ∃ z : Int32, I (gr g a0 0) 715 = z := ⟨_, rfl⟩
  have ti2 : 3 ≤ i2.toInt ∧ i2.toInt ≤ 7 := m_rng M h1 715 ki2 rfl
  have ci2 : (I (gr g a0 0) 715).toInt = i2.toInt := congrArg Int32.toInt ki2
  obtain ⟨i3, ki3⟩ : ∃ z : Int32, I (gr g a0 0) 716 = z := ⟨_, rfl⟩
  have ti3 : 4 ≤ i3.toInt ∧ i3.toInt ≤ 40 := m_rng M h1 716 ki3 rfl
  have ci3 : (I (gr g a0 0) 716).toInt = i3.toInt := congrArg Int32.toInt ki3
  refine lv_aload_n C.1 C.2.1 dX11_newStripes_0 rfl (lv_at hl 0 rfl) ?_
  have em4 : (I (gr g a0 0) 715).toInt = i2.toInt := congrArg Int32.toInt ki2
  have em5 : (I (gr g a0 0) 716).toInt = i3.toInt := congrArg Int32.toInt ki3
  refine k_PI C M h0_ (by decide) rfl (ct_X11_blocks l g I J a0 h0_) (cw_X11_63 C.2.2.2.2 (by decide)) rfl hl.1 rfl (Nat.le_of_ble_eq_true rfl) dX11_newStripes_1 ⟨Nat.le_refl _, Nat.le_refl _⟩ (fun r6 H locs p7r M => ?_)
  have p7 : r6.toInt = mBl (I (gr g a0 0) 716).toInt (I (gr g a0 0) 715).toInt ∧ 8 ≤ r6.toInt ∧ r6.toInt ≤ 240 := p7r
  simp only [em4, em5] at p7
  have p7 : r6.toInt = mBl i3.toInt i2.toInt ∧ 8 ≤ r6.toInt ∧ r6.toInt ≤ 240 := p7
  refine lv_aload_n C.1 C.2.1 dX11_newStripes_4 rfl (lv_at hl 0 rfl) ?_
  refine gi_X11_7 C M h0_ dX11_newStripes_5 (fun h8 => ?_)
  refine lv_sipush (v := 715) C.1 C.2.1 dX11_newStripes_8 (by decide) ?_
  refine a_ldK C M (X := 715) (j := 715) h1 (n := 729) rfl rfl rfl (by omega) (by omega) rfl ki2 dX11_newStripes_11 ?_
  refine n_iadd C dX11_newStripes_12 rfl rfl (by omega) (by omega) (fun v9 ev9 => ?_)
  refine lv_iconst (v := 1) C.1 C.2.1 dX11_newStripes_13 (by decide) ?_
  refine n_isub C (Y := 1) dX11_newStripes_14 rfl rfl (by omega) (by omega) (fun v10 ev10 => ?_)
  refine lv_aload_n C.1 C.2.1 dX11_newStripes_15 rfl (lv_at hl 0 rfl) ?_
  refine gi_X11_7 C M h0_ dX11_newStripes_16 (fun h11 => ?_)
  refine lv_sipush (v := 715) C.1 C.2.1 dX11_newStripes_19 (by decide) ?_
  refine a_ldK C M (X := 715) (j := 715) h1 (n := 729) rfl rfl rfl (by omega) (by omega) rfl ki2 dX11_newStripes_22 ?_
  refine n_idiv0 C dX11_newStripes_23 rfl rfl (by omega) (by omega) (fun v12 ev12 lv12 uv12 => ?_)
  have q13 : v12.toInt ≤ 82 := by rw [ev12]; exact i_dle (by omega) (by omega) (by omega)
  exact r_PI C M hr hlk rfl (by simp only [ci2, ci3]; have e7 := p7.1; unfold mBl at e7; have e9 : v12.toInt = mNs i3.toInt i2.toInt := (by unfold mNs; rw [ev12]; congr 1; omega); have e8 := mNs_b (R := i3.toInt) (N := i2.toInt) (by omega) (by omega) (by omega) (by omega); exact ⟨e9, by omega, by omega⟩) dX11_newStripes_24

set_option maxHeartbeats 4000000 in
set_option maxRecDepth 100000 in
theorem ct_X11_stripesFrom (l : Launch) (g : Gs) (I : Ms) (J : Js) (a0 : Nat) (x1 : Int32) (h0_ : Is g a0 9) (g0 : 0 ≤ x1.toInt) (g1 : x1.toInt ≤ 200) (g2 : x1.toInt < mNs (I (gr g a0 0) 716).toInt (I (gr g a0 0) 715).toInt) : Ctr l yX11_stripesFrom cX11_stripesFrom 3 (Option.some Jvm.ClassFile.FieldType.int) 3 g [.ref a0, .int x1] I J (PI I J (fun z => z = mSt (I (gr g a0 0) 716).toInt (I (gr g a0 0) 715).toInt (I (gr g a0 0) 722).toInt x1.toInt ∧ 1 ≤ z ∧ z ≤ 4)) := by
  refine m_start (by decide) (Nat.le_of_ble_eq_true rfl) ?_
  intro p e s m args below meth c C hr hlk M ls hl
  have hl : lv_has ls 3 [(0, .ref a0), (1, .int x1)] := hl
  have C : CallFix p m c cX11_stripesFrom 3 s args TB RX11 := C
  have h1 := is_ref M h0_ 0 28 rfl rfl
  obtain ⟨i2, ki2⟩ : ∃ z : Int32, I (gr g a0 0) 715 = z := ⟨_, rfl⟩
  have ti2 : 3 ≤ i2.toInt ∧ i2.toInt ≤ 7 := m_rng M h1 715 ki2 rfl
  have ci2 : (I (gr g a0 0) 715).toInt = i2.toInt := congrArg Int32.toInt ki2
  obtain ⟨i3, ki3⟩ : ∃ z : Int32, I (gr g a0 0) 716 = z := ⟨_, rfl⟩
  have ti3 : 4 ≤ i3.toInt ∧ i3.toInt ≤ 40 := m_rng M h1 716 ki3 rfl
  have ci3 : (I (gr g a0 0) 716).toInt = i3.toInt := congrArg Int32.toInt ki3
  obtain ⟨i4, ki4⟩ : ∃ z : Int32, I (gr g a0 0) 722 = z := ⟨_, rfl⟩
  have ti4 : 1 ≤ i4.toInt ∧ i4.toInt ≤ 4 := m_rng M h1 722 ki4 rfl
  have ci4 : (I (gr g a0 0) 722).toInt = i4.toInt := congrArg Int32.toInt ki4
  simp only [ci2, ci3, ci4] at g2
  refine lv_aload_n C.1 C.2.1 dX11_stripesFrom_0 rfl (lv_at hl 0 rfl) ?_
  have em5 : (I (gr g a0 0) 715).toInt = i2.toInt := congrArg Int32.toInt ki2
  have em6 : (I (gr g a0 0) 716).toInt = i3.toInt := congrArg Int32.toInt ki3
  refine k_PI C M h0_ (by decide) rfl (ct_X11_newStripes l g I J a0 h0_) (cw_X11_67 C.2.2.2.2 (by decide)) rfl hl.1 rfl (Nat.le_of_ble_eq_true rfl) dX11_stripesFrom_1 ⟨Nat.le_refl _, Nat.le_refl _⟩ (fun r7 H locs p8r M => ?_)
  have p8 : r7.toInt = mNs (I (gr g a0 0) 716).toInt (I (gr g a0 0) 715).toInt ∧ 1 ≤ r7.toInt ∧ r7.toInt ≤ (I (gr g a0 0) 716).toInt := p8r
  simp only [em5, em6] at p8
  have p8 : r7.toInt = mNs i3.toInt i2.toInt ∧ 1 ≤ r7.toInt ∧ r7.toInt ≤ i3.toInt := p8
  refine lv_iload_n C.1 C.2.1 dX11_stripesFrom_4 rfl (lv_at hl 1 rfl) ?_
  refine n_isub C dX11_stripesFrom_5 rfl rfl (by omega) (by omega) (fun v9 ev9 => ?_)
  refine lv_istore_n (lv' := [(2, .int v9), (0, .ref a0), (1, .int x1)]) C.1 C.2.1 dX11_stripesFrom_6 rfl hl (by decide) rfl (fun ls hl => ?_)
  refine lv_iload_n C.1 C.2.1 dX11_stripesFrom_7 rfl (lv_at hl 0 rfl) ?_
  refine lv_aload_n C.1 C.2.1 dX11_stripesFrom_8 rfl (lv_at hl 1 rfl) ?_
  refine gi_X11_7 C M h0_ dX11_stripesFrom_9 (fun h10 => ?_)
  refine lv_sipush (v := 722) C.1 C.2.1 dX11_stripesFrom_12 (by decide) ?_
  refine a_ldK C M (X := 722) (j := 722) h1 (n := 729) rfl rfl rfl (by omega) (by omega) rfl ki4 dX11_stripesFrom_15 ?_
  refine n_icmp_ge C (tgt := 23) dX11_stripesFrom_16 (by decide) rfl rfl (fun q11 => ?_) (fun q11 => ?_)
  ·
    refine lv_aload_n C.1 C.2.1 dX11_stripesFrom_23 rfl (lv_at hl 1 rfl) ?_
    refine gi_X11_7 C M h0_ dX11_stripesFrom_24 (fun h12 => ?_)
    refine lv_sipush (v := 722) C.1 C.2.1 dX11_stripesFrom_27 (by decide) ?_
    refine a_ldK C M (X := 722) (j := 722) h1 (n := 729) rfl rfl rfl (by omega) (by omega) rfl ki4 dX11_stripesFrom_30 ?_
    exact r_PI C M hr hlk rfl (by simp only [ci2, ci3, ci4]; have e9 : i4.toInt = mSt i3.toInt i2.toInt i4.toInt x1.toInt := (by unfold mSt; split <;> omega); exact ⟨e9, by omega, by omega⟩) dX11_stripesFrom_31
  ·
    refine lv_iload_n C.1 C.2.1 dX11_stripesFrom_19 rfl (lv_at hl 0 rfl) ?_
    refine lv_goto (tgt := 31) C.1 C.2.1 dX11_stripesFrom_20 (by decide) ?_
    exact r_PI C M hr hlk rfl (by simp only [ci2, ci3, ci4]; have e9 : v9.toInt = mSt i3.toInt i2.toInt i4.toInt x1.toInt := (by unfold mSt; split <;> omega); exact ⟨e9, by omega, by omega⟩) dX11_stripesFrom_31

set_option maxHeartbeats 4000000 in
set_option maxRecDepth 100000 in
theorem ct_X11_readsFrom (l : Launch) (g : Gs) (I : Ms) (J : Js) (a0 : Nat) (x1 : Int32) (h0_ : Is g a0 9) (g0 : 0 ≤ x1.toInt) (g1 : x1.toInt ≤ 200) (g2 : x1.toInt < mNs (I (gr g a0 0) 716).toInt (I (gr g a0 0) 715).toInt) : Ctr l yX11_readsFrom cX11_readsFrom 4 (Option.some Jvm.ClassFile.FieldType.int) 4 g [.ref a0, .int x1] I J (PI I J (fun z => z = mRd (I (gr g a0 0) 716).toInt (I (gr g a0 0) 715).toInt (I (gr g a0 0) 722).toInt x1.toInt ∧ 1 ≤ z ∧ z ≤ 28 ∧ ((I (gr g a0 0) 715).toInt ≤ 6 → z ≤ 24))) := by
  refine m_start (by decide) (Nat.le_of_ble_eq_true rfl) ?_
  intro p e s m args below meth c C hr hlk M ls hl
  have hl : lv_has ls 4 [(0, .ref a0), (1, .int x1)] := hl
  have C : CallFix p m c cX11_readsFrom 4 s args TB RX11 := C
  have h1 := is_ref M h0_ 0 28 rfl rfl
  obtain ⟨i2, ki2⟩ : ∃ z : Int32, I (gr g a0 0) 715 = z := ⟨_, rfl⟩
  have ti2 : 3 ≤ i2.toInt ∧ i2.toInt ≤ 7 := m_rng M h1 715 ki2 rfl
  have ci2 : (I (gr g a0 0) 715).toInt = i2.toInt := congrArg Int32.toInt ki2
  obtain ⟨i3, ki3⟩ : ∃ z : Int32, I (gr g a0 0) 716 = z := ⟨_, rfl⟩
  have ti3 : 4 ≤ i3.toInt ∧ i3.toInt ≤ 40 := m_rng M h1 716 ki3 rfl
  have ci3 : (I (gr g a0 0) 716).toInt = i3.toInt := congrArg Int32.toInt ki3
  obtain ⟨i4, ki4⟩ : ∃ z : Int32, I (gr g a0 0) 722 = z := ⟨_, rfl⟩
  have ti4 : 1 ≤ i4.toInt ∧ i4.toInt ≤ 4 := m_rng M h1 722 ki4 rfl
  have ci4 : (I (gr g a0 0) 722).toInt = i4.toInt := congrArg Int32.toInt ki4
  simp only [ci2, ci3, ci4] at g2
  refine lv_aload_n C.1 C.2.1 dX11_readsFrom_0 rfl (lv_at hl 0 rfl) ?_
  have em5 : (I (gr g a0 0) 715).toInt = i2.toInt := congrArg Int32.toInt ki2
  have em6 : (I (gr g a0 0) 716).toInt = i3.toInt := congrArg Int32.toInt ki3
  refine k_PI C M h0_ (by decide) rfl (ct_X11_blocks l g I J a0 h0_) (cw_X11_63 C.2.2.2.2 (by decide)) rfl hl.1 rfl (Nat.le_of_ble_eq_true rfl) dX11_readsFrom_1 ⟨Nat.le_refl _, Nat.le_refl _⟩ (fun r7 H locs p8r M => ?_)
  have p8 : r7.toInt = mBl (I (gr g a0 0) 716).toInt (I (gr g a0 0) 715).toInt ∧ 8 ≤ r7.toInt ∧ r7.toInt ≤ 240 := p8r
  simp only [em5, em6] at p8
  have p8 : r7.toInt = mBl i3.toInt i2.toInt ∧ 8 ≤ r7.toInt ∧ r7.toInt ≤ 240 := p8
  refine lv_iload_n C.1 C.2.1 dX11_readsFrom_4 rfl (lv_at hl 1 rfl) ?_
  refine lv_aload_n C.1 C.2.1 dX11_readsFrom_5 rfl (lv_at hl 0 rfl) ?_
  refine gi_X11_7 C M h0_ dX11_readsFrom_6 (fun h9 => ?_)
  refine lv_sipush (v := 715) C.1 C.2.1 dX11_readsFrom_9 (by decide) ?_
  refine a_ldK C M (X := 715) (j := 715) h1 (n := 729) rfl rfl rfl (by omega) (by omega) rfl ki2 dX11_readsFrom_12 ?_
  have bp11 := i_prod (x := x1.toInt) (y := i2.toInt) (A := 200) (B := 7) (by omega) (by omega) (by omega) (by omega)
  refine n_imul C dX11_readsFrom_13 rfl rfl (by omega) (by omega) (fun v10 ev10 => ?_)
  refine n_isub C dX11_readsFrom_14 rfl rfl (by omega) (by omega) (fun v12 ev12 => ?_)
  refine lv_istore_n (lv' := [(2, .int v12), (0, .ref a0), (1, .int x1)]) C.1 C.2.1 dX11_readsFrom_15 rfl hl (by decide) rfl (fun ls hl => ?_)
  refine lv_aload_n C.1 C.2.1 dX11_readsFrom_16 rfl (lv_at hl 1 rfl) ?_
  refine lv_iload_n C.1 C.2.1 dX11_readsFrom_17 rfl (lv_at hl 2 rfl) ?_
  have em13 : (I (gr g a0 0) 715).toInt = i2.toInt := congrArg Int32.toInt ki2
  have em14 : (I (gr g a0 0) 716).toInt = i3.toInt := congrArg Int32.toInt ki3
  have em15 : (I (gr g a0 0) 722).toInt = i4.toInt := congrArg Int32.toInt ki4
  refine k_PI C M h0_ (by decide) rfl (ct_X11_stripesFrom l g I J a0 x1 h0_ (by omega) (by omega) (by simp only [em13, em14, em15]; first | assumption | omega)) (cw_X11_70 C.2.2.2.2 (by decide)) rfl hl.1 rfl (Nat.le_of_ble_eq_true rfl) dX11_readsFrom_18 ⟨Nat.le_refl _, Nat.le_refl _⟩ (fun r16 H locs p17r M => ?_)
  have p17 : r16.toInt = mSt (I (gr g a0 0) 716).toInt (I (gr g a0 0) 715).toInt (I (gr g a0 0) 722).toInt x1.toInt ∧ 1 ≤ r16.toInt ∧ r16.toInt ≤ 4 := p17r
  simp only [em13, em14, em15] at p17
  have p17 : r16.toInt = mSt i3.toInt i2.toInt i4.toInt x1.toInt ∧ 1 ≤ r16.toInt ∧ r16.toInt ≤ 4 := p17
  refine lv_aload_n C.1 C.2.1 dX11_readsFrom_21 rfl (lv_at hl 1 rfl) ?_
  refine gi_X11_7 C M h0_ dX11_readsFrom_22 (fun h18 => ?_)
  refine lv_sipush (v := 715) C.1 C.2.1 dX11_readsFrom_25 (by decide) ?_
  refine a_ldK C M (X := 715) (j := 715) h1 (n := 729) rfl rfl rfl (by omega) (by omega) rfl ki2 dX11_readsFrom_28 ?_
  have bp20 := i_prod (x := r16.toInt) (y := i2.toInt) (A := 4) (B := 7) (by omega) (by omega) (by omega) (by omega)
  refine n_imul C dX11_readsFrom_29 rfl rfl (by omega) (by omega) (fun v19 ev19 => ?_)
  refine lv_istore_n (lv' := [(3, .int v19), (2, .int v12), (0, .ref a0), (1, .int x1)]) C.1 C.2.1 dX11_readsFrom_30 rfl hl (by decide) rfl (fun ls hl => ?_)
  refine lv_iload_n C.1 C.2.1 dX11_readsFrom_31 rfl (lv_at hl 1 rfl) ?_
  refine lv_iload_n C.1 C.2.1 dX11_readsFrom_32 rfl (lv_at hl 0 rfl) ?_
  refine n_icmp_ge C (tgt := 40) dX11_readsFrom_33 (by decide) rfl rfl (fun q21 => ?_) (fun q21 => ?_)
  ·
    refine lv_iload_n C.1 C.2.1 dX11_readsFrom_40 rfl (lv_at hl 0 rfl) ?_
    exact r_PI C M hr hlk rfl (by simp only [ci2, ci3, ci4]; have e9 := p17.1; have e8 := p8.1; have e7 : v19.toInt = mSt i3.toInt i2.toInt i4.toInt x1.toInt * i2.toInt := (by rw [ev19, e9]); have e6 : v19.toInt = mRd i3.toInt i2.toInt i4.toInt x1.toInt := (by unfold mRd; split <;> omega); have e5 := mRd_b (R := i3.toInt) (N := i2.toInt) (S := i4.toInt) (b := x1.toInt) (by omega) (by omega) (by omega) (by omega) (by omega) (by omega) (by omega); refine ⟨e6, by omega, by omega, fun h6 => ?_⟩; have e4 := i_prod (x := mSt i3.toInt i2.toInt i4.toInt x1.toInt) (y := i2.toInt) (A := 4) (B := 6) (by omega) (by omega) (by omega) (by omega); omega) dX11_readsFrom_41
  ·
    refine lv_iload_n C.1 C.2.1 dX11_readsFrom_36 rfl (lv_at hl 1 rfl) ?_
    refine lv_goto (tgt := 41) C.1 C.2.1 dX11_readsFrom_37 (by decide) ?_
    exact r_PI C M hr hlk rfl (by simp only [ci2, ci3, ci4]; have e9 := p17.1; have e8 := p8.1; have e7 : v19.toInt = mSt i3.toInt i2.toInt i4.toInt x1.toInt * i2.toInt := (by rw [ev19, e9]); have e6 : v12.toInt = mRd i3.toInt i2.toInt i4.toInt x1.toInt := (by unfold mRd; split <;> omega); have e5 := mRd_b (R := i3.toInt) (N := i2.toInt) (S := i4.toInt) (b := x1.toInt) (by omega) (by omega) (by omega) (by omega) (by omega) (by omega) (by omega); refine ⟨e6, by omega, by omega, fun h6 => ?_⟩; have e4 := i_prod (x := mSt i3.toInt i2.toInt i4.toInt x1.toInt) (y := i2.toInt) (A := 4) (B := 6) (by omega) (by omega) (by omega) (by omega); omega) dX11_readsFrom_41

set_option maxHeartbeats 4000000 in
set_option maxRecDepth 100000 in
theorem ct_X11_isCritical (l : Launch) (g : Gs) (I : Ms) (J : Js) (a0 : Nat) (x1 : Int32) (h0_ : Is g a0 9) (g0 : 0 ≤ x1.toInt) (g1 : x1.toInt ≤ 200) (g2 : x1.toInt < mNs (I (gr g a0 0) 716).toInt (I (gr g a0 0) 715).toInt) : Ctr l yX11_isCritical cX11_isCritical 2 (Option.some Jvm.ClassFile.FieldType.boolean) 4 g [.ref a0, .int x1] I J (PI I J (fun z => 0 ≤ z ∧ z ≤ 1 ∧ (z = 1 ↔ mCr (I (gr g a0 0) 716).toInt (I (gr g a0 0) 715).toInt (I (gr g a0 0) 722).toInt x1.toInt = true))) := by
  refine m_start (by decide) (Nat.le_of_ble_eq_true rfl) ?_
  intro p e s m args below meth c C hr hlk M ls hl
  have hl : lv_has ls 2 [(0, .ref a0), (1, .int x1)] := hl
  have C : CallFix p m c cX11_isCritical 2 s args TB RX11 := C
  have h1 := is_ref M h0_ 0 28 rfl rfl
  obtain ⟨i2, ki2⟩ : ∃ z : Int32, I (gr g a0 0) 715 = z := ⟨_, rfl⟩
  have ti2 : 3 ≤ i2.toInt ∧ i2.toInt ≤ 7 := m_rng M h1 715 ki2 rfl
  have ci2 : (I (gr g a0 0) 715).toInt = i2.toInt := congrArg Int32.toInt ki2
  obtain ⟨i3, ki3⟩ : ∃ z : Int32, I (gr g a0 0) 716 = z := ⟨_, rfl⟩
  have ti3 : 4 ≤ i3.toInt ∧ i3.toInt ≤ 40 := m_rng M h1 716 ki3 rfl
  have ci3 : (I (gr g a0 0) 716).toInt = i3.toInt := congrArg Int32.toInt ki3
  obtain ⟨i4, ki4⟩ : ∃ z : Int32, I (gr g a0 0) 722 = z := ⟨_, rfl⟩
  have ti4 : 1 ≤ i4.toInt ∧ i4.toInt ≤ 4 := m_rng M h1 722 ki4 rfl
  have ci4 : (I (gr g a0 0) 722).toInt = i4.toInt := congrArg Int32.toInt ki4
  simp only [ci2, ci3, ci4] at g2
  refine lv_iload_n C.1 C.2.1 dX11_isCritical_0 rfl (lv_at hl 1 rfl) ?_
  refine lv_aload_n C.1 C.2.1 dX11_isCritical_1 rfl (lv_at hl 0 rfl) ?_
  refine gi_X11_7 C M h0_ dX11_isCritical_2 (fun h5 => ?_)
  refine lv_sipush (v := 715) C.1 C.2.1 dX11_isCritical_5 (by decide) ?_
  refine a_ldK C M (X := 715) (j := 715) h1 (n := 729) rfl rfl rfl (by omega) (by omega) rfl ki2 dX11_isCritical_8 ?_
  have bp7 := i_prod (x := x1.toInt) (y := i2.toInt) (A := 200) (B := 7) (by omega) (by omega) (by omega) (by omega)
  refine n_imul C dX11_isCritical_9 rfl rfl (by omega) (by omega) (fun v6 ev6 => ?_)
  refine lv_aload_n C.1 C.2.1 dX11_isCritical_10 rfl (lv_at hl 0 rfl) ?_
  refine gi_X11_7 C M h0_ dX11_isCritical_11 (fun h8 => ?_)
  refine lv_sipush (v := 715) C.1 C.2.1 dX11_isCritical_14 (by decide) ?_
  refine a_ldK C M (X := 715) (j := 715) h1 (n := 729) rfl rfl rfl (by omega) (by omega) rfl ki2 dX11_isCritical_17 ?_
  refine lv_iconst (v := 1) C.1 C.2.1 dX11_isCritical_18 (by decide) ?_
  refine n_isub C (Y := 1) dX11_isCritical_19 rfl rfl (by omega) (by omega) (fun v9 ev9 => ?_)
  refine n_idiv0 C dX11_isCritical_20 rfl rfl (by omega) (by omega) (fun v10 ev10 lv10 uv10 => ?_)
  have q11 : v10.toInt ≤ 700 := by rw [ev10]; exact i_dle (by omega) (by omega) (by omega)
  refine lv_iload_n C.1 C.2.1 dX11_isCritical_21 rfl (lv_at hl 1 rfl) ?_
  refine lv_aload_n C.1 C.2.1 dX11_isCritical_22 rfl (lv_at hl 0 rfl) ?_
  refine lv_iload_n C.1 C.2.1 dX11_isCritical_23 rfl (lv_at hl 1 rfl) ?_
  have em12 : (I (gr g a0 0) 715).toInt = i2.toInt := congrArg Int32.toInt ki2
  have em13 : (I (gr g a0 0) 716).toInt = i3.toInt := congrArg Int32.toInt ki3
  have em14 : (I (gr g a0 0) 722).toInt = i4.toInt := congrArg Int32.toInt ki4
  refine k_PI C M h0_ (by decide) rfl (ct_X11_stripesFrom l g I J a0 x1 h0_ (by omega) (by omega) (by simp only [em12, em13, em14]; first | assumption | omega)) (cw_X11_70 C.2.2.2.2 (by decide)) rfl hl.1 rfl (Nat.le_of_ble_eq_true rfl) dX11_isCritical_24 ⟨Nat.le_refl _, Nat.le_refl _⟩ (fun r15 H locs p16r M => ?_)
  have p16 : r15.toInt = mSt (I (gr g a0 0) 716).toInt (I (gr g a0 0) 715).toInt (I (gr g a0 0) 722).toInt x1.toInt ∧ 1 ≤ r15.toInt ∧ r15.toInt ≤ 4 := p16r
  simp only [em12, em13, em14] at p16
  have p16 : r15.toInt = mSt i3.toInt i2.toInt i4.toInt x1.toInt ∧ 1 ≤ r15.toInt ∧ r15.toInt ≤ 4 := p16
  refine n_iadd C dX11_isCritical_27 rfl rfl (by omega) (by omega) (fun v17 ev17 => ?_)
  refine lv_iconst (v := 1) C.1 C.2.1 dX11_isCritical_28 (by decide) ?_
  refine n_isub C (Y := 1) dX11_isCritical_29 rfl rfl (by omega) (by omega) (fun v18 ev18 => ?_)
  refine n_icmp_gt C (tgt := 37) dX11_isCritical_30 (by decide) rfl rfl (fun q19 => ?_) (fun q19 => ?_)
  ·
    refine lv_iconst (v := 0) C.1 C.2.1 dX11_isCritical_37 (by decide) ?_
    exact r_PIz C M (z := 0) hr hlk rfl (by omega) (by omega) (by rw [ci2, ci3, ci4]; have e9 := p16.1; have e8 : v10.toInt = x1.toInt * i2.toInt / (i2.toInt - 1) := (by rw [ev10, ev6, ev9]); unfold mCr; rw [decide_eq_true_eq, ← e8, ← e9]; omega) dX11_isCritical_38
  ·
    refine lv_iconst (v := 1) C.1 C.2.1 dX11_isCritical_33 (by decide) ?_
    refine lv_goto (tgt := 38) C.1 C.2.1 dX11_isCritical_34 (by decide) ?_
    exact r_PIz C M (z := 1) hr hlk rfl (by omega) (by omega) (by rw [ci2, ci3, ci4]; have e9 := p16.1; have e8 : v10.toInt = x1.toInt * i2.toInt / (i2.toInt - 1) := (by rw [ev10, ev6, ev9]); unfold mCr; rw [decide_eq_true_eq, ← e8, ← e9]; omega) dX11_isCritical_38

set_option maxHeartbeats 4000000 in
set_option maxRecDepth 100000 in
theorem ct_X11_backupsFrom (l : Launch) (g : Gs) (I : Ms) (J : Js) (a0 : Nat) (x1 : Int32) (h0_ : Is g a0 9) (g0 : 0 ≤ x1.toInt) (g1 : x1.toInt ≤ 200) (g2 : x1.toInt < mNs (I (gr g a0 0) 716).toInt (I (gr g a0 0) 715).toInt) : Ctr l yX11_backupsFrom cX11_backupsFrom 2 (Option.some Jvm.ClassFile.FieldType.int) 5 g [.ref a0, .int x1] I J (PI I J (fun z => z = mBk (I (gr g a0 0) 716).toInt (I (gr g a0 0) 715).toInt (I (gr g a0 0) 722).toInt x1.toInt ∧ 0 ≤ z ∧ z ≤ 28 ∧ ((I (gr g a0 0) 715).toInt ≤ 6 → z ≤ 24))) := by
  refine m_start (by decide) (Nat.le_of_ble_eq_true rfl) ?_
  intro p e s m args below meth c C hr hlk M ls hl
  have hl : lv_has ls 2 [(0, .ref a0), (1, .int x1)] := hl
  have C : CallFix p m c cX11_backupsFrom 2 s args TB RX11 := C
  have h1 := is_ref M h0_ 0 28 rfl rfl
  obtain ⟨i2, ki2⟩ : ∃ z : Int32, I (gr g a0 0) 715 = z := ⟨_, rfl⟩
  have ti2 : 3 ≤ i2.toInt ∧ i2.toInt ≤ 7 := m_rng M h1 715 ki2 rfl
  have ci2 : (I (gr g a0 0) 715).toInt = i2.toInt := congrArg Int32.toInt ki2
  obtain ⟨i3, ki3⟩ : ∃ z : Int32, I (gr g a0 0) 716 = z := ⟨_, rfl⟩
  have ti3 : 4 ≤ i3.toInt ∧ i3.toInt ≤ 40 := m_rng M h1 716 ki3 rfl
  have ci3 : (I (gr g a0 0) 716).toInt = i3.toInt := congrArg Int32.toInt ki3
  obtain ⟨i4, ki4⟩ : ∃ z : Int32, I (gr g a0 0) 722 = z := ⟨_, rfl⟩
  have ti4 : 1 ≤ i4.toInt ∧ i4.toInt ≤ 4 := m_rng M h1 722 ki4 rfl
  have ci4 : (I (gr g a0 0) 722).toInt = i4.toInt := congrArg Int32.toInt ki4
  simp only [ci2, ci3, ci4] at g2
  refine lv_aload_n C.1 C.2.1 dX11_backupsFrom_0 rfl (lv_at hl 0 rfl) ?_
  refine lv_iload_n C.1 C.2.1 dX11_backupsFrom_1 rfl (lv_at hl 1 rfl) ?_
  have em5 : (I (gr g a0 0) 715).toInt = i2.toInt := congrArg Int32.toInt ki2
  have em6 : (I (gr g a0 0) 716).toInt = i3.toInt := congrArg Int32.toInt ki3
  have em7 : (I (gr g a0 0) 722).toInt = i4.toInt := congrArg Int32.toInt ki4
  refine k_PI C M h0_ (by decide) rfl (ct_X11_isCritical l g I J a0 x1 h0_ (by omega) (by omega) (by simp only [em5, em6, em7]; first | assumption | omega)) (cw_X11_74 C.2.2.2.2 (by decide)) rfl hl.1 rfl (Nat.le_of_ble_eq_true rfl) dX11_backupsFrom_2 ⟨Nat.le_refl _, Nat.le_refl _⟩ (fun r8 H locs p9r M => ?_)
  have p9 : 0 ≤ r8.toInt ∧ r8.toInt ≤ 1 ∧ (r8.toInt = 1 ↔ mCr (I (gr g a0 0) 716).toInt (I (gr g a0 0) 715).toInt (I (gr g a0 0) 722).toInt x1.toInt = true) := p9r
  simp only [em5, em6, em7] at p9
  have p9 : 0 ≤ r8.toInt ∧ r8.toInt ≤ 1 ∧ (r8.toInt = 1 ↔ mCr i3.toInt i2.toInt i4.toInt x1.toInt = true) := p9
  refine n_if_eq C (tgt := 25) dX11_backupsFrom_5 (by decide) rfl (fun q10 => ?_) (fun q10 => ?_)
  ·
    refine lv_iconst (v := 0) C.1 C.2.1 dX11_backupsFrom_25 (by decide) ?_
    exact r_PI C M (z := 0) hr hlk rfl (by simp only [ci2, ci3, ci4]; have e7 : ¬ mCr i3.toInt i2.toInt i4.toInt x1.toInt = true := (fun q => by have := p9.2.2.mpr q; omega); refine ⟨by unfold mBk; rw [if_neg e7], by omega, by omega, fun _ => by omega⟩) dX11_backupsFrom_26
  ·
    refine lv_aload_n C.1 C.2.1 dX11_backupsFrom_8 rfl (lv_at hl 0 rfl) ?_
    refine lv_iload_n C.1 C.2.1 dX11_backupsFrom_9 rfl (lv_at hl 1 rfl) ?_
    have em11 : (I (gr g a0 0) 715).toInt = i2.toInt := congrArg Int32.toInt ki2
    have em12 : (I (gr g a0 0) 716).toInt = i3.toInt := congrArg Int32.toInt ki3
    have em13 : (I (gr g a0 0) 722).toInt = i4.toInt := congrArg Int32.toInt ki4
    refine k_PI C M h0_ (by decide) rfl (ct_X11_stripesFrom l g I J a0 x1 h0_ (by omega) (by omega) (by simp only [em11, em12, em13]; first | assumption | omega)) (cw_X11_70 C.2.2.2.2 (by decide)) rfl hl.1 rfl (Nat.le_of_ble_eq_true rfl) dX11_backupsFrom_10 ⟨Nat.le_refl _, Nat.le_refl _⟩ (fun r14 H locs p15r M => ?_)
    have p15 : r14.toInt = mSt (I (gr g a0 0) 716).toInt (I (gr g a0 0) 715).toInt (I (gr g a0 0) 722).toInt x1.toInt ∧ 1 ≤ r14.toInt ∧ r14.toInt ≤ 4 := p15r
    simp only [em11, em12, em13] at p15
    have p15 : r14.toInt = mSt i3.toInt i2.toInt i4.toInt x1.toInt ∧ 1 ≤ r14.toInt ∧ r14.toInt ≤ 4 := p15
    refine lv_aload_n C.1 C.2.1 dX11_backupsFrom_13 rfl (lv_at hl 0 rfl) ?_
    refine gi_X11_7 C M h0_ dX11_backupsFrom_14 (fun h16 => ?_)
    refine lv_sipush (v := 715) C.1 C.2.1 dX11_backupsFrom_17 (by decide) ?_
    refine a_ldK C M (X := 715) (j := 715) h1 (n := 729) rfl rfl rfl (by omega) (by omega) rfl ki2 dX11_backupsFrom_20 ?_
    have bp18 := i_prod (x := r14.toInt) (y := i2.toInt) (A := 4) (B := 7) (by omega) (by omega) (by omega) (by omega)
    refine n_imul C dX11_backupsFrom_21 rfl rfl (by omega) (by omega) (fun v17 ev17 => ?_)
    refine lv_goto (tgt := 26) C.1 C.2.1 dX11_backupsFrom_22 (by decide) ?_
    exact r_PI C M hr hlk rfl (by simp only [ci2, ci3, ci4]; have e9 := p15.1; have e7 := p9.2.2.mp (by omega); have e6 : v17.toInt = mBk i3.toInt i2.toInt i4.toInt x1.toInt := (by unfold mBk; rw [if_pos e7, ev17, e9]); refine ⟨e6, by omega, by omega, fun h6 => ?_⟩; have e4 := i_prod (x := mSt i3.toInt i2.toInt i4.toInt x1.toInt) (y := i2.toInt) (A := 4) (B := 6) (by omega) (by omega) (by omega) (by omega); rw [e6]; unfold mBk; rw [if_pos e7]; omega) dX11_backupsFrom_26

set_option maxHeartbeats 4000000 in
set_option maxRecDepth 100000 in
theorem ct_X11_stepsFrom (l : Launch) (g : Gs) (I : Ms) (J : Js) (a0 : Nat) (x1 : Int32) (h0_ : Is g a0 9) (g0 : 0 ≤ x1.toInt) (g1 : x1.toInt ≤ 200) (g2 : x1.toInt < mNs (I (gr g a0 0) 716).toInt (I (gr g a0 0) 715).toInt) : Ctr l yX11_stepsFrom cX11_stepsFrom 3 (Option.some Jvm.ClassFile.FieldType.int) 6 g [.ref a0, .int x1] I J (PI I J (fun z => z = mSp (I (gr g a0 0) 716).toInt (I (gr g a0 0) 715).toInt (I (gr g a0 0) 722).toInt x1.toInt ∧ 5 ≤ z ∧ z ≤ 120)) := by
  refine m_start (by decide) (Nat.le_of_ble_eq_true rfl) ?_
  intro p e s m args below meth c C hr hlk M ls hl
  have hl : lv_has ls 3 [(0, .ref a0), (1, .int x1)] := hl
  have C : CallFix p m c cX11_stepsFrom 3 s args TB RX11 := C
  have h1 := is_ref M h0_ 0 28 rfl rfl
  obtain ⟨i2, ki2⟩ : ∃ z : Int32, I (gr g a0 0) 715 = z := ⟨_, rfl⟩
  have ti2 : 3 ≤ i2.toInt ∧ i2.toInt ≤ 7 := m_rng M h1 715 ki2 rfl
  have ci2 : (I (gr g a0 0) 715).toInt = i2.toInt := congrArg Int32.toInt ki2
  obtain ⟨i3, ki3⟩ : ∃ z : Int32, I (gr g a0 0) 716 = z := ⟨_, rfl⟩
  have ti3 : 4 ≤ i3.toInt ∧ i3.toInt ≤ 40 := m_rng M h1 716 ki3 rfl
  have ci3 : (I (gr g a0 0) 716).toInt = i3.toInt := congrArg Int32.toInt ki3
  obtain ⟨i4, ki4⟩ : ∃ z : Int32, I (gr g a0 0) 722 = z := ⟨_, rfl⟩
  have ti4 : 1 ≤ i4.toInt ∧ i4.toInt ≤ 4 := m_rng M h1 722 ki4 rfl
  have ci4 : (I (gr g a0 0) 722).toInt = i4.toInt := congrArg Int32.toInt ki4
  simp only [ci2, ci3, ci4] at g2
  refine lv_aload_n C.1 C.2.1 dX11_stepsFrom_0 rfl (lv_at hl 0 rfl) ?_
  refine lv_iload_n C.1 C.2.1 dX11_stepsFrom_1 rfl (lv_at hl 1 rfl) ?_
  have em5 : (I (gr g a0 0) 715).toInt = i2.toInt := congrArg Int32.toInt ki2
  have em6 : (I (gr g a0 0) 716).toInt = i3.toInt := congrArg Int32.toInt ki3
  have em7 : (I (gr g a0 0) 722).toInt = i4.toInt := congrArg Int32.toInt ki4
  refine k_PI C M h0_ (by decide) rfl (ct_X11_readsFrom l g I J a0 x1 h0_ (by omega) (by omega) (by simp only [em5, em6, em7]; first | assumption | omega)) (cw_X11_78 C.2.2.2.2 (by decide)) rfl hl.1 rfl (Nat.le_of_ble_eq_true rfl) dX11_stepsFrom_2 ⟨Nat.le_refl _, Nat.le_refl _⟩ (fun r8 H locs p9r M => ?_)
  have p9 : r8.toInt = mRd (I (gr g a0 0) 716).toInt (I (gr g a0 0) 715).toInt (I (gr g a0 0) 722).toInt x1.toInt ∧ 1 ≤ r8.toInt ∧ r8.toInt ≤ 28 ∧ ((I (gr g a0 0) 715).toInt ≤ 6 → r8.toInt ≤ 24) := p9r
  simp only [em5, em6, em7] at p9
  have p9 : r8.toInt = mRd i3.toInt i2.toInt i4.toInt x1.toInt ∧ 1 ≤ r8.toInt ∧ r8.toInt ≤ 28 ∧ (i2.toInt ≤ 6 → r8.toInt ≤ 24) := p9
  refine lv_aload_n C.1 C.2.1 dX11_stepsFrom_5 rfl (lv_at hl 0 rfl) ?_
  refine lv_iload_n C.1 C.2.1 dX11_stepsFrom_6 rfl (lv_at hl 1 rfl) ?_
  have em10 : (I (gr g a0 0) 715).toInt = i2.toInt := congrArg Int32.toInt ki2
  have em11 : (I (gr g a0 0) 716).toInt = i3.toInt := congrArg Int32.toInt ki3
  have em12 : (I (gr g a0 0) 722).toInt = i4.toInt := congrArg Int32.toInt ki4
  refine k_PI C M h0_ (by decide) rfl (ct_X11_stripesFrom l g I J a0 x1 h0_ (by omega) (by omega) (by simp only [em10, em11, em12]; first | assumption | omega)) (cw_X11_70 C.2.2.2.2 (by decide)) rfl hl.1 rfl (Nat.le_of_ble_eq_true rfl) dX11_stepsFrom_7 ⟨Nat.le_refl _, Nat.le_refl _⟩ (fun r13 H locs p14r M => ?_)
  have p14 : r13.toInt = mSt (I (gr g a0 0) 716).toInt (I (gr g a0 0) 715).toInt (I (gr g a0 0) 722).toInt x1.toInt ∧ 1 ≤ r13.toInt ∧ r13.toInt ≤ 4 := p14r
  simp only [em10, em11, em12] at p14
  have p14 : r13.toInt = mSt i3.toInt i2.toInt i4.toInt x1.toInt ∧ 1 ≤ r13.toInt ∧ r13.toInt ≤ 4 := p14
  refine lv_aload_n C.1 C.2.1 dX11_stepsFrom_10 rfl (lv_at hl 0 rfl) ?_
  refine gi_X11_7 C M h0_ dX11_stepsFrom_11 (fun h15 => ?_)
  refine lv_sipush (v := 715) C.1 C.2.1 dX11_stepsFrom_14 (by decide) ?_
  refine a_ldK C M (X := 715) (j := 715) h1 (n := 729) rfl rfl rfl (by omega) (by omega) rfl ki2 dX11_stepsFrom_17 ?_
  refine lv_iconst (v := 1) C.1 C.2.1 dX11_stepsFrom_18 (by decide) ?_
  refine n_iadd C (Y := 1) dX11_stepsFrom_19 rfl rfl (by omega) (by omega) (fun v16 ev16 => ?_)
  have bp18 := i_prod (x := r13.toInt) (y := v16.toInt) (A := 4) (B := 8) (by omega) (by omega) (by omega) (by omega)
  refine n_imul C dX11_stepsFrom_20 rfl rfl (by omega) (by omega) (fun v17 ev17 => ?_)
  refine n_iadd C dX11_stepsFrom_21 rfl rfl (by omega) (by omega) (fun v19 ev19 => ?_)
  refine lv_iconst (v := 1) C.1 C.2.1 dX11_stepsFrom_22 (by decide) ?_
  refine n_iadd C (Y := 1) dX11_stepsFrom_23 rfl rfl (by omega) (by omega) (fun v20 ev20 => ?_)
  refine lv_istore_n (lv' := [(2, .int v20), (0, .ref a0), (1, .int x1)]) C.1 C.2.1 dX11_stepsFrom_24 rfl hl (by decide) rfl (fun ls hl => ?_)
  refine lv_aload_n C.1 C.2.1 dX11_stepsFrom_25 rfl (lv_at hl 1 rfl) ?_
  refine lv_iload_n C.1 C.2.1 dX11_stepsFrom_26 rfl (lv_at hl 2 rfl) ?_
  have em21 : (I (gr g a0 0) 715).toInt = i2.toInt := congrArg Int32.toInt ki2
  have em22 : (I (gr g a0 0) 716).toInt = i3.toInt := congrArg Int32.toInt ki3
  have em23 : (I (gr g a0 0) 722).toInt = i4.toInt := congrArg Int32.toInt ki4
  refine k_PI C M h0_ (by decide) rfl (ct_X11_isCritical l g I J a0 x1 h0_ (by omega) (by omega) (by simp only [em21, em22, em23]; first | assumption | omega)) (cw_X11_74 C.2.2.2.2 (by decide)) rfl hl.1 rfl (Nat.le_of_ble_eq_true rfl) dX11_stepsFrom_27 ⟨Nat.le_refl _, Nat.le_refl _⟩ (fun r24 H locs p25r M => ?_)
  have p25 : 0 ≤ r24.toInt ∧ r24.toInt ≤ 1 ∧ (r24.toInt = 1 ↔ mCr (I (gr g a0 0) 716).toInt (I (gr g a0 0) 715).toInt (I (gr g a0 0) 722).toInt x1.toInt = true) := p25r
  simp only [em21, em22, em23] at p25
  have p25 : 0 ≤ r24.toInt ∧ r24.toInt ≤ 1 ∧ (r24.toInt = 1 ↔ mCr i3.toInt i2.toInt i4.toInt x1.toInt = true) := p25
  refine n_if_eq C (tgt := 45) dX11_stepsFrom_30 (by decide) rfl (fun q26 => ?_) (fun q26 => ?_)
  ·
    refine lv_iload_n C.1 C.2.1 dX11_stepsFrom_45 rfl (lv_at hl 0 rfl) ?_
    exact r_PI C M hr hlk rfl (by simp only [ci2, ci3, ci4]; have e9 := p14.1; have e8 : v17.toInt = mSt i3.toInt i2.toInt i4.toInt x1.toInt * (i2.toInt + 1) := (by rw [ev17, ev16, e9]); have e7 := p9.1; have e5 : ¬ mCr i3.toInt i2.toInt i4.toInt x1.toInt = true := (fun q => by have := p25.2.2.mpr q; omega); have e4 : v20.toInt = mSp i3.toInt i2.toInt i4.toInt x1.toInt := (by unfold mSp; rw [if_neg e5]; omega); have e3 := mSp_b (R := i3.toInt) (N := i2.toInt) (S := i4.toInt) (b := x1.toInt) (by omega) (by omega) (by omega) (by omega) (by omega) (by omega) (by omega) (by omega); exact ⟨e4, by omega, by omega⟩) dX11_stepsFrom_46
  ·
    refine lv_iload_n C.1 C.2.1 dX11_stepsFrom_33 rfl (lv_at hl 0 rfl) ?_
    refine lv_aload_n C.1 C.2.1 dX11_stepsFrom_34 rfl (lv_at hl 1 rfl) ?_
    refine lv_iload_n C.1 C.2.1 dX11_stepsFrom_35 rfl (lv_at hl 2 rfl) ?_
    have em27 : (I (gr g a0 0) 715).toInt = i2.toInt := congrArg Int32.toInt ki2
    have em28 : (I (gr g a0 0) 716).toInt = i3.toInt := congrArg Int32.toInt ki3
    have em29 : (I (gr g a0 0) 722).toInt = i4.toInt := congrArg Int32.toInt ki4
    refine k_PI C M h0_ (by decide) rfl (ct_X11_backupsFrom l g I J a0 x1 h0_ (by omega) (by omega) (by simp only [em27, em28, em29]; first | assumption | omega)) (cw_X11_81 C.2.2.2.2 (by decide)) rfl hl.1 rfl (Nat.le_of_ble_eq_true rfl) dX11_stepsFrom_36 ⟨Nat.le_refl _, Nat.le_refl _⟩ (fun r30 H locs p31r M => ?_)
    have p31 : r30.toInt = mBk (I (gr g a0 0) 716).toInt (I (gr g a0 0) 715).toInt (I (gr g a0 0) 722).toInt x1.toInt ∧ 0 ≤ r30.toInt ∧ r30.toInt ≤ 28 ∧ ((I (gr g a0 0) 715).toInt ≤ 6 → r30.toInt ≤ 24) := p31r
    simp only [em27, em28, em29] at p31
    have p31 : r30.toInt = mBk i3.toInt i2.toInt i4.toInt x1.toInt ∧ 0 ≤ r30.toInt ∧ r30.toInt ≤ 28 ∧ (i2.toInt ≤ 6 → r30.toInt ≤ 24) := p31
    refine n_iadd C dX11_stepsFrom_39 rfl rfl (by omega) (by omega) (fun v32 ev32 => ?_)
    refine lv_iconst (v := 1) C.1 C.2.1 dX11_stepsFrom_40 (by decide) ?_
    refine n_iadd C (Y := 1) dX11_stepsFrom_41 rfl rfl (by omega) (by omega) (fun v33 ev33 => ?_)
    refine lv_goto (tgt := 46) C.1 C.2.1 dX11_stepsFrom_42 (by decide) ?_
    exact r_PI C M hr hlk rfl (by simp only [ci2, ci3, ci4]; have e9 := p14.1; have e8 : v17.toInt = mSt i3.toInt i2.toInt i4.toInt x1.toInt * (i2.toInt + 1) := (by rw [ev17, ev16, e9]); have e7 := p9.1; have e6 := p31.1; have e5 := p25.2.2.mp (by omega); have e4 : v33.toInt = mSp i3.toInt i2.toInt i4.toInt x1.toInt := (by unfold mSp; rw [if_pos e5]; omega); have e3 := mSp_b (R := i3.toInt) (N := i2.toInt) (S := i4.toInt) (b := x1.toInt) (by omega) (by omega) (by omega) (by omega) (by omega) (by omega) (by omega) (by omega); exact ⟨e4, by omega, by omega⟩) dX11_stepsFrom_46

set_option maxHeartbeats 4000000 in
set_option maxRecDepth 100000 in
theorem ct_X11_isMoving (l : Launch) (g : Gs) (I : Ms) (J : Js) (a0 : Nat) (h0_ : Is g a0 9) : Ctr l yX11_isMoving cX11_isMoving 1 (Option.some Jvm.ClassFile.FieldType.boolean) 2 g [.ref a0] I J (PI I J (fun z => 0 ≤ z ∧ z ≤ 1 ∧ (z = 1 ↔ (I (gr g a0 0) 717).toInt = 1 ∧ 0 < (I (gr g a0 0) 719).toInt))) := by
  refine m_start (by decide) (Nat.le_of_ble_eq_true rfl) ?_
  intro p e s m args below meth c C hr hlk M ls hl
  have hl : lv_has ls 1 [(0, .ref a0)] := hl
  have C : CallFix p m c cX11_isMoving 1 s args TB RX11 := C
  have h1 := is_ref M h0_ 0 28 rfl rfl
  obtain ⟨i2, ki2⟩ : ∃ z : Int32, I (gr g a0 0) 717 = z := ⟨_, rfl⟩
  have ti2 : 0 ≤ i2.toInt ∧ i2.toInt ≤ 1 := m_rng M h1 717 ki2 rfl
  have ci2 : (I (gr g a0 0) 717).toInt = i2.toInt := congrArg Int32.toInt ki2
  obtain ⟨i3, ki3⟩ : ∃ z : Int32, I (gr g a0 0) 719 = z := ⟨_, rfl⟩
  have ti3 : 0 ≤ i3.toInt ∧ i3.toInt ≤ 200 := m_rng M h1 719 ki3 rfl
  have ci3 : (I (gr g a0 0) 719).toInt = i3.toInt := congrArg Int32.toInt ki3
  refine lv_aload_n C.1 C.2.1 dX11_isMoving_0 rfl (lv_at hl 0 rfl) ?_
  have em4 : (I (gr g a0 0) 717).toInt = i2.toInt := congrArg Int32.toInt ki2
  refine k_PI C M h0_ (by decide) rfl (ct_X11_isGrown l g I J a0 h0_) (cw_X11_84 C.2.2.2.2 (by decide)) rfl hl.1 rfl (Nat.le_of_ble_eq_true rfl) dX11_isMoving_1 ⟨Nat.le_refl _, Nat.le_refl _⟩ (fun r5 H locs p6r M => ?_)
  have p6 : 0 ≤ r5.toInt ∧ r5.toInt ≤ 1 ∧ (r5.toInt = 1 ↔ (I (gr g a0 0) 717).toInt = 1) := p6r
  simp only [em4] at p6
  have p6 : 0 ≤ r5.toInt ∧ r5.toInt ≤ 1 ∧ (r5.toInt = 1 ↔ i2.toInt = 1) := p6
  refine n_if_eq C (tgt := 22) dX11_isMoving_4 (by decide) rfl (fun q7 => ?_) (fun q7 => ?_)
  ·
    refine lv_iconst (v := 0) C.1 C.2.1 dX11_isMoving_22 (by decide) ?_
    exact r_PIz C M (z := 0) hr hlk rfl (by omega) (by omega) (by rw [ci2, ci3]; omega) dX11_isMoving_23
  ·
    refine lv_aload_n C.1 C.2.1 dX11_isMoving_7 rfl (lv_at hl 0 rfl) ?_
    refine gi_X11_7 C M h0_ dX11_isMoving_8 (fun h8 => ?_)
    refine lv_sipush (v := 719) C.1 C.2.1 dX11_isMoving_11 (by decide) ?_
    refine a_ldK C M (X := 719) (j := 719) h1 (n := 729) rfl rfl rfl (by omega) (by omega) rfl ki3 dX11_isMoving_14 ?_
    refine n_if_le C (tgt := 22) dX11_isMoving_15 (by decide) rfl (fun q9 => ?_) (fun q9 => ?_)
    ·
      refine lv_iconst (v := 0) C.1 C.2.1 dX11_isMoving_22 (by decide) ?_
      exact r_PIz C M (z := 0) hr hlk rfl (by omega) (by omega) (by rw [ci2, ci3]; omega) dX11_isMoving_23
    ·
      refine lv_iconst (v := 1) C.1 C.2.1 dX11_isMoving_18 (by decide) ?_
      refine lv_goto (tgt := 23) C.1 C.2.1 dX11_isMoving_19 (by decide) ?_
      exact r_PIz C M (z := 1) hr hlk rfl (by omega) (by omega) (by rw [ci2, ci3]; omega) dX11_isMoving_23

set_option maxHeartbeats 4000000 in
set_option maxRecDepth 100000 in
theorem ct_X11_isInBatch (l : Launch) (g : Gs) (I : Ms) (J : Js) (a0 : Nat) (x1 : Int32) (h0_ : Is g a0 9) (g0 : jm (I (gr g a0 0) 717).toInt (I (gr g a0 0) 715).toInt (I (gr g a0 0) 716).toInt (I (gr g a0 0) 722).toInt (I (gr g a0 0) 718).toInt (I (gr g a0 0) 719).toInt) : Ctr l yX11_isInBatch cX11_isInBatch 2 (Option.some Jvm.ClassFile.FieldType.boolean) 5 g [.ref a0, .int x1] I J (PI I J (fun z => 0 ≤ z ∧ z ≤ 1 ∧ (z = 1 → (I (gr g a0 0) 717).toInt = 1 ∧ 0 < (I (gr g a0 0) 719).toInt ∧ (I (gr g a0 0) 718).toInt * (I (gr g a0 0) 715).toInt ≤ x1.toInt ∧ x1.toInt < (I (gr g a0 0) 718).toInt * (I (gr g a0 0) 715).toInt + mRd (I (gr g a0 0) 716).toInt (I (gr g a0 0) 715).toInt (I (gr g a0 0) 722).toInt (I (gr g a0 0) 718).toInt))) := by
  refine m_start (by decide) (Nat.le_of_ble_eq_true rfl) ?_
  intro p e s m args below meth c C hr hlk M ls hl
  have hl : lv_has ls 2 [(0, .ref a0), (1, .int x1)] := hl
  have C : CallFix p m c cX11_isInBatch 2 s args TB RX11 := C
  have h1 := is_ref M h0_ 0 28 rfl rfl
  obtain ⟨i2, ki2⟩ : ∃ z : Int32, I (gr g a0 0) 717 = z := ⟨_, rfl⟩
  have ti2 : 0 ≤ i2.toInt ∧ i2.toInt ≤ 1 := m_rng M h1 717 ki2 rfl
  have ci2 : (I (gr g a0 0) 717).toInt = i2.toInt := congrArg Int32.toInt ki2
  obtain ⟨i3, ki3⟩ : ∃ z : Int32, I (gr g a0 0) 715 = z := ⟨_, rfl⟩
  have ti3 : 3 ≤ i3.toInt ∧ i3.toInt ≤ 7 := m_rng M h1 715 ki3 rfl
  have ci3 : (I (gr g a0 0) 715).toInt = i3.toInt := congrArg Int32.toInt ki3
  obtain ⟨i4, ki4⟩ : ∃ z : Int32, I (gr g a0 0) 716 = z := ⟨_, rfl⟩
  have ti4 : 4 ≤ i4.toInt ∧ i4.toInt ≤ 40 := m_rng M h1 716 ki4 rfl
  have ci4 : (I (gr g a0 0) 716).toInt = i4.toInt := congrArg Int32.toInt ki4
  obtain ⟨i5, ki5⟩ : ∃ z : Int32, I (gr g a0 0) 722 = z := ⟨_, rfl⟩
  have ti5 : 1 ≤ i5.toInt ∧ i5.toInt ≤ 4 := m_rng M h1 722 ki5 rfl
  have ci5 : (I (gr g a0 0) 722).toInt = i5.toInt := congrArg Int32.toInt ki5
  obtain ⟨i6, ki6⟩ : ∃ z : Int32, I (gr g a0 0) 718 = z := ⟨_, rfl⟩
  have ti6 : 0 ≤ i6.toInt ∧ i6.toInt ≤ 200 := m_rng M h1 718 ki6 rfl
  have ci6 : (I (gr g a0 0) 718).toInt = i6.toInt := congrArg Int32.toInt ki6
  obtain ⟨i7, ki7⟩ : ∃ z : Int32, I (gr g a0 0) 719 = z := ⟨_, rfl⟩
  have ti7 : 0 ≤ i7.toInt ∧ i7.toInt ≤ 200 := m_rng M h1 719 ki7 rfl
  have ci7 : (I (gr g a0 0) 719).toInt = i7.toInt := congrArg Int32.toInt ki7
  simp only [ci2, ci3, ci4, ci5, ci6, ci7] at g0
  refine lv_aload_n C.1 C.2.1 dX11_isInBatch_0 rfl (lv_at hl 0 rfl) ?_
  have em8 : (I (gr g a0 0) 717).toInt = i2.toInt := congrArg Int32.toInt ki2
  have em9 : (I (gr g a0 0) 719).toInt = i7.toInt := congrArg Int32.toInt ki7
  refine k_PI C M h0_ (by decide) rfl (ct_X11_isMoving l g I J a0 h0_) (cw_X11_88 C.2.2.2.2 (by decide)) rfl hl.1 rfl (Nat.le_of_ble_eq_true rfl) dX11_isInBatch_1 ⟨Nat.le_refl _, Nat.le_refl _⟩ (fun r10 H locs p11r M => ?_)
  have p11 : 0 ≤ r10.toInt ∧ r10.toInt ≤ 1 ∧ (r10.toInt = 1 ↔ (I (gr g a0 0) 717).toInt = 1 ∧ 0 < (I (gr g a0 0) 719).toInt) := p11r
  simp only [em8, em9] at p11
  have p11 : 0 ≤ r10.toInt ∧ r10.toInt ≤ 1 ∧ (r10.toInt = 1 ↔ i2.toInt = 1 ∧ 0 < i7.toInt) := p11
  refine n_if_eq C (tgt := 66) dX11_isInBatch_4 (by decide) rfl (fun q12 => ?_) (fun q12 => ?_)
  ·
    refine lv_iconst (v := 0) C.1 C.2.1 dX11_isInBatch_66 (by decide) ?_
    exact r_PIz C M (z := 0) hr hlk rfl (by omega) (by omega) (by simp only [ci2, ci3, ci4, ci5, ci6, ci7]; omega) dX11_isInBatch_67
  ·
    refine lv_iload_n C.1 C.2.1 dX11_isInBatch_7 rfl (lv_at hl 1 rfl) ?_
    refine lv_aload_n C.1 C.2.1 dX11_isInBatch_8 rfl (lv_at hl 0 rfl) ?_
    refine gi_X11_7 C M h0_ dX11_isInBatch_9 (fun h13 => ?_)
    refine lv_sipush (v := 718) C.1 C.2.1 dX11_isInBatch_12 (by decide) ?_
    refine a_ldK C M (X := 718) (j := 718) h1 (n := 729) rfl rfl rfl (by omega) (by omega) rfl ki6 dX11_isInBatch_15 ?_
    refine lv_aload_n C.1 C.2.1 dX11_isInBatch_16 rfl (lv_at hl 0 rfl) ?_
    refine gi_X11_7 C M h0_ dX11_isInBatch_17 (fun h14 => ?_)
    refine lv_sipush (v := 715) C.1 C.2.1 dX11_isInBatch_20 (by decide) ?_
    refine a_ldK C M (X := 715) (j := 715) h1 (n := 729) rfl rfl rfl (by omega) (by omega) rfl ki3 dX11_isInBatch_23 ?_
    have bp16 := i_prod (x := i6.toInt) (y := i3.toInt) (A := 200) (B := 7) (by omega) (by omega) (by omega) (by omega)
    refine n_imul C dX11_isInBatch_24 rfl rfl (by omega) (by omega) (fun v15 ev15 => ?_)
    refine n_icmp_lt C (tgt := 66) dX11_isInBatch_25 (by decide) rfl rfl (fun q17 => ?_) (fun q17 => ?_)
    ·
      refine lv_iconst (v := 0) C.1 C.2.1 dX11_isInBatch_66 (by decide) ?_
      exact r_PIz C M (z := 0) hr hlk rfl (by omega) (by omega) (by simp only [ci2, ci3, ci4, ci5, ci6, ci7]; omega) dX11_isInBatch_67
    ·
      refine lv_iload_n C.1 C.2.1 dX11_isInBatch_28 rfl (lv_at hl 1 rfl) ?_
      refine lv_aload_n C.1 C.2.1 dX11_isInBatch_29 rfl (lv_at hl 0 rfl) ?_
      refine gi_X11_7 C M h0_ dX11_isInBatch_30 (fun h18 => ?_)
      refine lv_sipush (v := 718) C.1 C.2.1 dX11_isInBatch_33 (by decide) ?_
      refine a_ldK C M (X := 718) (j := 718) h1 (n := 729) rfl rfl rfl (by omega) (by omega) rfl ki6 dX11_isInBatch_36 ?_
      refine lv_aload_n C.1 C.2.1 dX11_isInBatch_37 rfl (lv_at hl 0 rfl) ?_
      refine gi_X11_7 C M h0_ dX11_isInBatch_38 (fun h19 => ?_)
      refine lv_sipush (v := 715) C.1 C.2.1 dX11_isInBatch_41 (by decide) ?_
      refine a_ldK C M (X := 715) (j := 715) h1 (n := 729) rfl rfl rfl (by omega) (by omega) rfl ki3 dX11_isInBatch_44 ?_
      have bp21 := i_prod (x := i6.toInt) (y := i3.toInt) (A := 200) (B := 7) (by omega) (by omega) (by omega) (by omega)
      refine n_imul C dX11_isInBatch_45 rfl rfl (by omega) (by omega) (fun v20 ev20 => ?_)
      have hj := g0 (by omega)
      refine lv_aload_n C.1 C.2.1 dX11_isInBatch_46 rfl (lv_at hl 0 rfl) ?_
      refine lv_aload_n C.1 C.2.1 dX11_isInBatch_47 rfl (lv_at hl 0 rfl) ?_
      refine gi_X11_7 C M h0_ dX11_isInBatch_48 (fun h22 => ?_)
      refine lv_sipush (v := 718) C.1 C.2.1 dX11_isInBatch_51 (by decide) ?_
      refine a_ldK C M (X := 718) (j := 718) h1 (n := 729) rfl rfl rfl (by omega) (by omega) rfl ki6 dX11_isInBatch_54 ?_
      have em23 : (I (gr g a0 0) 715).toInt = i3.toInt := congrArg Int32.toInt ki3
      have em24 : (I (gr g a0 0) 716).toInt = i4.toInt := congrArg Int32.toInt ki4
      have em25 : (I (gr g a0 0) 722).toInt = i5.toInt := congrArg Int32.toInt ki5
      refine k_PI C M h0_ (by decide) rfl (ct_X11_readsFrom l g I J a0 i6 h0_ (by omega) (by omega) (by simp only [em23, em24, em25]; first | assumption | omega)) (cw_X11_78 C.2.2.2.2 (by decide)) rfl hl.1 rfl (Nat.le_of_ble_eq_true rfl) dX11_isInBatch_55 ⟨Nat.le_refl _, Nat.le_refl _⟩ (fun r26 H locs p27r M => ?_)
      have p27 : r26.toInt = mRd (I (gr g a0 0) 716).toInt (I (gr g a0 0) 715).toInt (I (gr g a0 0) 722).toInt i6.toInt ∧ 1 ≤ r26.toInt ∧ r26.toInt ≤ 28 ∧ ((I (gr g a0 0) 715).toInt ≤ 6 → r26.toInt ≤ 24) := p27r
      simp only [em23, em24, em25] at p27
      have p27 : r26.toInt = mRd i4.toInt i3.toInt i5.toInt i6.toInt ∧ 1 ≤ r26.toInt ∧ r26.toInt ≤ 28 ∧ (i3.toInt ≤ 6 → r26.toInt ≤ 24) := p27
      refine n_iadd C dX11_isInBatch_58 rfl rfl (by omega) (by omega) (fun v28 ev28 => ?_)
      refine n_icmp_ge C (tgt := 66) dX11_isInBatch_59 (by decide) rfl rfl (fun q29 => ?_) (fun q29 => ?_)
      ·
        refine lv_iconst (v := 0) C.1 C.2.1 dX11_isInBatch_66 (by decide) ?_
        exact r_PIz C M (z := 0) hr hlk rfl (by omega) (by omega) (by simp only [ci2, ci3, ci4, ci5, ci6, ci7]; omega) dX11_isInBatch_67
      ·
        refine lv_iconst (v := 1) C.1 C.2.1 dX11_isInBatch_62 (by decide) ?_
        refine lv_goto (tgt := 67) C.1 C.2.1 dX11_isInBatch_63 (by decide) ?_
        exact r_PIz C M (z := 1) hr hlk rfl (by omega) (by omega) (by simp only [ci2, ci3, ci4, ci5, ci6, ci7]; omega) dX11_isInBatch_67

set_option maxHeartbeats 4000000 in
set_option maxRecDepth 100000 in
theorem ct_X11_isAllRead (l : Launch) (g : Gs) (I : Ms) (J : Js) (a0 : Nat) (h0_ : Is g a0 9) (g0 : jm (I (gr g a0 0) 717).toInt (I (gr g a0 0) 715).toInt (I (gr g a0 0) 716).toInt (I (gr g a0 0) 722).toInt (I (gr g a0 0) 718).toInt (I (gr g a0 0) 719).toInt) (g1 : (I (gr g a0 0) 717).toInt = 1) : Ctr l yX11_isAllRead cX11_isAllRead 1 (Option.some Jvm.ClassFile.FieldType.boolean) 5 g [.ref a0] I J (PI I J (fun z => 0 ≤ z ∧ z ≤ 1)) := by
  refine m_start (by decide) (Nat.le_of_ble_eq_true rfl) ?_
  intro p e s m args below meth c C hr hlk M ls hl
  have hl : lv_has ls 1 [(0, .ref a0)] := hl
  have C : CallFix p m c cX11_isAllRead 1 s args TB RX11 := C
  have h1 := is_ref M h0_ 0 28 rfl rfl
  obtain ⟨i2, ki2⟩ : ∃ z : Int32, I (gr g a0 0) 717 = z := ⟨_, rfl⟩
  have ti2 : 0 ≤ i2.toInt ∧ i2.toInt ≤ 1 := m_rng M h1 717 ki2 rfl
  have ci2 : (I (gr g a0 0) 717).toInt = i2.toInt := congrArg Int32.toInt ki2
  obtain ⟨i3, ki3⟩ : ∃ z : Int32, I (gr g a0 0) 715 = z := ⟨_, rfl⟩
  have ti3 : 3 ≤ i3.toInt ∧ i3.toInt ≤ 7 := m_rng M h1 715 ki3 rfl
  have ci3 : (I (gr g a0 0) 715).toInt = i3.toInt := congrArg Int32.toInt ki3
  obtain ⟨i4, ki4⟩ : ∃ z : Int32, I (gr g a0 0) 716 = z := ⟨_, rfl⟩
  have ti4 : 4 ≤ i4.toInt ∧ i4.toInt ≤ 40 := m_rng M h1 716 ki4 rfl
  have ci4 : (I (gr g a0 0) 716).toInt = i4.toInt := congrArg Int32.toInt ki4
  obtain ⟨i5, ki5⟩ : ∃ z : Int32, I (gr g a0 0) 722 = z := ⟨_, rfl⟩
  have ti5 : 1 ≤ i5.toInt ∧ i5.toInt ≤ 4 := m_rng M h1 722 ki5 rfl
  have ci5 : (I (gr g a0 0) 722).toInt = i5.toInt := congrArg Int32.toInt ki5
  obtain ⟨i6, ki6⟩ : ∃ z : Int32, I (gr g a0 0) 718 = z := ⟨_, rfl⟩
  have ti6 : 0 ≤ i6.toInt ∧ i6.toInt ≤ 200 := m_rng M h1 718 ki6 rfl
  have ci6 : (I (gr g a0 0) 718).toInt = i6.toInt := congrArg Int32.toInt ki6
  obtain ⟨i7, ki7⟩ : ∃ z : Int32, I (gr g a0 0) 719 = z := ⟨_, rfl⟩
  have ti7 : 0 ≤ i7.toInt ∧ i7.toInt ≤ 200 := m_rng M h1 719 ki7 rfl
  have ci7 : (I (gr g a0 0) 719).toInt = i7.toInt := congrArg Int32.toInt ki7
  simp only [ci2, ci3, ci4, ci5, ci6, ci7] at g0 g1
  have hj := g0 (by omega)
  refine lv_aload_n C.1 C.2.1 dX11_isAllRead_0 rfl (lv_at hl 0 rfl) ?_
  refine gi_X11_7 C M h0_ dX11_isAllRead_1 (fun h8 => ?_)
  refine lv_sipush (v := 719) C.1 C.2.1 dX11_isAllRead_4 (by decide) ?_
  refine a_ldK C M (X := 719) (j := 719) h1 (n := 729) rfl rfl rfl (by omega) (by omega) rfl ki7 dX11_isAllRead_7 ?_
  refine lv_aload_n C.1 C.2.1 dX11_isAllRead_8 rfl (lv_at hl 0 rfl) ?_
  refine lv_aload_n C.1 C.2.1 dX11_isAllRead_9 rfl (lv_at hl 0 rfl) ?_
  refine gi_X11_7 C M h0_ dX11_isAllRead_10 (fun h9 => ?_)
  refine lv_sipush (v := 718) C.1 C.2.1 dX11_isAllRead_13 (by decide) ?_
  refine a_ldK C M (X := 718) (j := 718) h1 (n := 729) rfl rfl rfl (by omega) (by omega) rfl ki6 dX11_isAllRead_16 ?_
  have em10 : (I (gr g a0 0) 715).toInt = i3.toInt := congrArg Int32.toInt ki3
  have em11 : (I (gr g a0 0) 716).toInt = i4.toInt := congrArg Int32.toInt ki4
  have em12 : (I (gr g a0 0) 722).toInt = i5.toInt := congrArg Int32.toInt ki5
  refine k_PI C M h0_ (by decide) rfl (ct_X11_readsFrom l g I J a0 i6 h0_ (by omega) (by omega) (by simp only [em10, em11, em12]; first | assumption | omega)) (cw_X11_78 C.2.2.2.2 (by decide)) rfl hl.1 rfl (Nat.le_of_ble_eq_true rfl) dX11_isAllRead_17 ⟨Nat.le_refl _, Nat.le_refl _⟩ (fun r13 H locs p14r M => ?_)
  have p14 : r13.toInt = mRd (I (gr g a0 0) 716).toInt (I (gr g a0 0) 715).toInt (I (gr g a0 0) 722).toInt i6.toInt ∧ 1 ≤ r13.toInt ∧ r13.toInt ≤ 28 ∧ ((I (gr g a0 0) 715).toInt ≤ 6 → r13.toInt ≤ 24) := p14r
  simp only [em10, em11, em12] at p14
  have p14 : r13.toInt = mRd i4.toInt i3.toInt i5.toInt i6.toInt ∧ 1 ≤ r13.toInt ∧ r13.toInt ≤ 28 ∧ (i3.toInt ≤ 6 → r13.toInt ≤ 24) := p14
  refine n_icmp_lt C (tgt := 27) dX11_isAllRead_20 (by decide) rfl rfl (fun q15 => ?_) (fun q15 => ?_)
  ·
    refine lv_iconst (v := 0) C.1 C.2.1 dX11_isAllRead_27 (by decide) ?_
    exact r_PIz C M (z := 0) hr hlk rfl (by omega) (by omega) (by omega) dX11_isAllRead_28
  ·
    refine lv_iconst (v := 1) C.1 C.2.1 dX11_isAllRead_23 (by decide) ?_
    refine lv_goto (tgt := 28) C.1 C.2.1 dX11_isAllRead_24 (by decide) ?_
    exact r_PIz C M (z := 1) hr hlk rfl (by omega) (by omega) (by omega) dX11_isAllRead_28

set_option maxHeartbeats 4000000 in
set_option maxRecDepth 100000 in
theorem ct_X11_isBlock (l : Launch) (g : Gs) (I : Ms) (J : Js) (a0 : Nat) (x1 : Int32) (h0_ : Is g a0 9) : Ctr l yX11_isBlock cX11_isBlock 2 (Option.some Jvm.ClassFile.FieldType.boolean) 2 g [.ref a0, .int x1] I J (PI I J (fun z => 0 ≤ z ∧ z ≤ 1 ∧ (z = 1 ↔ 0 ≤ x1.toInt ∧ x1.toInt < mBl (I (gr g a0 0) 716).toInt (I (gr g a0 0) 715).toInt) ∧ (z = 1 → x1.toInt ≤ 239))) := by
  refine m_start (by decide) (Nat.le_of_ble_eq_true rfl) ?_
  intro p e s m args below meth c C hr hlk M ls hl
  have hl : lv_has ls 2 [(0, .ref a0), (1, .int x1)] := hl
  have C : CallFix p m c cX11_isBlock 2 s args TB RX11 := C
  have h1 := is_ref M h0_ 0 28 rfl rfl
  obtain ⟨i2, ki2⟩ : ∃ z : Int32, I (gr g a0 0) 715 = z := ⟨_, rfl⟩
  have ti2 : 3 ≤ i2.toInt ∧ i2.toInt ≤ 7 := m_rng M h1 715 ki2 rfl
  have ci2 : (I (gr g a0 0) 715).toInt = i2.toInt := congrArg Int32.toInt ki2
  obtain ⟨i3, ki3⟩ : ∃ z : Int32, I (gr g a0 0) 716 = z := ⟨_, rfl⟩
  have ti3 : 4 ≤ i3.toInt ∧ i3.toInt ≤ 40 := m_rng M h1 716 ki3 rfl
  have ci3 : (I (gr g a0 0) 716).toInt = i3.toInt := congrArg Int32.toInt ki3
  refine lv_iload_n C.1 C.2.1 dX11_isBlock_0 rfl (lv_at hl 1 rfl) ?_
  refine lv_iconst (v := 0) C.1 C.2.1 dX11_isBlock_1 (by decide) ?_
  refine lv_aload_n C.1 C.2.1 dX11_isBlock_2 rfl (lv_at hl 0 rfl) ?_
  have em4 : (I (gr g a0 0) 715).toInt = i2.toInt := congrArg Int32.toInt ki2
  have em5 : (I (gr g a0 0) 716).toInt = i3.toInt := congrArg Int32.toInt ki3
  refine k_PI C M h0_ (by decide) rfl (ct_X11_blocks l g I J a0 h0_) (cw_X11_63 C.2.2.2.2 (by decide)) rfl hl.1 rfl (Nat.le_of_ble_eq_true rfl) dX11_isBlock_3 ⟨Nat.le_refl _, Nat.le_refl _⟩ (fun r6 H locs p7r M => ?_)
  have p7 : r6.toInt = mBl (I (gr g a0 0) 716).toInt (I (gr g a0 0) 715).toInt ∧ 8 ≤ r6.toInt ∧ r6.toInt ≤ 240 := p7r
  simp only [em4, em5] at p7
  have p7 : r6.toInt = mBl i3.toInt i2.toInt ∧ 8 ≤ r6.toInt ∧ r6.toInt ≤ 240 := p7
  refine lv_iconst (v := 1) C.1 C.2.1 dX11_isBlock_6 (by decide) ?_
  refine n_isub C (Y := 1) dX11_isBlock_7 rfl rfl (by omega) (by omega) (fun v8 ev8 => ?_)
  refine ks_PI C M (ct_X11_within l g I J x1 0 v8) (cw_X11_114 C.2.2.2.2 (by decide)) rfl hl.1 rfl (Nat.le_of_ble_eq_true rfl) dX11_isBlock_8 ⟨Nat.le_refl _, Nat.le_refl _⟩ (fun r9 H locs p10r M => ?_)
  have p10 : 0 ≤ r9.toInt ∧ r9.toInt ≤ 1 ∧ (r9.toInt = 1 ↔ 0 ≤ x1.toInt ∧ x1.toInt ≤ v8.toInt) := p10r
  exact r_PIz C M hr hlk rfl (by omega) (by omega) (by simp only [ci2, ci3]; omega) dX11_isBlock_11

set_option maxHeartbeats 4000000 in
set_option maxRecDepth 100000 in
theorem ct_X11_isNew (l : Launch) (g : Gs) (I : Ms) (J : Js) (a0 : Nat) (x1 : Int32) (h0_ : Is g a0 9) : Ctr l yX11_isNew cX11_isNew 2 (Option.some Jvm.ClassFile.FieldType.boolean) 2 g [.ref a0, .int x1] I J (PI I J (fun z => 0 ≤ z ∧ z ≤ 1 ∧ (z = 1 → (I (gr g a0 0) 717).toInt = 1))) := by
  refine m_start (by decide) (Nat.le_of_ble_eq_true rfl) ?_
  intro p e s m args below meth c C hr hlk M ls hl
  have hl : lv_has ls 2 [(0, .ref a0), (1, .int x1)] := hl
  have C : CallFix p m c cX11_isNew 2 s args TB RX11 := C
  have h1 := is_ref M h0_ 0 28 rfl rfl
  obtain ⟨i2, ki2⟩ : ∃ z : Int32, I (gr g a0 0) 717 = z := ⟨_, rfl⟩
  have ti2 : 0 ≤ i2.toInt ∧ i2.toInt ≤ 1 := m_rng M h1 717 ki2 rfl
  have ci2 : (I (gr g a0 0) 717).toInt = i2.toInt := congrArg Int32.toInt ki2
  obtain ⟨i3, ki3⟩ : ∃ z : Int32, I (gr g a0 0) 715 = z := ⟨_, rfl⟩
  have ti3 : 3 ≤ i3.toInt ∧ i3.toInt ≤ 7 := m_rng M h1 715 ki3 rfl
  have ci3 : (I (gr g a0 0) 715).toInt = i3.toInt := congrArg Int32.toInt ki3
  obtain ⟨i4, ki4⟩ : ∃ z : Int32, I (gr g a0 0) 718 = z := ⟨_, rfl⟩
  have ti4 : 0 ≤ i4.toInt ∧ i4.toInt ≤ 200 := m_rng M h1 718 ki4 rfl
  have ci4 : (I (gr g a0 0) 718).toInt = i4.toInt := congrArg Int32.toInt ki4
  refine lv_aload_n C.1 C.2.1 dX11_isNew_0 rfl (lv_at hl 0 rfl) ?_
  have em5 : (I (gr g a0 0) 717).toInt = i2.toInt := congrArg Int32.toInt ki2
  refine k_PI C M h0_ (by decide) rfl (ct_X11_isGrown l g I J a0 h0_) (cw_X11_84 C.2.2.2.2 (by decide)) rfl hl.1 rfl (Nat.le_of_ble_eq_true rfl) dX11_isNew_1 ⟨Nat.le_refl _, Nat.le_refl _⟩ (fun r6 H locs p7r M => ?_)
  have p7 : 0 ≤ r6.toInt ∧ r6.toInt ≤ 1 ∧ (r6.toInt = 1 ↔ (I (gr g a0 0) 717).toInt = 1) := p7r
  simp only [em5] at p7
  have p7 : 0 ≤ r6.toInt ∧ r6.toInt ≤ 1 ∧ (r6.toInt = 1 ↔ i2.toInt = 1) := p7
  refine n_if_eq C (tgt := 32) dX11_isNew_4 (by decide) rfl (fun q8 => ?_) (fun q8 => ?_)
  ·
    refine lv_iconst (v := 0) C.1 C.2.1 dX11_isNew_32 (by decide) ?_
    exact r_PIz C M (z := 0) hr hlk rfl (by omega) (by omega) (by simp only [ci2, ci3, ci4]; omega) dX11_isNew_33
  ·
    refine lv_iload_n C.1 C.2.1 dX11_isNew_7 rfl (lv_at hl 1 rfl) ?_
    refine lv_aload_n C.1 C.2.1 dX11_isNew_8 rfl (lv_at hl 0 rfl) ?_
    refine gi_X11_7 C M h0_ dX11_isNew_9 (fun h9 => ?_)
    refine lv_sipush (v := 718) C.1 C.2.1 dX11_isNew_12 (by decide) ?_
    refine a_ldK C M (X := 718) (j := 718) h1 (n := 729) rfl rfl rfl (by omega) (by omega) rfl ki4 dX11_isNew_15 ?_
    refine lv_aload_n C.1 C.2.1 dX11_isNew_16 rfl (lv_at hl 0 rfl) ?_
    refine gi_X11_7 C M h0_ dX11_isNew_17 (fun h10 => ?_)
    refine lv_sipush (v := 715) C.1 C.2.1 dX11_isNew_20 (by decide) ?_
    refine a_ldK C M (X := 715) (j := 715) h1 (n := 729) rfl rfl rfl (by omega) (by omega) rfl ki3 dX11_isNew_23 ?_
    have bp12 := i_prod (x := i4.toInt) (y := i3.toInt) (A := 200) (B := 7) (by omega) (by omega) (by omega) (by omega)
    refine n_imul C dX11_isNew_24 rfl rfl (by omega) (by omega) (fun v11 ev11 => ?_)
    refine n_icmp_ge C (tgt := 32) dX11_isNew_25 (by decide) rfl rfl (fun q13 => ?_) (fun q13 => ?_)
    ·
      refine lv_iconst (v := 0) C.1 C.2.1 dX11_isNew_32 (by decide) ?_
      exact r_PIz C M (z := 0) hr hlk rfl (by omega) (by omega) (by simp only [ci2, ci3, ci4]; omega) dX11_isNew_33
    ·
      refine lv_iconst (v := 1) C.1 C.2.1 dX11_isNew_28 (by decide) ?_
      refine lv_goto (tgt := 33) C.1 C.2.1 dX11_isNew_29 (by decide) ?_
      exact r_PIz C M (z := 1) hr hlk rfl (by omega) (by omega) (by simp only [ci2, ci3, ci4]; omega) dX11_isNew_33

set_option maxHeartbeats 4000000 in
set_option maxRecDepth 100000 in
theorem ct_X11_layoutOf (l : Launch) (g : Gs) (I : Ms) (J : Js) (a0 : Nat) (x1 : Int32) (h0_ : Is g a0 9) : Ctr l yX11_layoutOf cX11_layoutOf 2 (Option.some Jvm.ClassFile.FieldType.int) 3 g [.ref a0, .int x1] I J (PI I J (fun z => z = (I (gr g a0 0) 715).toInt ∨ (z = (I (gr g a0 0) 715).toInt + 1 ∧ (I (gr g a0 0) 717).toInt = 1))) := by
  refine m_start (by decide) (Nat.le_of_ble_eq_true rfl) ?_
  intro p e s m args below meth c C hr hlk M ls hl
  have hl : lv_has ls 2 [(0, .ref a0), (1, .int x1)] := hl
  have C : CallFix p m c cX11_layoutOf 2 s args TB RX11 := C
  have h1 := is_ref M h0_ 0 28 rfl rfl
  obtain ⟨i2, ki2⟩ : ∃ z : Int32, I (gr g a0 0) 717 = z := ⟨_, rfl⟩
  have ti2 : 0 ≤ i2.toInt ∧ i2.toInt ≤ 1 := m_rng M h1 717 ki2 rfl
  have ci2 : (I (gr g a0 0) 717).toInt = i2.toInt := congrArg Int32.toInt ki2
  obtain ⟨i3, ki3⟩ : ∃ z : Int32, I (gr g a0 0) 715 = z := ⟨_, rfl⟩
  have ti3 : 3 ≤ i3.toInt ∧ i3.toInt ≤ 7 := m_rng M h1 715 ki3 rfl
  have ci3 : (I (gr g a0 0) 715).toInt = i3.toInt := congrArg Int32.toInt ki3
  obtain ⟨i4, ki4⟩ : ∃ z : Int32, I (gr g a0 0) 718 = z := ⟨_, rfl⟩
  have ti4 : 0 ≤ i4.toInt ∧ i4.toInt ≤ 200 := m_rng M h1 718 ki4 rfl
  have ci4 : (I (gr g a0 0) 718).toInt = i4.toInt := congrArg Int32.toInt ki4
  refine lv_aload_n C.1 C.2.1 dX11_layoutOf_0 rfl (lv_at hl 0 rfl) ?_
  refine lv_iload_n C.1 C.2.1 dX11_layoutOf_1 rfl (lv_at hl 1 rfl) ?_
  have em5 : (I (gr g a0 0) 717).toInt = i2.toInt := congrArg Int32.toInt ki2
  have em6 : (I (gr g a0 0) 715).toInt = i3.toInt := congrArg Int32.toInt ki3
  have em7 : (I (gr g a0 0) 718).toInt = i4.toInt := congrArg Int32.toInt ki4
  refine k_PI C M h0_ (by decide) rfl (ct_X11_isNew l g I J a0 x1 h0_) (cw_X11_126 C.2.2.2.2 (by decide)) rfl hl.1 rfl (Nat.le_of_ble_eq_true rfl) dX11_layoutOf_2 ⟨Nat.le_refl _, Nat.le_refl _⟩ (fun r8 H locs p9r M => ?_)
  have p9 : 0 ≤ r8.toInt ∧ r8.toInt ≤ 1 ∧ (r8.toInt = 1 → (I (gr g a0 0) 717).toInt = 1) := p9r
  simp only [em5, em6, em7] at p9
  have p9 : 0 ≤ r8.toInt ∧ r8.toInt ≤ 1 ∧ (r8.toInt = 1 → i2.toInt = 1) := p9
  refine n_if_eq C (tgt := 21) dX11_layoutOf_5 (by decide) rfl (fun q10 => ?_) (fun q10 => ?_)
  ·
    refine lv_aload_n C.1 C.2.1 dX11_layoutOf_21 rfl (lv_at hl 0 rfl) ?_
    refine gi_X11_7 C M h0_ dX11_layoutOf_22 (fun h11 => ?_)
    refine lv_sipush (v := 715) C.1 C.2.1 dX11_layoutOf_25 (by decide) ?_
    refine a_ldK C M (X := 715) (j := 715) h1 (n := 729) rfl rfl rfl (by omega) (by omega) rfl ki3 dX11_layoutOf_28 ?_
    exact r_PI C M hr hlk rfl (by rw [ci2, ci3]; omega) dX11_layoutOf_29
  ·
    refine lv_aload_n C.1 C.2.1 dX11_layoutOf_8 rfl (lv_at hl 0 rfl) ?_
    refine gi_X11_7 C M h0_ dX11_layoutOf_9 (fun h12 => ?_)
    refine lv_sipush (v := 715) C.1 C.2.1 dX11_layoutOf_12 (by decide) ?_
    refine a_ldK C M (X := 715) (j := 715) h1 (n := 729) rfl rfl rfl (by omega) (by omega) rfl ki3 dX11_layoutOf_15 ?_
    refine lv_iconst (v := 1) C.1 C.2.1 dX11_layoutOf_16 (by decide) ?_
    refine n_iadd C (Y := 1) dX11_layoutOf_17 rfl rfl (by omega) (by omega) (fun v13 ev13 => ?_)
    refine lv_goto (tgt := 29) C.1 C.2.1 dX11_layoutOf_18 (by decide) ?_
    exact r_PI C M hr hlk rfl (by rw [ci2, ci3]; omega) dX11_layoutOf_29
