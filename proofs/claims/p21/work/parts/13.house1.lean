set_option maxHeartbeats 4000000 in
set_option maxRecDepth 100000 in
theorem ct_X4_layoutOf (l : Launch) (g : Gs) (I : Ms) (J : Js) (a0 : Nat) (x1 : Int32) (h0_ : Is g a0 2) : Ctr l yX4_layoutOf cX4_layoutOf 2 (Option.some (Jvm.ClassFile.FieldType.object "GrowHouse$Layout")) 1 g [.ref a0, .int x1] I J (PR g I J 3 (fun z => (0 ≤ x1.toInt → x1.toInt ≤ 7 → z = gr g (gr g a0 2) x1.toInt.toNat))) := by
  refine m_start (by decide) (Nat.le_of_ble_eq_true rfl) ?_
  intro p e s m args below meth c C hr hlk M ls hl
  have hl : lv_has ls 2 [(0, .ref a0), (1, .int x1)] := hl
  have C : CallFix p m c cX4_layoutOf 2 s args TB RX4 := C
  refine lv_iload_n C.1 C.2.1 dX4_layoutOf_0 rfl (lv_at hl 1 rfl) ?_
  refine n_if_lt C (tgt := 13) dX4_layoutOf_1 (by decide) rfl (fun q1 => ?_) (fun q1 => ?_)
  ·
    refine lv_aload_n C.1 C.2.1 dX4_layoutOf_13 rfl (lv_at hl 0 rfl) ?_
    refine gi_X4_27 C M h0_ dX4_layoutOf_14 (fun h2 => ?_)
    refine lv_iconst (v := 0) C.1 C.2.1 dX4_layoutOf_17 (by decide) ?_
    refine a_ldr C M (X := 0) (j := 0) h2 (n := 8) (by decide) rfl (fun _ => rfl) rfl (by omega) (by omega) rfl dX4_layoutOf_18 (fun h3 => ?_)
    refine lv_goto (tgt := 28) C.1 C.2.1 dX4_layoutOf_19 (by decide) ?_
    exact r_PR C M hr hlk h3 (by intro h8 h9; first | rfl | (exfalso; omega)) dX4_layoutOf_28
  ·
    refine lv_iload_n C.1 C.2.1 dX4_layoutOf_4 rfl (lv_at hl 1 rfl) ?_
    refine lv_aload_n C.1 C.2.1 dX4_layoutOf_5 rfl (lv_at hl 0 rfl) ?_
    refine gi_X4_27 C M h0_ dX4_layoutOf_6 (fun h4 => ?_)
    refine a_lnr C M h4 (by decide) (v := 8) rfl dX4_layoutOf_9 ?_
    refine n_icmp_lt C (tgt := 22) (Y := 8) dX4_layoutOf_10 (by decide) rfl rfl (fun q5 => ?_) (fun q5 => ?_)
    ·
      refine lv_aload_n C.1 C.2.1 dX4_layoutOf_22 rfl (lv_at hl 0 rfl) ?_
      refine gi_X4_27 C M h0_ dX4_layoutOf_23 (fun h6 => ?_)
      refine lv_iload_n C.1 C.2.1 dX4_layoutOf_26 rfl (lv_at hl 1 rfl) ?_
      refine a_ldr C M h4 (n := 8) (by decide) rfl (fun _ => rfl) rfl (by omega) (by omega) rfl dX4_layoutOf_27 (fun h7 => ?_)
      exact r_PR C M hr hlk h7 (by intro h8 h9; first | rfl | (exfalso; omega)) dX4_layoutOf_28
    ·
      refine lv_aload_n C.1 C.2.1 dX4_layoutOf_13 rfl (lv_at hl 0 rfl) ?_
      refine gi_X4_27 C M h0_ dX4_layoutOf_14 (fun h8 => ?_)
      refine lv_iconst (v := 0) C.1 C.2.1 dX4_layoutOf_17 (by decide) ?_
      refine a_ldr C M (X := 0) (j := 0) h4 (n := 8) (by decide) rfl (fun _ => rfl) rfl (by omega) (by omega) rfl dX4_layoutOf_18 (fun h9 => ?_)
      refine lv_goto (tgt := 28) C.1 C.2.1 dX4_layoutOf_19 (by decide) ?_
      exact r_PR C M hr hlk h9 (by intro h8 h9; first | rfl | (exfalso; omega)) dX4_layoutOf_28

abbrev md_X4_planBatch : List (Nat × Nat) := [(0, 1), (0, 2), (0, 3), (0, 4), (0, 5), (0, 6), (0, 7)]
set_option maxHeartbeats 4000000 in
set_option maxRecDepth 100000 in
theorem ct_X4_planBatch (l : Launch) (g : Gs) (I : Ms) (J : Js) (a0 : Nat) (h0_ : Is g a0 2) (hR : RHs g I J) : Ctr l yX4_planBatch cX4_planBatch 1 (Option.none : Option Jvm.ClassFile.FieldType) 2 g [.ref a0] I J (PV g md_X4_planBatch I (fun I1 J1 => J1 = J ∧ (True))) := by
  refine m_start (by decide) (Nat.le_of_ble_eq_true rfl) ?_
  intro p e s m args below meth c C hr hlk M ls hl
  have hl : lv_has ls 1 [(0, .ref a0)] := hl
  have C : CallFix p m c cX4_planBatch 1 s args TB RX4 := C
  have F : Fr g md_X4_planBatch I I := fr_rf
  refine lv_aload_n C.1 C.2.1 dX4_planBatch_0 rfl (lv_at hl 0 rfl) ?_
  refine gi_X4_73 C M h0_ dX4_planBatch_1 (fun v1 kv1 tv1 uv1 => ?_)
  refine n_if_eq C (tgt := 37) dX4_planBatch_4 (by decide) rfl (fun q2 => ?_) (fun q2 => ?_)
  ·
    exact r_PV C M hr hlk F ⟨rfl, trivial⟩ dX4_planBatch_37
  ·
    refine lv_aload_n C.1 C.2.1 dX4_planBatch_7 rfl (lv_at hl 0 rfl) ?_
    refine gi_X4_38 C M h0_ dX4_planBatch_8 (fun h3 => ?_)
    refine lv_aload_n C.1 C.2.1 dX4_planBatch_11 rfl (lv_at hl 0 rfl) ?_
    refine gi_X4_66 C M h0_ dX4_planBatch_12 (fun b4 kb4 h5 => ?_)
    refine lv_aload_n C.1 C.2.1 dX4_planBatch_15 rfl (lv_at hl 0 rfl) ?_
    refine gi_X4_70 C M h0_ dX4_planBatch_16 (fun b6 kb6 h7 => ?_)
    refine lv_aload_n C.1 C.2.1 dX4_planBatch_19 rfl (lv_at hl 0 rfl) ?_
    refine gi_X4_12 C M h0_ dX4_planBatch_20 (fun h8 => ?_)
    refine gi_X4_115 C M h8 dX4_planBatch_23 (fun v9 kv9 tv9 uv9 => ?_)
    refine lv_aload_n C.1 C.2.1 dX4_planBatch_26 rfl (lv_at hl 0 rfl) ?_
    refine gi_X4_77 C M h0_ dX4_planBatch_27 (fun v10 kv10 tv10 uv10 => ?_)
    refine lv_aload_n C.1 C.2.1 dX4_planBatch_30 rfl (lv_at hl 0 rfl) ?_
    refine gi_X4_80 C M h0_ dX4_planBatch_31 (fun v11 kv11 tv11 uv11 => ?_)
    refine k_PV C M h3 (by decide) rfl (ct_X1_plan l g I J (gr g a0 4) b4 b6 v9 v10 v11 h3 h5 h7 (by omega) (by omega) (by omega) (by omega) (by omega) (by omega) (by have e9 := hR.1 a0 h0_; unfold RH at e9; rw [kv10, kv9, kb4, kb6] at e9; exact e9)) (cw_X4_118 C.2.2.2.2 (by decide)) rfl hl.1 rfl (Nat.le_of_ble_eq_true rfl) dX4_planBatch_34 ⟨Nat.le_refl _, Nat.le_refl _⟩ (fun I12 J13 H locs G14 p15r M => ?_)
    obtain ⟨eJ13, p15⟩ : J13 = J ∧ (True) := p15r
    have eJ13 := eJ13.symm
    subst eJ13
    have F := fr_call F G14 (by decide)
    exact r_PV C M hr hlk F ⟨rfl, trivial⟩ dX4_planBatch_37

set_option maxHeartbeats 4000000 in
set_option maxRecDepth 100000 in
theorem ct_X4_blocks (l : Launch) (g : Gs) (I : Ms) (J : Js) (a0 : Nat) (h0_ : Is g a0 2) : Ctr l yX4_blocks cX4_blocks 1 (Option.some Jvm.ClassFile.FieldType.int) 1 g [.ref a0] I J (PI I J (fun z => z = (I (gr g a0 0) 4).toInt * (I (J.1 a0 6) 1).toInt ∧ 0 ≤ z ∧ z ≤ 280)) := by
  refine m_start (by decide) (Nat.le_of_ble_eq_true rfl) ?_
  intro p e s m args below meth c C hr hlk M ls hl
  have hl : lv_has ls 1 [(0, .ref a0)] := hl
  have C : CallFix p m c cX4_blocks 1 s args TB RX4 := C
  obtain ⟨o6, ko6⟩ : ∃ z : Nat, J.1 a0 6 = z := ⟨_, rfl⟩
  have ho6 : Is g o6 3 := ko6 ▸ is_old M h0_
  have h1 := is_ref M h0_ 0 1 rfl rfl
  obtain ⟨i2, ki2⟩ : ∃ z : Int32, I (gr g a0 0) 4 = z := ⟨_, rfl⟩
  have ti2 : 4 ≤ i2.toInt ∧ i2.toInt ≤ 40 := m_rng M h1 4 ki2 rfl
  have ci2 : (I (gr g a0 0) 4).toInt = i2.toInt := congrArg Int32.toInt ki2
  obtain ⟨i3, ki3⟩ : ∃ z : Int32, I o6 1 = z := ⟨_, rfl⟩
  have ti3 : 2 ≤ i3.toInt ∧ i3.toInt ≤ 7 := m_rng M ho6 1 ki3 rfl
  have ci3 : (I o6 1).toInt = i3.toInt := congrArg Int32.toInt ki3
  refine lv_aload_n C.1 C.2.1 dX4_blocks_0 rfl (lv_at hl 0 rfl) ?_
  refine gi_X4_12 C M h0_ dX4_blocks_1 (fun h4 => ?_)
  refine gk_X4_115 C M h1 ki2 dX4_blocks_4 ?_
  refine lv_aload_n C.1 C.2.1 dX4_blocks_7 rfl (lv_at hl 0 rfl) ?_
  refine gk_X4_66 C M h0_ ko6 dX4_blocks_8 ?_
  refine gk_X4_122 C M ho6 ki3 dX4_blocks_11 ?_
  have bp6 := i_prod (x := i2.toInt) (y := i3.toInt) (A := 40) (B := 7) (by omega) (by omega) (by omega) (by omega)
  refine n_imul C dX4_blocks_14 rfl rfl (by omega) (by omega) (fun v5 ev5 => ?_)
  exact r_PI C M hr hlk rfl ⟨by rw [ko6, ci2, ci3]; omega, by omega, by omega⟩ dX4_blocks_15

set_option maxHeartbeats 4000000 in
set_option maxRecDepth 100000 in
theorem ct_X4_newStripes (l : Launch) (g : Gs) (I : Ms) (J : Js) (a0 : Nat) (h0_ : Is g a0 2) : Ctr l yX4_newStripes cX4_newStripes 1 (Option.some Jvm.ClassFile.FieldType.int) 1 g [.ref a0] I J (PI I J (fun z => z = nsI (I (gr g a0 0) 4).toInt (I (J.1 a0 6) 1).toInt (I (J.1 a0 7) 1).toInt)) := by
  refine m_start (by decide) (Nat.le_of_ble_eq_true rfl) ?_
  intro p e s m args below meth c C hr hlk M ls hl
  have hl : lv_has ls 1 [(0, .ref a0)] := hl
  have C : CallFix p m c cX4_newStripes 1 s args TB RX4 := C
  obtain ⟨o6, ko6⟩ : ∃ z : Nat, J.1 a0 6 = z := ⟨_, rfl⟩
  have ho6 : Is g o6 3 := ko6 ▸ is_old M h0_
  obtain ⟨o7, ko7⟩ : ∃ z : Nat, J.1 a0 7 = z := ⟨_, rfl⟩
  have ho7 : Is g o7 3 := ko7 ▸ is_next M h0_
  have h1 := is_ref M h0_ 0 1 rfl rfl
  obtain ⟨i2, ki2⟩ : ∃ z : Int32, I (gr g a0 0) 4 = z := ⟨_, rfl⟩
  have ti2 : 4 ≤ i2.toInt ∧ i2.toInt ≤ 40 := m_rng M h1 4 ki2 rfl
  have ci2 : (I (gr g a0 0) 4).toInt = i2.toInt := congrArg Int32.toInt ki2
  obtain ⟨i3, ki3⟩ : ∃ z : Int32, I o6 1 = z := ⟨_, rfl⟩
  have ti3 : 2 ≤ i3.toInt ∧ i3.toInt ≤ 7 := m_rng M ho6 1 ki3 rfl
  have ci3 : (I o6 1).toInt = i3.toInt := congrArg Int32.toInt ki3
  obtain ⟨i4, ki4⟩ : ∃ z : Int32, I o7 1 = z := ⟨_, rfl⟩
  have ti4 : 2 ≤ i4.toInt ∧ i4.toInt ≤ 7 := m_rng M ho7 1 ki4 rfl
  have ci4 : (I o7 1).toInt = i4.toInt := congrArg Int32.toInt ki4
  refine lv_aload_n C.1 C.2.1 dX4_newStripes_0 rfl (lv_at hl 0 rfl) ?_
  refine gi_X4_12 C M h0_ dX4_newStripes_1 (fun h5 => ?_)
  refine gk_X4_115 C M h1 ki2 dX4_newStripes_4 ?_
  refine lv_aload_n C.1 C.2.1 dX4_newStripes_7 rfl (lv_at hl 0 rfl) ?_
  refine gk_X4_66 C M h0_ ko6 dX4_newStripes_8 ?_
  refine gk_X4_122 C M ho6 ki3 dX4_newStripes_11 ?_
  have bp7 := i_prod (x := i2.toInt) (y := i3.toInt) (A := 40) (B := 7) (by omega) (by omega) (by omega) (by omega)
  refine n_imul C dX4_newStripes_14 rfl rfl (by omega) (by omega) (fun v6 ev6 => ?_)
  refine lv_aload_n C.1 C.2.1 dX4_newStripes_15 rfl (lv_at hl 0 rfl) ?_
  refine gk_X4_70 C M h0_ ko7 dX4_newStripes_16 ?_
  refine gk_X4_122 C M ho7 ki4 dX4_newStripes_19 ?_
  refine n_iadd C dX4_newStripes_22 rfl rfl (by omega) (by omega) (fun v8 ev8 => ?_)
  refine lv_iconst (v := 1) C.1 C.2.1 dX4_newStripes_23 (by decide) ?_
  refine n_isub C (Y := 1) dX4_newStripes_24 rfl rfl (by omega) (by omega) (fun v9 ev9 => ?_)
  refine lv_aload_n C.1 C.2.1 dX4_newStripes_25 rfl (lv_at hl 0 rfl) ?_
  refine gk_X4_70 C M h0_ ko7 dX4_newStripes_26 ?_
  refine gk_X4_122 C M ho7 ki4 dX4_newStripes_29 ?_
  refine n_idiv0 C dX4_newStripes_32 rfl rfl (by omega) (by omega) (fun v10 ev10 lv10 uv10 => ?_)
  have q11 : v10.toInt ≤ 143 := by rw [ev10]; exact i_dle (by omega) (by omega) (by omega)
  exact r_PI C M hr hlk rfl (by unfold nsI; rw [ko6, ko7, ci2, ci3, ci4, ← ev6, ← ev8, ← ev9]; assumption) dX4_newStripes_33

set_option maxHeartbeats 4000000 in
set_option maxRecDepth 100000 in
theorem ct_X4_hasBlock (l : Launch) (g : Gs) (I : Ms) (J : Js) (a0 : Nat) (x1 : Int32) (h0_ : Is g a0 2) : Ctr l yX4_hasBlock cX4_hasBlock 2 (Option.some Jvm.ClassFile.FieldType.boolean) 2 g [.ref a0, .int x1] I J (PI I J (fun z => 0 ≤ z ∧ z ≤ 1 ∧ (z = 1 → 0 ≤ x1.toInt ∧ x1.toInt ≤ 280))) := by
  refine m_start (by decide) (Nat.le_of_ble_eq_true rfl) ?_
  intro p e s m args below meth c C hr hlk M ls hl
  have hl : lv_has ls 2 [(0, .ref a0), (1, .int x1)] := hl
  have C : CallFix p m c cX4_hasBlock 2 s args TB RX4 := C
  refine lv_iload_n C.1 C.2.1 dX4_hasBlock_0 rfl (lv_at hl 1 rfl) ?_
  refine n_if_lt C (tgt := 16) dX4_hasBlock_1 (by decide) rfl (fun q1 => ?_) (fun q1 => ?_)
  ·
    refine lv_iconst (v := 0) C.1 C.2.1 dX4_hasBlock_16 (by decide) ?_
    exact r_PIz C M (z := 0) hr hlk rfl (by omega) (by omega) (by omega) dX4_hasBlock_17
  ·
    refine lv_iload_n C.1 C.2.1 dX4_hasBlock_4 rfl (lv_at hl 1 rfl) ?_
    refine lv_aload_n C.1 C.2.1 dX4_hasBlock_5 rfl (lv_at hl 0 rfl) ?_
    refine k_PI C M h0_ (by decide) rfl (ct_X4_blocks l g I J a0 h0_) (cw_X4_125 C.2.2.2.2 (by decide)) rfl hl.1 rfl (Nat.le_of_ble_eq_true rfl) dX4_hasBlock_6 ⟨Nat.le_refl _, Nat.le_refl _⟩ (fun r2 H locs p3r M => ?_)
    have p3 : r2.toInt = (I (gr g a0 0) 4).toInt * (I (J.1 a0 6) 1).toInt ∧ 0 ≤ r2.toInt ∧ r2.toInt ≤ 280 := p3r
    refine n_icmp_ge C (tgt := 16) dX4_hasBlock_9 (by decide) rfl rfl (fun q4 => ?_) (fun q4 => ?_)
    ·
      refine lv_iconst (v := 0) C.1 C.2.1 dX4_hasBlock_16 (by decide) ?_
      exact r_PIz C M (z := 0) hr hlk rfl (by omega) (by omega) (by omega) dX4_hasBlock_17
    ·
      refine lv_iconst (v := 1) C.1 C.2.1 dX4_hasBlock_12 (by decide) ?_
      refine lv_goto (tgt := 17) C.1 C.2.1 dX4_hasBlock_13 (by decide) ?_
      exact r_PIz C M (z := 1) hr hlk rfl (by omega) (by omega) (by omega) dX4_hasBlock_17

set_option maxHeartbeats 4000000 in
set_option maxRecDepth 100000 in
theorem ct_X4_anyMoving (l : Launch) (g : Gs) (I : Ms) (J : Js) (a0 : Nat) (h0_ : Is g a0 2) : Ctr l yX4_anyMoving cX4_anyMoving 1 (Option.some Jvm.ClassFile.FieldType.boolean) 1 g [.ref a0] I J (PI I J (fun z => 0 ≤ z ∧ z ≤ 1)) := by
  refine m_start (by decide) (Nat.le_of_ble_eq_true rfl) ?_
  intro p e s m args below meth c C hr hlk M ls hl
  have hl : lv_has ls 1 [(0, .ref a0)] := hl
  have C : CallFix p m c cX4_anyMoving 1 s args TB RX4 := C
  refine lv_aload_n C.1 C.2.1 dX4_anyMoving_0 rfl (lv_at hl 0 rfl) ?_
  refine gi_X4_73 C M h0_ dX4_anyMoving_1 (fun v1 kv1 tv1 uv1 => ?_)
  refine n_if_eq C (tgt := 18) dX4_anyMoving_4 (by decide) rfl (fun q2 => ?_) (fun q2 => ?_)
  ·
    refine lv_iconst (v := 0) C.1 C.2.1 dX4_anyMoving_18 (by decide) ?_
    exact r_PIz C M (z := 0) hr hlk rfl (by omega) (by omega) (by omega) dX4_anyMoving_19
  ·
    refine lv_aload_n C.1 C.2.1 dX4_anyMoving_7 rfl (lv_at hl 0 rfl) ?_
    refine gi_X4_81 C M h0_ dX4_anyMoving_8 (fun v3 kv3 => ?_)
    refine n_if_le C (tgt := 18) dX4_anyMoving_11 (by decide) rfl (fun q4 => ?_) (fun q4 => ?_)
    ·
      refine lv_iconst (v := 0) C.1 C.2.1 dX4_anyMoving_18 (by decide) ?_
      exact r_PIz C M (z := 0) hr hlk rfl (by omega) (by omega) (by omega) dX4_anyMoving_19
    ·
      refine lv_iconst (v := 1) C.1 C.2.1 dX4_anyMoving_14 (by decide) ?_
      refine lv_goto (tgt := 19) C.1 C.2.1 dX4_anyMoving_15 (by decide) ?_
      exact r_PIz C M (z := 1) hr hlk rfl (by omega) (by omega) (by omega) dX4_anyMoving_19

set_option maxHeartbeats 4000000 in
set_option maxRecDepth 100000 in
theorem ct_X4_isMoving (l : Launch) (g : Gs) (I : Ms) (J : Js) (a0 : Nat) (x1 : Int32) (h0_ : Is g a0 2) : Ctr l yX4_isMoving cX4_isMoving 2 (Option.some Jvm.ClassFile.FieldType.boolean) 2 g [.ref a0, .int x1] I J (PI I J (fun z => 0 ≤ z ∧ z ≤ 1 ∧ (z = 1 → (I (gr g a0 4) 0).toInt ≤ x1.toInt ∧ x1.toInt ≤ 2100))) := by
  refine m_start (by decide) (Nat.le_of_ble_eq_true rfl) ?_
  intro p e s m args below meth c C hr hlk M ls hl
  have hl : lv_has ls 2 [(0, .ref a0), (1, .int x1)] := hl
  have C : CallFix p m c cX4_isMoving 2 s args TB RX4 := C
  have h1 := is_ref M h0_ 4 0 rfl rfl
  obtain ⟨i2, ki2⟩ : ∃ z : Int32, I (gr g a0 4) 0 = z := ⟨_, rfl⟩
  have ti2 : 0 ≤ i2.toInt ∧ i2.toInt ≤ 2000 := m_rng M h1 0 ki2 rfl
  have ci2 : (I (gr g a0 4) 0).toInt = i2.toInt := congrArg Int32.toInt ki2
  refine lv_aload_n C.1 C.2.1 dX4_isMoving_0 rfl (lv_at hl 0 rfl) ?_
  refine k_PI C M h0_ (by decide) rfl (ct_X4_anyMoving l g I J a0 h0_) (cw_X4_129 C.2.2.2.2 (by decide)) rfl hl.1 rfl (Nat.le_of_ble_eq_true rfl) dX4_isMoving_1 ⟨Nat.le_refl _, Nat.le_refl _⟩ (fun r3 H locs p4r M => ?_)
  have p4 : 0 ≤ r3.toInt ∧ r3.toInt ≤ 1 := p4r
  refine n_if_eq C (tgt := 41) dX4_isMoving_4 (by decide) rfl (fun q5 => ?_) (fun q5 => ?_)
  ·
    refine lv_iconst (v := 0) C.1 C.2.1 dX4_isMoving_41 (by decide) ?_
    exact r_PIz C M (z := 0) hr hlk rfl (by omega) (by omega) (by omega) dX4_isMoving_42
  ·
    refine lv_iload_n C.1 C.2.1 dX4_isMoving_7 rfl (lv_at hl 1 rfl) ?_
    refine lv_aload_n C.1 C.2.1 dX4_isMoving_8 rfl (lv_at hl 0 rfl) ?_
    refine gi_X4_38 C M h0_ dX4_isMoving_9 (fun h6 => ?_)
    refine gk_X4_133 C M h1 ki2 dX4_isMoving_12 ?_
    refine n_icmp_lt C (tgt := 41) dX4_isMoving_15 (by decide) rfl rfl (fun q7 => ?_) (fun q7 => ?_)
    ·
      refine lv_iconst (v := 0) C.1 C.2.1 dX4_isMoving_41 (by decide) ?_
      exact r_PIz C M (z := 0) hr hlk rfl (by omega) (by omega) (by omega) dX4_isMoving_42
    ·
      refine lv_iload_n C.1 C.2.1 dX4_isMoving_18 rfl (lv_at hl 1 rfl) ?_
      refine lv_aload_n C.1 C.2.1 dX4_isMoving_19 rfl (lv_at hl 0 rfl) ?_
      refine gi_X4_38 C M h0_ dX4_isMoving_20 (fun h8 => ?_)
      refine gk_X4_133 C M h1 ki2 dX4_isMoving_23 ?_
      refine lv_aload_n C.1 C.2.1 dX4_isMoving_26 rfl (lv_at hl 0 rfl) ?_
      refine gi_X4_38 C M h0_ dX4_isMoving_27 (fun h9 => ?_)
      refine gi_X4_136 C M h1 dX4_isMoving_30 (fun v10 kv10 tv10 uv10 => ?_)
      refine n_iadd C dX4_isMoving_33 rfl rfl (by omega) (by omega) (fun v11 ev11 => ?_)
      refine n_icmp_ge C (tgt := 41) dX4_isMoving_34 (by decide) rfl rfl (fun q12 => ?_) (fun q12 => ?_)
      ·
        refine lv_iconst (v := 0) C.1 C.2.1 dX4_isMoving_41 (by decide) ?_
        exact r_PIz C M (z := 0) hr hlk rfl (by omega) (by omega) (by omega) dX4_isMoving_42
      ·
        refine lv_iconst (v := 1) C.1 C.2.1 dX4_isMoving_37 (by decide) ?_
        refine lv_goto (tgt := 42) C.1 C.2.1 dX4_isMoving_38 (by decide) ?_
        exact r_PIz C M (z := 1) hr hlk rfl (by omega) (by omega) (by omega) dX4_isMoving_42

set_option maxHeartbeats 4000000 in
set_option maxRecDepth 100000 in
theorem ct_X4_isHeld (l : Launch) (g : Gs) (I : Ms) (J : Js) (a0 : Nat) (x1 : Int32) (h0_ : Is g a0 2) : Ctr l yX4_isHeld cX4_isHeld 2 (Option.some Jvm.ClassFile.FieldType.boolean) 3 g [.ref a0, .int x1] I J (PI I J (fun z => 0 ≤ z ∧ z ≤ 1 ∧ (z = 1 → (I (gr g a0 4) 0).toInt ≤ x1.toInt ∧ x1.toInt ≤ (I (gr g a0 4) 0).toInt + 23))) := by
  refine m_start (by decide) (Nat.le_of_ble_eq_true rfl) ?_
  intro p e s m args below meth c C hr hlk M ls hl
  have hl : lv_has ls 2 [(0, .ref a0), (1, .int x1)] := hl
  have C : CallFix p m c cX4_isHeld 2 s args TB RX4 := C
  have h1 := is_ref M h0_ 4 0 rfl rfl
  obtain ⟨i2, ki2⟩ : ∃ z : Int32, I (gr g a0 4) 0 = z := ⟨_, rfl⟩
  have ti2 : 0 ≤ i2.toInt ∧ i2.toInt ≤ 2000 := m_rng M h1 0 ki2 rfl
  have ci2 : (I (gr g a0 4) 0).toInt = i2.toInt := congrArg Int32.toInt ki2
  refine lv_aload_n C.1 C.2.1 dX4_isHeld_0 rfl (lv_at hl 0 rfl) ?_
  refine lv_iload_n C.1 C.2.1 dX4_isHeld_1 rfl (lv_at hl 1 rfl) ?_
  refine k_PI C M h0_ (by decide) rfl (ct_X4_isMoving l g I J a0 x1 h0_) (cw_X4_139 C.2.2.2.2 (by decide)) rfl hl.1 rfl (Nat.le_of_ble_eq_true rfl) dX4_isHeld_2 ⟨Nat.le_refl _, Nat.le_refl _⟩ (fun r3 H locs p4r M => ?_)
  have p4 : 0 ≤ r3.toInt ∧ r3.toInt ≤ 1 ∧ (r3.toInt = 1 → (I (gr g a0 4) 0).toInt ≤ x1.toInt ∧ x1.toInt ≤ 2100) := p4r
  refine n_if_eq C (tgt := 43) dX4_isHeld_5 (by decide) rfl (fun q5 => ?_) (fun q5 => ?_)
  ·
    refine lv_iconst (v := 0) C.1 C.2.1 dX4_isHeld_43 (by decide) ?_
    exact r_PIz C M (z := 0) hr hlk rfl (by omega) (by omega) (by omega) dX4_isHeld_44
  ·
    refine lv_aload_n C.1 C.2.1 dX4_isHeld_8 rfl (lv_at hl 0 rfl) ?_
    refine gi_X4_81 C M h0_ dX4_isHeld_9 (fun v6 kv6 => ?_)
    refine lv_aload_n C.1 C.2.1 dX4_isHeld_12 rfl (lv_at hl 0 rfl) ?_
    refine gi_X4_38 C M h0_ dX4_isHeld_13 (fun h7 => ?_)
    refine gi_X4_143 C M h1 dX4_isHeld_16 (fun v8 kv8 tv8 uv8 => ?_)
    refine n_icmp_lt C (tgt := 43) dX4_isHeld_19 (by decide) rfl rfl (fun q9 => ?_) (fun q9 => ?_)
    ·
      refine lv_iconst (v := 0) C.1 C.2.1 dX4_isHeld_43 (by decide) ?_
      exact r_PIz C M (z := 0) hr hlk rfl (by omega) (by omega) (by omega) dX4_isHeld_44
    ·
      refine lv_iload_n C.1 C.2.1 dX4_isHeld_22 rfl (lv_at hl 1 rfl) ?_
      refine lv_aload_n C.1 C.2.1 dX4_isHeld_23 rfl (lv_at hl 0 rfl) ?_
      refine gi_X4_38 C M h0_ dX4_isHeld_24 (fun h10 => ?_)
      refine gk_X4_133 C M h1 ki2 dX4_isHeld_27 ?_
      refine n_isub C dX4_isHeld_30 rfl rfl (by omega) (by omega) (fun v11 ev11 => ?_)
      refine lv_aload_n C.1 C.2.1 dX4_isHeld_31 rfl (lv_at hl 0 rfl) ?_
      refine gi_X4_31 C M h0_ dX4_isHeld_32 (fun h12 => ?_)
      refine a_ln C M h12 rfl (v := 24) rfl dX4_isHeld_35 ?_
      refine n_icmp_ge C (tgt := 43) (Y := 24) dX4_isHeld_36 (by decide) rfl rfl (fun q13 => ?_) (fun q13 => ?_)
      ·
        refine lv_iconst (v := 0) C.1 C.2.1 dX4_isHeld_43 (by decide) ?_
        exact r_PIz C M (z := 0) hr hlk rfl (by omega) (by omega) (by omega) dX4_isHeld_44
      ·
        refine lv_iconst (v := 1) C.1 C.2.1 dX4_isHeld_39 (by decide) ?_
        refine lv_goto (tgt := 44) C.1 C.2.1 dX4_isHeld_40 (by decide) ?_
        exact r_PIz C M (z := 1) hr hlk rfl (by omega) (by omega) (by omega) dX4_isHeld_44

set_option maxHeartbeats 4000000 in
set_option maxRecDepth 100000 in
theorem ct_X4_isNew (l : Launch) (g : Gs) (I : Ms) (J : Js) (a0 : Nat) (x1 : Int32) (h0_ : Is g a0 2) : Ctr l yX4_isNew cX4_isNew 2 (Option.some Jvm.ClassFile.FieldType.boolean) 1 g [.ref a0, .int x1] I J (PI I J (fun z => 0 ≤ z ∧ z ≤ 1)) := by
  refine m_start (by decide) (Nat.le_of_ble_eq_true rfl) ?_
  intro p e s m args below meth c C hr hlk M ls hl
  have hl : lv_has ls 2 [(0, .ref a0), (1, .int x1)] := hl
  have C : CallFix p m c cX4_isNew 2 s args TB RX4 := C
  refine lv_aload_n C.1 C.2.1 dX4_isNew_0 rfl (lv_at hl 0 rfl) ?_
  refine gi_X4_73 C M h0_ dX4_isNew_1 (fun v1 kv1 tv1 uv1 => ?_)
  refine n_if_eq C (tgt := 27) dX4_isNew_4 (by decide) rfl (fun q2 => ?_) (fun q2 => ?_)
  ·
    refine lv_iconst (v := 0) C.1 C.2.1 dX4_isNew_27 (by decide) ?_
    exact r_PIz C M (z := 0) hr hlk rfl (by omega) (by omega) (by omega) dX4_isNew_28
  ·
    refine lv_iload_n C.1 C.2.1 dX4_isNew_7 rfl (lv_at hl 1 rfl) ?_
    refine lv_aload_n C.1 C.2.1 dX4_isNew_8 rfl (lv_at hl 0 rfl) ?_
    refine gi_X4_77 C M h0_ dX4_isNew_9 (fun v3 kv3 tv3 uv3 => ?_)
    refine lv_aload_n C.1 C.2.1 dX4_isNew_12 rfl (lv_at hl 0 rfl) ?_
    refine gi_X4_70 C M h0_ dX4_isNew_13 (fun b4 kb4 h5 => ?_)
    refine gi_X4_122 C M h5 dX4_isNew_16 (fun v6 kv6 tv6 uv6 => ?_)
    have bp8 := i_prod (x := v3.toInt) (y := v6.toInt) (A := 200) (B := 7) (by omega) (by omega) (by omega) (by omega)
    refine n_imul C dX4_isNew_19 rfl rfl (by omega) (by omega) (fun v7 ev7 => ?_)
    refine n_icmp_ge C (tgt := 27) dX4_isNew_20 (by decide) rfl rfl (fun q9 => ?_) (fun q9 => ?_)
    ·
      refine lv_iconst (v := 0) C.1 C.2.1 dX4_isNew_27 (by decide) ?_
      exact r_PIz C M (z := 0) hr hlk rfl (by omega) (by omega) (by omega) dX4_isNew_28
    ·
      refine lv_iconst (v := 1) C.1 C.2.1 dX4_isNew_23 (by decide) ?_
      refine lv_goto (tgt := 28) C.1 C.2.1 dX4_isNew_24 (by decide) ?_
      exact r_PIz C M (z := 1) hr hlk rfl (by omega) (by omega) (by omega) dX4_isNew_28

set_option maxHeartbeats 4000000 in
set_option maxRecDepth 100000 in
theorem ct_X4_layoutAt (l : Launch) (g : Gs) (I : Ms) (J : Js) (a0 : Nat) (x1 : Int32) (h0_ : Is g a0 2) : Ctr l yX4_layoutAt cX4_layoutAt 2 (Option.some (Jvm.ClassFile.FieldType.object "GrowHouse$Layout")) 2 g [.ref a0, .int x1] I J (PR g I J 3 (fun z => True)) := by
  refine m_start (by decide) (Nat.le_of_ble_eq_true rfl) ?_
  intro p e s m args below meth c C hr hlk M ls hl
  have hl : lv_has ls 2 [(0, .ref a0), (1, .int x1)] := hl
  have C : CallFix p m c cX4_layoutAt 2 s args TB RX4 := C
  refine lv_aload_n C.1 C.2.1 dX4_layoutAt_0 rfl (lv_at hl 0 rfl) ?_
  refine lv_iload_n C.1 C.2.1 dX4_layoutAt_1 rfl (lv_at hl 1 rfl) ?_
  refine k_PI C M h0_ (by decide) rfl (ct_X4_isNew l g I J a0 x1 h0_) (cw_X4_146 C.2.2.2.2 (by decide)) rfl hl.1 rfl (Nat.le_of_ble_eq_true rfl) dX4_layoutAt_2 ⟨Nat.le_refl _, Nat.le_refl _⟩ (fun r1 H locs p2r M => ?_)
  have p2 : 0 ≤ r1.toInt ∧ r1.toInt ≤ 1 := p2r
  refine n_if_eq C (tgt := 15) dX4_layoutAt_5 (by decide) rfl (fun q3 => ?_) (fun q3 => ?_)
  ·
    refine lv_aload_n C.1 C.2.1 dX4_layoutAt_15 rfl (lv_at hl 0 rfl) ?_
    refine gi_X4_66 C M h0_ dX4_layoutAt_16 (fun b4 kb4 h5 => ?_)
    exact r_PR C M hr hlk h5 trivial dX4_layoutAt_19
  ·
    refine lv_aload_n C.1 C.2.1 dX4_layoutAt_8 rfl (lv_at hl 0 rfl) ?_
    refine gi_X4_70 C M h0_ dX4_layoutAt_9 (fun b6 kb6 h7 => ?_)
    refine lv_goto (tgt := 19) C.1 C.2.1 dX4_layoutAt_12 (by decide) ?_
    exact r_PR C M hr hlk h7 trivial dX4_layoutAt_19

set_option maxHeartbeats 4000000 in
set_option maxRecDepth 100000 in
theorem ct_X4_layoutOfRow (l : Launch) (g : Gs) (I : Ms) (J : Js) (a0 : Nat) (x1 : Int32) (h0_ : Is g a0 2) : Ctr l yX4_layoutOfRow cX4_layoutOfRow 2 (Option.some (Jvm.ClassFile.FieldType.object "GrowHouse$Layout")) 1 g [.ref a0, .int x1] I J (PR g I J 3 (fun z => True)) := by
  refine m_start (by decide) (Nat.le_of_ble_eq_true rfl) ?_
  intro p e s m args below meth c C hr hlk M ls hl
  have hl : lv_has ls 2 [(0, .ref a0), (1, .int x1)] := hl
  have C : CallFix p m c cX4_layoutOfRow 2 s args TB RX4 := C
  refine lv_iload_n C.1 C.2.1 dX4_layoutOfRow_0 rfl (lv_at hl 1 rfl) ?_
  refine lv_aload_n C.1 C.2.1 dX4_layoutOfRow_1 rfl (lv_at hl 0 rfl) ?_
  refine gi_X4_77 C M h0_ dX4_layoutOfRow_2 (fun v1 kv1 tv1 uv1 => ?_)
  refine n_icmp_ge C (tgt := 15) dX4_layoutOfRow_5 (by decide) rfl rfl (fun q2 => ?_) (fun q2 => ?_)
  ·
    refine lv_aload_n C.1 C.2.1 dX4_layoutOfRow_15 rfl (lv_at hl 0 rfl) ?_
    refine gi_X4_66 C M h0_ dX4_layoutOfRow_16 (fun b3 kb3 h4 => ?_)
    exact r_PR C M hr hlk h4 trivial dX4_layoutOfRow_19
  ·
    refine lv_aload_n C.1 C.2.1 dX4_layoutOfRow_8 rfl (lv_at hl 0 rfl) ?_
    refine gi_X4_70 C M h0_ dX4_layoutOfRow_9 (fun b5 kb5 h6 => ?_)
    refine lv_goto (tgt := 19) C.1 C.2.1 dX4_layoutOfRow_12 (by decide) ?_
    exact r_PR C M hr hlk h6 trivial dX4_layoutOfRow_19

set_option maxHeartbeats 4000000 in
set_option maxRecDepth 100000 in
theorem ct_X4_readsFor (l : Launch) (g : Gs) (I : Ms) (J : Js) (a0 : Nat) (x1 : Int32) (h0_ : Is g a0 2) : Ctr l yX4_readsFor cX4_readsFor 3 (Option.some Jvm.ClassFile.FieldType.int) 3 g [.ref a0, .int x1] I J (PI I J (fun z => True)) := by
  refine m_start (by decide) (Nat.le_of_ble_eq_true rfl) ?_
  intro p e s m args below meth c C hr hlk M ls hl
  have hl : lv_has ls 3 [(0, .ref a0), (1, .int x1)] := hl
  have C : CallFix p m c cX4_readsFor 3 s args TB RX4 := C
  refine lv_aload_n C.1 C.2.1 dX4_readsFor_0 rfl (lv_at hl 0 rfl) ?_
  refine lv_iload_n C.1 C.2.1 dX4_readsFor_1 rfl (lv_at hl 1 rfl) ?_
  refine k_PR C M h0_ (by decide) rfl (ct_X4_layoutAt l g I J a0 x1 h0_) (cw_X4_149 C.2.2.2.2 (by decide)) rfl hl.1 rfl (Nat.le_of_ble_eq_true rfl) dX4_readsFor_2 ⟨Nat.le_refl _, Nat.le_refl _⟩ (fun b1 H locs h2 p3r M => ?_)
  have p3 : True := p3r
  refine lv_astore_n (lv' := [(2, .ref b1), (0, .ref a0), (1, .int x1)]) C.1 C.2.1 dX4_readsFor_5 rfl hl (by decide) rfl (fun ls hl => ?_)
  refine lv_aload_n C.1 C.2.1 dX4_readsFor_6 rfl (lv_at hl 1 rfl) ?_
  refine gi_X4_12 C M h0_ dX4_readsFor_7 (fun h4 => ?_)
  refine lv_aload_n C.1 C.2.1 dX4_readsFor_10 rfl (lv_at hl 0 rfl) ?_
  refine lv_aload_n C.1 C.2.1 dX4_readsFor_11 rfl (lv_at hl 0 rfl) ?_
  refine lv_iload_n C.1 C.2.1 dX4_readsFor_12 rfl (lv_at hl 2 rfl) ?_
  refine k_PI C M h2 (by decide) rfl (ct_X5_diskOf l g I J b1 x1 h2) (cw_X4_152 C.2.2.2.2 (by decide)) rfl hl.1 rfl (Nat.le_of_ble_eq_true rfl) dX4_readsFor_13 ⟨Nat.le_refl _, Nat.le_refl _⟩ (fun r5 H locs p6r M => ?_)
  have p6 : True := p6r
  refine lv_aload_n C.1 C.2.1 dX4_readsFor_16 rfl (lv_at hl 0 rfl) ?_
  refine lv_iload_n C.1 C.2.1 dX4_readsFor_17 rfl (lv_at hl 2 rfl) ?_
  refine k_PI C M h2 (by decide) rfl (ct_X5_rowOf l g I J b1 x1 h2) (cw_X4_156 C.2.2.2.2 (by decide)) rfl hl.1 rfl (Nat.le_of_ble_eq_true rfl) dX4_readsFor_18 ⟨Nat.le_refl _, Nat.le_refl _⟩ (fun r7 H locs p8r M => ?_)
  have p8 : True := p8r
  refine k_PI C M h4 (by decide) rfl (ct_X3_readsFor l g I J (gr g a0 0) b1 r5 r7 h4 h2) (cw_X4_159 C.2.2.2.2 (by decide)) rfl hl.1 rfl (Nat.le_of_ble_eq_true rfl) dX4_readsFor_21 ⟨Nat.le_refl _, Nat.le_refl _⟩ (fun r9 H locs p10r M => ?_)
  have p10 : True := p10r
  exact r_PI C M hr hlk rfl trivial dX4_readsFor_24

set_option maxHeartbeats 4000000 in
set_option maxRecDepth 100000 in
theorem ct_X4_canRead (l : Launch) (g : Gs) (I : Ms) (J : Js) (a0 : Nat) (x1 : Int32) (h0_ : Is g a0 2) : Ctr l yX4_canRead cX4_canRead 2 (Option.some Jvm.ClassFile.FieldType.boolean) 4 g [.ref a0, .int x1] I J (PI I J (fun z => 0 ≤ z ∧ z ≤ 1)) := by
  refine m_start (by decide) (Nat.le_of_ble_eq_true rfl) ?_
  intro p e s m args below meth c C hr hlk M ls hl
  have hl : lv_has ls 2 [(0, .ref a0), (1, .int x1)] := hl
  have C : CallFix p m c cX4_canRead 2 s args TB RX4 := C
  refine lv_aload_n C.1 C.2.1 dX4_canRead_0 rfl (lv_at hl 0 rfl) ?_
  refine lv_iload_n C.1 C.2.1 dX4_canRead_1 rfl (lv_at hl 1 rfl) ?_
  refine k_PI C M h0_ (by decide) rfl (ct_X4_isHeld l g I J a0 x1 h0_) (cw_X4_163 C.2.2.2.2 (by decide)) rfl hl.1 rfl (Nat.le_of_ble_eq_true rfl) dX4_canRead_2 ⟨Nat.le_refl _, Nat.le_refl _⟩ (fun r1 H locs p2r M => ?_)
  have p2 : 0 ≤ r1.toInt ∧ r1.toInt ≤ 1 ∧ (r1.toInt = 1 → (I (gr g a0 4) 0).toInt ≤ x1.toInt ∧ x1.toInt ≤ (I (gr g a0 4) 0).toInt + 23) := p2r
  refine n_if_ne C (tgt := 16) dX4_canRead_5 (by decide) rfl (fun q3 => ?_) (fun q3 => ?_)
  ·
    refine lv_iconst (v := 1) C.1 C.2.1 dX4_canRead_16 (by decide) ?_
    refine lv_goto (tgt := 21) C.1 C.2.1 dX4_canRead_17 (by decide) ?_
    exact r_PIz C M (z := 1) hr hlk rfl (by omega) (by omega) (by omega) dX4_canRead_21
  ·
    refine lv_aload_n C.1 C.2.1 dX4_canRead_8 rfl (lv_at hl 0 rfl) ?_
    refine lv_iload_n C.1 C.2.1 dX4_canRead_9 rfl (lv_at hl 1 rfl) ?_
    refine k_PI C M h0_ (by decide) rfl (ct_X4_readsFor l g I J a0 x1 h0_) (cw_X4_166 C.2.2.2.2 (by decide)) rfl hl.1 rfl (Nat.le_of_ble_eq_true rfl) dX4_canRead_10 ⟨Nat.le_refl _, Nat.le_refl _⟩ (fun r4 H locs p5r M => ?_)
    have p5 : True := p5r
    refine n_if_le C (tgt := 20) dX4_canRead_13 (by decide) rfl (fun q6 => ?_) (fun q6 => ?_)
    ·
      refine lv_iconst (v := 0) C.1 C.2.1 dX4_canRead_20 (by decide) ?_
      exact r_PIz C M (z := 0) hr hlk rfl (by omega) (by omega) (by omega) dX4_canRead_21
    ·
      refine lv_iconst (v := 1) C.1 C.2.1 dX4_canRead_16 (by decide) ?_
      refine lv_goto (tgt := 21) C.1 C.2.1 dX4_canRead_17 (by decide) ?_
      exact r_PIz C M (z := 1) hr hlk rfl (by omega) (by omega) (by omega) dX4_canRead_21

set_option maxHeartbeats 4000000 in
set_option maxRecDepth 100000 in
theorem ct_X4_wordOf (l : Launch) (g : Gs) (I : Ms) (J : Js) (a0 : Nat) (x1 : Int32) (h0_ : Is g a0 2) : Ctr l yX4_wordOf cX4_wordOf 3 (Option.some Jvm.ClassFile.FieldType.int) 4 g [.ref a0, .int x1] I J (PI I J (fun z => True)) := by
  refine m_start (by decide) (Nat.le_of_ble_eq_true rfl) ?_
  intro p e s m args below meth c C hr hlk M ls hl
  have hl : lv_has ls 3 [(0, .ref a0), (1, .int x1)] := hl
  have C : CallFix p m c cX4_wordOf 3 s args TB RX4 := C
  have h1 := is_ref M h0_ 4 0 rfl rfl
  obtain ⟨i2, ki2⟩ : ∃ z : Int32, I (gr g a0 4) 0 = z := ⟨_, rfl⟩
  have ti2 : 0 ≤ i2.toInt ∧ i2.toInt ≤ 2000 := m_rng M h1 0 ki2 rfl
  have ci2 : (I (gr g a0 4) 0).toInt = i2.toInt := congrArg Int32.toInt ki2
  refine lv_aload_n C.1 C.2.1 dX4_wordOf_0 rfl (lv_at hl 0 rfl) ?_
  refine lv_iload_n C.1 C.2.1 dX4_wordOf_1 rfl (lv_at hl 1 rfl) ?_
  refine k_PI C M h0_ (by decide) rfl (ct_X4_isHeld l g I J a0 x1 h0_) (cw_X4_163 C.2.2.2.2 (by decide)) rfl hl.1 rfl (Nat.le_of_ble_eq_true rfl) dX4_wordOf_2 ⟨Nat.le_refl _, Nat.le_refl _⟩ (fun r3 H locs p4r M => ?_)
  have p4 : 0 ≤ r3.toInt ∧ r3.toInt ≤ 1 ∧ (r3.toInt = 1 → (I (gr g a0 4) 0).toInt ≤ x1.toInt ∧ x1.toInt ≤ (I (gr g a0 4) 0).toInt + 23) := p4r
  refine n_if_eq C (tgt := 23) dX4_wordOf_5 (by decide) rfl (fun q5 => ?_) (fun q5 => ?_)
  ·
    refine lv_aload_n C.1 C.2.1 dX4_wordOf_23 rfl (lv_at hl 0 rfl) ?_
    refine lv_iload_n C.1 C.2.1 dX4_wordOf_24 rfl (lv_at hl 1 rfl) ?_
    refine k_PR C M h0_ (by decide) rfl (ct_X4_layoutAt l g I J a0 x1 h0_) (cw_X4_149 C.2.2.2.2 (by decide)) rfl hl.1 rfl (Nat.le_of_ble_eq_true rfl) dX4_wordOf_25 ⟨Nat.le_refl _, Nat.le_refl _⟩ (fun b6 H locs h7 p8r M => ?_)
    have p8 : True := p8r
    refine lv_astore_n (lv' := [(2, .ref b6), (0, .ref a0), (1, .int x1)]) C.1 C.2.1 dX4_wordOf_28 rfl hl (by decide) rfl (fun ls hl => ?_)
    refine lv_aload_n C.1 C.2.1 dX4_wordOf_29 rfl (lv_at hl 1 rfl) ?_
    refine gi_X4_12 C M h0_ dX4_wordOf_30 (fun h9 => ?_)
    refine lv_aload_n C.1 C.2.1 dX4_wordOf_33 rfl (lv_at hl 0 rfl) ?_
    refine lv_aload_n C.1 C.2.1 dX4_wordOf_34 rfl (lv_at hl 0 rfl) ?_
    refine lv_iload_n C.1 C.2.1 dX4_wordOf_35 rfl (lv_at hl 2 rfl) ?_
    refine k_PI C M h7 (by decide) rfl (ct_X5_diskOf l g I J b6 x1 h7) (cw_X4_152 C.2.2.2.2 (by decide)) rfl hl.1 rfl (Nat.le_of_ble_eq_true rfl) dX4_wordOf_36 ⟨Nat.le_refl _, Nat.le_refl _⟩ (fun r10 H locs p11r M => ?_)
    have p11 : True := p11r
    refine lv_aload_n C.1 C.2.1 dX4_wordOf_39 rfl (lv_at hl 0 rfl) ?_
    refine lv_iload_n C.1 C.2.1 dX4_wordOf_40 rfl (lv_at hl 2 rfl) ?_
    refine k_PI C M h7 (by decide) rfl (ct_X5_rowOf l g I J b6 x1 h7) (cw_X4_156 C.2.2.2.2 (by decide)) rfl hl.1 rfl (Nat.le_of_ble_eq_true rfl) dX4_wordOf_41 ⟨Nat.le_refl _, Nat.le_refl _⟩ (fun r12 H locs p13r M => ?_)
    have p13 : True := p13r
    refine k_PI C M h9 (by decide) rfl (ct_X3_valueOf l g I J (gr g a0 0) b6 r10 r12 h9 h7) (cw_X4_168 C.2.2.2.2 (by decide)) rfl hl.1 rfl (Nat.le_of_ble_eq_true rfl) dX4_wordOf_44 ⟨Nat.le_refl _, Nat.le_refl _⟩ (fun r14 H locs p15r M => ?_)
    have p15 : True := p15r
    exact r_PI C M hr hlk rfl trivial dX4_wordOf_47
  ·
    refine lv_aload_n C.1 C.2.1 dX4_wordOf_8 rfl (lv_at hl 0 rfl) ?_
    refine gi_X4_31 C M h0_ dX4_wordOf_9 (fun h16 => ?_)
    refine lv_iload_n C.1 C.2.1 dX4_wordOf_12 rfl (lv_at hl 1 rfl) ?_
    refine lv_aload_n C.1 C.2.1 dX4_wordOf_13 rfl (lv_at hl 0 rfl) ?_
    refine gi_X4_38 C M h0_ dX4_wordOf_14 (fun h17 => ?_)
    refine gk_X4_133 C M h1 ki2 dX4_wordOf_17 ?_
    refine n_isub C dX4_wordOf_20 rfl rfl (by omega) (by omega) (fun v18 ev18 => ?_)
    refine a_ld C M h16 (n := 24) rfl rfl rfl (by omega) (by omega) rfl dX4_wordOf_21 (fun v19 kv19 => ?_)
    exact r_PI C M hr hlk rfl trivial dX4_wordOf_22

abbrev md_X4_storeOne : List (Nat × Nat) := [(16, 0), (17, 0), (18, 0)]
set_option maxHeartbeats 4000000 in
set_option maxRecDepth 100000 in
theorem ct_X4_storeOne (l : Launch) (g : Gs) (I : Ms) (J : Js) (a0 : Nat) (x1 : Int32) (x2 : Int32) (h0_ : Is g a0 2) : Ctr l yX4_storeOne cX4_storeOne 4 (Option.some Jvm.ClassFile.FieldType.int) 4 g [.ref a0, .int x1, .int x2] I J (PM g md_X4_storeOne I (fun z I1 J1 => J1 = J ∧ (True))) := by
  refine m_start (by decide) (Nat.le_of_ble_eq_true rfl) ?_
  intro p e s m args below meth c C hr hlk M ls hl
  have hl : lv_has ls 4 [(0, .ref a0), (1, .int x1), (2, .int x2)] := hl
  have C : CallFix p m c cX4_storeOne 4 s args TB RX4 := C
  have F : Fr g md_X4_storeOne I I := fr_rf
  refine lv_aload_n C.1 C.2.1 dX4_storeOne_0 rfl (lv_at hl 0 rfl) ?_
  refine lv_iload_n C.1 C.2.1 dX4_storeOne_1 rfl (lv_at hl 1 rfl) ?_
  refine k_PI C M h0_ (by decide) rfl (ct_X4_hasBlock l g I J a0 x1 h0_) (cw_X4_171 C.2.2.2.2 (by decide)) rfl hl.1 rfl (Nat.le_of_ble_eq_true rfl) dX4_storeOne_2 ⟨Nat.le_refl _, Nat.le_refl _⟩ (fun r1 H locs p2r M => ?_)
  have p2 : 0 ≤ r1.toInt ∧ r1.toInt ≤ 1 ∧ (r1.toInt = 1 → 0 ≤ x1.toInt ∧ x1.toInt ≤ 280) := p2r
  refine n_if_ne C (tgt := 10) dX4_storeOne_5 (by decide) rfl (fun q3 => ?_) (fun q3 => ?_)
  ·
    refine lv_aload_n C.1 C.2.1 dX4_storeOne_10 rfl (lv_at hl 0 rfl) ?_
    refine lv_iload_n C.1 C.2.1 dX4_storeOne_11 rfl (lv_at hl 1 rfl) ?_
    refine k_PI C M h0_ (by decide) rfl (ct_X4_isMoving l g I J a0 x1 h0_) (cw_X4_139 C.2.2.2.2 (by decide)) rfl hl.1 rfl (Nat.le_of_ble_eq_true rfl) dX4_storeOne_12 ⟨Nat.le_refl _, Nat.le_refl _⟩ (fun r4 H locs p5r M => ?_)
    have p5 : 0 ≤ r4.toInt ∧ r4.toInt ≤ 1 ∧ (r4.toInt = 1 → (I (gr g a0 4) 0).toInt ≤ x1.toInt ∧ x1.toInt ≤ 2100) := p5r
    refine n_if_eq C (tgt := 21) dX4_storeOne_15 (by decide) rfl (fun q6 => ?_) (fun q6 => ?_)
    ·
      refine lv_aload_n C.1 C.2.1 dX4_storeOne_21 rfl (lv_at hl 0 rfl) ?_
      refine lv_iload_n C.1 C.2.1 dX4_storeOne_22 rfl (lv_at hl 1 rfl) ?_
      refine k_PR C M h0_ (by decide) rfl (ct_X4_layoutAt l g I J a0 x1 h0_) (cw_X4_149 C.2.2.2.2 (by decide)) rfl hl.1 rfl (Nat.le_of_ble_eq_true rfl) dX4_storeOne_23 ⟨Nat.le_refl _, Nat.le_refl _⟩ (fun b7 H locs h8 p9r M => ?_)
      have p9 : True := p9r
      refine lv_astore_n (lv' := [(3, .ref b7), (0, .ref a0), (1, .int x1), (2, .int x2)]) C.1 C.2.1 dX4_storeOne_26 rfl hl (by decide) rfl (fun ls hl => ?_)
      refine lv_aload_n C.1 C.2.1 dX4_storeOne_27 rfl (lv_at hl 1 rfl) ?_
      refine gi_X4_12 C M h0_ dX4_storeOne_28 (fun h10 => ?_)
      refine lv_aload_n C.1 C.2.1 dX4_storeOne_31 rfl (lv_at hl 0 rfl) ?_
      refine lv_iload_n C.1 C.2.1 dX4_storeOne_32 rfl (lv_at hl 2 rfl) ?_
      refine k_PI C M h10 (by decide) rfl (ct_X3_canStore l g I J (gr g a0 0) b7 x1 h10 h8) (cw_X4_174 C.2.2.2.2 (by decide)) rfl hl.1 rfl (Nat.le_of_ble_eq_true rfl) dX4_storeOne_33 ⟨Nat.le_refl _, Nat.le_refl _⟩ (fun r11 H locs p12r M => ?_)
      have p12 : 0 ≤ r11.toInt ∧ r11.toInt ≤ 1 := p12r
      refine n_if_ne C (tgt := 41) dX4_storeOne_36 (by decide) rfl (fun q13 => ?_) (fun q13 => ?_)
      ·
        refine lv_aload_n C.1 C.2.1 dX4_storeOne_41 rfl (lv_at hl 1 rfl) ?_
        refine gi_X4_12 C M h0_ dX4_storeOne_42 (fun h14 => ?_)
        refine lv_aload_n C.1 C.2.1 dX4_storeOne_45 rfl (lv_at hl 0 rfl) ?_
        refine lv_iload_n C.1 C.2.1 dX4_storeOne_46 rfl (lv_at hl 2 rfl) ?_
        refine lv_iload_n C.1 C.2.1 dX4_storeOne_47 rfl (lv_at hl 3 rfl) ?_
        refine k_PV C M h10 (by decide) rfl (ct_X3_store l g I J (gr g a0 0) b7 x1 x2 h10 h8) (cw_X4_178 C.2.2.2.2 (by decide)) rfl hl.1 rfl (Nat.le_of_ble_eq_true rfl) dX4_storeOne_48 ⟨Nat.le_refl _, Nat.le_refl _⟩ (fun I15 J16 H locs G17 p18r M => ?_)
        obtain ⟨eJ16, p18⟩ : J16 = J ∧ (True) := p18r
        have eJ16 := eJ16.symm
        subst eJ16
        have F := fr_call F G17 (by decide)
        refine lv_iconst (v := 1) C.1 C.2.1 dX4_storeOne_51 (by decide) ?_
        exact r_PM C M (z := 1) hr hlk F rfl ⟨rfl, trivial⟩ dX4_storeOne_52
      ·
        refine lv_iconst (v := 0) C.1 C.2.1 dX4_storeOne_39 (by decide) ?_
        exact r_PM C M (z := 0) hr hlk F rfl ⟨rfl, trivial⟩ dX4_storeOne_40
    ·
      refine lv_bipush (v := -3) C.1 C.2.1 dX4_storeOne_18 (by decide) ?_
      exact r_PM C M (z := (-3)) hr hlk F rfl ⟨rfl, trivial⟩ dX4_storeOne_20
  ·
    refine lv_iconst (v := -1) C.1 C.2.1 dX4_storeOne_8 (by decide) ?_
    exact r_PM C M (z := (-1)) hr hlk F rfl ⟨rfl, trivial⟩ dX4_storeOne_9

abbrev md_X4_storeRun : List (Nat × Nat) := [(16, 0), (17, 0), (18, 0)]
set_option maxHeartbeats 4000000 in
set_option maxRecDepth 100000 in
theorem ct_X4_storeRun (l : Launch) (g : Gs) (I : Ms) (J : Js) (a0 : Nat) (x1 : Int32) (x2 : Int32) (x3 : Int32) (h0_ : Is g a0 2) : Ctr l yX4_storeRun cX4_storeRun 6 (Option.some Jvm.ClassFile.FieldType.int) 5 g [.ref a0, .int x1, .int x2, .int x3] I J (PM g md_X4_storeRun I (fun z I1 J1 => J1 = J ∧ (True))) := by
  refine m_start (by decide) (Nat.le_of_ble_eq_true rfl) ?_
  intro p e s m args below meth c C hr hlk M ls hl
  have hl : lv_has ls 6 [(0, .ref a0), (1, .int x1), (2, .int x2), (3, .int x3)] := hl
  have C : CallFix p m c cX4_storeRun 6 s args TB RX4 := C
  have F : Fr g md_X4_storeRun I I := fr_rf
  refine lv_iload_n C.1 C.2.1 dX4_storeRun_0 rfl (lv_at hl 2 rfl) ?_
  refine lv_iconst (v := 1) C.1 C.2.1 dX4_storeRun_1 (by decide) ?_
  refine n_icmp_lt C (tgt := 26) (Y := 1) dX4_storeRun_2 (by decide) rfl rfl (fun q1 => ?_) (fun q1 => ?_)
  ·
    refine lv_iconst (v := -1) C.1 C.2.1 dX4_storeRun_26 (by decide) ?_
    exact r_PM C M (z := (-1)) hr hlk F rfl ⟨rfl, trivial⟩ dX4_storeRun_27
  ·
    refine lv_iload_n C.1 C.2.1 dX4_storeRun_5 rfl (lv_at hl 2 rfl) ?_
    refine lv_sipush (v := 200) C.1 C.2.1 dX4_storeRun_6 (by decide) ?_
    refine n_icmp_gt C (tgt := 26) (Y := 200) dX4_storeRun_9 (by decide) rfl rfl (fun q2 => ?_) (fun q2 => ?_)
    ·
      refine lv_iconst (v := -1) C.1 C.2.1 dX4_storeRun_26 (by decide) ?_
      exact r_PM C M (z := (-1)) hr hlk F rfl ⟨rfl, trivial⟩ dX4_storeRun_27
    ·
      refine lv_iload_n C.1 C.2.1 dX4_storeRun_12 rfl (lv_at hl 1 rfl) ?_
      refine n_if_lt C (tgt := 26) dX4_storeRun_13 (by decide) rfl (fun q3 => ?_) (fun q3 => ?_)
      ·
        refine lv_iconst (v := -1) C.1 C.2.1 dX4_storeRun_26 (by decide) ?_
        exact r_PM C M (z := (-1)) hr hlk F rfl ⟨rfl, trivial⟩ dX4_storeRun_27
      ·
        refine lv_iload_n C.1 C.2.1 dX4_storeRun_16 rfl (lv_at hl 1 rfl) ?_
        refine lv_aload_n C.1 C.2.1 dX4_storeRun_17 rfl (lv_at hl 0 rfl) ?_
        refine k_PI C M h0_ (by decide) rfl (ct_X4_blocks l g I J a0 h0_) (cw_X4_125 C.2.2.2.2 (by decide)) rfl hl.1 rfl (Nat.le_of_ble_eq_true rfl) dX4_storeRun_18 ⟨Nat.le_refl _, Nat.le_refl _⟩ (fun r4 H locs p5r M => ?_)
        have p5 : r4.toInt = (I (gr g a0 0) 4).toInt * (I (J.1 a0 6) 1).toInt ∧ 0 ≤ r4.toInt ∧ r4.toInt ≤ 280 := p5r
        refine lv_iload_n C.1 C.2.1 dX4_storeRun_21 rfl (lv_at hl 2 rfl) ?_
        refine n_isub C dX4_storeRun_22 rfl rfl (by omega) (by omega) (fun v6 ev6 => ?_)
        refine n_icmp_le C (tgt := 28) dX4_storeRun_23 (by decide) rfl rfl (fun q7 => ?_) (fun q7 => ?_)
        ·
          refine lv_iconst (v := 0) C.1 C.2.1 dX4_storeRun_28 (by decide) ?_
          refine lv_istore (lv' := [(4, .int 0), (0, .ref a0), (1, .int x1), (2, .int x2), (3, .int x3)]) C.1 C.2.1 dX4_storeRun_29 hl (by decide) rfl (fun ls hl => ?_)
          refine lv_iconst (v := 0) C.1 C.2.1 dX4_storeRun_31 (by decide) ?_
          refine lv_istore (lv' := [(5, .int 0), (4, .int 0), (0, .ref a0), (1, .int x1), (2, .int x2), (3, .int x3)]) C.1 C.2.1 dX4_storeRun_32 hl (by decide) rfl (fun ls hl => ?_)
          have L34 : ∀ (n34 : Nat) (y8 : Int32) (y9 : Int32) (I10 : Ms) (H : Heap) (locs : List Loc) (ls : Array Slot), 0 ≤ y9.toInt → y9.toInt ≤ 200 → 200 - y9.toInt < (n34 : Int) → Fr g md_X4_storeRun I I10 → Mm g s I10 J H locs → lv_has ls 6 [(0, .ref a0), (1, .int x1), (2, .int x2), (3, .int x3), (4, .int y8), (5, .int y9)] → W p l e (rmL 5) s m args below meth c H locs 0 0 (MQg below g (PM g md_X4_storeRun I (fun z I1 J1 => J1 = J ∧ (True))) args s) (F0 m 34 ls []) := by
            intro n34
            induction n34 with
            | zero =>
              intro y8 y9 I10 H locs ls f11 f12 hm34 F M hl
              exact absurd hm34 (by omega)
            | succ n34 ih34 =>
              intro y8 y9 I10 H locs ls f11 f12 hm34 F M hl
              refine lv_iload C.1 C.2.1 dX4_storeRun_34 (lv_at hl 5 rfl) ?_
              refine lv_iload_n C.1 C.2.1 dX4_storeRun_36 rfl (lv_at hl 2 rfl) ?_
              refine n_icmp_ge C (tgt := 65) dX4_storeRun_37 (by decide) rfl rfl (fun q13 => ?_) (fun q13 => ?_)
              ·
                refine lv_iload C.1 C.2.1 dX4_storeRun_65 (lv_at hl 4 rfl) ?_
                exact r_PM C M hr hlk F rfl ⟨rfl, trivial⟩ dX4_storeRun_67
              ·
                refine lv_aload_n C.1 C.2.1 dX4_storeRun_40 rfl (lv_at hl 0 rfl) ?_
                refine lv_iload_n C.1 C.2.1 dX4_storeRun_41 rfl (lv_at hl 1 rfl) ?_
                refine lv_iload C.1 C.2.1 dX4_storeRun_42 (lv_at hl 5 rfl) ?_
                refine n_iadd C dX4_storeRun_44 rfl rfl (by omega) (by omega) (fun v14 ev14 => ?_)
                refine lv_iload_n C.1 C.2.1 dX4_storeRun_45 rfl (lv_at hl 3 rfl) ?_
                refine lv_iload C.1 C.2.1 dX4_storeRun_46 (lv_at hl 5 rfl) ?_
                refine n_iaddU C dX4_storeRun_48 (fun v15 => ?_)
                refine k_PM C M h0_ (by decide) rfl (ct_X4_storeOne l g I10 J a0 v14 v15 h0_) (cw_X4_182 C.2.2.2.2 (by decide)) rfl hl.1 rfl (Nat.le_of_ble_eq_true rfl) dX4_storeRun_49 ⟨Nat.le_refl _, Nat.le_refl _⟩ (fun r20 I16 J17 H locs G18 p19r M => ?_)
                obtain ⟨eJ17, p19⟩ : J17 = J ∧ (True) := p19r
                have eJ17 := eJ17.symm
                subst eJ17
                have F := fr_call F G18 (by decide)
                refine lv_iconst (v := 1) C.1 C.2.1 dX4_storeRun_52 (by decide) ?_
                refine n_icmp_ne C (tgt := 59) (Y := 1) dX4_storeRun_53 (by decide) rfl rfl (fun q21 => ?_) (fun q21 => ?_)
                ·
                  refine n_iinc C (k := 5) (N := 1) (lv' := fun v => [(5, .int v), (0, .ref a0), (1, .int x1), (2, .int x2), (3, .int x3), (4, .int y8)]) dX4_storeRun_59 hl rfl (by decide) rfl rfl (by omega) (by omega) (fun _ => rfl) (fun v22 ls ev22 hl => ?_)
                  refine lv_goto (tgt := 34) C.1 C.2.1 dX4_storeRun_62 (by decide) ?_
                  exact ih34 y8 v22 I16 _ _ _ (by omega) (by omega) (by omega) F M (lv_sub hl [1, 2, 3, 4, 5, 0] rfl)
                ·
                  refine n_iincU C (k := 4) (lv' := fun v => [(4, .int v), (0, .ref a0), (1, .int x1), (2, .int x2), (3, .int x3), (5, .int y9)]) dX4_storeRun_56 hl rfl (by decide) (fun _ => rfl) (fun v23 ls hl => ?_)
                  refine n_iinc C (k := 5) (N := 1) (lv' := fun v => [(5, .int v), (4, .int v23), (0, .ref a0), (1, .int x1), (2, .int x2), (3, .int x3)]) dX4_storeRun_59 hl rfl (by decide) rfl rfl (by omega) (by omega) (fun _ => rfl) (fun v24 ls ev24 hl => ?_)
                  refine lv_goto (tgt := 34) C.1 C.2.1 dX4_storeRun_62 (by decide) ?_
                  exact ih34 v23 v24 I16 _ _ _ (by omega) (by omega) (by omega) F M (lv_sub hl [2, 3, 4, 5, 1, 0] rfl)
          have cz25 : (0 : Int32).toInt = 0 := rfl
          have cz26 : (0 : Int32).toInt = 0 := rfl
          exact L34 _ 0 0 I _ _ _ (by omega) (by omega) (n_big _) F M (lv_sub hl [2, 3, 4, 5, 1, 0] rfl)
        ·
          refine lv_iconst (v := -1) C.1 C.2.1 dX4_storeRun_26 (by decide) ?_
          exact r_PM C M (z := (-1)) hr hlk F rfl ⟨rfl, trivial⟩ dX4_storeRun_27

abbrev md_X4_changeSize : List (Nat × Nat) := [(0, 1), (0, 2), (0, 3), (0, 4), (0, 5), (0, 6), (0, 7), (2, 11)]
set_option maxHeartbeats 4000000 in
set_option maxRecDepth 100000 in
theorem ct_X4_changeSize (l : Launch) (g : Gs) (I : Ms) (J : Js) (a0 : Nat) (x1 : Int32) (h0_ : Is g a0 2) (hR : RHs g I J) : Ctr l yX4_changeSize cX4_changeSize 3 (Option.some Jvm.ClassFile.FieldType.int) 3 g [.ref a0, .int x1] I J (PM g md_X4_changeSize I (fun z I1 J1 => J1 = J ∧ (True))) := by
  refine m_start (by decide) (Nat.le_of_ble_eq_true rfl) ?_
  intro p e s m args below meth c C hr hlk M ls hl
  have hl : lv_has ls 3 [(0, .ref a0), (1, .int x1)] := hl
  have C : CallFix p m c cX4_changeSize 3 s args TB RX4 := C
  have F : Fr g md_X4_changeSize I I := fr_rf
  refine lv_iload_n C.1 C.2.1 dX4_changeSize_0 rfl (lv_at hl 1 rfl) ?_
  refine lv_iconst (v := 1) C.1 C.2.1 dX4_changeSize_1 (by decide) ?_
  refine n_icmp_lt C (tgt := 17) (Y := 1) dX4_changeSize_2 (by decide) rfl rfl (fun q1 => ?_) (fun q1 => ?_)
  ·
    refine lv_iconst (v := -1) C.1 C.2.1 dX4_changeSize_17 (by decide) ?_
    exact r_PM C M (z := (-1)) hr hlk F rfl ⟨rfl, trivial⟩ dX4_changeSize_18
  ·
    refine lv_iload_n C.1 C.2.1 dX4_changeSize_5 rfl (lv_at hl 1 rfl) ?_
    refine lv_iconst (v := 4) C.1 C.2.1 dX4_changeSize_6 (by decide) ?_
    refine n_icmp_gt C (tgt := 17) (Y := 4) dX4_changeSize_7 (by decide) rfl rfl (fun q2 => ?_) (fun q2 => ?_)
    ·
      refine lv_iconst (v := -1) C.1 C.2.1 dX4_changeSize_17 (by decide) ?_
      exact r_PM C M (z := (-1)) hr hlk F rfl ⟨rfl, trivial⟩ dX4_changeSize_18
    ·
      refine lv_aload_n C.1 C.2.1 dX4_changeSize_10 rfl (lv_at hl 0 rfl) ?_
      refine k_PI C M h0_ (by decide) rfl (ct_X4_anyMoving l g I J a0 h0_) (cw_X4_129 C.2.2.2.2 (by decide)) rfl hl.1 rfl (Nat.le_of_ble_eq_true rfl) dX4_changeSize_11 ⟨Nat.le_refl _, Nat.le_refl _⟩ (fun r3 H locs p4r M => ?_)
      have p4 : 0 ≤ r3.toInt ∧ r3.toInt ≤ 1 := p4r
      refine n_if_eq C (tgt := 19) dX4_changeSize_14 (by decide) rfl (fun q5 => ?_) (fun q5 => ?_)
      ·
        refine lv_aload_n C.1 C.2.1 dX4_changeSize_19 rfl (lv_at hl 0 rfl) ?_
        refine gi_X4_80 C M h0_ dX4_changeSize_20 (fun v6 kv6 tv6 uv6 => ?_)
        refine lv_istore_n (lv' := [(2, .int v6), (0, .ref a0), (1, .int x1)]) C.1 C.2.1 dX4_changeSize_23 rfl hl (by decide) rfl (fun ls hl => ?_)
        refine lv_aload_n C.1 C.2.1 dX4_changeSize_24 rfl (lv_at hl 1 rfl) ?_
        refine lv_iload_n C.1 C.2.1 dX4_changeSize_25 rfl (lv_at hl 2 rfl) ?_
        refine pi_X4_80 C M h0_ dX4_changeSize_26 rfl (by omega) (by omega) (fun H locs I7 k9 f8 M => ?_)
        have F := fr_put F h0_ (Or.inr (by decide)) f8
        refine lv_aload_n C.1 C.2.1 dX4_changeSize_29 rfl (lv_at hl 1 rfl) ?_
        refine k_PV C M h0_ (by decide) rfl (ct_X4_planBatch l g I7 J a0 h0_ (rh_put M.2.2.2.2.2.1 M.2.2.2.2.2.2.2 h0_ f8 ⟨Or.inr (by decide), Or.inl (by decide), by decide⟩ hR)) (cw_X4_112 C.2.2.2.2 (by decide)) rfl hl.1 rfl (Nat.le_of_ble_eq_true rfl) dX4_changeSize_30 ⟨Nat.le_refl _, Nat.le_refl _⟩ (fun I10 J11 H locs G12 p13r M => ?_)
        obtain ⟨eJ11, p13⟩ : J11 = J ∧ (True) := p13r
        have eJ11 := eJ11.symm
        subst eJ11
        have F := fr_call F G12 (by decide)
        refine lv_iload_n C.1 C.2.1 dX4_changeSize_33 rfl (lv_at hl 0 rfl) ?_
        exact r_PM C M hr hlk F rfl ⟨rfl, trivial⟩ dX4_changeSize_34
      ·
        refine lv_iconst (v := -1) C.1 C.2.1 dX4_changeSize_17 (by decide) ?_
        exact r_PM C M (z := (-1)) hr hlk F rfl ⟨rfl, trivial⟩ dX4_changeSize_18

abbrev md_X4_changeLeast : List (Nat × Nat) := [(2, 14)]
set_option maxHeartbeats 4000000 in
set_option maxRecDepth 100000 in
theorem ct_X4_changeLeast (l : Launch) (g : Gs) (I : Ms) (J : Js) (a0 : Nat) (x1 : Int32) (h0_ : Is g a0 2) : Ctr l yX4_changeLeast cX4_changeLeast 3 (Option.some Jvm.ClassFile.FieldType.int) 1 g [.ref a0, .int x1] I J (PM g md_X4_changeLeast I (fun z I1 J1 => J1 = J ∧ (True))) := by
  refine m_start (by decide) (Nat.le_of_ble_eq_true rfl) ?_
  intro p e s m args below meth c C hr hlk M ls hl
  have hl : lv_has ls 3 [(0, .ref a0), (1, .int x1)] := hl
  have C : CallFix p m c cX4_changeLeast 3 s args TB RX4 := C
  have F : Fr g md_X4_changeLeast I I := fr_rf
  refine lv_iload_n C.1 C.2.1 dX4_changeLeast_0 rfl (lv_at hl 1 rfl) ?_
  refine n_if_lt C (tgt := 10) dX4_changeLeast_1 (by decide) rfl (fun q1 => ?_) (fun q1 => ?_)
  ·
    refine lv_iconst (v := -1) C.1 C.2.1 dX4_changeLeast_10 (by decide) ?_
    exact r_PM C M (z := (-1)) hr hlk F rfl ⟨rfl, trivial⟩ dX4_changeLeast_11
  ·
    refine lv_iload_n C.1 C.2.1 dX4_changeLeast_4 rfl (lv_at hl 1 rfl) ?_
    refine lv_bipush (v := 20) C.1 C.2.1 dX4_changeLeast_5 (by decide) ?_
    refine n_icmp_le C (tgt := 12) (Y := 20) dX4_changeLeast_7 (by decide) rfl rfl (fun q2 => ?_) (fun q2 => ?_)
    ·
      refine lv_aload_n C.1 C.2.1 dX4_changeLeast_12 rfl (lv_at hl 0 rfl) ?_
      refine gi_X4_87 C M h0_ dX4_changeLeast_13 (fun v3 kv3 tv3 uv3 => ?_)
      refine lv_istore_n (lv' := [(2, .int v3), (0, .ref a0), (1, .int x1)]) C.1 C.2.1 dX4_changeLeast_16 rfl hl (by decide) rfl (fun ls hl => ?_)
      refine lv_aload_n C.1 C.2.1 dX4_changeLeast_17 rfl (lv_at hl 1 rfl) ?_
      refine lv_iload_n C.1 C.2.1 dX4_changeLeast_18 rfl (lv_at hl 2 rfl) ?_
      refine pi_X4_87 C M h0_ dX4_changeLeast_19 rfl (by omega) (by omega) (fun H locs I4 k6 f5 M => ?_)
      have F := fr_put F h0_ (Or.inr (by decide)) f5
      refine lv_iload_n C.1 C.2.1 dX4_changeLeast_22 rfl (lv_at hl 0 rfl) ?_
      exact r_PM C M hr hlk F rfl ⟨rfl, trivial⟩ dX4_changeLeast_23
    ·
      refine lv_iconst (v := -1) C.1 C.2.1 dX4_changeLeast_10 (by decide) ?_
      exact r_PM C M (z := (-1)) hr hlk F rfl ⟨rfl, trivial⟩ dX4_changeLeast_11

abbrev md_X4_changeMost : List (Nat × Nat) := [(2, 15)]
set_option maxHeartbeats 4000000 in
set_option maxRecDepth 100000 in
theorem ct_X4_changeMost (l : Launch) (g : Gs) (I : Ms) (J : Js) (a0 : Nat) (x1 : Int32) (h0_ : Is g a0 2) : Ctr l yX4_changeMost cX4_changeMost 3 (Option.some Jvm.ClassFile.FieldType.int) 1 g [.ref a0, .int x1] I J (PM g md_X4_changeMost I (fun z I1 J1 => J1 = J ∧ (True))) := by
  refine m_start (by decide) (Nat.le_of_ble_eq_true rfl) ?_
  intro p e s m args below meth c C hr hlk M ls hl
  have hl : lv_has ls 3 [(0, .ref a0), (1, .int x1)] := hl
  have C : CallFix p m c cX4_changeMost 3 s args TB RX4 := C
  have F : Fr g md_X4_changeMost I I := fr_rf
  refine lv_iload_n C.1 C.2.1 dX4_changeMost_0 rfl (lv_at hl 1 rfl) ?_
  refine lv_iconst (v := 1) C.1 C.2.1 dX4_changeMost_1 (by decide) ?_
  refine n_icmp_lt C (tgt := 11) (Y := 1) dX4_changeMost_2 (by decide) rfl rfl (fun q1 => ?_) (fun q1 => ?_)
  ·
    refine lv_iconst (v := -1) C.1 C.2.1 dX4_changeMost_11 (by decide) ?_
    exact r_PM C M (z := (-1)) hr hlk F rfl ⟨rfl, trivial⟩ dX4_changeMost_12
  ·
    refine lv_iload_n C.1 C.2.1 dX4_changeMost_5 rfl (lv_at hl 1 rfl) ?_
    refine lv_bipush (v := 60) C.1 C.2.1 dX4_changeMost_6 (by decide) ?_
    refine n_icmp_le C (tgt := 13) (Y := 60) dX4_changeMost_8 (by decide) rfl rfl (fun q2 => ?_) (fun q2 => ?_)
    ·
      refine lv_aload_n C.1 C.2.1 dX4_changeMost_13 rfl (lv_at hl 0 rfl) ?_
      refine gi_X4_90 C M h0_ dX4_changeMost_14 (fun v3 kv3 tv3 uv3 => ?_)
      refine lv_istore_n (lv' := [(2, .int v3), (0, .ref a0), (1, .int x1)]) C.1 C.2.1 dX4_changeMost_17 rfl hl (by decide) rfl (fun ls hl => ?_)
      refine lv_aload_n C.1 C.2.1 dX4_changeMost_18 rfl (lv_at hl 1 rfl) ?_
      refine lv_iload_n C.1 C.2.1 dX4_changeMost_19 rfl (lv_at hl 2 rfl) ?_
      refine pi_X4_90 C M h0_ dX4_changeMost_20 rfl (by omega) (by omega) (fun H locs I4 k6 f5 M => ?_)
      have F := fr_put F h0_ (Or.inr (by decide)) f5
      refine lv_iload_n C.1 C.2.1 dX4_changeMost_23 rfl (lv_at hl 0 rfl) ?_
      exact r_PM C M hr hlk F rfl ⟨rfl, trivial⟩ dX4_changeMost_24
    ·
      refine lv_iconst (v := -1) C.1 C.2.1 dX4_changeMost_11 (by decide) ?_
      exact r_PM C M (z := (-1)) hr hlk F rfl ⟨rfl, trivial⟩ dX4_changeMost_12
