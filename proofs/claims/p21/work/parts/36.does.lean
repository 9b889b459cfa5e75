set_option maxHeartbeats 4000000 in
set_option maxRecDepth 100000 in
theorem ct_X11_byteAt (l : Launch) (g : Gs) (I : Ms) (J : Js) (a0 : Nat) (x1 : Int32) (h0_ : Is g a0 9) (g0 : 0 ≤ x1.toInt) : Ctr l yX11_byteAt cX11_byteAt 2 (Option.some Jvm.ClassFile.FieldType.int) 1 g [.ref a0, .int x1] I J (PI I J (fun z => ((I a0 14).toInt ≤ x1.toInt → z = -1) ∧ (x1.toInt < (I a0 14).toInt → 0 ≤ z ∧ z ≤ 255))) := by
  refine m_start (by decide) (Nat.le_of_ble_eq_true rfl) ?_
  intro p e s m args below meth c C hr hlk M ls hl
  have hl : lv_has ls 2 [(0, .ref a0), (1, .int x1)] := hl
  have C : CallFix p m c cX11_byteAt 2 s args TB RX11 := C
  obtain ⟨i1, ki1⟩ : ∃ z : Int32, I a0 14 = z := ⟨_, rfl⟩
  have ti1 : 0 ≤ i1.toInt ∧ i1.toInt ≤ 264 := m_rng M h0_ 14 ki1 rfl
  have ci1 : (I a0 14).toInt = i1.toInt := congrArg Int32.toInt ki1
  refine lv_iload_n C.1 C.2.1 dX11_byteAt_0 rfl (lv_at hl 1 rfl) ?_
  refine lv_aload_n C.1 C.2.1 dX11_byteAt_1 rfl (lv_at hl 0 rfl) ?_
  refine gk_X11_195 C M h0_ ki1 dX11_byteAt_2 ?_
  refine n_icmp_ge C (tgt := 17) dX11_byteAt_5 (by decide) rfl rfl (fun q2 => ?_) (fun q2 => ?_)
  ·
    refine lv_iconst (v := -1) C.1 C.2.1 dX11_byteAt_17 (by decide) ?_
    exact r_PI C M (z := (-1)) hr hlk rfl (by rw [ci1]; omega) dX11_byteAt_18
  ·
    refine lv_aload_n C.1 C.2.1 dX11_byteAt_8 rfl (lv_at hl 0 rfl) ?_
    refine gi_X11_26 C M h0_ dX11_byteAt_9 (fun h3 => ?_)
    refine lv_iload_n C.1 C.2.1 dX11_byteAt_12 rfl (lv_at hl 1 rfl) ?_
    refine a_ld C M h3 (n := 264) rfl rfl rfl (by omega) (by omega) rfl dX11_byteAt_13 (fun v4 kv4 => ?_)
    have tv4 := m_rng M h3 x1.toInt.toNat kv4 rfl
    have tv4 : 0 ≤ v4.toInt ∧ v4.toInt ≤ 255 := tv4
    refine lv_goto (tgt := 18) C.1 C.2.1 dX11_byteAt_14 (by decide) ?_
    exact r_PI C M hr hlk rfl (by rw [ci1]; omega) dX11_byteAt_18

set_option maxHeartbeats 4000000 in
set_option maxRecDepth 100000 in
theorem ct_X11_isSmall (l : Launch) (g : Gs) (I : Ms) (J : Js) (x0 : Int32) : Ctr l yX11_isSmall cX11_isSmall 1 (Option.some Jvm.ClassFile.FieldType.boolean) 1 g [.int x0] I J (PI I J (fun z => 0 ≤ z ∧ z ≤ 1 ∧ (z = 1 ↔ 97 ≤ x0.toInt ∧ x0.toInt ≤ 122))) := by
  refine m_start (by decide) (Nat.le_of_ble_eq_true rfl) ?_
  intro p e s m args below meth c C hr hlk M ls hl
  have hl : lv_has ls 1 [(0, .int x0)] := hl
  have C : CallFix p m c cX11_isSmall 1 s args TB RX11 := C
  refine lv_iload_n C.1 C.2.1 dX11_isSmall_0 rfl (lv_at hl 0 rfl) ?_
  refine lv_bipush (v := 97) C.1 C.2.1 dX11_isSmall_1 (by decide) ?_
  refine n_icmp_lt C (tgt := 16) (Y := 97) dX11_isSmall_3 (by decide) rfl rfl (fun q1 => ?_) (fun q1 => ?_)
  ·
    refine lv_iconst (v := 0) C.1 C.2.1 dX11_isSmall_16 (by decide) ?_
    exact r_PIz C M (z := 0) hr hlk rfl (by omega) (by omega) (by omega) dX11_isSmall_17
  ·
    refine lv_iload_n C.1 C.2.1 dX11_isSmall_6 rfl (lv_at hl 0 rfl) ?_
    refine lv_bipush (v := 122) C.1 C.2.1 dX11_isSmall_7 (by decide) ?_
    refine n_icmp_gt C (tgt := 16) (Y := 122) dX11_isSmall_9 (by decide) rfl rfl (fun q2 => ?_) (fun q2 => ?_)
    ·
      refine lv_iconst (v := 0) C.1 C.2.1 dX11_isSmall_16 (by decide) ?_
      exact r_PIz C M (z := 0) hr hlk rfl (by omega) (by omega) (by omega) dX11_isSmall_17
    ·
      refine lv_iconst (v := 1) C.1 C.2.1 dX11_isSmall_12 (by decide) ?_
      refine lv_goto (tgt := 17) C.1 C.2.1 dX11_isSmall_13 (by decide) ?_
      exact r_PIz C M (z := 1) hr hlk rfl (by omega) (by omega) (by omega) dX11_isSmall_17

set_option maxHeartbeats 4000000 in
set_option maxRecDepth 100000 in
theorem ct_X11_isDigit (l : Launch) (g : Gs) (I : Ms) (J : Js) (x0 : Int32) : Ctr l yX11_isDigit cX11_isDigit 1 (Option.some Jvm.ClassFile.FieldType.boolean) 1 g [.int x0] I J (PI I J (fun z => 0 ≤ z ∧ z ≤ 1 ∧ (z = 1 ↔ 48 ≤ x0.toInt ∧ x0.toInt ≤ 57))) := by
  refine m_start (by decide) (Nat.le_of_ble_eq_true rfl) ?_
  intro p e s m args below meth c C hr hlk M ls hl
  have hl : lv_has ls 1 [(0, .int x0)] := hl
  have C : CallFix p m c cX11_isDigit 1 s args TB RX11 := C
  refine lv_iload_n C.1 C.2.1 dX11_isDigit_0 rfl (lv_at hl 0 rfl) ?_
  refine lv_bipush (v := 48) C.1 C.2.1 dX11_isDigit_1 (by decide) ?_
  refine n_icmp_lt C (tgt := 16) (Y := 48) dX11_isDigit_3 (by decide) rfl rfl (fun q1 => ?_) (fun q1 => ?_)
  ·
    refine lv_iconst (v := 0) C.1 C.2.1 dX11_isDigit_16 (by decide) ?_
    exact r_PIz C M (z := 0) hr hlk rfl (by omega) (by omega) (by omega) dX11_isDigit_17
  ·
    refine lv_iload_n C.1 C.2.1 dX11_isDigit_6 rfl (lv_at hl 0 rfl) ?_
    refine lv_bipush (v := 57) C.1 C.2.1 dX11_isDigit_7 (by decide) ?_
    refine n_icmp_gt C (tgt := 16) (Y := 57) dX11_isDigit_9 (by decide) rfl rfl (fun q2 => ?_) (fun q2 => ?_)
    ·
      refine lv_iconst (v := 0) C.1 C.2.1 dX11_isDigit_16 (by decide) ?_
      exact r_PIz C M (z := 0) hr hlk rfl (by omega) (by omega) (by omega) dX11_isDigit_17
    ·
      refine lv_iconst (v := 1) C.1 C.2.1 dX11_isDigit_12 (by decide) ?_
      refine lv_goto (tgt := 17) C.1 C.2.1 dX11_isDigit_13 (by decide) ?_
      exact r_PIz C M (z := 1) hr hlk rfl (by omega) (by omega) (by omega) dX11_isDigit_17

abbrev md_X11_wrong : List (Nat × Nat) := [(9, 21)]
set_option maxHeartbeats 4000000 in
set_option maxRecDepth 100000 in
theorem ct_X11_wrong (l : Launch) (g : Gs) (I : Ms) (J : Js) (a0 : Nat) (x1 : Int32) (h0_ : Is g a0 9) (g0 : 1 ≤ x1.toInt) (g1 : x1.toInt ≤ 3) : Ctr l yX11_wrong cX11_wrong 2 (Option.none : Option Jvm.ClassFile.FieldType) 1 g [.ref a0, .int x1] I J (PV g md_X11_wrong I (fun I1 J1 => J1 = J ∧ ((I1 a0 20).toInt ≠ 0 ∧ ((I a0 20).toInt ≠ 0 → (I1 a0 20).toInt = (I a0 20).toInt) ∧ ((I a0 20).toInt = 0 → 0 < (I1 a0 20).toInt)))) := by
  refine m_start (by decide) (Nat.le_of_ble_eq_true rfl) ?_
  intro p e s m args below meth c C hr hlk M ls hl
  have hl : lv_has ls 2 [(0, .ref a0), (1, .int x1)] := hl
  have C : CallFix p m c cX11_wrong 2 s args TB RX11 := C
  have F : Fr g md_X11_wrong I I := fr_rf
  obtain ⟨i1, ki1⟩ : ∃ z : Int32, I a0 20 = z := ⟨_, rfl⟩
  have ci1 : (I a0 20).toInt = i1.toInt := congrArg Int32.toInt ki1
  refine lv_aload_n C.1 C.2.1 dX11_wrong_0 rfl (lv_at hl 0 rfl) ?_
  refine gk_X11_198 C M h0_ ki1 dX11_wrong_1 ?_
  refine n_if_ne C (tgt := 20) dX11_wrong_4 (by decide) rfl (fun q2 => ?_) (fun q2 => ?_)
  ·
    exact r_PV C M hr hlk F ⟨rfl, (by rw [ci1]; omega)⟩ dX11_wrong_20
  ·
    refine lv_aload_n C.1 C.2.1 dX11_wrong_7 rfl (lv_at hl 0 rfl) ?_
    refine lv_bipush (v := 8) C.1 C.2.1 dX11_wrong_8 (by decide) ?_
    refine lv_aload_n C.1 C.2.1 dX11_wrong_10 rfl (lv_at hl 0 rfl) ?_
    refine gi_X11_207 C M h0_ dX11_wrong_11 (fun v3 kv3 tv3 uv3 => ?_)
    refine n_imul C (X := 8) dX11_wrong_14 rfl rfl (by omega) (by omega) (fun v4 ev4 => ?_)
    refine lv_iload_n C.1 C.2.1 dX11_wrong_15 rfl (lv_at hl 1 rfl) ?_
    refine n_iadd C dX11_wrong_16 rfl rfl (by omega) (by omega) (fun v5 ev5 => ?_)
    refine pi_X11_198 C M h0_ dX11_wrong_17 (fun H locs I6 k8 f7 M => ?_)
    have F := fr_put F h0_ (Or.inr (by decide)) f7
    have rk9 : (I6 a0 20).toInt = v5.toInt := congrArg Int32.toInt k8
    exact r_PV C M hr hlk F ⟨rfl, (by rw [ci1, rk9]; omega)⟩ dX11_wrong_20

set_option maxHeartbeats 4000000 in
set_option maxRecDepth 100000 in
theorem ct_X11_manyOf (l : Launch) (g : Gs) (I : Ms) (J : Js) (x0 : Int32) : Ctr l yX11_manyOf cX11_manyOf 1 (Option.some Jvm.ClassFile.FieldType.int) 1 g [.int x0] I J (PI I J (fun z => 0 ≤ z ∧ z ≤ 3)) := by
  refine m_start (by decide) (Nat.le_of_ble_eq_true rfl) ?_
  intro p e s m args below meth c C hr hlk M ls hl
  have hl : lv_has ls 1 [(0, .int x0)] := hl
  have C : CallFix p m c cX11_manyOf 1 s args TB RX11 := C
  refine lv_iload_n C.1 C.2.1 dX11_manyOf_0 rfl (lv_at hl 0 rfl) ?_
  refine lv_iconst (v := 4) C.1 C.2.1 dX11_manyOf_1 (by decide) ?_
  refine n_icmp_ge C (tgt := 9) (Y := 4) dX11_manyOf_2 (by decide) rfl rfl (fun q1 => ?_) (fun q1 => ?_)
  ·
    refine lv_iload_n C.1 C.2.1 dX11_manyOf_9 rfl (lv_at hl 0 rfl) ?_
    refine lv_bipush (v := 8) C.1 C.2.1 dX11_manyOf_10 (by decide) ?_
    refine n_icmp_ne C (tgt := 19) (Y := 8) dX11_manyOf_12 (by decide) rfl rfl (fun q2 => ?_) (fun q2 => ?_)
    ·
      refine lv_iload_n C.1 C.2.1 dX11_manyOf_19 rfl (lv_at hl 0 rfl) ?_
      refine lv_bipush (v := 7) C.1 C.2.1 dX11_manyOf_20 (by decide) ?_
      refine n_icmp_eq C (tgt := 31) (Y := 7) dX11_manyOf_22 (by decide) rfl rfl (fun q3 => ?_) (fun q3 => ?_)
      ·
        refine lv_iconst (v := 2) C.1 C.2.1 dX11_manyOf_31 (by decide) ?_
        refine lv_goto (tgt := 36) C.1 C.2.1 dX11_manyOf_32 (by decide) ?_
        exact r_PI C M (z := 2) hr hlk rfl (by omega) dX11_manyOf_36
      ·
        refine lv_iload_n C.1 C.2.1 dX11_manyOf_25 rfl (lv_at hl 0 rfl) ?_
        refine lv_bipush (v := 9) C.1 C.2.1 dX11_manyOf_26 (by decide) ?_
        refine n_icmp_ne C (tgt := 35) (Y := 9) dX11_manyOf_28 (by decide) rfl rfl (fun q4 => ?_) (fun q4 => ?_)
        ·
          refine lv_iconst (v := 1) C.1 C.2.1 dX11_manyOf_35 (by decide) ?_
          exact r_PI C M (z := 1) hr hlk rfl (by omega) dX11_manyOf_36
        ·
          refine lv_iconst (v := 2) C.1 C.2.1 dX11_manyOf_31 (by decide) ?_
          refine lv_goto (tgt := 36) C.1 C.2.1 dX11_manyOf_32 (by decide) ?_
          exact r_PI C M (z := 2) hr hlk rfl (by omega) dX11_manyOf_36
    ·
      refine lv_iconst (v := 3) C.1 C.2.1 dX11_manyOf_15 (by decide) ?_
      refine lv_goto (tgt := 36) C.1 C.2.1 dX11_manyOf_16 (by decide) ?_
      exact r_PI C M (z := 3) hr hlk rfl (by omega) dX11_manyOf_36
  ·
    refine lv_iconst (v := 0) C.1 C.2.1 dX11_manyOf_5 (by decide) ?_
    refine lv_goto (tgt := 36) C.1 C.2.1 dX11_manyOf_6 (by decide) ?_
    exact r_PI C M (z := 0) hr hlk rfl (by omega) dX11_manyOf_36

abbrev md_X11_does : List (Nat × Nat) := [(9, 6), (9, 10), (9, 11), (9, 12), (28, 0), (30, 0), (31, 0), (32, 0)]
set_option maxHeartbeats 4000000 in
set_option maxRecDepth 100000 in
theorem ct_X11_does (l : Launch) (g : Gs) (I : Ms) (J : Js) (a0 : Nat) (x1 : Int32) (x2 : Int32) (x3 : Int32) (x4 : Int32) (h0_ : Is g a0 9) (g0 : jm (I (gr g a0 0) 717).toInt (I (gr g a0 0) 715).toInt (I (gr g a0 0) 716).toInt (I (gr g a0 0) 722).toInt (I (gr g a0 0) 718).toInt (I (gr g a0 0) 719).toInt) (g1 : IM g I a0) : Ctr l yX11_does cX11_does 5 (Option.some Jvm.ClassFile.FieldType.boolean) 11 g [.ref a0, .int x1, .int x2, .int x3, .int x4] I J (PM g md_X11_does I (fun z I1 J1 => J1 = J ∧ (0 ≤ z ∧ z ≤ 1 ∧ jm (I1 (gr g a0 0) 717).toInt (I1 (gr g a0 0) 715).toInt (I1 (gr g a0 0) 716).toInt (I1 (gr g a0 0) 722).toInt (I1 (gr g a0 0) 718).toInt (I1 (gr g a0 0) 719).toInt ∧ IM g I1 a0))) := by
  refine m_start (by decide) (Nat.le_of_ble_eq_true rfl) ?_
  intro p e s m args below meth c C hr hlk M ls hl
  have hl : lv_has ls 5 [(0, .ref a0), (1, .int x1), (2, .int x2), (3, .int x3), (4, .int x4)] := hl
  have C : CallFix p m c cX11_does 5 s args TB RX11 := C
  have F : Fr g md_X11_does I I := fr_rf
  have h1 := is_ref M h0_ 0 28 rfl rfl
  obtain ⟨i2, ki2⟩ : ∃ z : Int32, I (gr g a0 0) 717 = z := ⟨_, rfl⟩
  have ti2 : 0 ≤ i2.toInt ∧ i2.toInt ≤ 1 := m_rng M h1 717 ki2 rfl
  have ci2 : (I (gr g a0 0) 717).toInt = i2.toInt := congrArg Int32.toInt ki2
  obtain ⟨i3, ki3⟩ : ∃ z : Int32, I (gr g a0 0) 715 = z := ⟨_, rfl⟩
  have ti3 : 3 ≤ i3.toInt ∧ i3.toInt ≤ 7 := m_rng M h1 715 ki3 rfl
  have ci3 : (I (gr g a0 0) 715).toInt = i3.toInt := congrArg Int32.toInt ki3
  obtain ⟨i4, ki4⟩ : ∃ z : Int32, I (gr g a0 0) 716 = z := ⟨_, rfl⟩
  have ti4 : 4 ≤ i4.toInt ∧ i4.toInt ≤ 40 := m_rng M h1 716 ki4 rfl
  have ci4 : (I (gr g a0 0) 716).toInt = i4.toInt := congrArg Int32.toInt ki4
  obtain ⟨i5, ki5⟩ : ∃ z : Int32, I (gr g a0 0) 722 = z := ⟨_, rfl⟩
  have ti5 : 1 ≤ i5.toInt ∧ i5.toInt ≤ 4 := m_rng M h1 722 ki5 rfl
  have ci5 : (I (gr g a0 0) 722).toInt = i5.toInt := congrArg Int32.toInt ki5
  obtain ⟨i6, ki6⟩ : ∃ z : Int32, I (gr g a0 0) 718 = z := ⟨_, rfl⟩
  have ti6 : 0 ≤ i6.toInt ∧ i6.toInt ≤ 200 := m_rng M h1 718 ki6 rfl
  have ci6 : (I (gr g a0 0) 718).toInt = i6.toInt := congrArg Int32.toInt ki6
  obtain ⟨i7, ki7⟩ : ∃ z : Int32, I (gr g a0 0) 719 = z := ⟨_, rfl⟩
  have ti7 : 0 ≤ i7.toInt ∧ i7.toInt ≤ 200 := m_rng M h1 719 ki7 rfl
  have ci7 : (I (gr g a0 0) 719).toInt = i7.toInt := congrArg Int32.toInt ki7
  simp only [ci2, ci3, ci4, ci5, ci6, ci7] at g0
  have hj6 : i2.toInt = 1 → i3.toInt ≤ 6 := fun q => (g0 q).1
  refine lv_iload_n C.1 C.2.1 dX11_does_0 rfl (lv_at hl 1 rfl) ?_
  by_cases q8 : x1.toInt = 0
  ·
    refine n_tabk (off := 59) (tgt := 60) C 0 dX11_does_1 q8 (by decide) (by decide) (by decide) (by decide) ?_
    refine lv_aload_n C.1 C.2.1 dX11_does_60 rfl (lv_at hl 0 rfl) ?_
    have em9 : (I (gr g a0 0) 717).toInt = i2.toInt := congrArg Int32.toInt ki2
    have em10 : (I (gr g a0 0) 715).toInt = i3.toInt := congrArg Int32.toInt ki3
    have em11 : (I (gr g a0 0) 716).toInt = i4.toInt := congrArg Int32.toInt ki4
    have em12 : (I (gr g a0 0) 722).toInt = i5.toInt := congrArg Int32.toInt ki5
    have em13 : (I (gr g a0 0) 718).toInt = i6.toInt := congrArg Int32.toInt ki6
    have em14 : (I (gr g a0 0) 719).toInt = i7.toInt := congrArg Int32.toInt ki7
    refine k_PM C M h0_ (by decide) rfl (ct_X11_grow l g I J a0 h0_ (by simp only [em9, em10, em11, em12, em13, em14]; first | assumption | omega)) (cw_X11_276 C.2.2.2.2 (by decide)) rfl hl.1 rfl (Nat.le_of_ble_eq_true rfl) dX11_does_61 ⟨Nat.le_refl _, Nat.le_refl _⟩ (fun r19 I15 J16 H locs G17 p18r M => ?_)
    obtain ⟨eJ16, ⟨p18, fx20⟩⟩ : J16 = J ∧ ((jm (I15 (gr g a0 0) 717).toInt (I15 (gr g a0 0) 715).toInt (I15 (gr g a0 0) 716).toInt (I15 (gr g a0 0) 722).toInt (I15 (gr g a0 0) 718).toInt (I15 (gr g a0 0) 719).toInt) ∧ (∀ j, 715 ≤ j → j ≠ 717 → j ≠ 718 → j ≠ 719 → j ≠ 720 → I15 (gr g a0 0) j = I (gr g a0 0) j)) := p18r
    have eJ16 := eJ16.symm
    subst eJ16
    obtain ⟨u21, ku21⟩ : ∃ z : Int32, I15 (gr g a0 0) 717 = z := ⟨_, rfl⟩
    have tu21 : 0 ≤ u21.toInt ∧ u21.toInt ≤ 1 := m_rng M h1 717 ku21 rfl
    have em22 : (I15 (gr g a0 0) 717).toInt = u21.toInt := congrArg Int32.toInt ku21
    have em23 : (I15 (gr g a0 0) 715).toInt = i3.toInt := congrArg Int32.toInt ((fx20 715 (by decide) (by decide) (by decide) (by decide) (by decide)).trans ki3)
    have em24 : (I15 (gr g a0 0) 716).toInt = i4.toInt := congrArg Int32.toInt ((fx20 716 (by decide) (by decide) (by decide) (by decide) (by decide)).trans ki4)
    have em25 : (I15 (gr g a0 0) 722).toInt = i5.toInt := congrArg Int32.toInt ((fx20 722 (by decide) (by decide) (by decide) (by decide) (by decide)).trans ki5)
    obtain ⟨u26, ku26⟩ : ∃ z : Int32, I15 (gr g a0 0) 718 = z := ⟨_, rfl⟩
    have tu26 : 0 ≤ u26.toInt ∧ u26.toInt ≤ 200 := m_rng M h1 718 ku26 rfl
    have em27 : (I15 (gr g a0 0) 718).toInt = u26.toInt := congrArg Int32.toInt ku26
    obtain ⟨u28, ku28⟩ : ∃ z : Int32, I15 (gr g a0 0) 719 = z := ⟨_, rfl⟩
    have tu28 : 0 ≤ u28.toInt ∧ u28.toInt ≤ 200 := m_rng M h1 719 ku28 rfl
    have em29 : (I15 (gr g a0 0) 719).toInt = u28.toInt := congrArg Int32.toInt ku28
    simp only [em9, em10, em11, em12, em13, em14, em22, em23, em24, em25, em27, em29] at p18
    have F := fr_call F G17 (by decide)
    refine n_if_lt C (tgt := 71) dX11_does_64 (by decide) rfl (fun q30 => ?_) (fun q30 => ?_)
    ·
      refine lv_iconst (v := 0) C.1 C.2.1 dX11_does_71 (by decide) ?_
      have rk31 : (I15 (gr g a0 0) 717).toInt = u21.toInt := congrArg Int32.toInt ku21
      have rk32 : (I15 (gr g a0 0) 715).toInt = i3.toInt := congrArg Int32.toInt ((fx20 715 (by decide) (by decide) (by decide) (by decide) (by decide)).trans ki3)
      have rk33 : (I15 (gr g a0 0) 716).toInt = i4.toInt := congrArg Int32.toInt ((fx20 716 (by decide) (by decide) (by decide) (by decide) (by decide)).trans ki4)
      have rk34 : (I15 (gr g a0 0) 722).toInt = i5.toInt := congrArg Int32.toInt ((fx20 722 (by decide) (by decide) (by decide) (by decide) (by decide)).trans ki5)
      have rk35 : (I15 (gr g a0 0) 718).toInt = u26.toInt := congrArg Int32.toInt ku26
      have rk36 : (I15 (gr g a0 0) 719).toInt = u28.toInt := congrArg Int32.toInt ku28
      exact r_PMz C M (z := 0) hr hlk F rfl (by omega) (by omega) ⟨rfl, ⟨by omega, by omega, (by simp only [ci2, ci3, ci4, ci5, ci6, ci7, rk31, rk32, rk33, rk34, rk35, rk36]; first | assumption | exact g0 | exact p18.2.2), (im_fr M.2.2.2.2.2.1 h0_ G17 (by decide) g1)⟩⟩ dX11_does_72
    ·
      refine lv_iconst (v := 1) C.1 C.2.1 dX11_does_67 (by decide) ?_
      refine lv_goto (tgt := 72) C.1 C.2.1 dX11_does_68 (by decide) ?_
      have rk37 : (I15 (gr g a0 0) 717).toInt = u21.toInt := congrArg Int32.toInt ku21
      have rk38 : (I15 (gr g a0 0) 715).toInt = i3.toInt := congrArg Int32.toInt ((fx20 715 (by decide) (by decide) (by decide) (by decide) (by decide)).trans ki3)
      have rk39 : (I15 (gr g a0 0) 716).toInt = i4.toInt := congrArg Int32.toInt ((fx20 716 (by decide) (by decide) (by decide) (by decide) (by decide)).trans ki4)
      have rk40 : (I15 (gr g a0 0) 722).toInt = i5.toInt := congrArg Int32.toInt ((fx20 722 (by decide) (by decide) (by decide) (by decide) (by decide)).trans ki5)
      have rk41 : (I15 (gr g a0 0) 718).toInt = u26.toInt := congrArg Int32.toInt ku26
      have rk42 : (I15 (gr g a0 0) 719).toInt = u28.toInt := congrArg Int32.toInt ku28
      exact r_PMz C M (z := 1) hr hlk F rfl (by omega) (by omega) ⟨rfl, ⟨by omega, by omega, (by simp only [ci2, ci3, ci4, ci5, ci6, ci7, rk37, rk38, rk39, rk40, rk41, rk42]; first | assumption | exact g0 | exact p18.2.2), (im_fr M.2.2.2.2.2.1 h0_ G17 (by decide) g1)⟩⟩ dX11_does_72
  by_cases q43 : x1.toInt = 1
  ·
    refine n_tabk (off := 72) (tgt := 73) C 1 dX11_does_1 q43 (by decide) (by decide) (by decide) (by decide) ?_
    refine lv_aload_n C.1 C.2.1 dX11_does_73 rfl (lv_at hl 0 rfl) ?_
    have em44 : (I (gr g a0 0) 717).toInt = i2.toInt := congrArg Int32.toInt ki2
    have em45 : (I (gr g a0 0) 715).toInt = i3.toInt := congrArg Int32.toInt ki3
    have em46 : (I (gr g a0 0) 716).toInt = i4.toInt := congrArg Int32.toInt ki4
    have em47 : (I (gr g a0 0) 722).toInt = i5.toInt := congrArg Int32.toInt ki5
    have em48 : (I (gr g a0 0) 718).toInt = i6.toInt := congrArg Int32.toInt ki6
    have em49 : (I (gr g a0 0) 719).toInt = i7.toInt := congrArg Int32.toInt ki7
    refine k_PM C M h0_ (by decide) rfl (ct_X11_crash l g I J a0 h0_ (by simp only [em44, em45, em46, em47, em48, em49]; first | assumption | omega)) (cw_X11_278 C.2.2.2.2 (by decide)) rfl hl.1 rfl (Nat.le_of_ble_eq_true rfl) dX11_does_74 ⟨Nat.le_refl _, Nat.le_refl _⟩ (fun r54 I50 J51 H locs G52 p53r M => ?_)
    obtain ⟨eJ51, ⟨p53, fx55⟩⟩ : J51 = J ∧ ((0 ≤ r54.toInt ∧ r54.toInt ≤ 1 ∧ jm (I50 (gr g a0 0) 717).toInt (I50 (gr g a0 0) 715).toInt (I50 (gr g a0 0) 716).toInt (I50 (gr g a0 0) 722).toInt (I50 (gr g a0 0) 718).toInt (I50 (gr g a0 0) 719).toInt) ∧ (∀ j, 715 ≤ j → j ≠ 719 → j ≠ 725 → I50 (gr g a0 0) j = I (gr g a0 0) j)) := p53r
    have eJ51 := eJ51.symm
    subst eJ51
    have em56 : (I50 (gr g a0 0) 717).toInt = i2.toInt := congrArg Int32.toInt ((fx55 717 (by decide) (by decide) (by decide)).trans ki2)
    have em57 : (I50 (gr g a0 0) 715).toInt = i3.toInt := congrArg Int32.toInt ((fx55 715 (by decide) (by decide) (by decide)).trans ki3)
    have em58 : (I50 (gr g a0 0) 716).toInt = i4.toInt := congrArg Int32.toInt ((fx55 716 (by decide) (by decide) (by decide)).trans ki4)
    have em59 : (I50 (gr g a0 0) 722).toInt = i5.toInt := congrArg Int32.toInt ((fx55 722 (by decide) (by decide) (by decide)).trans ki5)
    have em60 : (I50 (gr g a0 0) 718).toInt = i6.toInt := congrArg Int32.toInt ((fx55 718 (by decide) (by decide) (by decide)).trans ki6)
    obtain ⟨u61, ku61⟩ : ∃ z : Int32, I50 (gr g a0 0) 719 = z := ⟨_, rfl⟩
    have tu61 : 0 ≤ u61.toInt ∧ u61.toInt ≤ 200 := m_rng M h1 719 ku61 rfl
    have em62 : (I50 (gr g a0 0) 719).toInt = u61.toInt := congrArg Int32.toInt ku61
    simp only [em44, em45, em46, em47, em48, em49, em56, em57, em58, em59, em60, em62] at p53
    have F := fr_call F G52 (by decide)
    have rk63 : (I50 (gr g a0 0) 717).toInt = i2.toInt := congrArg Int32.toInt ((fx55 717 (by decide) (by decide) (by decide)).trans ki2)
    have rk64 : (I50 (gr g a0 0) 715).toInt = i3.toInt := congrArg Int32.toInt ((fx55 715 (by decide) (by decide) (by decide)).trans ki3)
    have rk65 : (I50 (gr g a0 0) 716).toInt = i4.toInt := congrArg Int32.toInt ((fx55 716 (by decide) (by decide) (by decide)).trans ki4)
    have rk66 : (I50 (gr g a0 0) 722).toInt = i5.toInt := congrArg Int32.toInt ((fx55 722 (by decide) (by decide) (by decide)).trans ki5)
    have rk67 : (I50 (gr g a0 0) 718).toInt = i6.toInt := congrArg Int32.toInt ((fx55 718 (by decide) (by decide) (by decide)).trans ki6)
    have rk68 : (I50 (gr g a0 0) 719).toInt = u61.toInt := congrArg Int32.toInt ku61
    exact r_PMz C M hr hlk F rfl (by omega) (by omega) ⟨rfl, ⟨by omega, by omega, (by simp only [ci2, ci3, ci4, ci5, ci6, ci7, rk63, rk64, rk65, rk66, rk67, rk68]; first | assumption | exact g0 | exact p53.2.2), (im_fr M.2.2.2.2.2.1 h0_ G52 (by decide) g1)⟩⟩ dX11_does_77
  by_cases q69 : x1.toInt = 2
  ·
    refine n_tabk (off := 77) (tgt := 78) C 2 dX11_does_1 q69 (by decide) (by decide) (by decide) (by decide) ?_
    refine lv_aload_n C.1 C.2.1 dX11_does_78 rfl (lv_at hl 0 rfl) ?_
    have em70 : (I (gr g a0 0) 717).toInt = i2.toInt := congrArg Int32.toInt ki2
    have em71 : (I (gr g a0 0) 715).toInt = i3.toInt := congrArg Int32.toInt ki3
    have em72 : (I (gr g a0 0) 716).toInt = i4.toInt := congrArg Int32.toInt ki4
    have em73 : (I (gr g a0 0) 722).toInt = i5.toInt := congrArg Int32.toInt ki5
    have em74 : (I (gr g a0 0) 718).toInt = i6.toInt := congrArg Int32.toInt ki6
    have em75 : (I (gr g a0 0) 719).toInt = i7.toInt := congrArg Int32.toInt ki7
    refine k_PM C M h0_ (by decide) rfl (ct_X11_replace l g I J a0 h0_ (by simp only [em70, em71, em72, em73, em74, em75]; first | assumption | omega)) (cw_X11_280 C.2.2.2.2 (by decide)) rfl hl.1 rfl (Nat.le_of_ble_eq_true rfl) dX11_does_79 ⟨Nat.le_refl _, Nat.le_refl _⟩ (fun r80 I76 J77 H locs G78 p79r M => ?_)
    obtain ⟨eJ77, ⟨p79, fx81⟩⟩ : J77 = J ∧ ((True) ∧ (∀ j, 715 ≤ j → j ≠ 721 → I76 (gr g a0 0) j = I (gr g a0 0) j)) := p79r
    have eJ77 := eJ77.symm
    subst eJ77
    have F := fr_call F G78 (by decide)
    refine n_if_lt C (tgt := 89) dX11_does_82 (by decide) rfl (fun q82 => ?_) (fun q82 => ?_)
    ·
      refine lv_iconst (v := 0) C.1 C.2.1 dX11_does_89 (by decide) ?_
      have rk83 : (I76 (gr g a0 0) 717).toInt = i2.toInt := congrArg Int32.toInt ((fx81 717 (by decide) (by decide)).trans ki2)
      have rk84 : (I76 (gr g a0 0) 715).toInt = i3.toInt := congrArg Int32.toInt ((fx81 715 (by decide) (by decide)).trans ki3)
      have rk85 : (I76 (gr g a0 0) 716).toInt = i4.toInt := congrArg Int32.toInt ((fx81 716 (by decide) (by decide)).trans ki4)
      have rk86 : (I76 (gr g a0 0) 722).toInt = i5.toInt := congrArg Int32.toInt ((fx81 722 (by decide) (by decide)).trans ki5)
      have rk87 : (I76 (gr g a0 0) 718).toInt = i6.toInt := congrArg Int32.toInt ((fx81 718 (by decide) (by decide)).trans ki6)
      have rk88 : (I76 (gr g a0 0) 719).toInt = i7.toInt := congrArg Int32.toInt ((fx81 719 (by decide) (by decide)).trans ki7)
      exact r_PMz C M (z := 0) hr hlk F rfl (by omega) (by omega) ⟨rfl, ⟨by omega, by omega, (by simp only [ci2, ci3, ci4, ci5, ci6, ci7, rk83, rk84, rk85, rk86, rk87, rk88]; first | assumption | exact g0 | exact p79.2.2), (im_fr M.2.2.2.2.2.1 h0_ G78 (by decide) g1)⟩⟩ dX11_does_90
    ·
      refine lv_iconst (v := 1) C.1 C.2.1 dX11_does_85 (by decide) ?_
      refine lv_goto (tgt := 90) C.1 C.2.1 dX11_does_86 (by decide) ?_
      have rk89 : (I76 (gr g a0 0) 717).toInt = i2.toInt := congrArg Int32.toInt ((fx81 717 (by decide) (by decide)).trans ki2)
      have rk90 : (I76 (gr g a0 0) 715).toInt = i3.toInt := congrArg Int32.toInt ((fx81 715 (by decide) (by decide)).trans ki3)
      have rk91 : (I76 (gr g a0 0) 716).toInt = i4.toInt := congrArg Int32.toInt ((fx81 716 (by decide) (by decide)).trans ki4)
      have rk92 : (I76 (gr g a0 0) 722).toInt = i5.toInt := congrArg Int32.toInt ((fx81 722 (by decide) (by decide)).trans ki5)
      have rk93 : (I76 (gr g a0 0) 718).toInt = i6.toInt := congrArg Int32.toInt ((fx81 718 (by decide) (by decide)).trans ki6)
      have rk94 : (I76 (gr g a0 0) 719).toInt = i7.toInt := congrArg Int32.toInt ((fx81 719 (by decide) (by decide)).trans ki7)
      exact r_PMz C M (z := 1) hr hlk F rfl (by omega) (by omega) ⟨rfl, ⟨by omega, by omega, (by simp only [ci2, ci3, ci4, ci5, ci6, ci7, rk89, rk90, rk91, rk92, rk93, rk94]; first | assumption | exact g0 | exact p79.2.2), (im_fr M.2.2.2.2.2.1 h0_ G78 (by decide) g1)⟩⟩ dX11_does_90
  by_cases q95 : x1.toInt = 3
  ·
    refine n_tabk (off := 90) (tgt := 91) C 3 dX11_does_1 q95 (by decide) (by decide) (by decide) (by decide) ?_
    refine lv_aload_n C.1 C.2.1 dX11_does_91 rfl (lv_at hl 0 rfl) ?_
    have em96 : (I (gr g a0 0) 717).toInt = i2.toInt := congrArg Int32.toInt ki2
    have em97 : (I (gr g a0 0) 715).toInt = i3.toInt := congrArg Int32.toInt ki3
    have em98 : (I (gr g a0 0) 716).toInt = i4.toInt := congrArg Int32.toInt ki4
    have em99 : (I (gr g a0 0) 722).toInt = i5.toInt := congrArg Int32.toInt ki5
    have em100 : (I (gr g a0 0) 718).toInt = i6.toInt := congrArg Int32.toInt ki6
    have em101 : (I (gr g a0 0) 719).toInt = i7.toInt := congrArg Int32.toInt ki7
    refine k_PM C M h0_ (by decide) rfl (ct_X11_repair l g I J a0 h0_ (by simp only [em96, em97, em98, em99, em100, em101]; first | assumption | omega)) (cw_X11_282 C.2.2.2.2 (by decide)) rfl hl.1 rfl (Nat.le_of_ble_eq_true rfl) dX11_does_92 ⟨Nat.le_refl _, Nat.le_refl _⟩ (fun r106 I102 J103 H locs G104 p105r M => ?_)
    obtain ⟨eJ103, ⟨p105, fx107⟩⟩ : J103 = J ∧ ((True) ∧ (∀ j, 715 ≤ j → I102 (gr g a0 0) j = I (gr g a0 0) j)) := p105r
    have eJ103 := eJ103.symm
    subst eJ103
    have F := fr_call F G104 (by decide)
    refine n_if_lt C (tgt := 102) dX11_does_95 (by decide) rfl (fun q108 => ?_) (fun q108 => ?_)
    ·
      refine lv_iconst (v := 0) C.1 C.2.1 dX11_does_102 (by decide) ?_
      have rk109 : (I102 (gr g a0 0) 717).toInt = i2.toInt := congrArg Int32.toInt ((fx107 717 (by decide)).trans ki2)
      have rk110 : (I102 (gr g a0 0) 715).toInt = i3.toInt := congrArg Int32.toInt ((fx107 715 (by decide)).trans ki3)
      have rk111 : (I102 (gr g a0 0) 716).toInt = i4.toInt := congrArg Int32.toInt ((fx107 716 (by decide)).trans ki4)
      have rk112 : (I102 (gr g a0 0) 722).toInt = i5.toInt := congrArg Int32.toInt ((fx107 722 (by decide)).trans ki5)
      have rk113 : (I102 (gr g a0 0) 718).toInt = i6.toInt := congrArg Int32.toInt ((fx107 718 (by decide)).trans ki6)
      have rk114 : (I102 (gr g a0 0) 719).toInt = i7.toInt := congrArg Int32.toInt ((fx107 719 (by decide)).trans ki7)
      exact r_PMz C M (z := 0) hr hlk F rfl (by omega) (by omega) ⟨rfl, ⟨by omega, by omega, (by simp only [ci2, ci3, ci4, ci5, ci6, ci7, rk109, rk110, rk111, rk112, rk113, rk114]; first | assumption | exact g0 | exact p105.2.2), (im_fr M.2.2.2.2.2.1 h0_ G104 (by decide) g1)⟩⟩ dX11_does_103
    ·
      refine lv_iconst (v := 1) C.1 C.2.1 dX11_does_98 (by decide) ?_
      refine lv_goto (tgt := 103) C.1 C.2.1 dX11_does_99 (by decide) ?_
      have rk115 : (I102 (gr g a0 0) 717).toInt = i2.toInt := congrArg Int32.toInt ((fx107 717 (by decide)).trans ki2)
      have rk116 : (I102 (gr g a0 0) 715).toInt = i3.toInt := congrArg Int32.toInt ((fx107 715 (by decide)).trans ki3)
      have rk117 : (I102 (gr g a0 0) 716).toInt = i4.toInt := congrArg Int32.toInt ((fx107 716 (by decide)).trans ki4)
      have rk118 : (I102 (gr g a0 0) 722).toInt = i5.toInt := congrArg Int32.toInt ((fx107 722 (by decide)).trans ki5)
      have rk119 : (I102 (gr g a0 0) 718).toInt = i6.toInt := congrArg Int32.toInt ((fx107 718 (by decide)).trans ki6)
      have rk120 : (I102 (gr g a0 0) 719).toInt = i7.toInt := congrArg Int32.toInt ((fx107 719 (by decide)).trans ki7)
      exact r_PMz C M (z := 1) hr hlk F rfl (by omega) (by omega) ⟨rfl, ⟨by omega, by omega, (by simp only [ci2, ci3, ci4, ci5, ci6, ci7, rk115, rk116, rk117, rk118, rk119, rk120]; first | assumption | exact g0 | exact p105.2.2), (im_fr M.2.2.2.2.2.1 h0_ G104 (by decide) g1)⟩⟩ dX11_does_103
  by_cases q121 : x1.toInt = 4
  ·
    refine n_tabk (off := 103) (tgt := 104) C 4 dX11_does_1 q121 (by decide) (by decide) (by decide) (by decide) ?_
    refine lv_aload_n C.1 C.2.1 dX11_does_104 rfl (lv_at hl 0 rfl) ?_
    refine lv_iload_n C.1 C.2.1 dX11_does_105 rfl (lv_at hl 2 rfl) ?_
    have em122 : (I (gr g a0 0) 717).toInt = i2.toInt := congrArg Int32.toInt ki2
    have em123 : (I (gr g a0 0) 715).toInt = i3.toInt := congrArg Int32.toInt ki3
    have em124 : (I (gr g a0 0) 716).toInt = i4.toInt := congrArg Int32.toInt ki4
    have em125 : (I (gr g a0 0) 722).toInt = i5.toInt := congrArg Int32.toInt ki5
    have em126 : (I (gr g a0 0) 718).toInt = i6.toInt := congrArg Int32.toInt ki6
    have em127 : (I (gr g a0 0) 719).toInt = i7.toInt := congrArg Int32.toInt ki7
    refine k_PM C M h0_ (by decide) rfl (ct_X11_steps l g I J a0 x2 h0_ (by simp only [em122, em123, em124, em125, em126, em127]; first | assumption | omega)) (cw_X11_284 C.2.2.2.2 (by decide)) rfl hl.1 rfl (Nat.le_of_ble_eq_true rfl) dX11_does_106 ⟨Nat.le_refl _, Nat.le_refl _⟩ (fun r132 I128 J129 H locs G130 p131r M => ?_)
    obtain ⟨eJ129, ⟨p131, fx133⟩⟩ : J129 = J ∧ ((jm (I128 (gr g a0 0) 717).toInt (I128 (gr g a0 0) 715).toInt (I128 (gr g a0 0) 716).toInt (I128 (gr g a0 0) 722).toInt (I128 (gr g a0 0) 718).toInt (I128 (gr g a0 0) 719).toInt) ∧ (∀ j, 715 ≤ j → j ≠ 715 → j ≠ 717 → j ≠ 718 → j ≠ 719 → j ≠ 720 → j ≠ 728 → I128 (gr g a0 0) j = I (gr g a0 0) j)) := p131r
    have eJ129 := eJ129.symm
    subst eJ129
    obtain ⟨u134, ku134⟩ : ∃ z : Int32, I128 (gr g a0 0) 717 = z := ⟨_, rfl⟩
    have tu134 : 0 ≤ u134.toInt ∧ u134.toInt ≤ 1 := m_rng M h1 717 ku134 rfl
    have em135 : (I128 (gr g a0 0) 717).toInt = u134.toInt := congrArg Int32.toInt ku134
    obtain ⟨u136, ku136⟩ : ∃ z : Int32, I128 (gr g a0 0) 715 = z := ⟨_, rfl⟩
    have tu136 : 3 ≤ u136.toInt ∧ u136.toInt ≤ 7 := m_rng M h1 715 ku136 rfl
    have em137 : (I128 (gr g a0 0) 715).toInt = u136.toInt := congrArg Int32.toInt ku136
    have em138 : (I128 (gr g a0 0) 716).toInt = i4.toInt := congrArg Int32.toInt ((fx133 716 (by decide) (by decide) (by decide) (by decide) (by decide) (by decide) (by decide)).trans ki4)
    have em139 : (I128 (gr g a0 0) 722).toInt = i5.toInt := congrArg Int32.toInt ((fx133 722 (by decide) (by decide) (by decide) (by decide) (by decide) (by decide) (by decide)).trans ki5)
    obtain ⟨u140, ku140⟩ : ∃ z : Int32, I128 (gr g a0 0) 718 = z := ⟨_, rfl⟩
    have tu140 : 0 ≤ u140.toInt ∧ u140.toInt ≤ 200 := m_rng M h1 718 ku140 rfl
    have em141 : (I128 (gr g a0 0) 718).toInt = u140.toInt := congrArg Int32.toInt ku140
    obtain ⟨u142, ku142⟩ : ∃ z : Int32, I128 (gr g a0 0) 719 = z := ⟨_, rfl⟩
    have tu142 : 0 ≤ u142.toInt ∧ u142.toInt ≤ 200 := m_rng M h1 719 ku142 rfl
    have em143 : (I128 (gr g a0 0) 719).toInt = u142.toInt := congrArg Int32.toInt ku142
    simp only [em122, em123, em124, em125, em126, em127, em135, em137, em138, em139, em141, em143] at p131
    have F := fr_call F G130 (by decide)
    refine n_if_lt C (tgt := 116) dX11_does_109 (by decide) rfl (fun q144 => ?_) (fun q144 => ?_)
    ·
      refine lv_iconst (v := 0) C.1 C.2.1 dX11_does_116 (by decide) ?_
      have rk145 : (I128 (gr g a0 0) 717).toInt = u134.toInt := congrArg Int32.toInt ku134
      have rk146 : (I128 (gr g a0 0) 715).toInt = u136.toInt := congrArg Int32.toInt ku136
      have rk147 : (I128 (gr g a0 0) 716).toInt = i4.toInt := congrArg Int32.toInt ((fx133 716 (by decide) (by decide) (by decide) (by decide) (by decide) (by decide) (by decide)).trans ki4)
      have rk148 : (I128 (gr g a0 0) 722).toInt = i5.toInt := congrArg Int32.toInt ((fx133 722 (by decide) (by decide) (by decide) (by decide) (by decide) (by decide) (by decide)).trans ki5)
      have rk149 : (I128 (gr g a0 0) 718).toInt = u140.toInt := congrArg Int32.toInt ku140
      have rk150 : (I128 (gr g a0 0) 719).toInt = u142.toInt := congrArg Int32.toInt ku142
      exact r_PMz C M (z := 0) hr hlk F rfl (by omega) (by omega) ⟨rfl, ⟨by omega, by omega, (by simp only [ci2, ci3, ci4, ci5, ci6, ci7, rk145, rk146, rk147, rk148, rk149, rk150]; first | assumption | exact g0 | exact p131.2.2), (im_fr M.2.2.2.2.2.1 h0_ G130 (by decide) g1)⟩⟩ dX11_does_117
    ·
      refine lv_iconst (v := 1) C.1 C.2.1 dX11_does_112 (by decide) ?_
      refine lv_goto (tgt := 117) C.1 C.2.1 dX11_does_113 (by decide) ?_
      have rk151 : (I128 (gr g a0 0) 717).toInt = u134.toInt := congrArg Int32.toInt ku134
      have rk152 : (I128 (gr g a0 0) 715).toInt = u136.toInt := congrArg Int32.toInt ku136
      have rk153 : (I128 (gr g a0 0) 716).toInt = i4.toInt := congrArg Int32.toInt ((fx133 716 (by decide) (by decide) (by decide) (by decide) (by decide) (by decide) (by decide)).trans ki4)
      have rk154 : (I128 (gr g a0 0) 722).toInt = i5.toInt := congrArg Int32.toInt ((fx133 722 (by decide) (by decide) (by decide) (by decide) (by decide) (by decide) (by decide)).trans ki5)
      have rk155 : (I128 (gr g a0 0) 718).toInt = u140.toInt := congrArg Int32.toInt ku140
      have rk156 : (I128 (gr g a0 0) 719).toInt = u142.toInt := congrArg Int32.toInt ku142
      exact r_PMz C M (z := 1) hr hlk F rfl (by omega) (by omega) ⟨rfl, ⟨by omega, by omega, (by simp only [ci2, ci3, ci4, ci5, ci6, ci7, rk151, rk152, rk153, rk154, rk155, rk156]; first | assumption | exact g0 | exact p131.2.2), (im_fr M.2.2.2.2.2.1 h0_ G130 (by decide) g1)⟩⟩ dX11_does_117
  by_cases q157 : x1.toInt = 5
  ·
    refine n_tabk (off := 117) (tgt := 118) C 5 dX11_does_1 q157 (by decide) (by decide) (by decide) (by decide) ?_
    refine lv_aload_n C.1 C.2.1 dX11_does_118 rfl (lv_at hl 0 rfl) ?_
    refine lv_iload_n C.1 C.2.1 dX11_does_119 rfl (lv_at hl 2 rfl) ?_
    have em158 : (I (gr g a0 0) 717).toInt = i2.toInt := congrArg Int32.toInt ki2
    have em159 : (I (gr g a0 0) 715).toInt = i3.toInt := congrArg Int32.toInt ki3
    have em160 : (I (gr g a0 0) 716).toInt = i4.toInt := congrArg Int32.toInt ki4
    have em161 : (I (gr g a0 0) 722).toInt = i5.toInt := congrArg Int32.toInt ki5
    have em162 : (I (gr g a0 0) 718).toInt = i6.toInt := congrArg Int32.toInt ki6
    have em163 : (I (gr g a0 0) 719).toInt = i7.toInt := congrArg Int32.toInt ki7
    refine k_PM C M h0_ (by decide) rfl (ct_X11_tick l g I J a0 x2 h0_ (by simp only [em158, em159, em160, em161, em162, em163]; first | assumption | omega)) (cw_X11_286 C.2.2.2.2 (by decide)) rfl hl.1 rfl (Nat.le_of_ble_eq_true rfl) dX11_does_120 ⟨Nat.le_refl _, Nat.le_refl _⟩ (fun r168 I164 J165 H locs G166 p167r M => ?_)
    obtain ⟨eJ165, ⟨p167, fx169⟩⟩ : J165 = J ∧ ((jm (I164 (gr g a0 0) 717).toInt (I164 (gr g a0 0) 715).toInt (I164 (gr g a0 0) 716).toInt (I164 (gr g a0 0) 722).toInt (I164 (gr g a0 0) 718).toInt (I164 (gr g a0 0) 719).toInt) ∧ (∀ j, 715 ≤ j → j ≠ 715 → j ≠ 717 → j ≠ 718 → j ≠ 719 → j ≠ 720 → j ≠ 725 → j ≠ 727 → j ≠ 728 → I164 (gr g a0 0) j = I (gr g a0 0) j)) := p167r
    have eJ165 := eJ165.symm
    subst eJ165
    obtain ⟨u170, ku170⟩ : ∃ z : Int32, I164 (gr g a0 0) 717 = z := ⟨_, rfl⟩
    have tu170 : 0 ≤ u170.toInt ∧ u170.toInt ≤ 1 := m_rng M h1 717 ku170 rfl
    have em171 : (I164 (gr g a0 0) 717).toInt = u170.toInt := congrArg Int32.toInt ku170
    obtain ⟨u172, ku172⟩ : ∃ z : Int32, I164 (gr g a0 0) 715 = z := ⟨_, rfl⟩
    have tu172 : 3 ≤ u172.toInt ∧ u172.toInt ≤ 7 := m_rng M h1 715 ku172 rfl
    have em173 : (I164 (gr g a0 0) 715).toInt = u172.toInt := congrArg Int32.toInt ku172
    have em174 : (I164 (gr g a0 0) 716).toInt = i4.toInt := congrArg Int32.toInt ((fx169 716 (by decide) (by decide) (by decide) (by decide) (by decide) (by decide) (by decide) (by decide) (by decide)).trans ki4)
    have em175 : (I164 (gr g a0 0) 722).toInt = i5.toInt := congrArg Int32.toInt ((fx169 722 (by decide) (by decide) (by decide) (by decide) (by decide) (by decide) (by decide) (by decide) (by decide)).trans ki5)
    obtain ⟨u176, ku176⟩ : ∃ z : Int32, I164 (gr g a0 0) 718 = z := ⟨_, rfl⟩
    have tu176 : 0 ≤ u176.toInt ∧ u176.toInt ≤ 200 := m_rng M h1 718 ku176 rfl
    have em177 : (I164 (gr g a0 0) 718).toInt = u176.toInt := congrArg Int32.toInt ku176
    obtain ⟨u178, ku178⟩ : ∃ z : Int32, I164 (gr g a0 0) 719 = z := ⟨_, rfl⟩
    have tu178 : 0 ≤ u178.toInt ∧ u178.toInt ≤ 200 := m_rng M h1 719 ku178 rfl
    have em179 : (I164 (gr g a0 0) 719).toInt = u178.toInt := congrArg Int32.toInt ku178
    simp only [em158, em159, em160, em161, em162, em163, em171, em173, em174, em175, em177, em179] at p167
    have F := fr_call F G166 (by decide)
    refine n_if_lt C (tgt := 130) dX11_does_123 (by decide) rfl (fun q180 => ?_) (fun q180 => ?_)
    ·
      refine lv_iconst (v := 0) C.1 C.2.1 dX11_does_130 (by decide) ?_
      have rk181 : (I164 (gr g a0 0) 717).toInt = u170.toInt := congrArg Int32.toInt ku170
      have rk182 : (I164 (gr g a0 0) 715).toInt = u172.toInt := congrArg Int32.toInt ku172
      have rk183 : (I164 (gr g a0 0) 716).toInt = i4.toInt := congrArg Int32.toInt ((fx169 716 (by decide) (by decide) (by decide) (by decide) (by decide) (by decide) (by decide) (by decide) (by decide)).trans ki4)
      have rk184 : (I164 (gr g a0 0) 722).toInt = i5.toInt := congrArg Int32.toInt ((fx169 722 (by decide) (by decide) (by decide) (by decide) (by decide) (by decide) (by decide) (by decide) (by decide)).trans ki5)
      have rk185 : (I164 (gr g a0 0) 718).toInt = u176.toInt := congrArg Int32.toInt ku176
      have rk186 : (I164 (gr g a0 0) 719).toInt = u178.toInt := congrArg Int32.toInt ku178
      exact r_PMz C M (z := 0) hr hlk F rfl (by omega) (by omega) ⟨rfl, ⟨by omega, by omega, (by simp only [ci2, ci3, ci4, ci5, ci6, ci7, rk181, rk182, rk183, rk184, rk185, rk186]; first | assumption | exact g0 | exact p167.2.2), (im_fr M.2.2.2.2.2.1 h0_ G166 (by decide) g1)⟩⟩ dX11_does_131
    ·
      refine lv_iconst (v := 1) C.1 C.2.1 dX11_does_126 (by decide) ?_
      refine lv_goto (tgt := 131) C.1 C.2.1 dX11_does_127 (by decide) ?_
      have rk187 : (I164 (gr g a0 0) 717).toInt = u170.toInt := congrArg Int32.toInt ku170
      have rk188 : (I164 (gr g a0 0) 715).toInt = u172.toInt := congrArg Int32.toInt ku172
      have rk189 : (I164 (gr g a0 0) 716).toInt = i4.toInt := congrArg Int32.toInt ((fx169 716 (by decide) (by decide) (by decide) (by decide) (by decide) (by decide) (by decide) (by decide) (by decide)).trans ki4)
      have rk190 : (I164 (gr g a0 0) 722).toInt = i5.toInt := congrArg Int32.toInt ((fx169 722 (by decide) (by decide) (by decide) (by decide) (by decide) (by decide) (by decide) (by decide) (by decide)).trans ki5)
      have rk191 : (I164 (gr g a0 0) 718).toInt = u176.toInt := congrArg Int32.toInt ku176
      have rk192 : (I164 (gr g a0 0) 719).toInt = u178.toInt := congrArg Int32.toInt ku178
      exact r_PMz C M (z := 1) hr hlk F rfl (by omega) (by omega) ⟨rfl, ⟨by omega, by omega, (by simp only [ci2, ci3, ci4, ci5, ci6, ci7, rk187, rk188, rk189, rk190, rk191, rk192]; first | assumption | exact g0 | exact p167.2.2), (im_fr M.2.2.2.2.2.1 h0_ G166 (by decide) g1)⟩⟩ dX11_does_131
  by_cases q193 : x1.toInt = 6
  ·
    refine n_tabk (off := 131) (tgt := 132) C 6 dX11_does_1 q193 (by decide) (by decide) (by decide) (by decide) ?_
    refine lv_aload_n C.1 C.2.1 dX11_does_132 rfl (lv_at hl 0 rfl) ?_
    refine lv_iload_n C.1 C.2.1 dX11_does_133 rfl (lv_at hl 2 rfl) ?_
    have em194 : (I (gr g a0 0) 717).toInt = i2.toInt := congrArg Int32.toInt ki2
    have em195 : (I (gr g a0 0) 715).toInt = i3.toInt := congrArg Int32.toInt ki3
    have em196 : (I (gr g a0 0) 716).toInt = i4.toInt := congrArg Int32.toInt ki4
    have em197 : (I (gr g a0 0) 722).toInt = i5.toInt := congrArg Int32.toInt ki5
    have em198 : (I (gr g a0 0) 718).toInt = i6.toInt := congrArg Int32.toInt ki6
    have em199 : (I (gr g a0 0) 719).toInt = i7.toInt := congrArg Int32.toInt ki7
    refine k_PM C M h0_ (by decide) rfl (ct_X11_lose l g I J a0 x2 h0_ (by simp only [em194, em195, em196, em197, em198, em199]; first | assumption | omega)) (cw_X11_288 C.2.2.2.2 (by decide)) rfl hl.1 rfl (Nat.le_of_ble_eq_true rfl) dX11_does_134 ⟨Nat.le_refl _, Nat.le_refl _⟩ (fun r204 I200 J201 H locs G202 p203r M => ?_)
    obtain ⟨eJ201, ⟨p203, fx205⟩⟩ : J201 = J ∧ ((0 ≤ r204.toInt ∧ r204.toInt ≤ 1) ∧ (∀ j, 715 ≤ j → j ≠ 721 → I200 (gr g a0 0) j = I (gr g a0 0) j)) := p203r
    have eJ201 := eJ201.symm
    subst eJ201
    have F := fr_call F G202 (by decide)
    have rk206 : (I200 (gr g a0 0) 717).toInt = i2.toInt := congrArg Int32.toInt ((G202 (gr g a0 0) 28 717 h1 (by decide) (by decide)).trans ki2)
    have rk207 : (I200 (gr g a0 0) 715).toInt = i3.toInt := congrArg Int32.toInt ((G202 (gr g a0 0) 28 715 h1 (by decide) (by decide)).trans ki3)
    have rk208 : (I200 (gr g a0 0) 716).toInt = i4.toInt := congrArg Int32.toInt ((G202 (gr g a0 0) 28 716 h1 (by decide) (by decide)).trans ki4)
    have rk209 : (I200 (gr g a0 0) 722).toInt = i5.toInt := congrArg Int32.toInt ((G202 (gr g a0 0) 28 722 h1 (by decide) (by decide)).trans ki5)
    have rk210 : (I200 (gr g a0 0) 718).toInt = i6.toInt := congrArg Int32.toInt ((G202 (gr g a0 0) 28 718 h1 (by decide) (by decide)).trans ki6)
    have rk211 : (I200 (gr g a0 0) 719).toInt = i7.toInt := congrArg Int32.toInt ((G202 (gr g a0 0) 28 719 h1 (by decide) (by decide)).trans ki7)
    exact r_PMz C M hr hlk F rfl (by omega) (by omega) ⟨rfl, ⟨by omega, by omega, (by simp only [ci2, ci3, ci4, ci5, ci6, ci7, rk206, rk207, rk208, rk209, rk210, rk211]; first | assumption | exact g0 | exact p203.2.2), (im_fr M.2.2.2.2.2.1 h0_ G202 (by decide) g1)⟩⟩ dX11_does_137
  by_cases q212 : x1.toInt = 7
  ·
    refine n_tabk (off := 137) (tgt := 138) C 7 dX11_does_1 q212 (by decide) (by decide) (by decide) (by decide) ?_
    refine lv_aload_n C.1 C.2.1 dX11_does_138 rfl (lv_at hl 0 rfl) ?_
    refine lv_iload_n C.1 C.2.1 dX11_does_139 rfl (lv_at hl 2 rfl) ?_
    refine lv_iload_n C.1 C.2.1 dX11_does_140 rfl (lv_at hl 3 rfl) ?_
    have em213 : (I (gr g a0 0) 717).toInt = i2.toInt := congrArg Int32.toInt ki2
    have em214 : (I (gr g a0 0) 715).toInt = i3.toInt := congrArg Int32.toInt ki3
    have em215 : (I (gr g a0 0) 716).toInt = i4.toInt := congrArg Int32.toInt ki4
    have em216 : (I (gr g a0 0) 722).toInt = i5.toInt := congrArg Int32.toInt ki5
    have em217 : (I (gr g a0 0) 718).toInt = i6.toInt := congrArg Int32.toInt ki6
    have em218 : (I (gr g a0 0) 719).toInt = i7.toInt := congrArg Int32.toInt ki7
    refine k_PM C M h0_ (by decide) rfl (ct_X11_write l g I J a0 x2 x3 h0_ (by simp only [em213, em214, em215, em216, em217, em218]; first | assumption | omega)) (cw_X11_290 C.2.2.2.2 (by decide)) rfl hl.1 rfl (Nat.le_of_ble_eq_true rfl) dX11_does_141 ⟨Nat.le_refl _, Nat.le_refl _⟩ (fun r223 I219 J220 H locs G221 p222r M => ?_)
    obtain ⟨eJ220, ⟨p222, fx224⟩⟩ : J220 = J ∧ ((True) ∧ (∀ j, 715 ≤ j → I219 (gr g a0 0) j = I (gr g a0 0) j)) := p222r
    have eJ220 := eJ220.symm
    subst eJ220
    have F := fr_call F G221 (by decide)
    refine lv_iconst (v := 1) C.1 C.2.1 dX11_does_144 (by decide) ?_
    refine n_icmp_ne C (tgt := 152) (Y := 1) dX11_does_145 (by decide) rfl rfl (fun q225 => ?_) (fun q225 => ?_)
    ·
      refine lv_iconst (v := 0) C.1 C.2.1 dX11_does_152 (by decide) ?_
      have rk226 : (I219 (gr g a0 0) 717).toInt = i2.toInt := congrArg Int32.toInt ((fx224 717 (by decide)).trans ki2)
      have rk227 : (I219 (gr g a0 0) 715).toInt = i3.toInt := congrArg Int32.toInt ((fx224 715 (by decide)).trans ki3)
      have rk228 : (I219 (gr g a0 0) 716).toInt = i4.toInt := congrArg Int32.toInt ((fx224 716 (by decide)).trans ki4)
      have rk229 : (I219 (gr g a0 0) 722).toInt = i5.toInt := congrArg Int32.toInt ((fx224 722 (by decide)).trans ki5)
      have rk230 : (I219 (gr g a0 0) 718).toInt = i6.toInt := congrArg Int32.toInt ((fx224 718 (by decide)).trans ki6)
      have rk231 : (I219 (gr g a0 0) 719).toInt = i7.toInt := congrArg Int32.toInt ((fx224 719 (by decide)).trans ki7)
      exact r_PMz C M (z := 0) hr hlk F rfl (by omega) (by omega) ⟨rfl, ⟨by omega, by omega, (by simp only [ci2, ci3, ci4, ci5, ci6, ci7, rk226, rk227, rk228, rk229, rk230, rk231]; first | assumption | exact g0 | exact p222.2.2), (im_fr M.2.2.2.2.2.1 h0_ G221 (by decide) g1)⟩⟩ dX11_does_153
    ·
      refine lv_iconst (v := 1) C.1 C.2.1 dX11_does_148 (by decide) ?_
      refine lv_goto (tgt := 153) C.1 C.2.1 dX11_does_149 (by decide) ?_
      have rk232 : (I219 (gr g a0 0) 717).toInt = i2.toInt := congrArg Int32.toInt ((fx224 717 (by decide)).trans ki2)
      have rk233 : (I219 (gr g a0 0) 715).toInt = i3.toInt := congrArg Int32.toInt ((fx224 715 (by decide)).trans ki3)
      have rk234 : (I219 (gr g a0 0) 716).toInt = i4.toInt := congrArg Int32.toInt ((fx224 716 (by decide)).trans ki4)
      have rk235 : (I219 (gr g a0 0) 722).toInt = i5.toInt := congrArg Int32.toInt ((fx224 722 (by decide)).trans ki5)
      have rk236 : (I219 (gr g a0 0) 718).toInt = i6.toInt := congrArg Int32.toInt ((fx224 718 (by decide)).trans ki6)
      have rk237 : (I219 (gr g a0 0) 719).toInt = i7.toInt := congrArg Int32.toInt ((fx224 719 (by decide)).trans ki7)
      exact r_PMz C M (z := 1) hr hlk F rfl (by omega) (by omega) ⟨rfl, ⟨by omega, by omega, (by simp only [ci2, ci3, ci4, ci5, ci6, ci7, rk232, rk233, rk234, rk235, rk236, rk237]; first | assumption | exact g0 | exact p222.2.2), (im_fr M.2.2.2.2.2.1 h0_ G221 (by decide) g1)⟩⟩ dX11_does_153
  by_cases q238 : x1.toInt = 8
  ·
    refine n_tabk (off := 153) (tgt := 154) C 8 dX11_does_1 q238 (by decide) (by decide) (by decide) (by decide) ?_
    refine lv_aload_n C.1 C.2.1 dX11_does_154 rfl (lv_at hl 0 rfl) ?_
    refine lv_iload_n C.1 C.2.1 dX11_does_155 rfl (lv_at hl 2 rfl) ?_
    refine lv_iload_n C.1 C.2.1 dX11_does_156 rfl (lv_at hl 3 rfl) ?_
    refine lv_iload C.1 C.2.1 dX11_does_157 (lv_at hl 4 rfl) ?_
    have em239 : (I (gr g a0 0) 717).toInt = i2.toInt := congrArg Int32.toInt ki2
    have em240 : (I (gr g a0 0) 715).toInt = i3.toInt := congrArg Int32.toInt ki3
    have em241 : (I (gr g a0 0) 716).toInt = i4.toInt := congrArg Int32.toInt ki4
    have em242 : (I (gr g a0 0) 722).toInt = i5.toInt := congrArg Int32.toInt ki5
    have em243 : (I (gr g a0 0) 718).toInt = i6.toInt := congrArg Int32.toInt ki6
    have em244 : (I (gr g a0 0) 719).toInt = i7.toInt := congrArg Int32.toInt ki7
    refine k_PM C M h0_ (by decide) rfl (ct_X11_fill l g I J a0 x2 x3 x4 h0_ (by simp only [em239, em240, em241, em242, em243, em244]; first | assumption | omega)) (cw_X11_292 C.2.2.2.2 (by decide)) rfl hl.1 rfl (Nat.le_of_ble_eq_true rfl) dX11_does_159 ⟨Nat.le_refl _, Nat.le_refl _⟩ (fun r249 I245 J246 H locs G247 p248r M => ?_)
    obtain ⟨eJ246, ⟨p248, fx250⟩⟩ : J246 = J ∧ ((True) ∧ (∀ j, 715 ≤ j → I245 (gr g a0 0) j = I (gr g a0 0) j)) := p248r
    have eJ246 := eJ246.symm
    subst eJ246
    have F := fr_call F G247 (by decide)
    refine n_if_lt C (tgt := 169) dX11_does_162 (by decide) rfl (fun q251 => ?_) (fun q251 => ?_)
    ·
      refine lv_iconst (v := 0) C.1 C.2.1 dX11_does_169 (by decide) ?_
      have rk252 : (I245 (gr g a0 0) 717).toInt = i2.toInt := congrArg Int32.toInt ((fx250 717 (by decide)).trans ki2)
      have rk253 : (I245 (gr g a0 0) 715).toInt = i3.toInt := congrArg Int32.toInt ((fx250 715 (by decide)).trans ki3)
      have rk254 : (I245 (gr g a0 0) 716).toInt = i4.toInt := congrArg Int32.toInt ((fx250 716 (by decide)).trans ki4)
      have rk255 : (I245 (gr g a0 0) 722).toInt = i5.toInt := congrArg Int32.toInt ((fx250 722 (by decide)).trans ki5)
      have rk256 : (I245 (gr g a0 0) 718).toInt = i6.toInt := congrArg Int32.toInt ((fx250 718 (by decide)).trans ki6)
      have rk257 : (I245 (gr g a0 0) 719).toInt = i7.toInt := congrArg Int32.toInt ((fx250 719 (by decide)).trans ki7)
      exact r_PMz C M (z := 0) hr hlk F rfl (by omega) (by omega) ⟨rfl, ⟨by omega, by omega, (by simp only [ci2, ci3, ci4, ci5, ci6, ci7, rk252, rk253, rk254, rk255, rk256, rk257]; first | assumption | exact g0 | exact p248.2.2), (im_fr M.2.2.2.2.2.1 h0_ G247 (by decide) g1)⟩⟩ dX11_does_170
    ·
      refine lv_iconst (v := 1) C.1 C.2.1 dX11_does_165 (by decide) ?_
      refine lv_goto (tgt := 170) C.1 C.2.1 dX11_does_166 (by decide) ?_
      have rk258 : (I245 (gr g a0 0) 717).toInt = i2.toInt := congrArg Int32.toInt ((fx250 717 (by decide)).trans ki2)
      have rk259 : (I245 (gr g a0 0) 715).toInt = i3.toInt := congrArg Int32.toInt ((fx250 715 (by decide)).trans ki3)
      have rk260 : (I245 (gr g a0 0) 716).toInt = i4.toInt := congrArg Int32.toInt ((fx250 716 (by decide)).trans ki4)
      have rk261 : (I245 (gr g a0 0) 722).toInt = i5.toInt := congrArg Int32.toInt ((fx250 722 (by decide)).trans ki5)
      have rk262 : (I245 (gr g a0 0) 718).toInt = i6.toInt := congrArg Int32.toInt ((fx250 718 (by decide)).trans ki6)
      have rk263 : (I245 (gr g a0 0) 719).toInt = i7.toInt := congrArg Int32.toInt ((fx250 719 (by decide)).trans ki7)
      exact r_PMz C M (z := 1) hr hlk F rfl (by omega) (by omega) ⟨rfl, ⟨by omega, by omega, (by simp only [ci2, ci3, ci4, ci5, ci6, ci7, rk258, rk259, rk260, rk261, rk262, rk263]; first | assumption | exact g0 | exact p248.2.2), (im_fr M.2.2.2.2.2.1 h0_ G247 (by decide) g1)⟩⟩ dX11_does_170
  by_cases q264 : x1.toInt = 9
  ·
    refine n_tabk (off := 170) (tgt := 171) C 9 dX11_does_1 q264 (by decide) (by decide) (by decide) (by decide) ?_
    refine lv_aload_n C.1 C.2.1 dX11_does_171 rfl (lv_at hl 0 rfl) ?_
    refine lv_iload_n C.1 C.2.1 dX11_does_172 rfl (lv_at hl 2 rfl) ?_
    refine lv_iload_n C.1 C.2.1 dX11_does_173 rfl (lv_at hl 3 rfl) ?_
    refine k_PM C M h0_ (by decide) rfl (ct_X11_bad l g I J a0 x2 x3 h0_) (cw_X11_295 C.2.2.2.2 (by decide)) rfl hl.1 rfl (Nat.le_of_ble_eq_true rfl) dX11_does_174 ⟨Nat.le_refl _, Nat.le_refl _⟩ (fun r269 I265 J266 H locs G267 p268r M => ?_)
    obtain ⟨eJ266, ⟨p268, fx270⟩⟩ : J266 = J ∧ ((0 ≤ r269.toInt ∧ r269.toInt ≤ 1) ∧ (∀ j, 715 ≤ j → I265 (gr g a0 0) j = I (gr g a0 0) j)) := p268r
    have eJ266 := eJ266.symm
    subst eJ266
    have F := fr_call F G267 (by decide)
    have rk271 : (I265 (gr g a0 0) 717).toInt = i2.toInt := congrArg Int32.toInt ((fx270 717 (by decide)).trans ki2)
    have rk272 : (I265 (gr g a0 0) 715).toInt = i3.toInt := congrArg Int32.toInt ((fx270 715 (by decide)).trans ki3)
    have rk273 : (I265 (gr g a0 0) 716).toInt = i4.toInt := congrArg Int32.toInt ((fx270 716 (by decide)).trans ki4)
    have rk274 : (I265 (gr g a0 0) 722).toInt = i5.toInt := congrArg Int32.toInt ((fx270 722 (by decide)).trans ki5)
    have rk275 : (I265 (gr g a0 0) 718).toInt = i6.toInt := congrArg Int32.toInt ((fx270 718 (by decide)).trans ki6)
    have rk276 : (I265 (gr g a0 0) 719).toInt = i7.toInt := congrArg Int32.toInt ((fx270 719 (by decide)).trans ki7)
    exact r_PMz C M hr hlk F rfl (by omega) (by omega) ⟨rfl, ⟨by omega, by omega, (by simp only [ci2, ci3, ci4, ci5, ci6, ci7, rk271, rk272, rk273, rk274, rk275, rk276]; first | assumption | exact g0 | exact p268.2.2), (im_fr M.2.2.2.2.2.1 h0_ G267 (by decide) g1)⟩⟩ dX11_does_177
  by_cases q277 : x1.toInt = 10
  ·
    refine n_tabk (off := 177) (tgt := 178) C 10 dX11_does_1 q277 (by decide) (by decide) (by decide) (by decide) ?_
    refine lv_aload_n C.1 C.2.1 dX11_does_178 rfl (lv_at hl 0 rfl) ?_
    refine lv_iload_n C.1 C.2.1 dX11_does_179 rfl (lv_at hl 2 rfl) ?_
    have em278 : (I (gr g a0 0) 717).toInt = i2.toInt := congrArg Int32.toInt ki2
    have em279 : (I (gr g a0 0) 715).toInt = i3.toInt := congrArg Int32.toInt ki3
    have em280 : (I (gr g a0 0) 716).toInt = i4.toInt := congrArg Int32.toInt ki4
    have em281 : (I (gr g a0 0) 722).toInt = i5.toInt := congrArg Int32.toInt ki5
    have em282 : (I (gr g a0 0) 718).toInt = i6.toInt := congrArg Int32.toInt ki6
    have em283 : (I (gr g a0 0) 719).toInt = i7.toInt := congrArg Int32.toInt ki7
    refine k_PM C M h0_ (by decide) rfl (ct_X11_image l g I J a0 x2 h0_ (by simp only [em278, em279, em280, em281, em282, em283]; first | assumption | omega) g1) (cw_X11_297 C.2.2.2.2 (by decide)) rfl hl.1 rfl (Nat.le_of_ble_eq_true rfl) dX11_does_180 ⟨Nat.le_refl _, Nat.le_refl _⟩ (fun r288 I284 J285 H locs G286 p287r M => ?_)
    obtain ⟨eJ285, p287⟩ : J285 = J ∧ (0 ≤ r288.toInt ∧ r288.toInt ≤ 1 ∧ (r288.toInt = 1 ↔ 0 ≤ x2.toInt ∧ x2.toInt ≤ 1) ∧ IM g I284 a0) := p287r
    have eJ285 := eJ285.symm
    subst eJ285
    have F := fr_call F G286 (by decide)
    have rk289 : (I284 (gr g a0 0) 717).toInt = i2.toInt := congrArg Int32.toInt ((G286 (gr g a0 0) 28 717 h1 (by decide) (by decide)).trans ki2)
    have rk290 : (I284 (gr g a0 0) 715).toInt = i3.toInt := congrArg Int32.toInt ((G286 (gr g a0 0) 28 715 h1 (by decide) (by decide)).trans ki3)
    have rk291 : (I284 (gr g a0 0) 716).toInt = i4.toInt := congrArg Int32.toInt ((G286 (gr g a0 0) 28 716 h1 (by decide) (by decide)).trans ki4)
    have rk292 : (I284 (gr g a0 0) 722).toInt = i5.toInt := congrArg Int32.toInt ((G286 (gr g a0 0) 28 722 h1 (by decide) (by decide)).trans ki5)
    have rk293 : (I284 (gr g a0 0) 718).toInt = i6.toInt := congrArg Int32.toInt ((G286 (gr g a0 0) 28 718 h1 (by decide) (by decide)).trans ki6)
    have rk294 : (I284 (gr g a0 0) 719).toInt = i7.toInt := congrArg Int32.toInt ((G286 (gr g a0 0) 28 719 h1 (by decide) (by decide)).trans ki7)
    exact r_PMz C M hr hlk F rfl (by omega) (by omega) ⟨rfl, ⟨by omega, by omega, (by simp only [ci2, ci3, ci4, ci5, ci6, ci7, rk289, rk290, rk291, rk292, rk293, rk294]; first | assumption | exact g0 | exact p287.2.2), p287.2.2.2⟩⟩ dX11_does_183
  refine n_tabo (tgt := 184) C dX11_does_1 rfl (by omega) (by decide) ?_
  refine lv_aload_n C.1 C.2.1 dX11_does_184 rfl (lv_at hl 0 rfl) ?_
  refine lv_iload_n C.1 C.2.1 dX11_does_185 rfl (lv_at hl 2 rfl) ?_
  have em295 : (I (gr g a0 0) 717).toInt = i2.toInt := congrArg Int32.toInt ki2
  have em296 : (I (gr g a0 0) 715).toInt = i3.toInt := congrArg Int32.toInt ki3
  have em297 : (I (gr g a0 0) 716).toInt = i4.toInt := congrArg Int32.toInt ki4
  have em298 : (I (gr g a0 0) 722).toInt = i5.toInt := congrArg Int32.toInt ki5
  have em299 : (I (gr g a0 0) 718).toInt = i6.toInt := congrArg Int32.toInt ki6
  have em300 : (I (gr g a0 0) 719).toInt = i7.toInt := congrArg Int32.toInt ki7
  refine k_PM C M h0_ (by decide) rfl (ct_X11_back l g I J a0 x2 h0_ (by simp only [em295, em296, em297, em298, em299, em300]; first | assumption | omega) g1) (cw_X11_299 C.2.2.2.2 (by decide)) rfl hl.1 rfl (Nat.le_of_ble_eq_true rfl) dX11_does_186 ⟨Nat.le_refl _, Nat.le_refl _⟩ (fun r305 I301 J302 H locs G303 p304r M => ?_)
  obtain ⟨eJ302, p304⟩ : J302 = J ∧ (0 ≤ r305.toInt ∧ r305.toInt ≤ 1 ∧ jm (I301 (gr g a0 0) 717).toInt (I301 (gr g a0 0) 715).toInt (I301 (gr g a0 0) 716).toInt (I301 (gr g a0 0) 722).toInt (I301 (gr g a0 0) 718).toInt (I301 (gr g a0 0) 719).toInt) := p304r
  have eJ302 := eJ302.symm
  subst eJ302
  obtain ⟨u306, ku306⟩ : ∃ z : Int32, I301 (gr g a0 0) 717 = z := ⟨_, rfl⟩
  have tu306 : 0 ≤ u306.toInt ∧ u306.toInt ≤ 1 := m_rng M h1 717 ku306 rfl
  have em307 : (I301 (gr g a0 0) 717).toInt = u306.toInt := congrArg Int32.toInt ku306
  obtain ⟨u308, ku308⟩ : ∃ z : Int32, I301 (gr g a0 0) 715 = z := ⟨_, rfl⟩
  have tu308 : 3 ≤ u308.toInt ∧ u308.toInt ≤ 7 := m_rng M h1 715 ku308 rfl
  have em309 : (I301 (gr g a0 0) 715).toInt = u308.toInt := congrArg Int32.toInt ku308
  obtain ⟨u310, ku310⟩ : ∃ z : Int32, I301 (gr g a0 0) 716 = z := ⟨_, rfl⟩
  have tu310 : 4 ≤ u310.toInt ∧ u310.toInt ≤ 40 := m_rng M h1 716 ku310 rfl
  have em311 : (I301 (gr g a0 0) 716).toInt = u310.toInt := congrArg Int32.toInt ku310
  obtain ⟨u312, ku312⟩ : ∃ z : Int32, I301 (gr g a0 0) 722 = z := ⟨_, rfl⟩
  have tu312 : 1 ≤ u312.toInt ∧ u312.toInt ≤ 4 := m_rng M h1 722 ku312 rfl
  have em313 : (I301 (gr g a0 0) 722).toInt = u312.toInt := congrArg Int32.toInt ku312
  obtain ⟨u314, ku314⟩ : ∃ z : Int32, I301 (gr g a0 0) 718 = z := ⟨_, rfl⟩
  have tu314 : 0 ≤ u314.toInt ∧ u314.toInt ≤ 200 := m_rng M h1 718 ku314 rfl
  have em315 : (I301 (gr g a0 0) 718).toInt = u314.toInt := congrArg Int32.toInt ku314
  obtain ⟨u316, ku316⟩ : ∃ z : Int32, I301 (gr g a0 0) 719 = z := ⟨_, rfl⟩
  have tu316 : 0 ≤ u316.toInt ∧ u316.toInt ≤ 200 := m_rng M h1 719 ku316 rfl
  have em317 : (I301 (gr g a0 0) 719).toInt = u316.toInt := congrArg Int32.toInt ku316
  simp only [em295, em296, em297, em298, em299, em300, em307, em309, em311, em313, em315, em317] at p304
  have F := fr_call F G303 (by decide)
  have rk318 : (I301 (gr g a0 0) 717).toInt = u306.toInt := congrArg Int32.toInt ku306
  have rk319 : (I301 (gr g a0 0) 715).toInt = u308.toInt := congrArg Int32.toInt ku308
  have rk320 : (I301 (gr g a0 0) 716).toInt = u310.toInt := congrArg Int32.toInt ku310
  have rk321 : (I301 (gr g a0 0) 722).toInt = u312.toInt := congrArg Int32.toInt ku312
  have rk322 : (I301 (gr g a0 0) 718).toInt = u314.toInt := congrArg Int32.toInt ku314
  have rk323 : (I301 (gr g a0 0) 719).toInt = u316.toInt := congrArg Int32.toInt ku316
  exact r_PMz C M hr hlk F rfl (by omega) (by omega) ⟨rfl, ⟨by omega, by omega, (by simp only [ci2, ci3, ci4, ci5, ci6, ci7, rk318, rk319, rk320, rk321, rk322, rk323]; first | assumption | exact g0 | exact p304.2.2), (im_fr M.2.2.2.2.2.1 h0_ G303 (by decide) g1)⟩⟩ dX11_does_189
