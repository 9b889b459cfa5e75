abbrev md_X11_readsBlock : List (Nat × Nat) := [(9, 11), (9, 12)]
set_option maxHeartbeats 4000000 in
set_option maxRecDepth 100000 in
theorem ct_X11_readsBlock (l : Launch) (g : Gs) (I : Ms) (J : Js) (a0 : Nat) (x1 : Int32) (h0_ : Is g a0 9) (g0 : jm (I (gr g a0 0) 717).toInt (I (gr g a0 0) 715).toInt (I (gr g a0 0) 716).toInt (I (gr g a0 0) 722).toInt (I (gr g a0 0) 718).toInt (I (gr g a0 0) 719).toInt) (g1 : 0 ≤ x1.toInt) (g2 : x1.toInt ≤ 300) : Ctr l yX11_readsBlock cX11_readsBlock 3 (Option.some Jvm.ClassFile.FieldType.boolean) 6 g [.ref a0, .int x1] I J (PM g md_X11_readsBlock I (fun z I1 J1 => J1 = J ∧ (0 ≤ z ∧ z ≤ 1))) := by
  refine m_start (by decide) (Nat.le_of_ble_eq_true rfl) ?_
  intro p e s m args below meth c C hr hlk M ls hl
  have hl : lv_has ls 3 [(0, .ref a0), (1, .int x1)] := hl
  have C : CallFix p m c cX11_readsBlock 3 s args TB RX11 := C
  have F : Fr g md_X11_readsBlock I I := fr_rf
  have h1 := is_ref M h0_ 0 28 rfl rfl
  obtain ⟨i2, ki2⟩ : ∃ z : Int32, I (gr g a0 0) 717 = z := ⟨_, rfl⟩
  have ti2 : 0 ≤ i2.toInt ∧ i2.toInt ≤ 1 := m_rng M h1 717 ki2 rfl
  have ci2 : (I (gr g a0 0) 717).toInt = i2.toInt := congrArg Int32.toInt ki2
  obtain ⟨i3, ki3⟩ : ∃ z : Int32, I (gr g a0 0) 715 = z := ⟨_, rfl⟩
  have ti3 : 3 ≤ i3.toInt ∧ i3.toInt ≤ 7 := m_rng M h1 715 ki3 rfl
  have ci3 : (I (gr g a0 0) 715).toInt = i3.toInt := congrArg Int32.toInt ki3
  obtain ⟨i4, ki4⟩ : ∃ z : Int32, I (gr g a0 0) 716 = z := ⟨_, rfl⟩
  have ti4 : 4 ≤ i4.toInt ∧ i4.toInt ≤ 40 := m_rng M h1 716 ki4 rfl
  have ci4 : (I (gr g a0 0) 716).toInt = i4.toInt := congrArg Int32.toInt ki4
  obtain ⟨i5, ki5⟩ : ∃ z : Int32, I (gr g a0 0) 722 = z := ⟨_, rfl⟩
  have ti5 : 1 ≤ i5.toInt ∧ i5.toInt ≤ 4 := m_rng M h1 722 ki5 rfl
  have ci5 : (I (gr g a0 0) 722).toInt = i5.toInt := congrArg Int32.toInt ki5
  obtain ⟨i6, ki6⟩ : ∃ z : Int32, I (gr g a0 0) 718 = z := ⟨_, rfl⟩
  have ti6 : 0 ≤ i6.toInt ∧ i6.toInt ≤ 200 := m_rng M h1 718 ki6 rfl
  have ci6 : (I (gr g a0 0) 718).toInt = i6.toInt := congrArg Int32.toInt ki6
  obtain ⟨i7, ki7⟩ : ∃ z : Int32, I (gr g a0 0) 719 = z := ⟨_, rfl⟩
  have ti7 : 0 ≤ i7.toInt ∧ i7.toInt ≤ 200 := m_rng M h1 719 ki7 rfl
  have ci7 : (I (gr g a0 0) 719).toInt = i7.toInt := congrArg Int32.toInt ki7
  simp only [ci2, ci3, ci4, ci5, ci6, ci7] at g0
  have hj6 : i2.toInt = 1 → i3.toInt ≤ 6 := fun q => (g0 q).1
  refine lv_aload_n C.1 C.2.1 dX11_readsBlock_0 rfl (lv_at hl 0 rfl) ?_
  refine lv_iload_n C.1 C.2.1 dX11_readsBlock_1 rfl (lv_at hl 1 rfl) ?_
  have em8 : (I (gr g a0 0) 717).toInt = i2.toInt := congrArg Int32.toInt ki2
  have em9 : (I (gr g a0 0) 715).toInt = i3.toInt := congrArg Int32.toInt ki3
  have em10 : (I (gr g a0 0) 716).toInt = i4.toInt := congrArg Int32.toInt ki4
  have em11 : (I (gr g a0 0) 722).toInt = i5.toInt := congrArg Int32.toInt ki5
  have em12 : (I (gr g a0 0) 718).toInt = i6.toInt := congrArg Int32.toInt ki6
  have em13 : (I (gr g a0 0) 719).toInt = i7.toInt := congrArg Int32.toInt ki7
  refine k_PI C M h0_ (by decide) rfl (ct_X11_isInBatch l g I J a0 x1 h0_ (by simp only [em8, em9, em10, em11, em12, em13]; first | assumption | omega)) (cw_X11_129 C.2.2.2.2 (by decide)) rfl hl.1 rfl (Nat.le_of_ble_eq_true rfl) dX11_readsBlock_2 ⟨Nat.le_refl _, Nat.le_refl _⟩ (fun r14 H locs p15r M => ?_)
  have p15 : 0 ≤ r14.toInt ∧ r14.toInt ≤ 1 ∧ (r14.toInt = 1 → (I (gr g a0 0) 717).toInt = 1 ∧ 0 < (I (gr g a0 0) 719).toInt ∧ (I (gr g a0 0) 718).toInt * (I (gr g a0 0) 715).toInt ≤ x1.toInt ∧ x1.toInt < (I (gr g a0 0) 718).toInt * (I (gr g a0 0) 715).toInt + mRd (I (gr g a0 0) 716).toInt (I (gr g a0 0) 715).toInt (I (gr g a0 0) 722).toInt (I (gr g a0 0) 718).toInt) := p15r
  simp only [em8, em9, em10, em11, em12, em13] at p15
  have p15 : 0 ≤ r14.toInt ∧ r14.toInt ≤ 1 ∧ (r14.toInt = 1 → i2.toInt = 1 ∧ 0 < i7.toInt ∧ i6.toInt * i3.toInt ≤ x1.toInt ∧ x1.toInt < i6.toInt * i3.toInt + mRd i4.toInt i3.toInt i5.toInt i6.toInt) := p15
  have J54 : ∀ (H : Heap) (locs : List Loc) (ls : Array Slot), Mm g s I J H locs → lv_has ls 3 [(0, .ref a0), (1, .int x1)] → W p l e (rmL 6) s m args below meth c H locs 0 0 (MQg below g (PM g md_X11_readsBlock I (fun z I1 J1 => J1 = J ∧ (0 ≤ z ∧ z ≤ 1))) args s) (F0 m 54 ls []) := by
    intro H locs ls M hl
    refine lv_aload_n C.1 C.2.1 dX11_readsBlock_54 rfl (lv_at hl 0 rfl) ?_
    refine lv_iload_n C.1 C.2.1 dX11_readsBlock_55 rfl (lv_at hl 1 rfl) ?_
    have em16 : (I (gr g a0 0) 717).toInt = i2.toInt := congrArg Int32.toInt ki2
    have em17 : (I (gr g a0 0) 715).toInt = i3.toInt := congrArg Int32.toInt ki3
    have em18 : (I (gr g a0 0) 718).toInt = i6.toInt := congrArg Int32.toInt ki6
    refine k_PI C M h0_ (by decide) rfl (ct_X11_layoutOf l g I J a0 x1 h0_) (cw_X11_135 C.2.2.2.2 (by decide)) rfl hl.1 rfl (Nat.le_of_ble_eq_true rfl) dX11_readsBlock_56 ⟨Nat.le_refl _, Nat.le_refl _⟩ (fun r19 H locs p20r M => ?_)
    have p20 : r19.toInt = (I (gr g a0 0) 715).toInt ∨ (r19.toInt = (I (gr g a0 0) 715).toInt + 1 ∧ (I (gr g a0 0) 717).toInt = 1) := p20r
    simp only [em16, em17, em18] at p20
    have p20 : r19.toInt = i3.toInt ∨ (r19.toInt = i3.toInt + 1 ∧ i2.toInt = 1) := p20
    refine lv_istore_n (lv' := [(2, .int r19), (0, .ref a0), (1, .int x1)]) C.1 C.2.1 dX11_readsBlock_59 rfl hl (by decide) rfl (fun ls hl => ?_)
    refine lv_aload_n C.1 C.2.1 dX11_readsBlock_60 rfl (lv_at hl 1 rfl) ?_
    refine lv_iload_n C.1 C.2.1 dX11_readsBlock_61 rfl (lv_at hl 0 rfl) ?_
    refine lv_iload_n C.1 C.2.1 dX11_readsBlock_62 rfl (lv_at hl 0 rfl) ?_
    refine lv_iload_n C.1 C.2.1 dX11_readsBlock_63 rfl (lv_at hl 2 rfl) ?_
    refine ks_PI C M (ct_X11_diskOf l g I J r19 x1 (by omega) (by omega) (by omega) (by omega)) (cw_X11_91 C.2.2.2.2 (by decide)) rfl hl.1 rfl (Nat.le_of_ble_eq_true rfl) dX11_readsBlock_64 ⟨Nat.le_refl _, Nat.le_refl _⟩ (fun r21 H locs p22r M => ?_)
    have p22 : 0 ≤ r21.toInt ∧ r21.toInt ≤ r19.toInt - 1 := p22r
    refine lv_iload_n C.1 C.2.1 dX11_readsBlock_67 rfl (lv_at hl 0 rfl) ?_
    refine lv_iload_n C.1 C.2.1 dX11_readsBlock_68 rfl (lv_at hl 2 rfl) ?_
    refine ks_PI C M (ct_X11_rowOf l g I J r19 x1 (by omega) (by omega) (by omega) (by omega)) (cw_X11_94 C.2.2.2.2 (by decide)) rfl hl.1 rfl (Nat.le_of_ble_eq_true rfl) dX11_readsBlock_69 ⟨Nat.le_refl _, Nat.le_refl _⟩ (fun r23 H locs p24r M => ?_)
    have p24 : r23.toInt = x1.toInt / (r19.toInt - 1) ∧ 0 ≤ r23.toInt ∧ 2 * r23.toInt ≤ x1.toInt := p24r
    refine k_PM C M h0_ (by decide) rfl (ct_X11_reads l g I J a0 r19 r21 r23 h0_ (by omega) (by omega) (by omega) (by omega) (by omega) (by omega)) (cw_X11_97 C.2.2.2.2 (by decide)) rfl hl.1 rfl (Nat.le_of_ble_eq_true rfl) dX11_readsBlock_72 ⟨Nat.le_refl _, Nat.le_refl _⟩ (fun r29 I25 J26 H locs G27 p28r M => ?_)
    obtain ⟨eJ26, p28⟩ : J26 = J ∧ (0 ≤ r29.toInt ∧ r29.toInt ≤ 1) := p28r
    have eJ26 := eJ26.symm
    subst eJ26
    have F := fr_call F G27 (by decide)
    exact r_PMz C M hr hlk F rfl (by omega) (by omega) ⟨rfl, (by omega)⟩ dX11_readsBlock_75
  refine n_if_eq C (tgt := 54) dX11_readsBlock_5 (by decide) rfl (fun q30 => ?_) (fun q30 => ?_)
  ·
    exact J54 _ _ _ M hl
  ·
    refine lv_aload_n C.1 C.2.1 dX11_readsBlock_8 rfl (lv_at hl 0 rfl) ?_
    have em31 : (I (gr g a0 0) 717).toInt = i2.toInt := congrArg Int32.toInt ki2
    have em32 : (I (gr g a0 0) 715).toInt = i3.toInt := congrArg Int32.toInt ki3
    have em33 : (I (gr g a0 0) 716).toInt = i4.toInt := congrArg Int32.toInt ki4
    have em34 : (I (gr g a0 0) 722).toInt = i5.toInt := congrArg Int32.toInt ki5
    have em35 : (I (gr g a0 0) 718).toInt = i6.toInt := congrArg Int32.toInt ki6
    have em36 : (I (gr g a0 0) 719).toInt = i7.toInt := congrArg Int32.toInt ki7
    refine k_PI C M h0_ (by decide) rfl (ct_X11_isAllRead l g I J a0 h0_ (by simp only [em31, em32, em33, em34, em35, em36]; first | assumption | omega) (by simp only [em31, em32, em33, em34, em35, em36]; first | assumption | omega)) (cw_X11_132 C.2.2.2.2 (by decide)) rfl hl.1 rfl (Nat.le_of_ble_eq_true rfl) dX11_readsBlock_9 ⟨Nat.le_refl _, Nat.le_refl _⟩ (fun r37 H locs p38r M => ?_)
    have p38 : 0 ≤ r37.toInt ∧ r37.toInt ≤ 1 := p38r
    refine n_if_eq C (tgt := 54) dX11_readsBlock_12 (by decide) rfl (fun q39 => ?_) (fun q39 => ?_)
    ·
      exact J54 _ _ _ M hl
    ·
      have hj := g0 (by omega)
      have hrc := mRd_c (R := i4.toInt) (N := i3.toInt) (S := i5.toInt) (b := i6.toInt) (by omega) (by omega) (by omega) (by omega) (by omega) (by omega) (by omega)
      refine lv_aload_n C.1 C.2.1 dX11_readsBlock_15 rfl (lv_at hl 0 rfl) ?_
      refine lv_aload_n C.1 C.2.1 dX11_readsBlock_16 rfl (lv_at hl 0 rfl) ?_
      refine gi_X11_7 C M h0_ dX11_readsBlock_17 (fun h40 => ?_)
      refine lv_sipush (v := 560) C.1 C.2.1 dX11_readsBlock_20 (by decide) ?_
      refine lv_iload_n C.1 C.2.1 dX11_readsBlock_23 rfl (lv_at hl 1 rfl) ?_
      refine n_iadd C (X := 560) dX11_readsBlock_24 rfl rfl (by omega) (by omega) (fun v41 ev41 => ?_)
      refine lv_aload_n C.1 C.2.1 dX11_readsBlock_25 rfl (lv_at hl 0 rfl) ?_
      refine gi_X11_7 C M h0_ dX11_readsBlock_26 (fun h42 => ?_)
      refine lv_sipush (v := 718) C.1 C.2.1 dX11_readsBlock_29 (by decide) ?_
      refine a_ldK C M (X := 718) (j := 718) h1 (n := 729) rfl rfl rfl (by omega) (by omega) rfl ki6 dX11_readsBlock_32 ?_
      refine lv_aload_n C.1 C.2.1 dX11_readsBlock_33 rfl (lv_at hl 0 rfl) ?_
      refine gi_X11_7 C M h0_ dX11_readsBlock_34 (fun h43 => ?_)
      refine lv_sipush (v := 715) C.1 C.2.1 dX11_readsBlock_37 (by decide) ?_
      refine a_ldK C M (X := 715) (j := 715) h1 (n := 729) rfl rfl rfl (by omega) (by omega) rfl ki3 dX11_readsBlock_40 ?_
      have bp45 := i_prod (x := i6.toInt) (y := i3.toInt) (A := 200) (B := 7) (by omega) (by omega) (by omega) (by omega)
      refine n_imul C dX11_readsBlock_41 rfl rfl (by omega) (by omega) (fun v44 ev44 => ?_)
      refine n_isub C dX11_readsBlock_42 rfl rfl (by omega) (by omega) (fun v46 ev46 => ?_)
      refine a_ld C M h1 (n := 729) rfl rfl rfl (by omega) (by omega) rfl dX11_readsBlock_43 (fun v47 kv47 => ?_)
      refine pi_X11_53 C M h0_ dX11_readsBlock_44 (fun H locs I48 k50 f49 M => ?_)
      have F := fr_put F h0_ (Or.inr (by decide)) f49
      refine lv_aload_n C.1 C.2.1 dX11_readsBlock_47 rfl (lv_at hl 0 rfl) ?_
      refine lv_iconst (v := 0) C.1 C.2.1 dX11_readsBlock_48 (by decide) ?_
      refine pi_X11_56 C M h0_ dX11_readsBlock_49 (fun H locs I51 k53 f52 M => ?_)
      have F := fr_put F h0_ (Or.inr (by decide)) f52
      refine lv_iconst (v := 1) C.1 C.2.1 dX11_readsBlock_52 (by decide) ?_
      exact r_PMz C M (z := 1) hr hlk F rfl (by omega) (by omega) ⟨rfl, (by omega)⟩ dX11_readsBlock_53

abbrev md_X11_writesBlock : List (Nat × Nat) := [(9, 11), (9, 12), (28, 0)]
set_option maxHeartbeats 4000000 in
set_option maxRecDepth 100000 in
theorem ct_X11_writesBlock (l : Launch) (g : Gs) (I : Ms) (J : Js) (a0 : Nat) (x1 : Int32) (x2 : Int32) (h0_ : Is g a0 9) (g0 : jm (I (gr g a0 0) 717).toInt (I (gr g a0 0) 715).toInt (I (gr g a0 0) 716).toInt (I (gr g a0 0) 722).toInt (I (gr g a0 0) 718).toInt (I (gr g a0 0) 719).toInt) (g1 : 0 ≤ x1.toInt) (g2 : x1.toInt ≤ 300) : Ctr l yX11_writesBlock cX11_writesBlock 9 (Option.some Jvm.ClassFile.FieldType.int) 6 g [.ref a0, .int x1, .int x2] I J (PM g md_X11_writesBlock I (fun z I1 J1 => J1 = J ∧ ((True) ∧ (∀ j, 715 ≤ j → I1 (gr g a0 0) j = I (gr g a0 0) j)))) := by
  refine m_start (by decide) (Nat.le_of_ble_eq_true rfl) ?_
  intro p e s m args below meth c C hr hlk M ls hl
  have hl : lv_has ls 9 [(0, .ref a0), (1, .int x1), (2, .int x2)] := hl
  have C : CallFix p m c cX11_writesBlock 9 s args TB RX11 := C
  have F : Fr g md_X11_writesBlock I I := fr_rf
  have hS0 := is_ref M h0_ 0 28 rfl rfl
  have Hi : ∀ j, 715 ≤ j → I (gr g a0 0) j = I (gr g a0 0) j := by intros; rfl
  have h1 := is_ref M h0_ 0 28 rfl rfl
  obtain ⟨i2, ki2⟩ : ∃ z : Int32, I (gr g a0 0) 717 = z := ⟨_, rfl⟩
  have ti2 : 0 ≤ i2.toInt ∧ i2.toInt ≤ 1 := m_rng M h1 717 ki2 rfl
  have ci2 : (I (gr g a0 0) 717).toInt = i2.toInt := congrArg Int32.toInt ki2
  obtain ⟨i3, ki3⟩ : ∃ z : Int32, I (gr g a0 0) 715 = z := ⟨_, rfl⟩
  have ti3 : 3 ≤ i3.toInt ∧ i3.toInt ≤ 7 := m_rng M h1 715 ki3 rfl
  have ci3 : (I (gr g a0 0) 715).toInt = i3.toInt := congrArg Int32.toInt ki3
  obtain ⟨i4, ki4⟩ : ∃ z : Int32, I (gr g a0 0) 716 = z := ⟨_, rfl⟩
  have ti4 : 4 ≤ i4.toInt ∧ i4.toInt ≤ 40 := m_rng M h1 716 ki4 rfl
  have ci4 : (I (gr g a0 0) 716).toInt = i4.toInt := congrArg Int32.toInt ki4
  obtain ⟨i5, ki5⟩ : ∃ z : Int32, I (gr g a0 0) 722 = z := ⟨_, rfl⟩
  have ti5 : 1 ≤ i5.toInt ∧ i5.toInt ≤ 4 := m_rng M h1 722 ki5 rfl
  have ci5 : (I (gr g a0 0) 722).toInt = i5.toInt := congrArg Int32.toInt ki5
  obtain ⟨i6, ki6⟩ : ∃ z : Int32, I (gr g a0 0) 718 = z := ⟨_, rfl⟩
  have ti6 : 0 ≤ i6.toInt ∧ i6.toInt ≤ 200 := m_rng M h1 718 ki6 rfl
  have ci6 : (I (gr g a0 0) 718).toInt = i6.toInt := congrArg Int32.toInt ki6
  obtain ⟨i7, ki7⟩ : ∃ z : Int32, I (gr g a0 0) 719 = z := ⟨_, rfl⟩
  have ti7 : 0 ≤ i7.toInt ∧ i7.toInt ≤ 200 := m_rng M h1 719 ki7 rfl
  have ci7 : (I (gr g a0 0) 719).toInt = i7.toInt := congrArg Int32.toInt ki7
  simp only [ci2, ci3, ci4, ci5, ci6, ci7] at g0
  have hj6 : i2.toInt = 1 → i3.toInt ≤ 6 := fun q => (g0 q).1
  refine lv_aload_n C.1 C.2.1 dX11_writesBlock_0 rfl (lv_at hl 0 rfl) ?_
  refine lv_iload_n C.1 C.2.1 dX11_writesBlock_1 rfl (lv_at hl 1 rfl) ?_
  have em8 : (I (gr g a0 0) 717).toInt = i2.toInt := congrArg Int32.toInt ki2
  have em9 : (I (gr g a0 0) 715).toInt = i3.toInt := congrArg Int32.toInt ki3
  have em10 : (I (gr g a0 0) 716).toInt = i4.toInt := congrArg Int32.toInt ki4
  have em11 : (I (gr g a0 0) 722).toInt = i5.toInt := congrArg Int32.toInt ki5
  have em12 : (I (gr g a0 0) 718).toInt = i6.toInt := congrArg Int32.toInt ki6
  have em13 : (I (gr g a0 0) 719).toInt = i7.toInt := congrArg Int32.toInt ki7
  refine k_PI C M h0_ (by decide) rfl (ct_X11_isInBatch l g I J a0 x1 h0_ (by simp only [em8, em9, em10, em11, em12, em13]; first | assumption | omega)) (cw_X11_129 C.2.2.2.2 (by decide)) rfl hl.1 rfl (Nat.le_of_ble_eq_true rfl) dX11_writesBlock_2 ⟨Nat.le_refl _, Nat.le_refl _⟩ (fun r14 H locs p15r M => ?_)
  have p15 : 0 ≤ r14.toInt ∧ r14.toInt ≤ 1 ∧ (r14.toInt = 1 → (I (gr g a0 0) 717).toInt = 1 ∧ 0 < (I (gr g a0 0) 719).toInt ∧ (I (gr g a0 0) 718).toInt * (I (gr g a0 0) 715).toInt ≤ x1.toInt ∧ x1.toInt < (I (gr g a0 0) 718).toInt * (I (gr g a0 0) 715).toInt + mRd (I (gr g a0 0) 716).toInt (I (gr g a0 0) 715).toInt (I (gr g a0 0) 722).toInt (I (gr g a0 0) 718).toInt) := p15r
  simp only [em8, em9, em10, em11, em12, em13] at p15
  have p15 : 0 ≤ r14.toInt ∧ r14.toInt ≤ 1 ∧ (r14.toInt = 1 → i2.toInt = 1 ∧ 0 < i7.toInt ∧ i6.toInt * i3.toInt ≤ x1.toInt ∧ x1.toInt < i6.toInt * i3.toInt + mRd i4.toInt i3.toInt i5.toInt i6.toInt) := p15
  refine n_if_eq C (tgt := 11) dX11_writesBlock_5 (by decide) rfl (fun q16 => ?_) (fun q16 => ?_)
  ·
    refine lv_aload_n C.1 C.2.1 dX11_writesBlock_11 rfl (lv_at hl 0 rfl) ?_
    refine lv_iload_n C.1 C.2.1 dX11_writesBlock_12 rfl (lv_at hl 1 rfl) ?_
    have em17 : (I (gr g a0 0) 717).toInt = i2.toInt := congrArg Int32.toInt ki2
    have em18 : (I (gr g a0 0) 715).toInt = i3.toInt := congrArg Int32.toInt ki3
    have em19 : (I (gr g a0 0) 718).toInt = i6.toInt := congrArg Int32.toInt ki6
    refine k_PI C M h0_ (by decide) rfl (ct_X11_layoutOf l g I J a0 x1 h0_) (cw_X11_135 C.2.2.2.2 (by decide)) rfl hl.1 rfl (Nat.le_of_ble_eq_true rfl) dX11_writesBlock_13 ⟨Nat.le_refl _, Nat.le_refl _⟩ (fun r20 H locs p21r M => ?_)
    have p21 : r20.toInt = (I (gr g a0 0) 715).toInt ∨ (r20.toInt = (I (gr g a0 0) 715).toInt + 1 ∧ (I (gr g a0 0) 717).toInt = 1) := p21r
    simp only [em17, em18, em19] at p21
    have p21 : r20.toInt = i3.toInt ∨ (r20.toInt = i3.toInt + 1 ∧ i2.toInt = 1) := p21
    refine lv_istore_n (lv' := [(3, .int r20), (0, .ref a0), (1, .int x1), (2, .int x2)]) C.1 C.2.1 dX11_writesBlock_16 rfl hl (by decide) rfl (fun ls hl => ?_)
    refine lv_iload_n C.1 C.2.1 dX11_writesBlock_17 rfl (lv_at hl 0 rfl) ?_
    refine lv_iload_n C.1 C.2.1 dX11_writesBlock_18 rfl (lv_at hl 2 rfl) ?_
    refine ks_PI C M (ct_X11_rowOf l g I J r20 x1 (by omega) (by omega) (by omega) (by omega)) (cw_X11_94 C.2.2.2.2 (by decide)) rfl hl.1 rfl (Nat.le_of_ble_eq_true rfl) dX11_writesBlock_19 ⟨Nat.le_refl _, Nat.le_refl _⟩ (fun r22 H locs p23r M => ?_)
    have p23 : r22.toInt = x1.toInt / (r20.toInt - 1) ∧ 0 ≤ r22.toInt ∧ 2 * r22.toInt ≤ x1.toInt := p23r
    have hrow : 40 * (r20.toInt - 1) + r22.toInt ≤ 327 := by
      rw [p23.1]
      exact mIdx (by omega) (by omega) (by omega) (by omega)
    refine lv_istore (lv' := [(4, .int r22), (3, .int r20), (0, .ref a0), (1, .int x1), (2, .int x2)]) C.1 C.2.1 dX11_writesBlock_22 hl (by decide) rfl (fun ls hl => ?_)
    refine lv_iload_n C.1 C.2.1 dX11_writesBlock_24 rfl (lv_at hl 1 rfl) ?_
    refine lv_iload_n C.1 C.2.1 dX11_writesBlock_25 rfl (lv_at hl 3 rfl) ?_
    refine ks_PI C M (ct_X11_diskOf l g I J r20 x1 (by omega) (by omega) (by omega) (by omega)) (cw_X11_91 C.2.2.2.2 (by decide)) rfl hl.1 rfl (Nat.le_of_ble_eq_true rfl) dX11_writesBlock_26 ⟨Nat.le_refl _, Nat.le_refl _⟩ (fun r24 H locs p25r M => ?_)
    have p25 : 0 ≤ r24.toInt ∧ r24.toInt ≤ r20.toInt - 1 := p25r
    refine lv_istore (lv' := [(5, .int r24), (4, .int r22), (3, .int r20), (0, .ref a0), (1, .int x1), (2, .int x2)]) C.1 C.2.1 dX11_writesBlock_29 hl (by decide) rfl (fun ls hl => ?_)
    refine lv_iload_n C.1 C.2.1 dX11_writesBlock_31 rfl (lv_at hl 2 rfl) ?_
    refine lv_iload C.1 C.2.1 dX11_writesBlock_32 (lv_at hl 1 rfl) ?_
    refine ks_PI C M (ct_X11_parityOf l g I J r20 r22 (by omega) (by omega) (by omega)) (cw_X11_46 C.2.2.2.2 (by decide)) rfl hl.1 rfl (Nat.le_of_ble_eq_true rfl) dX11_writesBlock_34 ⟨Nat.le_refl _, Nat.le_refl _⟩ (fun r26 H locs p27r M => ?_)
    have p27 : 0 ≤ r26.toInt ∧ r26.toInt ≤ r20.toInt - 1 := p27r
    refine lv_istore (lv' := [(6, .int r26), (5, .int r24), (4, .int r22), (3, .int r20), (0, .ref a0), (1, .int x1), (2, .int x2)]) C.1 C.2.1 dX11_writesBlock_37 hl (by decide) rfl (fun ls hl => ?_)
    refine lv_iload_n C.1 C.2.1 dX11_writesBlock_39 rfl (lv_at hl 6 rfl) ?_
    refine lv_istore (lv' := [(7, .int x2), (6, .int r26), (5, .int r24), (4, .int r22), (3, .int r20), (0, .ref a0), (1, .int x1), (2, .int x2)]) C.1 C.2.1 dX11_writesBlock_40 hl (by decide) rfl (fun ls hl => ?_)
    refine lv_iconst (v := 0) C.1 C.2.1 dX11_writesBlock_42 (by decide) ?_
    refine lv_istore (lv' := [(8, .int 0), (7, .int x2), (6, .int r26), (5, .int r24), (4, .int r22), (3, .int r20), (0, .ref a0), (1, .int x1), (2, .int x2)]) C.1 C.2.1 dX11_writesBlock_43 hl (by decide) rfl (fun ls hl => ?_)
    have L45 : ∀ (n45 : Nat) (y28 : Int32) (y29 : Int32) (I30 : Ms) (H : Heap) (locs : List Loc) (ls : Array Slot), I30 (gr g a0 0) 719 = i7 → I30 (gr g a0 0) 718 = i6 → I30 (gr g a0 0) 722 = i5 → I30 (gr g a0 0) 716 = i4 → I30 (gr g a0 0) 715 = i3 → I30 (gr g a0 0) 717 = i2 → 0 ≤ y29.toInt → y29.toInt ≤ 8 → 8 - y29.toInt < (n45 : Int) → Fr g md_X11_writesBlock I I30 → (∀ j, 715 ≤ j → I30 (gr g a0 0) j = I (gr g a0 0) j) → Mm g s I30 J H locs → lv_has ls 9 [(0, .ref a0), (2, .int x2), (3, .int r20), (4, .int r22), (5, .int r24), (6, .int r26), (7, .int y28), (8, .int y29)] → W p l e (rmL 6) s m args below meth c H locs 0 0 (MQg below g (PM g md_X11_writesBlock I (fun z I1 J1 => J1 = J ∧ ((True) ∧ (∀ j, 715 ≤ j → I1 (gr g a0 0) j = I (gr g a0 0) j)))) args s) (F0 m 45 ls []) := by
      intro n45
      induction n45 with
      | zero =>
        intro y28 y29 I30 H locs ls k31 k32 k33 k34 k35 k36 f37 f38 hm45 F Hi M hl
        exact absurd hm45 (by omega)
      | succ n45 ih45 =>
        intro y28 y29 I30 H locs ls k31 k32 k33 k34 k35 k36 f37 f38 hm45 F Hi M hl
        refine lv_iload C.1 C.2.1 dX11_writesBlock_45 (lv_at hl 7 rfl) ?_
        refine lv_iload_n C.1 C.2.1 dX11_writesBlock_47 rfl (lv_at hl 2 rfl) ?_
        refine n_icmp_ge C (tgt := 97) dX11_writesBlock_48 (by decide) rfl rfl (fun q39 => ?_) (fun q39 => ?_)
        ·
          refine lv_aload_n C.1 C.2.1 dX11_writesBlock_97 rfl (lv_at hl 0 rfl) ?_
          refine lv_iload C.1 C.2.1 dX11_writesBlock_98 (lv_at hl 4 rfl) ?_
          refine lv_iload C.1 C.2.1 dX11_writesBlock_100 (lv_at hl 3 rfl) ?_
          refine lv_iload_n C.1 C.2.1 dX11_writesBlock_102 rfl (lv_at hl 1 rfl) ?_
          refine k_PV C M h0_ (by decide) rfl (ct_X11_lays l g I30 J a0 r24 r22 x2 h0_ (by omega) (by omega) (by omega) (by omega) (by omega)) (cw_X11_110 C.2.2.2.2 (by decide)) rfl hl.1 rfl (Nat.le_of_ble_eq_true rfl) dX11_writesBlock_103 ⟨Nat.le_refl _, Nat.le_refl _⟩ (fun I40 J41 H locs G42 p43r M => ?_)
          obtain ⟨eJ41, ⟨p43, fx44⟩⟩ : J41 = J ∧ ((True) ∧ (∀ j, 715 ≤ j → I40 (gr g a0 0) j = I30 (gr g a0 0) j)) := p43r
          have eJ41 := eJ41.symm
          subst eJ41
          have Hi : ∀ j, 715 ≤ j → I40 (gr g a0 0) j = I (gr g a0 0) j := fun j hj => (fx44 j hj).trans (Hi j hj)
          have F := fr_call F G42 (by decide)
          refine lv_aload_n C.1 C.2.1 dX11_writesBlock_106 rfl (lv_at hl 0 rfl) ?_
          refine lv_iload C.1 C.2.1 dX11_writesBlock_107 (lv_at hl 5 rfl) ?_
          refine lv_iload C.1 C.2.1 dX11_writesBlock_109 (lv_at hl 3 rfl) ?_
          refine lv_iload C.1 C.2.1 dX11_writesBlock_111 (lv_at hl 6 rfl) ?_
          refine k_PV C M h0_ (by decide) rfl (ct_X11_lays l g I40 J a0 r26 r22 y28 h0_ (by omega) (by omega) (by omega) (by omega) (by omega)) (cw_X11_110 C.2.2.2.2 (by decide)) rfl hl.1 rfl (Nat.le_of_ble_eq_true rfl) dX11_writesBlock_113 ⟨Nat.le_refl _, Nat.le_refl _⟩ (fun I45 J46 H locs G47 p48r M => ?_)
          obtain ⟨eJ46, ⟨p48, fx49⟩⟩ : J46 = J ∧ ((True) ∧ (∀ j, 715 ≤ j → I45 (gr g a0 0) j = I40 (gr g a0 0) j)) := p48r
          have eJ46 := eJ46.symm
          subst eJ46
          have Hi : ∀ j, 715 ≤ j → I45 (gr g a0 0) j = I (gr g a0 0) j := fun j hj => (fx49 j hj).trans (Hi j hj)
          have F := fr_call F G47 (by decide)
          refine lv_iconst (v := 1) C.1 C.2.1 dX11_writesBlock_116 (by decide) ?_
          exact r_PM C M (z := 1) hr hlk F rfl ⟨rfl, ⟨trivial, Hi⟩⟩ dX11_writesBlock_117
        ·
          refine lv_iload C.1 C.2.1 dX11_writesBlock_51 (lv_at hl 7 rfl) ?_
          refine lv_iload C.1 C.2.1 dX11_writesBlock_53 (lv_at hl 4 rfl) ?_
          refine n_icmp_eq C (tgt := 91) dX11_writesBlock_55 (by decide) rfl rfl (fun q50 => ?_) (fun q50 => ?_)
          ·
            refine n_iinc C (k := 7) (N := 1) (lv' := fun v => [(8, .int v), (0, .ref a0), (2, .int x2), (3, .int r20), (4, .int r22), (5, .int r24), (6, .int r26), (7, .int y28)]) dX11_writesBlock_91 hl rfl (by decide) rfl rfl (by omega) (by omega) (fun _ => rfl) (fun v51 ls ev51 hl => ?_)
            refine lv_goto (tgt := 45) C.1 C.2.1 dX11_writesBlock_94 (by decide) ?_
            exact ih45 y28 v51 I30 _ _ _ k31 k32 k33 k34 k35 k36 (by omega) (by omega) (by omega) F Hi M (lv_sub hl [1, 2, 3, 4, 5, 6, 7, 0] rfl)
          ·
            refine lv_iload C.1 C.2.1 dX11_writesBlock_58 (lv_at hl 7 rfl) ?_
            refine lv_iload C.1 C.2.1 dX11_writesBlock_60 (lv_at hl 5 rfl) ?_
            refine n_icmp_ne C (tgt := 68) dX11_writesBlock_62 (by decide) rfl rfl (fun q52 => ?_) (fun q52 => ?_)
            ·
              refine lv_aload_n C.1 C.2.1 dX11_writesBlock_68 rfl (lv_at hl 0 rfl) ?_
              refine lv_iload_n C.1 C.2.1 dX11_writesBlock_69 rfl (lv_at hl 2 rfl) ?_
              refine lv_iload C.1 C.2.1 dX11_writesBlock_70 (lv_at hl 7 rfl) ?_
              refine lv_iload C.1 C.2.1 dX11_writesBlock_72 (lv_at hl 3 rfl) ?_
              refine k_PM C M h0_ (by decide) rfl (ct_X11_reads l g I30 J a0 r20 y29 r22 h0_ (by omega) (by omega) (by omega) (by omega) (by omega) (by omega)) (cw_X11_97 C.2.2.2.2 (by decide)) rfl hl.1 rfl (Nat.le_of_ble_eq_true rfl) dX11_writesBlock_74 ⟨Nat.le_refl _, Nat.le_refl _⟩ (fun r57 I53 J54 H locs G55 p56r M => ?_)
              obtain ⟨eJ54, p56⟩ : J54 = J ∧ (0 ≤ r57.toInt ∧ r57.toInt ≤ 1) := p56r
              have eJ54 := eJ54.symm
              subst eJ54
              have Hi : ∀ j, 715 ≤ j → I53 (gr g a0 0) j = I (gr g a0 0) j := fun j hj => (G55 (gr g a0 0) 28 j hS0 (by decide) (by simp)).trans (Hi j hj)
              have F := fr_call F G55 (by decide)
              refine n_if_ne C (tgt := 82) dX11_writesBlock_77 (by decide) rfl (fun q58 => ?_) (fun q58 => ?_)
              ·
                refine lv_iload C.1 C.2.1 dX11_writesBlock_82 (lv_at hl 6 rfl) ?_
                refine lv_aload_n C.1 C.2.1 dX11_writesBlock_84 rfl (lv_at hl 0 rfl) ?_
                refine gi_X11_53 C M h0_ dX11_writesBlock_85 (fun v59 kv59 => ?_)
                refine n_ixorU C dX11_writesBlock_88 (fun v60 => ?_)
                refine lv_istore (lv' := [(7, .int v60), (0, .ref a0), (2, .int x2), (3, .int r20), (4, .int r22), (5, .int r24), (6, .int r26), (8, .int y29)]) C.1 C.2.1 dX11_writesBlock_89 hl (by decide) rfl (fun ls hl => ?_)
                refine n_iinc C (k := 7) (N := 1) (lv' := fun v => [(8, .int v), (7, .int v60), (0, .ref a0), (2, .int x2), (3, .int r20), (4, .int r22), (5, .int r24), (6, .int r26)]) dX11_writesBlock_91 hl rfl (by decide) rfl rfl (by omega) (by omega) (fun _ => rfl) (fun v61 ls ev61 hl => ?_)
                refine lv_goto (tgt := 45) C.1 C.2.1 dX11_writesBlock_94 (by decide) ?_
                exact ih45 v60 v61 I53 _ _ _ ((G55 (gr g a0 0) 28 719 h1 (by decide) (by decide)).trans k31) ((G55 (gr g a0 0) 28 718 h1 (by decide) (by decide)).trans k32) ((G55 (gr g a0 0) 28 722 h1 (by decide) (by decide)).trans k33) ((G55 (gr g a0 0) 28 716 h1 (by decide) (by decide)).trans k34) ((G55 (gr g a0 0) 28 715 h1 (by decide) (by decide)).trans k35) ((G55 (gr g a0 0) 28 717 h1 (by decide) (by decide)).trans k36) (by omega) (by omega) (by omega) F Hi M (lv_sub hl [2, 3, 4, 5, 6, 7, 1, 0] rfl)
              ·
                refine lv_iconst (v := 0) C.1 C.2.1 dX11_writesBlock_80 (by decide) ?_
                exact r_PM C M (z := 0) hr hlk F rfl ⟨rfl, ⟨trivial, Hi⟩⟩ dX11_writesBlock_81
            ·
              refine lv_goto (tgt := 91) C.1 C.2.1 dX11_writesBlock_65 (by decide) ?_
              refine n_iinc C (k := 7) (N := 1) (lv' := fun v => [(8, .int v), (0, .ref a0), (2, .int x2), (3, .int r20), (4, .int r22), (5, .int r24), (6, .int r26), (7, .int y28)]) dX11_writesBlock_91 hl rfl (by decide) rfl rfl (by omega) (by omega) (fun _ => rfl) (fun v62 ls ev62 hl => ?_)
              refine lv_goto (tgt := 45) C.1 C.2.1 dX11_writesBlock_94 (by decide) ?_
              exact ih45 y28 v62 I30 _ _ _ k31 k32 k33 k34 k35 k36 (by omega) (by omega) (by omega) F Hi M (lv_sub hl [1, 2, 3, 4, 5, 6, 7, 0] rfl)
    have cz63 : (0 : Int32).toInt = 0 := rfl
    exact L45 _ x2 0 I _ _ _ ki7 ki6 ki5 ki4 ki3 ki2 (by omega) (by omega) (n_big _) F Hi M (lv_sub hl [6, 8, 5, 4, 3, 2, 1, 0] rfl)
  ·
    refine lv_bipush (v := -3) C.1 C.2.1 dX11_writesBlock_8 (by decide) ?_
    exact r_PM C M (z := (-3)) hr hlk F rfl ⟨rfl, ⟨trivial, Hi⟩⟩ dX11_writesBlock_10

abbrev md_X11_canWrite : List (Nat × Nat) := [(9, 11), (9, 12)]
set_option maxHeartbeats 4000000 in
set_option maxRecDepth 100000 in
theorem ct_X11_canWrite (l : Launch) (g : Gs) (I : Ms) (J : Js) (a0 : Nat) (x1 : Int32) (h0_ : Is g a0 9) (g0 : 0 ≤ x1.toInt) (g1 : x1.toInt ≤ 300) : Ctr l yX11_canWrite cX11_canWrite 5 (Option.some Jvm.ClassFile.FieldType.boolean) 4 g [.ref a0, .int x1] I J (PM g md_X11_canWrite I (fun z I1 J1 => J1 = J ∧ (0 ≤ z ∧ z ≤ 1))) := by
  refine m_start (by decide) (Nat.le_of_ble_eq_true rfl) ?_
  intro p e s m args below meth c C hr hlk M ls hl
  have hl : lv_has ls 5 [(0, .ref a0), (1, .int x1)] := hl
  have C : CallFix p m c cX11_canWrite 5 s args TB RX11 := C
  have F : Fr g md_X11_canWrite I I := fr_rf
  refine lv_aload_n C.1 C.2.1 dX11_canWrite_0 rfl (lv_at hl 0 rfl) ?_
  refine lv_iload_n C.1 C.2.1 dX11_canWrite_1 rfl (lv_at hl 1 rfl) ?_
  have h1 := is_ref M h0_ 0 28 rfl rfl
  obtain ⟨u2, ku2⟩ : ∃ z : Int32, I (gr g a0 0) 717 = z := ⟨_, rfl⟩
  have tu2 : 0 ≤ u2.toInt ∧ u2.toInt ≤ 1 := m_rng M h1 717 ku2 rfl
  have em3 : (I (gr g a0 0) 717).toInt = u2.toInt := congrArg Int32.toInt ku2
  obtain ⟨u4, ku4⟩ : ∃ z : Int32, I (gr g a0 0) 715 = z := ⟨_, rfl⟩
  have tu4 : 3 ≤ u4.toInt ∧ u4.toInt ≤ 7 := m_rng M h1 715 ku4 rfl
  have em5 : (I (gr g a0 0) 715).toInt = u4.toInt := congrArg Int32.toInt ku4
  obtain ⟨u6, ku6⟩ : ∃ z : Int32, I (gr g a0 0) 718 = z := ⟨_, rfl⟩
  have tu6 : 0 ≤ u6.toInt ∧ u6.toInt ≤ 200 := m_rng M h1 718 ku6 rfl
  have em7 : (I (gr g a0 0) 718).toInt = u6.toInt := congrArg Int32.toInt ku6
  refine k_PI C M h0_ (by decide) rfl (ct_X11_layoutOf l g I J a0 x1 h0_) (cw_X11_135 C.2.2.2.2 (by decide)) rfl hl.1 rfl (Nat.le_of_ble_eq_true rfl) dX11_canWrite_2 ⟨Nat.le_refl _, Nat.le_refl _⟩ (fun r8 H locs p9r M => ?_)
  have p9 : r8.toInt = (I (gr g a0 0) 715).toInt ∨ (r8.toInt = (I (gr g a0 0) 715).toInt + 1 ∧ (I (gr g a0 0) 717).toInt = 1) := p9r
  simp only [em3, em5, em7] at p9
  have p9 : r8.toInt = u4.toInt ∨ (r8.toInt = u4.toInt + 1 ∧ u2.toInt = 1) := p9
  refine lv_istore_n (lv' := [(2, .int r8), (0, .ref a0), (1, .int x1)]) C.1 C.2.1 dX11_canWrite_5 rfl hl (by decide) rfl (fun ls hl => ?_)
  refine lv_iload_n C.1 C.2.1 dX11_canWrite_6 rfl (lv_at hl 0 rfl) ?_
  refine lv_iload_n C.1 C.2.1 dX11_canWrite_7 rfl (lv_at hl 2 rfl) ?_
  refine ks_PI C M (ct_X11_rowOf l g I J r8 x1 (by omega) (by omega) (by omega) (by omega)) (cw_X11_94 C.2.2.2.2 (by decide)) rfl hl.1 rfl (Nat.le_of_ble_eq_true rfl) dX11_canWrite_8 ⟨Nat.le_refl _, Nat.le_refl _⟩ (fun r10 H locs p11r M => ?_)
  have p11 : r10.toInt = x1.toInt / (r8.toInt - 1) ∧ 0 ≤ r10.toInt ∧ 2 * r10.toInt ≤ x1.toInt := p11r
  refine lv_istore_n (lv' := [(3, .int r10), (2, .int r8), (0, .ref a0), (1, .int x1)]) C.1 C.2.1 dX11_canWrite_11 rfl hl (by decide) rfl (fun ls hl => ?_)
  refine lv_iconst (v := 0) C.1 C.2.1 dX11_canWrite_12 (by decide) ?_
  refine lv_istore (lv' := [(4, .int 0), (3, .int r10), (2, .int r8), (0, .ref a0), (1, .int x1)]) C.1 C.2.1 dX11_canWrite_13 hl (by decide) rfl (fun ls hl => ?_)
  have L15 : ∀ (n15 : Nat) (y12 : Int32) (I13 : Ms) (H : Heap) (locs : List Loc) (ls : Array Slot), I13 (gr g a0 0) 718 = u6 → I13 (gr g a0 0) 715 = u4 → I13 (gr g a0 0) 717 = u2 → 0 ≤ y12.toInt → y12.toInt ≤ 8 → 8 - y12.toInt < (n15 : Int) → Fr g md_X11_canWrite I I13 → Mm g s I13 J H locs → lv_has ls 5 [(0, .ref a0), (1, .int x1), (2, .int r8), (3, .int r10), (4, .int y12)] → W p l e (rmL 4) s m args below meth c H locs 0 0 (MQg below g (PM g md_X11_canWrite I (fun z I1 J1 => J1 = J ∧ (0 ≤ z ∧ z ≤ 1))) args s) (F0 m 15 ls []) := by
    intro n15
    induction n15 with
    | zero =>
      intro y12 I13 H locs ls k14 k15 k16 f17 f18 hm15 F M hl
      exact absurd hm15 (by omega)
    | succ n15 ih15 =>
      intro y12 I13 H locs ls k14 k15 k16 f17 f18 hm15 F M hl
      refine lv_iload C.1 C.2.1 dX11_canWrite_15 (lv_at hl 4 rfl) ?_
      refine lv_iload_n C.1 C.2.1 dX11_canWrite_17 rfl (lv_at hl 2 rfl) ?_
      refine n_icmp_ge C (tgt := 60) dX11_canWrite_18 (by decide) rfl rfl (fun q19 => ?_) (fun q19 => ?_)
      ·
        refine lv_iconst (v := 1) C.1 C.2.1 dX11_canWrite_60 (by decide) ?_
        exact r_PMz C M (z := 1) hr hlk F rfl (by omega) (by omega) ⟨rfl, (by omega)⟩ dX11_canWrite_61
      ·
        refine lv_iload C.1 C.2.1 dX11_canWrite_21 (lv_at hl 4 rfl) ?_
        refine lv_iload_n C.1 C.2.1 dX11_canWrite_23 rfl (lv_at hl 2 rfl) ?_
        refine lv_iload_n C.1 C.2.1 dX11_canWrite_24 rfl (lv_at hl 1 rfl) ?_
        refine ks_PI C M (ct_X11_diskOf l g I13 J r8 x1 (by omega) (by omega) (by omega) (by omega)) (cw_X11_91 C.2.2.2.2 (by decide)) rfl hl.1 rfl (Nat.le_of_ble_eq_true rfl) dX11_canWrite_25 ⟨Nat.le_refl _, Nat.le_refl _⟩ (fun r20 H locs p21r M => ?_)
        have p21 : 0 ≤ r20.toInt ∧ r20.toInt ≤ r8.toInt - 1 := p21r
        refine n_icmp_eq C (tgt := 54) dX11_canWrite_28 (by decide) rfl rfl (fun q22 => ?_) (fun q22 => ?_)
        ·
          refine n_iinc C (k := 4) (N := 1) (lv' := fun v => [(4, .int v), (0, .ref a0), (1, .int x1), (2, .int r8), (3, .int r10)]) dX11_canWrite_54 hl rfl (by decide) rfl rfl (by omega) (by omega) (fun _ => rfl) (fun v23 ls ev23 hl => ?_)
          refine lv_goto (tgt := 15) C.1 C.2.1 dX11_canWrite_57 (by decide) ?_
          exact ih15 v23 I13 _ _ _ k14 k15 k16 (by omega) (by omega) (by omega) F M (lv_sub hl [1, 2, 3, 4, 0] rfl)
        ·
          refine lv_iload C.1 C.2.1 dX11_canWrite_31 (lv_at hl 4 rfl) ?_
          refine lv_iload_n C.1 C.2.1 dX11_canWrite_33 rfl (lv_at hl 2 rfl) ?_
          refine lv_iload_n C.1 C.2.1 dX11_canWrite_34 rfl (lv_at hl 3 rfl) ?_
          refine ks_PI C M (ct_X11_parityOf l g I13 J r8 r10 (by omega) (by omega) (by omega)) (cw_X11_46 C.2.2.2.2 (by decide)) rfl hl.1 rfl (Nat.le_of_ble_eq_true rfl) dX11_canWrite_35 ⟨Nat.le_refl _, Nat.le_refl _⟩ (fun r24 H locs p25r M => ?_)
          have p25 : 0 ≤ r24.toInt ∧ r24.toInt ≤ r8.toInt - 1 := p25r
          refine n_icmp_eq C (tgt := 54) dX11_canWrite_38 (by decide) rfl rfl (fun q26 => ?_) (fun q26 => ?_)
          ·
            refine n_iinc C (k := 4) (N := 1) (lv' := fun v => [(4, .int v), (0, .ref a0), (1, .int x1), (2, .int r8), (3, .int r10)]) dX11_canWrite_54 hl rfl (by decide) rfl rfl (by omega) (by omega) (fun _ => rfl) (fun v27 ls ev27 hl => ?_)
            refine lv_goto (tgt := 15) C.1 C.2.1 dX11_canWrite_57 (by decide) ?_
            exact ih15 v27 I13 _ _ _ k14 k15 k16 (by omega) (by omega) (by omega) F M (lv_sub hl [1, 2, 3, 4, 0] rfl)
          ·
            refine lv_aload_n C.1 C.2.1 dX11_canWrite_41 rfl (lv_at hl 0 rfl) ?_
            refine lv_iload_n C.1 C.2.1 dX11_canWrite_42 rfl (lv_at hl 2 rfl) ?_
            refine lv_iload C.1 C.2.1 dX11_canWrite_43 (lv_at hl 4 rfl) ?_
            refine lv_iload_n C.1 C.2.1 dX11_canWrite_45 rfl (lv_at hl 3 rfl) ?_
            refine k_PM C M h0_ (by decide) rfl (ct_X11_reads l g I13 J a0 r8 y12 r10 h0_ (by omega) (by omega) (by omega) (by omega) (by omega) (by omega)) (cw_X11_97 C.2.2.2.2 (by decide)) rfl hl.1 rfl (Nat.le_of_ble_eq_true rfl) dX11_canWrite_46 ⟨Nat.le_refl _, Nat.le_refl _⟩ (fun r32 I28 J29 H locs G30 p31r M => ?_)
            obtain ⟨eJ29, p31⟩ : J29 = J ∧ (0 ≤ r32.toInt ∧ r32.toInt ≤ 1) := p31r
            have eJ29 := eJ29.symm
            subst eJ29
            have F := fr_call F G30 (by decide)
            refine n_if_ne C (tgt := 54) dX11_canWrite_49 (by decide) rfl (fun q33 => ?_) (fun q33 => ?_)
            ·
              refine n_iinc C (k := 4) (N := 1) (lv' := fun v => [(4, .int v), (0, .ref a0), (1, .int x1), (2, .int r8), (3, .int r10)]) dX11_canWrite_54 hl rfl (by decide) rfl rfl (by omega) (by omega) (fun _ => rfl) (fun v34 ls ev34 hl => ?_)
              refine lv_goto (tgt := 15) C.1 C.2.1 dX11_canWrite_57 (by decide) ?_
              exact ih15 v34 I28 _ _ _ ((G30 (gr g a0 0) 28 718 h1 (by decide) (by decide)).trans k14) ((G30 (gr g a0 0) 28 715 h1 (by decide) (by decide)).trans k15) ((G30 (gr g a0 0) 28 717 h1 (by decide) (by decide)).trans k16) (by omega) (by omega) (by omega) F M (lv_sub hl [1, 2, 3, 4, 0] rfl)
            ·
              refine lv_iconst (v := 0) C.1 C.2.1 dX11_canWrite_52 (by decide) ?_
              exact r_PMz C M (z := 0) hr hlk F rfl (by omega) (by omega) ⟨rfl, (by omega)⟩ dX11_canWrite_53
  have cz35 : (0 : Int32).toInt = 0 := rfl
  exact L15 _ 0 I _ _ _ ku6 ku4 ku2 (by omega) (by omega) (n_big _) F M (lv_sub hl [3, 4, 2, 1, 0] rfl)

set_option maxHeartbeats 4000000 in
set_option maxRecDepth 100000 in
theorem ct_X11_isOff (l : Launch) (g : Gs) (I : Ms) (J : Js) (a0 : Nat) (x1 : Int32) (h0_ : Is g a0 9) (g0 : jm (I (gr g a0 0) 717).toInt (I (gr g a0 0) 715).toInt (I (gr g a0 0) 716).toInt (I (gr g a0 0) 722).toInt (I (gr g a0 0) 718).toInt (I (gr g a0 0) 719).toInt) (g1 : 0 ≤ x1.toInt) (g2 : x1.toInt ≤ 39) : Ctr l yX11_isOff cX11_isOff 5 (Option.some Jvm.ClassFile.FieldType.boolean) 4 g [.ref a0, .int x1] I J (PI I J (fun z => 0 ≤ z ∧ z ≤ 1)) := by
  refine m_start (by decide) (Nat.le_of_ble_eq_true rfl) ?_
  intro p e s m args below meth c C hr hlk M ls hl
  have hl : lv_has ls 5 [(0, .ref a0), (1, .int x1)] := hl
  have C : CallFix p m c cX11_isOff 5 s args TB RX11 := C
  have h1 := is_ref M h0_ 0 28 rfl rfl
  obtain ⟨i2, ki2⟩ : ∃ z : Int32, I (gr g a0 0) 717 = z := ⟨_, rfl⟩
  have ti2 : 0 ≤ i2.toInt ∧ i2.toInt ≤ 1 := m_rng M h1 717 ki2 rfl
  have ci2 : (I (gr g a0 0) 717).toInt = i2.toInt := congrArg Int32.toInt ki2
  obtain ⟨i3, ki3⟩ : ∃ z : Int32, I (gr g a0 0) 715 = z := ⟨_, rfl⟩
  have ti3 : 3 ≤ i3.toInt ∧ i3.toInt ≤ 7 := m_rng M h1 715 ki3 rfl
  have ci3 : (I (gr g a0 0) 715).toInt = i3.toInt := congrArg Int32.toInt ki3
  obtain ⟨i4, ki4⟩ : ∃ z : Int32, I (gr g a0 0) 716 = z := ⟨_, rfl⟩
  have ti4 : 4 ≤ i4.toInt ∧ i4.toInt ≤ 40 := m_rng M h1 716 ki4 rfl
  have ci4 : (I (gr g a0 0) 716).toInt = i4.toInt := congrArg Int32.toInt ki4
  obtain ⟨i5, ki5⟩ : ∃ z : Int32, I (gr g a0 0) 722 = z := ⟨_, rfl⟩
  have ti5 : 1 ≤ i5.toInt ∧ i5.toInt ≤ 4 := m_rng M h1 722 ki5 rfl
  have ci5 : (I (gr g a0 0) 722).toInt = i5.toInt := congrArg Int32.toInt ki5
  obtain ⟨i6, ki6⟩ : ∃ z : Int32, I (gr g a0 0) 718 = z := ⟨_, rfl⟩
  have ti6 : 0 ≤ i6.toInt ∧ i6.toInt ≤ 200 := m_rng M h1 718 ki6 rfl
  have ci6 : (I (gr g a0 0) 718).toInt = i6.toInt := congrArg Int32.toInt ki6
  obtain ⟨i7, ki7⟩ : ∃ z : Int32, I (gr g a0 0) 719 = z := ⟨_, rfl⟩
  have ti7 : 0 ≤ i7.toInt ∧ i7.toInt ≤ 200 := m_rng M h1 719 ki7 rfl
  have ci7 : (I (gr g a0 0) 719).toInt = i7.toInt := congrArg Int32.toInt ki7
  simp only [ci2, ci3, ci4, ci5, ci6, ci7] at g0
  refine lv_aload_n C.1 C.2.1 dX11_isOff_0 rfl (lv_at hl 0 rfl) ?_
  have em8 : (I (gr g a0 0) 717).toInt = i2.toInt := congrArg Int32.toInt ki2
  have em9 : (I (gr g a0 0) 719).toInt = i7.toInt := congrArg Int32.toInt ki7
  refine k_PI C M h0_ (by decide) rfl (ct_X11_isMoving l g I J a0 h0_) (cw_X11_88 C.2.2.2.2 (by decide)) rfl hl.1 rfl (Nat.le_of_ble_eq_true rfl) dX11_isOff_1 ⟨Nat.le_refl _, Nat.le_refl _⟩ (fun r10 H locs p11r M => ?_)
  have p11 : 0 ≤ r10.toInt ∧ r10.toInt ≤ 1 ∧ (r10.toInt = 1 ↔ (I (gr g a0 0) 717).toInt = 1 ∧ 0 < (I (gr g a0 0) 719).toInt) := p11r
  simp only [em8, em9] at p11
  have p11 : 0 ≤ r10.toInt ∧ r10.toInt ≤ 1 ∧ (r10.toInt = 1 ↔ i2.toInt = 1 ∧ 0 < i7.toInt) := p11
  have J46 : ∀ (H : Heap) (locs : List Loc) (ls : Array Slot), Mm g s I J H locs → lv_has ls 5 [(0, .ref a0), (1, .int x1)] → W p l e (rmL 4) s m args below meth c H locs 0 0 (MQg below g (PI I J (fun z => 0 ≤ z ∧ z ≤ 1)) args s) (F0 m 46 ls []) := by
    intro H locs ls M hl
    refine lv_aload_n C.1 C.2.1 dX11_isOff_46 rfl (lv_at hl 0 rfl) ?_
    have em12 : (I (gr g a0 0) 717).toInt = i2.toInt := congrArg Int32.toInt ki2
    refine k_PI C M h0_ (by decide) rfl (ct_X11_isGrown l g I J a0 h0_) (cw_X11_84 C.2.2.2.2 (by decide)) rfl hl.1 rfl (Nat.le_of_ble_eq_true rfl) dX11_isOff_47 ⟨Nat.le_refl _, Nat.le_refl _⟩ (fun r13 H locs p14r M => ?_)
    have p14 : 0 ≤ r13.toInt ∧ r13.toInt ≤ 1 ∧ (r13.toInt = 1 ↔ (I (gr g a0 0) 717).toInt = 1) := p14r
    simp only [em12] at p14
    have p14 : 0 ≤ r13.toInt ∧ r13.toInt ≤ 1 ∧ (r13.toInt = 1 ↔ i2.toInt = 1) := p14
    have J86 : ∀ (w15 : Int32) (H : Heap) (locs : List Loc) (ls : Array Slot), 3 ≤ w15.toInt → w15.toInt ≤ 8 → Mm g s I J H locs → lv_has ls 5 [(0, .ref a0), (1, .int x1)] → W p l e (rmL 4) s m args below meth c H locs 0 0 (MQg below g (PI I J (fun z => 0 ≤ z ∧ z ≤ 1)) args s) (F0 m 86 ls [.int w15]) := by
      intro w15 H locs ls f16 f17 M hl
      refine lv_istore_n (lv' := [(2, .int w15), (0, .ref a0), (1, .int x1)]) C.1 C.2.1 dX11_isOff_86 rfl hl (by decide) rfl (fun ls hl => ?_)
      refine lv_iconst (v := 0) C.1 C.2.1 dX11_isOff_87 (by decide) ?_
      refine lv_istore_n (lv' := [(3, .int 0), (2, .int w15), (0, .ref a0), (1, .int x1)]) C.1 C.2.1 dX11_isOff_88 rfl hl (by decide) rfl (fun ls hl => ?_)
      refine lv_iconst (v := 0) C.1 C.2.1 dX11_isOff_89 (by decide) ?_
      refine lv_istore (lv' := [(4, .int 0), (3, .int 0), (2, .int w15), (0, .ref a0), (1, .int x1)]) C.1 C.2.1 dX11_isOff_90 hl (by decide) rfl (fun ls hl => ?_)
      have L92 : ∀ (n92 : Nat) (y18 : Int32) (y19 : Int32) (H : Heap) (locs : List Loc) (ls : Array Slot), 0 ≤ y19.toInt → y19.toInt ≤ 8 → 8 - y19.toInt < (n92 : Int) → Mm g s I J H locs → lv_has ls 5 [(0, .ref a0), (1, .int x1), (2, .int w15), (3, .int y18), (4, .int y19)] → W p l e (rmL 4) s m args below meth c H locs 0 0 (MQg below g (PI I J (fun z => 0 ≤ z ∧ z ≤ 1)) args s) (F0 m 92 ls []) := by
        intro n92
        induction n92 with
        | zero =>
          intro y18 y19 H locs ls f20 f21 hm92 M hl
          exact absurd hm92 (by omega)
        | succ n92 ih92 =>
          intro y18 y19 H locs ls f20 f21 hm92 M hl
          refine lv_iload C.1 C.2.1 dX11_isOff_92 (lv_at hl 4 rfl) ?_
          refine lv_iload_n C.1 C.2.1 dX11_isOff_94 rfl (lv_at hl 2 rfl) ?_
          refine n_icmp_ge C (tgt := 132) dX11_isOff_95 (by decide) rfl rfl (fun q22 => ?_) (fun q22 => ?_)
          ·
            refine lv_iload_n C.1 C.2.1 dX11_isOff_132 rfl (lv_at hl 3 rfl) ?_
            refine n_if_eq C (tgt := 140) dX11_isOff_133 (by decide) rfl (fun q23 => ?_) (fun q23 => ?_)
            ·
              refine lv_iconst (v := 0) C.1 C.2.1 dX11_isOff_140 (by decide) ?_
              exact r_PIz C M (z := 0) hr hlk rfl (by omega) (by omega) (by omega) dX11_isOff_141
            ·
              refine lv_iconst (v := 1) C.1 C.2.1 dX11_isOff_136 (by decide) ?_
              refine lv_goto (tgt := 141) C.1 C.2.1 dX11_isOff_137 (by decide) ?_
              exact r_PIz C M (z := 1) hr hlk rfl (by omega) (by omega) (by omega) dX11_isOff_141
          ·
            refine lv_aload_n C.1 C.2.1 dX11_isOff_98 rfl (lv_at hl 0 rfl) ?_
            refine lv_iload C.1 C.2.1 dX11_isOff_99 (lv_at hl 4 rfl) ?_
            refine lv_iload_n C.1 C.2.1 dX11_isOff_101 rfl (lv_at hl 1 rfl) ?_
            refine k_PI C M h0_ (by decide) rfl (ct_X11_isReadable l g I J a0 y19 x1 h0_ (by omega) (by omega) (by omega) (by omega)) (cw_X11_59 C.2.2.2.2 (by decide)) rfl hl.1 rfl (Nat.le_of_ble_eq_true rfl) dX11_isOff_102 ⟨Nat.le_refl _, Nat.le_refl _⟩ (fun r24 H locs p25r M => ?_)
            have p25 : 0 ≤ r24.toInt ∧ r24.toInt ≤ 1 := p25r
            refine n_if_ne C (tgt := 110) dX11_isOff_105 (by decide) rfl (fun q26 => ?_) (fun q26 => ?_)
            ·
              refine lv_iload_n C.1 C.2.1 dX11_isOff_110 rfl (lv_at hl 3 rfl) ?_
              refine lv_aload_n C.1 C.2.1 dX11_isOff_111 rfl (lv_at hl 0 rfl) ?_
              refine gi_X11_7 C M h0_ dX11_isOff_112 (fun h27 => ?_)
              refine lv_iconst (v := 0) C.1 C.2.1 dX11_isOff_115 (by decide) ?_
              refine lv_iload C.1 C.2.1 dX11_isOff_116 (lv_at hl 4 rfl) ?_
              refine lv_iload_n C.1 C.2.1 dX11_isOff_118 rfl (lv_at hl 1 rfl) ?_
              refine ks_PI C M (ct_X11_at l g I J y19 x1 (by omega) (by omega) (by omega) (by omega)) (cw_X11_50 C.2.2.2.2 (by decide)) rfl hl.1 rfl (Nat.le_of_ble_eq_true rfl) dX11_isOff_119 ⟨Nat.le_refl _, Nat.le_refl _⟩ (fun r28 H locs p29r M => ?_)
              have p29 : r28.toInt = 40 * y19.toInt + x1.toInt := p29r
              refine n_iadd C (X := 0) dX11_isOff_122 rfl rfl (by omega) (by omega) (fun v30 ev30 => ?_)
              refine a_ld C M h1 (n := 729) rfl rfl rfl (by omega) (by omega) rfl dX11_isOff_123 (fun v31 kv31 => ?_)
              refine n_ixorU C dX11_isOff_124 (fun v32 => ?_)
              refine lv_istore_n (lv' := [(3, .int v32), (0, .ref a0), (1, .int x1), (2, .int w15), (4, .int y19)]) C.1 C.2.1 dX11_isOff_125 rfl hl (by decide) rfl (fun ls hl => ?_)
              refine n_iinc C (k := 4) (N := 1) (lv' := fun v => [(4, .int v), (3, .int v32), (0, .ref a0), (1, .int x1), (2, .int w15)]) dX11_isOff_126 hl rfl (by decide) rfl rfl (by omega) (by omega) (fun _ => rfl) (fun v33 ls ev33 hl => ?_)
              refine lv_goto (tgt := 92) C.1 C.2.1 dX11_isOff_129 (by decide) ?_
              exact ih92 v32 v33 _ _ _ (by omega) (by omega) (by omega) M (lv_sub hl [2, 3, 4, 1, 0] rfl)
            ·
              refine lv_iconst (v := 0) C.1 C.2.1 dX11_isOff_108 (by decide) ?_
              exact r_PIz C M (z := 0) hr hlk rfl (by omega) (by omega) (by omega) dX11_isOff_109
      have cz34 : (0 : Int32).toInt = 0 := rfl
      have cz35 : (0 : Int32).toInt = 0 := rfl
      exact L92 _ 0 0 _ _ _ (by omega) (by omega) (n_big _) M (lv_sub hl [3, 4, 2, 1, 0] rfl)
    have J78 : ∀ (H : Heap) (locs : List Loc) (ls : Array Slot), Mm g s I J H locs → lv_has ls 5 [(0, .ref a0), (1, .int x1)] → W p l e (rmL 4) s m args below meth c H locs 0 0 (MQg below g (PI I J (fun z => 0 ≤ z ∧ z ≤ 1)) args s) (F0 m 78 ls []) := by
      intro H locs ls M hl
      refine lv_aload_n C.1 C.2.1 dX11_isOff_78 rfl (lv_at hl 0 rfl) ?_
      refine gi_X11_7 C M h0_ dX11_isOff_79 (fun h36 => ?_)
      refine lv_sipush (v := 715) C.1 C.2.1 dX11_isOff_82 (by decide) ?_
      refine a_ldK C M (X := 715) (j := 715) h1 (n := 729) rfl rfl rfl (by omega) (by omega) rfl ki3 dX11_isOff_85 ?_
      exact J86 i3 _ _ _ (by omega) (by omega) M hl
    refine n_if_eq C (tgt := 78) dX11_isOff_50 (by decide) rfl (fun q37 => ?_) (fun q37 => ?_)
    ·
      exact J78 _ _ _ M hl
    ·
      refine lv_iload_n C.1 C.2.1 dX11_isOff_53 rfl (lv_at hl 1 rfl) ?_
      refine lv_aload_n C.1 C.2.1 dX11_isOff_54 rfl (lv_at hl 0 rfl) ?_
      refine gi_X11_7 C M h0_ dX11_isOff_55 (fun h38 => ?_)
      refine lv_sipush (v := 718) C.1 C.2.1 dX11_isOff_58 (by decide) ?_
      refine a_ldK C M (X := 718) (j := 718) h1 (n := 729) rfl rfl rfl (by omega) (by omega) rfl ki6 dX11_isOff_61 ?_
      refine n_icmp_ge C (tgt := 78) dX11_isOff_62 (by decide) rfl rfl (fun q39 => ?_) (fun q39 => ?_)
      ·
        exact J78 _ _ _ M hl
      ·
        refine lv_aload_n C.1 C.2.1 dX11_isOff_65 rfl (lv_at hl 0 rfl) ?_
        refine gi_X11_7 C M h0_ dX11_isOff_66 (fun h40 => ?_)
        refine lv_sipush (v := 715) C.1 C.2.1 dX11_isOff_69 (by decide) ?_
        refine a_ldK C M (X := 715) (j := 715) h1 (n := 729) rfl rfl rfl (by omega) (by omega) rfl ki3 dX11_isOff_72 ?_
        refine lv_iconst (v := 1) C.1 C.2.1 dX11_isOff_73 (by decide) ?_
        refine n_iadd C (Y := 1) dX11_isOff_74 rfl rfl (by omega) (by omega) (fun v41 ev41 => ?_)
        refine lv_goto (tgt := 86) C.1 C.2.1 dX11_isOff_75 (by decide) ?_
        exact J86 v41 _ _ _ (by omega) (by omega) M hl
  refine n_if_eq C (tgt := 46) dX11_isOff_4 (by decide) rfl (fun q42 => ?_) (fun q42 => ?_)
  ·
    exact J46 _ _ _ M hl
  ·
    refine lv_iload_n C.1 C.2.1 dX11_isOff_7 rfl (lv_at hl 1 rfl) ?_
    refine lv_aload_n C.1 C.2.1 dX11_isOff_8 rfl (lv_at hl 0 rfl) ?_
    refine gi_X11_7 C M h0_ dX11_isOff_9 (fun h43 => ?_)
    refine lv_sipush (v := 718) C.1 C.2.1 dX11_isOff_12 (by decide) ?_
    refine a_ldK C M (X := 718) (j := 718) h1 (n := 729) rfl rfl rfl (by omega) (by omega) rfl ki6 dX11_isOff_15 ?_
    refine n_icmp_lt C (tgt := 46) dX11_isOff_16 (by decide) rfl rfl (fun q44 => ?_) (fun q44 => ?_)
    ·
      exact J46 _ _ _ M hl
    ·
      refine lv_iload_n C.1 C.2.1 dX11_isOff_19 rfl (lv_at hl 1 rfl) ?_
      refine lv_aload_n C.1 C.2.1 dX11_isOff_20 rfl (lv_at hl 0 rfl) ?_
      refine gi_X11_7 C M h0_ dX11_isOff_21 (fun h45 => ?_)
      refine lv_sipush (v := 718) C.1 C.2.1 dX11_isOff_24 (by decide) ?_
      refine a_ldK C M (X := 718) (j := 718) h1 (n := 729) rfl rfl rfl (by omega) (by omega) rfl ki6 dX11_isOff_27 ?_
      have hj := g0 (by omega)
      refine lv_aload_n C.1 C.2.1 dX11_isOff_28 rfl (lv_at hl 0 rfl) ?_
      refine lv_aload_n C.1 C.2.1 dX11_isOff_29 rfl (lv_at hl 0 rfl) ?_
      refine gi_X11_7 C M h0_ dX11_isOff_30 (fun h46 => ?_)
      refine lv_sipush (v := 718) C.1 C.2.1 dX11_isOff_33 (by decide) ?_
      refine a_ldK C M (X := 718) (j := 718) h1 (n := 729) rfl rfl rfl (by omega) (by omega) rfl ki6 dX11_isOff_36 ?_
      have em47 : (I (gr g a0 0) 715).toInt = i3.toInt := congrArg Int32.toInt ki3
      have em48 : (I (gr g a0 0) 716).toInt = i4.toInt := congrArg Int32.toInt ki4
      have em49 : (I (gr g a0 0) 722).toInt = i5.toInt := congrArg Int32.toInt ki5
      refine k_PI C M h0_ (by decide) rfl (ct_X11_stripesFrom l g I J a0 i6 h0_ (by omega) (by omega) (by simp only [em47, em48, em49]; first | assumption | omega)) (cw_X11_70 C.2.2.2.2 (by decide)) rfl hl.1 rfl (Nat.le_of_ble_eq_true rfl) dX11_isOff_37 ⟨Nat.le_refl _, Nat.le_refl _⟩ (fun r50 H locs p51r M => ?_)
      have p51 : r50.toInt = mSt (I (gr g a0 0) 716).toInt (I (gr g a0 0) 715).toInt (I (gr g a0 0) 722).toInt i6.toInt ∧ 1 ≤ r50.toInt ∧ r50.toInt ≤ 4 := p51r
      simp only [em47, em48, em49] at p51
      have p51 : r50.toInt = mSt i4.toInt i3.toInt i5.toInt i6.toInt ∧ 1 ≤ r50.toInt ∧ r50.toInt ≤ 4 := p51
      refine n_iadd C dX11_isOff_40 rfl rfl (by omega) (by omega) (fun v52 ev52 => ?_)
      refine n_icmp_ge C (tgt := 46) dX11_isOff_41 (by decide) rfl rfl (fun q53 => ?_) (fun q53 => ?_)
      ·
        exact J46 _ _ _ M hl
      ·
        refine lv_iconst (v := 0) C.1 C.2.1 dX11_isOff_44 (by decide) ?_
        exact r_PIz C M (z := 0) hr hlk rfl (by omega) (by omega) (by omega) dX11_isOff_45
