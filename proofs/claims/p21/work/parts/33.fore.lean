abbrev md_X11_spoilt : List (Nat × Nat) := [(9, 10), (9, 11), (9, 12), (28, 0), (29, 0), (34, 0), (35, 0)]
set_option maxHeartbeats 4000000 in
set_option maxRecDepth 100000 in
theorem ct_X11_spoilt (l : Launch) (g : Gs) (I : Ms) (J : Js) (a0 : Nat) (h0_ : Is g a0 9) (g0 : jm (I (gr g a0 0) 717).toInt (I (gr g a0 0) 715).toInt (I (gr g a0 0) 716).toInt (I (gr g a0 0) 722).toInt (I (gr g a0 0) 718).toInt (I (gr g a0 0) 719).toInt) : Ctr l yX11_spoilt cX11_spoilt 2 (Option.some Jvm.ClassFile.FieldType.int) 8 g [.ref a0] I J (PM g md_X11_spoilt I (fun z I1 J1 => J1 = J ∧ (jm (I1 (gr g a0 0) 717).toInt (I1 (gr g a0 0) 715).toInt (I1 (gr g a0 0) 716).toInt (I1 (gr g a0 0) 722).toInt (I1 (gr g a0 0) 718).toInt (I1 (gr g a0 0) 719).toInt))) := by
  refine m_start (by decide) (Nat.le_of_ble_eq_true rfl) ?_
  intro p e s m args below meth c C hr hlk M ls hl
  have hl : lv_has ls 2 [(0, .ref a0)] := hl
  have C : CallFix p m c cX11_spoilt 2 s args TB RX11 := C
  have F : Fr g md_X11_spoilt I I := fr_rf
  have h1 := is_ref M h0_ 0 28 rfl rfl
  obtain ⟨i2, ki2⟩ : ∃ z : Int32, I (gr g a0 0) 717 = z := ⟨_, rfl⟩
  have ti2 : 0 ≤ i2.toInt ∧ i2.toInt ≤ 1 := m_rng M h1 717 ki2 rfl
  have ci2 : (I (gr g a0 0) 717).toInt = i2.toInt := congrArg Int32.toInt ki2
  obtain ⟨i3, ki3⟩ : ∃ z : Int32, I (gr g a0 0) 715 = z := ⟨_, rfl⟩
  have ti3 : 3 ≤ i3.toInt ∧ i3.toInt ≤ 7 := m_rng M h1 715 ki3 rfl
  have ci3 : (I (gr g a0 0) 715).toInt = i3.toInt := congrArg Int32.toInt ki3
  obtain ⟨i4, ki4⟩ : ∃ z : Int32, I (gr g a0 0) 716 = z := ⟨_, rfl⟩
  have ti4 : 4 ≤ i4.toInt ∧ i4.toInt ≤ 40 := m_rng M h1 716 ki4 rfl
  have ci4 : (I (gr g a0 0) 716).toInt = i4.toInt := congrArg Int32.toInt ki4
  obtain ⟨i5, ki5⟩ : ∃ z : Int32, I (gr g a0 0) 722 = z := ⟨_, rfl⟩
  have ti5 : 1 ≤ i5.toInt ∧ i5.toInt ≤ 4 := m_rng M h1 722 ki5 rfl
  have ci5 : (I (gr g a0 0) 722).toInt = i5.toInt := congrArg Int32.toInt ki5
  obtain ⟨i6, ki6⟩ : ∃ z : Int32, I (gr g a0 0) 718 = z := ⟨_, rfl⟩
  have ti6 : 0 ≤ i6.toInt ∧ i6.toInt ≤ 200 := m_rng M h1 718 ki6 rfl
  have ci6 : (I (gr g a0 0) 718).toInt = i6.toInt := congrArg Int32.toInt ki6
  obtain ⟨i7, ki7⟩ : ∃ z : Int32, I (gr g a0 0) 719 = z := ⟨_, rfl⟩
  have ti7 : 0 ≤ i7.toInt ∧ i7.toInt ≤ 200 := m_rng M h1 719 ki7 rfl
  have ci7 : (I (gr g a0 0) 719).toInt = i7.toInt := congrArg Int32.toInt ki7
  have h8 := is_ref M h0_ 1 29 rfl rfl
  simp only [ci2, ci3, ci4, ci5, ci6, ci7] at g0
  have hj6 : i2.toInt = 1 → i3.toInt ≤ 6 := fun q => (g0 q).1
  have hW0 := wd_of M h1
  refine lv_aload_n C.1 C.2.1 dX11_spoilt_0 rfl (lv_at hl 0 rfl) ?_
  refine lv_iconst (v := 0) C.1 C.2.1 dX11_spoilt_1 (by decide) ?_
  refine pi_X11_39 C M h0_ dX11_spoilt_2 (fun H locs I9 k11 f10 M => ?_)
  have F := fr_put F h0_ (Or.inr (by decide)) f10
  refine lv_aload_n C.1 C.2.1 dX11_spoilt_5 rfl (lv_at hl 0 rfl) ?_
  have em12 : (I9 (gr g a0 0) 717).toInt = i2.toInt := congrArg Int32.toInt ((f10 (gr g a0 0) 717 (Or.inl (is_ne h0_ h1 (by decide)))).trans ki2)
  refine k_PI C M h0_ (by decide) rfl (ct_X11_isGrown l g I9 J a0 h0_) (cw_X11_84 C.2.2.2.2 (by decide)) rfl hl.1 rfl (Nat.le_of_ble_eq_true rfl) dX11_spoilt_6 ⟨Nat.le_refl _, Nat.le_refl _⟩ (fun r13 H locs p14r M => ?_)
  have p14 : 0 ≤ r13.toInt ∧ r13.toInt ≤ 1 ∧ (r13.toInt = 1 ↔ (I9 (gr g a0 0) 717).toInt = 1) := p14r
  simp only [em12] at p14
  have p14 : 0 ≤ r13.toInt ∧ r13.toInt ≤ 1 ∧ (r13.toInt = 1 ↔ i2.toInt = 1) := p14
  refine n_if_ne C (tgt := 14) dX11_spoilt_9 (by decide) rfl (fun q15 => ?_) (fun q15 => ?_)
  ·
    refine lv_aload_n C.1 C.2.1 dX11_spoilt_14 rfl (lv_at hl 0 rfl) ?_
    refine k_PV C M h0_ (by decide) rfl (ct_X11_keeps l g I9 J a0 h0_) (cw_X11_176 C.2.2.2.2 (by decide)) rfl hl.1 rfl (Nat.le_of_ble_eq_true rfl) dX11_spoilt_15 ⟨Nat.le_refl _, Nat.le_refl _⟩ (fun I16 J17 H locs G18 p19r M => ?_)
    obtain ⟨eJ17, p19⟩ : J17 = J ∧ (∀ j, j < 729 → I16 (gr g a0 1) j = I9 (gr g a0 0) j) := p19r
    have eJ17 := eJ17.symm
    subst eJ17
    have F := fr_call F G18 (by decide)
    refine lv_aload_n C.1 C.2.1 dX11_spoilt_18 rfl (lv_at hl 0 rfl) ?_
    have em20 : (I16 (gr g a0 0) 717).toInt = i2.toInt := congrArg Int32.toInt ((G18 (gr g a0 0) 28 717 h1 (by decide) (by decide)).trans ((f10 (gr g a0 0) 717 (Or.inl (is_ne h0_ h1 (by decide)))).trans ki2))
    have em21 : (I16 (gr g a0 0) 715).toInt = i3.toInt := congrArg Int32.toInt ((G18 (gr g a0 0) 28 715 h1 (by decide) (by decide)).trans ((f10 (gr g a0 0) 715 (Or.inl (is_ne h0_ h1 (by decide)))).trans ki3))
    have em22 : (I16 (gr g a0 0) 716).toInt = i4.toInt := congrArg Int32.toInt ((G18 (gr g a0 0) 28 716 h1 (by decide) (by decide)).trans ((f10 (gr g a0 0) 716 (Or.inl (is_ne h0_ h1 (by decide)))).trans ki4))
    have em23 : (I16 (gr g a0 0) 722).toInt = i5.toInt := congrArg Int32.toInt ((G18 (gr g a0 0) 28 722 h1 (by decide) (by decide)).trans ((f10 (gr g a0 0) 722 (Or.inl (is_ne h0_ h1 (by decide)))).trans ki5))
    have em24 : (I16 (gr g a0 0) 718).toInt = i6.toInt := congrArg Int32.toInt ((G18 (gr g a0 0) 28 718 h1 (by decide) (by decide)).trans ((f10 (gr g a0 0) 718 (Or.inl (is_ne h0_ h1 (by decide)))).trans ki6))
    have em25 : (I16 (gr g a0 0) 719).toInt = i7.toInt := congrArg Int32.toInt ((G18 (gr g a0 0) 28 719 h1 (by decide) (by decide)).trans ((f10 (gr g a0 0) 719 (Or.inl (is_ne h0_ h1 (by decide)))).trans ki7))
    refine k_PV C M h0_ (by decide) rfl (ct_X11_notesBlocks l g I16 J a0 h0_ (by simp only [em20, em21, em22, em23, em24, em25]; first | assumption | omega)) (cw_X11_182 C.2.2.2.2 (by decide)) rfl hl.1 rfl (Nat.le_of_ble_eq_true rfl) dX11_spoilt_19 ⟨Nat.le_refl _, Nat.le_refl _⟩ (fun I26 J27 H locs G28 p29r M => ?_)
    obtain ⟨eJ27, p29⟩ : J27 = J ∧ (True) := p29r
    have eJ27 := eJ27.symm
    subst eJ27
    have F := fr_call F G28 (by decide)
    refine lv_aload_n C.1 C.2.1 dX11_spoilt_22 rfl (lv_at hl 0 rfl) ?_
    have em30 : (I26 (gr g a0 0) 717).toInt = i2.toInt := congrArg Int32.toInt ((G28 (gr g a0 0) 28 717 h1 (by decide) (by decide)).trans ((G18 (gr g a0 0) 28 717 h1 (by decide) (by decide)).trans ((f10 (gr g a0 0) 717 (Or.inl (is_ne h0_ h1 (by decide)))).trans ki2)))
    have em31 : (I26 (gr g a0 0) 715).toInt = i3.toInt := congrArg Int32.toInt ((G28 (gr g a0 0) 28 715 h1 (by decide) (by decide)).trans ((G18 (gr g a0 0) 28 715 h1 (by decide) (by decide)).trans ((f10 (gr g a0 0) 715 (Or.inl (is_ne h0_ h1 (by decide)))).trans ki3)))
    have em32 : (I26 (gr g a0 0) 716).toInt = i4.toInt := congrArg Int32.toInt ((G28 (gr g a0 0) 28 716 h1 (by decide) (by decide)).trans ((G18 (gr g a0 0) 28 716 h1 (by decide) (by decide)).trans ((f10 (gr g a0 0) 716 (Or.inl (is_ne h0_ h1 (by decide)))).trans ki4)))
    have em33 : (I26 (gr g a0 0) 722).toInt = i5.toInt := congrArg Int32.toInt ((G28 (gr g a0 0) 28 722 h1 (by decide) (by decide)).trans ((G18 (gr g a0 0) 28 722 h1 (by decide) (by decide)).trans ((f10 (gr g a0 0) 722 (Or.inl (is_ne h0_ h1 (by decide)))).trans ki5)))
    have em34 : (I26 (gr g a0 0) 718).toInt = i6.toInt := congrArg Int32.toInt ((G28 (gr g a0 0) 28 718 h1 (by decide) (by decide)).trans ((G18 (gr g a0 0) 28 718 h1 (by decide) (by decide)).trans ((f10 (gr g a0 0) 718 (Or.inl (is_ne h0_ h1 (by decide)))).trans ki6)))
    have em35 : (I26 (gr g a0 0) 719).toInt = i7.toInt := congrArg Int32.toInt ((G28 (gr g a0 0) 28 719 h1 (by decide) (by decide)).trans ((G18 (gr g a0 0) 28 719 h1 (by decide) (by decide)).trans ((f10 (gr g a0 0) 719 (Or.inl (is_ne h0_ h1 (by decide)))).trans ki7)))
    refine k_PV C M h0_ (by decide) rfl (ct_X11_crashes l g I26 J a0 h0_ (by simp only [em30, em31, em32, em33, em34, em35]; first | assumption | omega) (by simp only [em30, em31, em32, em33, em34, em35]; first | assumption | omega)) (cw_X11_123 C.2.2.2.2 (by decide)) rfl hl.1 rfl (Nat.le_of_ble_eq_true rfl) dX11_spoilt_23 ⟨Nat.le_refl _, Nat.le_refl _⟩ (fun I36 J37 H locs G38 p39r M => ?_)
    obtain ⟨eJ37, ⟨p39, fx40⟩⟩ : J37 = J ∧ ((jm (I36 (gr g a0 0) 717).toInt (I36 (gr g a0 0) 715).toInt (I36 (gr g a0 0) 716).toInt (I36 (gr g a0 0) 722).toInt (I36 (gr g a0 0) 718).toInt (I36 (gr g a0 0) 719).toInt) ∧ (∀ j, 715 ≤ j → j ≠ 719 → j ≠ 725 → I36 (gr g a0 0) j = I26 (gr g a0 0) j)) := p39r
    have eJ37 := eJ37.symm
    subst eJ37
    have em41 : (I36 (gr g a0 0) 717).toInt = i2.toInt := congrArg Int32.toInt ((fx40 717 (by decide) (by decide) (by decide)).trans ((G28 (gr g a0 0) 28 717 h1 (by decide) (by decide)).trans ((G18 (gr g a0 0) 28 717 h1 (by decide) (by decide)).trans ((f10 (gr g a0 0) 717 (Or.inl (is_ne h0_ h1 (by decide)))).trans ki2))))
    have em42 : (I36 (gr g a0 0) 715).toInt = i3.toInt := congrArg Int32.toInt ((fx40 715 (by decide) (by decide) (by decide)).trans ((G28 (gr g a0 0) 28 715 h1 (by decide) (by decide)).trans ((G18 (gr g a0 0) 28 715 h1 (by decide) (by decide)).trans ((f10 (gr g a0 0) 715 (Or.inl (is_ne h0_ h1 (by decide)))).trans ki3))))
    have em43 : (I36 (gr g a0 0) 716).toInt = i4.toInt := congrArg Int32.toInt ((fx40 716 (by decide) (by decide) (by decide)).trans ((G28 (gr g a0 0) 28 716 h1 (by decide) (by decide)).trans ((G18 (gr g a0 0) 28 716 h1 (by decide) (by decide)).trans ((f10 (gr g a0 0) 716 (Or.inl (is_ne h0_ h1 (by decide)))).trans ki4))))
    have em44 : (I36 (gr g a0 0) 722).toInt = i5.toInt := congrArg Int32.toInt ((fx40 722 (by decide) (by decide) (by decide)).trans ((G28 (gr g a0 0) 28 722 h1 (by decide) (by decide)).trans ((G18 (gr g a0 0) 28 722 h1 (by decide) (by decide)).trans ((f10 (gr g a0 0) 722 (Or.inl (is_ne h0_ h1 (by decide)))).trans ki5))))
    have em45 : (I36 (gr g a0 0) 718).toInt = i6.toInt := congrArg Int32.toInt ((fx40 718 (by decide) (by decide) (by decide)).trans ((G28 (gr g a0 0) 28 718 h1 (by decide) (by decide)).trans ((G18 (gr g a0 0) 28 718 h1 (by decide) (by decide)).trans ((f10 (gr g a0 0) 718 (Or.inl (is_ne h0_ h1 (by decide)))).trans ki6))))
    obtain ⟨u46, ku46⟩ : ∃ z : Int32, I36 (gr g a0 0) 719 = z := ⟨_, rfl⟩
    have tu46 : 0 ≤ u46.toInt ∧ u46.toInt ≤ 200 := m_rng M h1 719 ku46 rfl
    have em47 : (I36 (gr g a0 0) 719).toInt = u46.toInt := congrArg Int32.toInt ku46
    simp only [em30, em31, em32, em33, em34, em35, em41, em42, em43, em44, em45, em47] at p39
    have F := fr_call F G38 (by decide)
    refine lv_aload_n C.1 C.2.1 dX11_spoilt_26 rfl (lv_at hl 0 rfl) ?_
    have em48 : (I36 (gr g a0 0) 717).toInt = i2.toInt := congrArg Int32.toInt ((fx40 717 (by decide) (by decide) (by decide)).trans ((G28 (gr g a0 0) 28 717 h1 (by decide) (by decide)).trans ((G18 (gr g a0 0) 28 717 h1 (by decide) (by decide)).trans ((f10 (gr g a0 0) 717 (Or.inl (is_ne h0_ h1 (by decide)))).trans ki2))))
    have em49 : (I36 (gr g a0 0) 715).toInt = i3.toInt := congrArg Int32.toInt ((fx40 715 (by decide) (by decide) (by decide)).trans ((G28 (gr g a0 0) 28 715 h1 (by decide) (by decide)).trans ((G18 (gr g a0 0) 28 715 h1 (by decide) (by decide)).trans ((f10 (gr g a0 0) 715 (Or.inl (is_ne h0_ h1 (by decide)))).trans ki3))))
    have em50 : (I36 (gr g a0 0) 716).toInt = i4.toInt := congrArg Int32.toInt ((fx40 716 (by decide) (by decide) (by decide)).trans ((G28 (gr g a0 0) 28 716 h1 (by decide) (by decide)).trans ((G18 (gr g a0 0) 28 716 h1 (by decide) (by decide)).trans ((f10 (gr g a0 0) 716 (Or.inl (is_ne h0_ h1 (by decide)))).trans ki4))))
    have em51 : (I36 (gr g a0 0) 722).toInt = i5.toInt := congrArg Int32.toInt ((fx40 722 (by decide) (by decide) (by decide)).trans ((G28 (gr g a0 0) 28 722 h1 (by decide) (by decide)).trans ((G18 (gr g a0 0) 28 722 h1 (by decide) (by decide)).trans ((f10 (gr g a0 0) 722 (Or.inl (is_ne h0_ h1 (by decide)))).trans ki5))))
    have em52 : (I36 (gr g a0 0) 718).toInt = i6.toInt := congrArg Int32.toInt ((fx40 718 (by decide) (by decide) (by decide)).trans ((G28 (gr g a0 0) 28 718 h1 (by decide) (by decide)).trans ((G18 (gr g a0 0) 28 718 h1 (by decide) (by decide)).trans ((f10 (gr g a0 0) 718 (Or.inl (is_ne h0_ h1 (by decide)))).trans ki6))))
    have em53 : (I36 (gr g a0 0) 719).toInt = u46.toInt := congrArg Int32.toInt ku46
    refine k_PM C M h0_ (by decide) rfl (ct_X11_unlike l g I36 J a0 h0_ (by simp only [em48, em49, em50, em51, em52, em53]; first | assumption | omega)) (cw_X11_185 C.2.2.2.2 (by decide)) rfl hl.1 rfl (Nat.le_of_ble_eq_true rfl) dX11_spoilt_27 ⟨Nat.le_refl _, Nat.le_refl _⟩ (fun r58 I54 J55 H locs G56 p57r M => ?_)
    obtain ⟨eJ55, p57⟩ : J55 = J ∧ (True) := p57r
    have eJ55 := eJ55.symm
    subst eJ55
    have F := fr_call F G56 (by decide)
    refine lv_istore_n (lv' := [(1, .int r58), (0, .ref a0)]) C.1 C.2.1 dX11_spoilt_30 rfl hl (by decide) rfl (fun ls hl => ?_)
    refine lv_aload_n C.1 C.2.1 dX11_spoilt_31 rfl (lv_at hl 1 rfl) ?_
    refine k_PV C M h0_ (by decide) rfl (ct_X11_comesBack l g I54 J a0 h0_ (wd_eq (fun j hj => ((G56 (gr g a0 1) 29 j h8 (by decide) (by simp)).trans ((G38 (gr g a0 1) 29 j h8 (by decide) (by simp)).trans ((G28 (gr g a0 1) 29 j h8 (by decide) (by simp)).trans ((p19 j hj).trans (f10 (gr g a0 0) j (Or.inl (is_ne h0_ h1 (by decide))))))))) hW0)) (cw_X11_179 C.2.2.2.2 (by decide)) rfl hl.1 rfl (Nat.le_of_ble_eq_true rfl) dX11_spoilt_32 ⟨Nat.le_refl _, Nat.le_refl _⟩ (fun I59 J60 H locs G61 p62r M => ?_)
    obtain ⟨eJ60, p62⟩ : J60 = J ∧ (∀ j, j < 729 → I59 (gr g a0 0) j = I54 (gr g a0 1) j) := p62r
    have eJ60 := eJ60.symm
    subst eJ60
    have F := fr_call F G61 (by decide)
    refine lv_iload_n C.1 C.2.1 dX11_spoilt_35 rfl (lv_at hl 0 rfl) ?_
    obtain ⟨u63, ku63⟩ : ∃ z : Int32, I59 (gr g a0 0) 717 = z := ⟨_, rfl⟩
    have tu63 : 0 ≤ u63.toInt ∧ u63.toInt ≤ 1 := m_rng M h1 717 ku63 rfl
    have rk64 : (I59 (gr g a0 0) 717).toInt = u63.toInt := congrArg Int32.toInt ku63
    obtain ⟨u65, ku65⟩ : ∃ z : Int32, I59 (gr g a0 0) 715 = z := ⟨_, rfl⟩
    have tu65 : 3 ≤ u65.toInt ∧ u65.toInt ≤ 7 := m_rng M h1 715 ku65 rfl
    have rk66 : (I59 (gr g a0 0) 715).toInt = u65.toInt := congrArg Int32.toInt ku65
    obtain ⟨u67, ku67⟩ : ∃ z : Int32, I59 (gr g a0 0) 716 = z := ⟨_, rfl⟩
    have tu67 : 4 ≤ u67.toInt ∧ u67.toInt ≤ 40 := m_rng M h1 716 ku67 rfl
    have rk68 : (I59 (gr g a0 0) 716).toInt = u67.toInt := congrArg Int32.toInt ku67
    obtain ⟨u69, ku69⟩ : ∃ z : Int32, I59 (gr g a0 0) 722 = z := ⟨_, rfl⟩
    have tu69 : 1 ≤ u69.toInt ∧ u69.toInt ≤ 4 := m_rng M h1 722 ku69 rfl
    have rk70 : (I59 (gr g a0 0) 722).toInt = u69.toInt := congrArg Int32.toInt ku69
    obtain ⟨u71, ku71⟩ : ∃ z : Int32, I59 (gr g a0 0) 718 = z := ⟨_, rfl⟩
    have tu71 : 0 ≤ u71.toInt ∧ u71.toInt ≤ 200 := m_rng M h1 718 ku71 rfl
    have rk72 : (I59 (gr g a0 0) 718).toInt = u71.toInt := congrArg Int32.toInt ku71
    obtain ⟨u73, ku73⟩ : ∃ z : Int32, I59 (gr g a0 0) 719 = z := ⟨_, rfl⟩
    have tu73 : 0 ≤ u73.toInt ∧ u73.toInt ≤ 200 := m_rng M h1 719 ku73 rfl
    have rk74 : (I59 (gr g a0 0) 719).toInt = u73.toInt := congrArg Int32.toInt ku73
    exact r_PM C M hr hlk F rfl ⟨rfl, (by have e9 : ∀ j, j < 729 → I59 (gr g a0 0) j = I (gr g a0 0) j := fun j hj => (p62 j hj).trans ((G56 (gr g a0 1) 29 j h8 (by decide) (by simp)).trans ((G38 (gr g a0 1) 29 j h8 (by decide) (by simp)).trans ((G28 (gr g a0 1) 29 j h8 (by decide) (by simp)).trans ((p19 j hj).trans (f10 (gr g a0 0) j (Or.inl (is_ne h0_ h1 (by decide)))))))); rw [e9 717 (by decide), e9 715 (by decide), e9 716 (by decide), e9 722 (by decide), e9 718 (by decide), e9 719 (by decide), ci2, ci3, ci4, ci5, ci6, ci7]; exact g0)⟩ dX11_spoilt_36
  ·
    refine lv_iconst (v := -1) C.1 C.2.1 dX11_spoilt_12 (by decide) ?_
    have rk75 : (I9 (gr g a0 0) 717).toInt = i2.toInt := congrArg Int32.toInt ((f10 (gr g a0 0) 717 (Or.inl (is_ne h0_ h1 (by decide)))).trans ki2)
    have rk76 : (I9 (gr g a0 0) 715).toInt = i3.toInt := congrArg Int32.toInt ((f10 (gr g a0 0) 715 (Or.inl (is_ne h0_ h1 (by decide)))).trans ki3)
    have rk77 : (I9 (gr g a0 0) 716).toInt = i4.toInt := congrArg Int32.toInt ((f10 (gr g a0 0) 716 (Or.inl (is_ne h0_ h1 (by decide)))).trans ki4)
    have rk78 : (I9 (gr g a0 0) 722).toInt = i5.toInt := congrArg Int32.toInt ((f10 (gr g a0 0) 722 (Or.inl (is_ne h0_ h1 (by decide)))).trans ki5)
    have rk79 : (I9 (gr g a0 0) 718).toInt = i6.toInt := congrArg Int32.toInt ((f10 (gr g a0 0) 718 (Or.inl (is_ne h0_ h1 (by decide)))).trans ki6)
    have rk80 : (I9 (gr g a0 0) 719).toInt = i7.toInt := congrArg Int32.toInt ((f10 (gr g a0 0) 719 (Or.inl (is_ne h0_ h1 (by decide)))).trans ki7)
    exact r_PM C M (z := (-1)) hr hlk F rfl ⟨rfl, (by simp only [ci2, ci3, ci4, ci5, ci6, ci7, rk75, rk76, rk77, rk78, rk79, rk80]; first | assumption | exact g0)⟩ dX11_spoilt_13

abbrev md_X11_forecast : List (Nat × Nat) := [(9, 6), (9, 7), (9, 10), (9, 11), (9, 12), (28, 0), (29, 0), (32, 0)]
set_option maxHeartbeats 4000000 in
set_option maxRecDepth 100000 in
theorem ct_X11_forecast (l : Launch) (g : Gs) (I : Ms) (J : Js) (a0 : Nat) (x1 : Int32) (h0_ : Is g a0 9) (g0 : jm (I (gr g a0 0) 717).toInt (I (gr g a0 0) 715).toInt (I (gr g a0 0) 716).toInt (I (gr g a0 0) 722).toInt (I (gr g a0 0) 718).toInt (I (gr g a0 0) 719).toInt) : Ctr l yX11_forecast cX11_forecast 4 (Option.some Jvm.ClassFile.FieldType.int) 10 g [.ref a0, .int x1] I J (PM g md_X11_forecast I (fun z I1 J1 => J1 = J ∧ (jm (I1 (gr g a0 0) 717).toInt (I1 (gr g a0 0) 715).toInt (I1 (gr g a0 0) 716).toInt (I1 (gr g a0 0) 722).toInt (I1 (gr g a0 0) 718).toInt (I1 (gr g a0 0) 719).toInt))) := by
  refine m_start (by decide) (Nat.le_of_ble_eq_true rfl) ?_
  intro p e s m args below meth c C hr hlk M ls hl
  have hl : lv_has ls 4 [(0, .ref a0), (1, .int x1)] := hl
  have C : CallFix p m c cX11_forecast 4 s args TB RX11 := C
  have F : Fr g md_X11_forecast I I := fr_rf
  have h1 := is_ref M h0_ 0 28 rfl rfl
  obtain ⟨i2, ki2⟩ : ∃ z : Int32, I (gr g a0 0) 717 = z := ⟨_, rfl⟩
  have ti2 : 0 ≤ i2.toInt ∧ i2.toInt ≤ 1 := m_rng M h1 717 ki2 rfl
  have ci2 : (I (gr g a0 0) 717).toInt = i2.toInt := congrArg Int32.toInt ki2
  obtain ⟨i3, ki3⟩ : ∃ z : Int32, I (gr g a0 0) 715 = z := ⟨_, rfl⟩
  have ti3 : 3 ≤ i3.toInt ∧ i3.toInt ≤ 7 := m_rng M h1 715 ki3 rfl
  have ci3 : (I (gr g a0 0) 715).toInt = i3.toInt := congrArg Int32.toInt ki3
  obtain ⟨i4, ki4⟩ : ∃ z : Int32, I (gr g a0 0) 716 = z := ⟨_, rfl⟩
  have ti4 : 4 ≤ i4.toInt ∧ i4.toInt ≤ 40 := m_rng M h1 716 ki4 rfl
  have ci4 : (I (gr g a0 0) 716).toInt = i4.toInt := congrArg Int32.toInt ki4
  obtain ⟨i5, ki5⟩ : ∃ z : Int32, I (gr g a0 0) 722 = z := ⟨_, rfl⟩
  have ti5 : 1 ≤ i5.toInt ∧ i5.toInt ≤ 4 := m_rng M h1 722 ki5 rfl
  have ci5 : (I (gr g a0 0) 722).toInt = i5.toInt := congrArg Int32.toInt ki5
  obtain ⟨i6, ki6⟩ : ∃ z : Int32, I (gr g a0 0) 718 = z := ⟨_, rfl⟩
  have ti6 : 0 ≤ i6.toInt ∧ i6.toInt ≤ 200 := m_rng M h1 718 ki6 rfl
  have ci6 : (I (gr g a0 0) 718).toInt = i6.toInt := congrArg Int32.toInt ki6
  obtain ⟨i7, ki7⟩ : ∃ z : Int32, I (gr g a0 0) 719 = z := ⟨_, rfl⟩
  have ti7 : 0 ≤ i7.toInt ∧ i7.toInt ≤ 200 := m_rng M h1 719 ki7 rfl
  have ci7 : (I (gr g a0 0) 719).toInt = i7.toInt := congrArg Int32.toInt ki7
  have h8 := is_ref M h0_ 1 29 rfl rfl
  simp only [ci2, ci3, ci4, ci5, ci6, ci7] at g0
  have hj6 : i2.toInt = 1 → i3.toInt ≤ 6 := fun q => (g0 q).1
  have hW0 := wd_of M h1
  refine lv_aload_n C.1 C.2.1 dX11_forecast_0 rfl (lv_at hl 0 rfl) ?_
  refine lv_iconst (v := 0) C.1 C.2.1 dX11_forecast_1 (by decide) ?_
  refine pi_X11_39 C M h0_ dX11_forecast_2 (fun H locs I9 k11 f10 M => ?_)
  have F := fr_put F h0_ (Or.inr (by decide)) f10
  refine lv_iload_n C.1 C.2.1 dX11_forecast_5 rfl (lv_at hl 1 rfl) ?_
  refine lv_iconst (v := 1) C.1 C.2.1 dX11_forecast_6 (by decide) ?_
  refine lv_bipush (v := 60) C.1 C.2.1 dX11_forecast_7 (by decide) ?_
  refine ks_PI C M (ct_X11_within l g I9 J x1 1 60) (cw_X11_114 C.2.2.2.2 (by decide)) rfl hl.1 rfl (Nat.le_of_ble_eq_true rfl) dX11_forecast_9 ⟨Nat.le_refl _, Nat.le_refl _⟩ (fun r12 H locs p13r M => ?_)
  have p13 : 0 ≤ r12.toInt ∧ r12.toInt ≤ 1 ∧ (r12.toInt = 1 ↔ 1 ≤ x1.toInt ∧ x1.toInt ≤ 60) := p13r
  refine n_if_eq C (tgt := 22) dX11_forecast_12 (by decide) rfl (fun q14 => ?_) (fun q14 => ?_)
  ·
    refine lv_iconst (v := -1) C.1 C.2.1 dX11_forecast_22 (by decide) ?_
    have rk15 : (I9 (gr g a0 0) 717).toInt = i2.toInt := congrArg Int32.toInt ((f10 (gr g a0 0) 717 (Or.inl (is_ne h0_ h1 (by decide)))).trans ki2)
    have rk16 : (I9 (gr g a0 0) 715).toInt = i3.toInt := congrArg Int32.toInt ((f10 (gr g a0 0) 715 (Or.inl (is_ne h0_ h1 (by decide)))).trans ki3)
    have rk17 : (I9 (gr g a0 0) 716).toInt = i4.toInt := congrArg Int32.toInt ((f10 (gr g a0 0) 716 (Or.inl (is_ne h0_ h1 (by decide)))).trans ki4)
    have rk18 : (I9 (gr g a0 0) 722).toInt = i5.toInt := congrArg Int32.toInt ((f10 (gr g a0 0) 722 (Or.inl (is_ne h0_ h1 (by decide)))).trans ki5)
    have rk19 : (I9 (gr g a0 0) 718).toInt = i6.toInt := congrArg Int32.toInt ((f10 (gr g a0 0) 718 (Or.inl (is_ne h0_ h1 (by decide)))).trans ki6)
    have rk20 : (I9 (gr g a0 0) 719).toInt = i7.toInt := congrArg Int32.toInt ((f10 (gr g a0 0) 719 (Or.inl (is_ne h0_ h1 (by decide)))).trans ki7)
    exact r_PM C M (z := (-1)) hr hlk F rfl ⟨rfl, (by simp only [ci2, ci3, ci4, ci5, ci6, ci7, rk15, rk16, rk17, rk18, rk19, rk20]; first | assumption | exact g0)⟩ dX11_forecast_23
  ·
    refine lv_aload_n C.1 C.2.1 dX11_forecast_15 rfl (lv_at hl 0 rfl) ?_
    have em21 : (I9 (gr g a0 0) 717).toInt = i2.toInt := congrArg Int32.toInt ((f10 (gr g a0 0) 717 (Or.inl (is_ne h0_ h1 (by decide)))).trans ki2)
    refine k_PI C M h0_ (by decide) rfl (ct_X11_isGrown l g I9 J a0 h0_) (cw_X11_84 C.2.2.2.2 (by decide)) rfl hl.1 rfl (Nat.le_of_ble_eq_true rfl) dX11_forecast_16 ⟨Nat.le_refl _, Nat.le_refl _⟩ (fun r22 H locs p23r M => ?_)
    have p23 : 0 ≤ r22.toInt ∧ r22.toInt ≤ 1 ∧ (r22.toInt = 1 ↔ (I9 (gr g a0 0) 717).toInt = 1) := p23r
    simp only [em21] at p23
    have p23 : 0 ≤ r22.toInt ∧ r22.toInt ≤ 1 ∧ (r22.toInt = 1 ↔ i2.toInt = 1) := p23
    refine n_if_ne C (tgt := 24) dX11_forecast_19 (by decide) rfl (fun q24 => ?_) (fun q24 => ?_)
    ·
      refine lv_aload_n C.1 C.2.1 dX11_forecast_24 rfl (lv_at hl 0 rfl) ?_
      refine k_PV C M h0_ (by decide) rfl (ct_X11_keeps l g I9 J a0 h0_) (cw_X11_176 C.2.2.2.2 (by decide)) rfl hl.1 rfl (Nat.le_of_ble_eq_true rfl) dX11_forecast_25 ⟨Nat.le_refl _, Nat.le_refl _⟩ (fun I25 J26 H locs G27 p28r M => ?_)
      obtain ⟨eJ26, p28⟩ : J26 = J ∧ (∀ j, j < 729 → I25 (gr g a0 1) j = I9 (gr g a0 0) j) := p28r
      have eJ26 := eJ26.symm
      subst eJ26
      have F := fr_call F G27 (by decide)
      refine lv_aload_n C.1 C.2.1 dX11_forecast_28 rfl (lv_at hl 0 rfl) ?_
      refine lv_iconst (v := 1) C.1 C.2.1 dX11_forecast_29 (by decide) ?_
      refine pi_X11_153 C M (X := 1) h0_ dX11_forecast_30 rfl (by omega) (by omega) (fun H locs I29 k31 f30 M => ?_)
      have F := fr_put F h0_ (Or.inr (by decide)) f30
      have hk0 : ∀ j, j < 729 → I29 (gr g a0 1) j = I (gr g a0 0) j := fun j hj => (f30 (gr g a0 1) j (Or.inl (is_ne h0_ h8 (by decide)))).trans ((p28 j hj).trans (f10 (gr g a0 0) j (Or.inl (is_ne h0_ h1 (by decide)))))
      refine lv_iconst (v := 0) C.1 C.2.1 dX11_forecast_33 (by decide) ?_
      refine lv_istore_n (lv' := [(2, .int 0), (0, .ref a0), (1, .int x1)]) C.1 C.2.1 dX11_forecast_34 rfl hl (by decide) rfl (fun ls hl => ?_)
      have L35 : ∀ (n35 : Nat) (y32 : Int32) (I33 : Ms) (H : Heap) (locs : List Loc) (ls : Array Slot), I33 a0 6 = 1 → I33 a0 9 = 0 → I33 (gr g a0 0) 722 = i5 → I33 (gr g a0 0) 716 = i4 → 0 ≤ y32.toInt → y32.toInt ≤ 401 → (∀ j, j < 729 → I33 (gr g a0 1) j = I (gr g a0 0) j) → jm (I33 (gr g a0 0) 717).toInt (I33 (gr g a0 0) 715).toInt (I33 (gr g a0 0) 716).toInt (I33 (gr g a0 0) 722).toInt (I33 (gr g a0 0) 718).toInt (I33 (gr g a0 0) 719).toInt → 401 - y32.toInt < (n35 : Int) → Fr g md_X11_forecast I I33 → Mm g s I33 J H locs → lv_has ls 4 [(0, .ref a0), (1, .int x1), (2, .int y32)] → W p l e (rmL 10) s m args below meth c H locs 0 0 (MQg below g (PM g md_X11_forecast I (fun z I1 J1 => J1 = J ∧ (jm (I1 (gr g a0 0) 717).toInt (I1 (gr g a0 0) 715).toInt (I1 (gr g a0 0) 716).toInt (I1 (gr g a0 0) 722).toInt (I1 (gr g a0 0) 718).toInt (I1 (gr g a0 0) 719).toInt))) args s) (F0 m 35 ls []) := by
        intro n35
        induction n35 with
        | zero =>
          intro y32 I33 H locs ls k34 k35 k36 k37 f38 f39 hk hJ hm35 F M hl
          exact absurd hm35 (by omega)
        | succ n35 ih35 =>
          intro y32 I33 H locs ls k34 k35 k36 k37 f38 f39 hk hJ hm35 F M hl
          obtain ⟨u40, ku40⟩ : ∃ z : Int32, I33 (gr g a0 0) 717 = z := ⟨_, rfl⟩
          have tu40 : 0 ≤ u40.toInt ∧ u40.toInt ≤ 1 := m_rng M h1 717 ku40 rfl
          have cu40 : (I33 (gr g a0 0) 717).toInt = u40.toInt := congrArg Int32.toInt ku40
          obtain ⟨u41, ku41⟩ : ∃ z : Int32, I33 (gr g a0 0) 715 = z := ⟨_, rfl⟩
          have tu41 : 3 ≤ u41.toInt ∧ u41.toInt ≤ 7 := m_rng M h1 715 ku41 rfl
          have cu41 : (I33 (gr g a0 0) 715).toInt = u41.toInt := congrArg Int32.toInt ku41
          have cc42 : (I33 (gr g a0 0) 716).toInt = i4.toInt := congrArg Int32.toInt k37
          have cc43 : (I33 (gr g a0 0) 722).toInt = i5.toInt := congrArg Int32.toInt k36
          obtain ⟨u44, ku44⟩ : ∃ z : Int32, I33 (gr g a0 0) 718 = z := ⟨_, rfl⟩
          have tu44 : 0 ≤ u44.toInt ∧ u44.toInt ≤ 200 := m_rng M h1 718 ku44 rfl
          have cu44 : (I33 (gr g a0 0) 718).toInt = u44.toInt := congrArg Int32.toInt ku44
          obtain ⟨u45, ku45⟩ : ∃ z : Int32, I33 (gr g a0 0) 719 = z := ⟨_, rfl⟩
          have tu45 : 0 ≤ u45.toInt ∧ u45.toInt ≤ 200 := m_rng M h1 719 ku45 rfl
          have cu45 : (I33 (gr g a0 0) 719).toInt = u45.toInt := congrArg Int32.toInt ku45
          simp only [cu40, cu41, cc42, cc43, cu44, cu45] at hJ
          refine lv_iload_n C.1 C.2.1 dX11_forecast_35 rfl (lv_at hl 2 rfl) ?_
          refine lv_sipush (v := 400) C.1 C.2.1 dX11_forecast_36 (by decide) ?_
          have J61 : ∀ (H : Heap) (locs : List Loc) (ls : Array Slot), Mm g s I33 J H locs → lv_has ls 4 [(0, .ref a0), (2, .int y32)] → W p l e (rmL 10) s m args below meth c H locs 0 0 (MQg below g (PM g md_X11_forecast I (fun z I1 J1 => J1 = J ∧ (jm (I1 (gr g a0 0) 717).toInt (I1 (gr g a0 0) 715).toInt (I1 (gr g a0 0) 716).toInt (I1 (gr g a0 0) 722).toInt (I1 (gr g a0 0) 718).toInt (I1 (gr g a0 0) 719).toInt))) args s) (F0 m 61 ls []) := by
            intro H locs ls M hl
            refine lv_aload_n C.1 C.2.1 dX11_forecast_61 rfl (lv_at hl 0 rfl) ?_
            have em46 : (I33 (gr g a0 0) 717).toInt = u40.toInt := congrArg Int32.toInt ku40
            refine k_PI C M h0_ (by decide) rfl (ct_X11_isGrown l g I33 J a0 h0_) (cw_X11_84 C.2.2.2.2 (by decide)) rfl hl.1 rfl (Nat.le_of_ble_eq_true rfl) dX11_forecast_62 ⟨Nat.le_refl _, Nat.le_refl _⟩ (fun r47 H locs p48r M => ?_)
            have p48 : 0 ≤ r47.toInt ∧ r47.toInt ≤ 1 ∧ (r47.toInt = 1 ↔ (I33 (gr g a0 0) 717).toInt = 1) := p48r
            simp only [em46] at p48
            have p48 : 0 ≤ r47.toInt ∧ r47.toInt ≤ 1 ∧ (r47.toInt = 1 ↔ u40.toInt = 1) := p48
            refine n_if_ne C (tgt := 72) dX11_forecast_65 (by decide) rfl (fun q49 => ?_) (fun q49 => ?_)
            ·
              refine lv_iconst (v := 0) C.1 C.2.1 dX11_forecast_72 (by decide) ?_
              refine lv_istore_n (lv' := [(3, .int 0), (0, .ref a0), (2, .int y32)]) C.1 C.2.1 dX11_forecast_73 rfl hl (by decide) rfl (fun ls hl => ?_)
              refine lv_aload_n C.1 C.2.1 dX11_forecast_74 rfl (lv_at hl 1 rfl) ?_
              refine lv_iconst (v := 0) C.1 C.2.1 dX11_forecast_75 (by decide) ?_
              refine pi_X11_153 C M (X := 0) h0_ dX11_forecast_76 rfl (by omega) (by omega) (fun H locs I50 k52 f51 M => ?_)
              have F := fr_put F h0_ (Or.inr (by decide)) f51
              refine lv_aload_n C.1 C.2.1 dX11_forecast_79 rfl (lv_at hl 1 rfl) ?_
              refine k_PV C M h0_ (by decide) rfl (ct_X11_comesBack l g I50 J a0 h0_ (wd_eq (fun j hj => ((f51 (gr g a0 1) j (Or.inl (is_ne h0_ h8 (by decide)))).trans (hk j hj))) hW0)) (cw_X11_179 C.2.2.2.2 (by decide)) rfl hl.1 rfl (Nat.le_of_ble_eq_true rfl) dX11_forecast_80 ⟨Nat.le_refl _, Nat.le_refl _⟩ (fun I53 J54 H locs G55 p56r M => ?_)
              obtain ⟨eJ54, p56⟩ : J54 = J ∧ (∀ j, j < 729 → I53 (gr g a0 0) j = I50 (gr g a0 1) j) := p56r
              have eJ54 := eJ54.symm
              subst eJ54
              have F := fr_call F G55 (by decide)
              refine lv_iload_n C.1 C.2.1 dX11_forecast_83 rfl (lv_at hl 0 rfl) ?_
              refine n_if_eq C (tgt := 98) (X := 0) dX11_forecast_84 (by decide) rfl (fun q57 => ?_) (fun q57 => ?_)
              ·
                refine lv_bipush (v := -3) C.1 C.2.1 dX11_forecast_98 (by decide) ?_
                obtain ⟨u58, ku58⟩ : ∃ z : Int32, I53 (gr g a0 0) 717 = z := ⟨_, rfl⟩
                have tu58 : 0 ≤ u58.toInt ∧ u58.toInt ≤ 1 := m_rng M h1 717 ku58 rfl
                have rk59 : (I53 (gr g a0 0) 717).toInt = u58.toInt := congrArg Int32.toInt ku58
                obtain ⟨u60, ku60⟩ : ∃ z : Int32, I53 (gr g a0 0) 715 = z := ⟨_, rfl⟩
                have tu60 : 3 ≤ u60.toInt ∧ u60.toInt ≤ 7 := m_rng M h1 715 ku60 rfl
                have rk61 : (I53 (gr g a0 0) 715).toInt = u60.toInt := congrArg Int32.toInt ku60
                obtain ⟨u62, ku62⟩ : ∃ z : Int32, I53 (gr g a0 0) 716 = z := ⟨_, rfl⟩
                have tu62 : 4 ≤ u62.toInt ∧ u62.toInt ≤ 40 := m_rng M h1 716 ku62 rfl
                have rk63 : (I53 (gr g a0 0) 716).toInt = u62.toInt := congrArg Int32.toInt ku62
                obtain ⟨u64, ku64⟩ : ∃ z : Int32, I53 (gr g a0 0) 722 = z := ⟨_, rfl⟩
                have tu64 : 1 ≤ u64.toInt ∧ u64.toInt ≤ 4 := m_rng M h1 722 ku64 rfl
                have rk65 : (I53 (gr g a0 0) 722).toInt = u64.toInt := congrArg Int32.toInt ku64
                obtain ⟨u66, ku66⟩ : ∃ z : Int32, I53 (gr g a0 0) 718 = z := ⟨_, rfl⟩
                have tu66 : 0 ≤ u66.toInt ∧ u66.toInt ≤ 200 := m_rng M h1 718 ku66 rfl
                have rk67 : (I53 (gr g a0 0) 718).toInt = u66.toInt := congrArg Int32.toInt ku66
                obtain ⟨u68, ku68⟩ : ∃ z : Int32, I53 (gr g a0 0) 719 = z := ⟨_, rfl⟩
                have tu68 : 0 ≤ u68.toInt ∧ u68.toInt ≤ 200 := m_rng M h1 719 ku68 rfl
                have rk69 : (I53 (gr g a0 0) 719).toInt = u68.toInt := congrArg Int32.toInt ku68
                exact r_PM C M (z := (-3)) hr hlk F rfl ⟨rfl, (by have e9 : ∀ j, j < 729 → I53 (gr g a0 0) j = I (gr g a0 0) j := fun j hj => (p56 j hj).trans ((f51 (gr g a0 1) j (Or.inl (is_ne h0_ h8 (by decide)))).trans (hk j hj)); rw [e9 717 (by decide), e9 715 (by decide), e9 716 (by decide), e9 722 (by decide), e9 718 (by decide), e9 719 (by decide), ci2, ci3, ci4, ci5, ci6, ci7]; exact g0)⟩ dX11_forecast_100
              ·
                exact absurd q57 (by omega)
            ·
              refine lv_iconst (v := 1) C.1 C.2.1 dX11_forecast_68 (by decide) ?_
              refine lv_goto (tgt := 73) C.1 C.2.1 dX11_forecast_69 (by decide) ?_
              refine lv_istore_n (lv' := [(3, .int 1), (0, .ref a0), (2, .int y32)]) C.1 C.2.1 dX11_forecast_73 rfl hl (by decide) rfl (fun ls hl => ?_)
              refine lv_aload_n C.1 C.2.1 dX11_forecast_74 rfl (lv_at hl 1 rfl) ?_
              refine lv_iconst (v := 0) C.1 C.2.1 dX11_forecast_75 (by decide) ?_
              refine pi_X11_153 C M (X := 0) h0_ dX11_forecast_76 rfl (by omega) (by omega) (fun H locs I70 k72 f71 M => ?_)
              have F := fr_put F h0_ (Or.inr (by decide)) f71
              refine lv_aload_n C.1 C.2.1 dX11_forecast_79 rfl (lv_at hl 1 rfl) ?_
              refine k_PV C M h0_ (by decide) rfl (ct_X11_comesBack l g I70 J a0 h0_ (wd_eq (fun j hj => ((f71 (gr g a0 1) j (Or.inl (is_ne h0_ h8 (by decide)))).trans (hk j hj))) hW0)) (cw_X11_179 C.2.2.2.2 (by decide)) rfl hl.1 rfl (Nat.le_of_ble_eq_true rfl) dX11_forecast_80 ⟨Nat.le_refl _, Nat.le_refl _⟩ (fun I73 J74 H locs G75 p76r M => ?_)
              obtain ⟨eJ74, p76⟩ : J74 = J ∧ (∀ j, j < 729 → I73 (gr g a0 0) j = I70 (gr g a0 1) j) := p76r
              have eJ74 := eJ74.symm
              subst eJ74
              have F := fr_call F G75 (by decide)
              refine lv_iload_n C.1 C.2.1 dX11_forecast_83 rfl (lv_at hl 0 rfl) ?_
              refine n_if_eq C (tgt := 98) (X := 1) dX11_forecast_84 (by decide) rfl (fun q77 => ?_) (fun q77 => ?_)
              ·
                exact absurd q77 (by omega)
              ·
                refine lv_iload_n C.1 C.2.1 dX11_forecast_87 rfl (lv_at hl 2 rfl) ?_
                refine lv_sipush (v := 400) C.1 C.2.1 dX11_forecast_88 (by decide) ?_
                refine n_icmp_gt C (tgt := 98) (Y := 400) dX11_forecast_91 (by decide) rfl rfl (fun q78 => ?_) (fun q78 => ?_)
                ·
                  refine lv_bipush (v := -3) C.1 C.2.1 dX11_forecast_98 (by decide) ?_
                  obtain ⟨u79, ku79⟩ : ∃ z : Int32, I73 (gr g a0 0) 717 = z := ⟨_, rfl⟩
                  have tu79 : 0 ≤ u79.toInt ∧ u79.toInt ≤ 1 := m_rng M h1 717 ku79 rfl
                  have rk80 : (I73 (gr g a0 0) 717).toInt = u79.toInt := congrArg Int32.toInt ku79
                  obtain ⟨u81, ku81⟩ : ∃ z : Int32, I73 (gr g a0 0) 715 = z := ⟨_, rfl⟩
                  have tu81 : 3 ≤ u81.toInt ∧ u81.toInt ≤ 7 := m_rng M h1 715 ku81 rfl
                  have rk82 : (I73 (gr g a0 0) 715).toInt = u81.toInt := congrArg Int32.toInt ku81
                  obtain ⟨u83, ku83⟩ : ∃ z : Int32, I73 (gr g a0 0) 716 = z := ⟨_, rfl⟩
                  have tu83 : 4 ≤ u83.toInt ∧ u83.toInt ≤ 40 := m_rng M h1 716 ku83 rfl
                  have rk84 : (I73 (gr g a0 0) 716).toInt = u83.toInt := congrArg Int32.toInt ku83
                  obtain ⟨u85, ku85⟩ : ∃ z : Int32, I73 (gr g a0 0) 722 = z := ⟨_, rfl⟩
                  have tu85 : 1 ≤ u85.toInt ∧ u85.toInt ≤ 4 := m_rng M h1 722 ku85 rfl
                  have rk86 : (I73 (gr g a0 0) 722).toInt = u85.toInt := congrArg Int32.toInt ku85
                  obtain ⟨u87, ku87⟩ : ∃ z : Int32, I73 (gr g a0 0) 718 = z := ⟨_, rfl⟩
                  have tu87 : 0 ≤ u87.toInt ∧ u87.toInt ≤ 200 := m_rng M h1 718 ku87 rfl
                  have rk88 : (I73 (gr g a0 0) 718).toInt = u87.toInt := congrArg Int32.toInt ku87
                  obtain ⟨u89, ku89⟩ : ∃ z : Int32, I73 (gr g a0 0) 719 = z := ⟨_, rfl⟩
                  have tu89 : 0 ≤ u89.toInt ∧ u89.toInt ≤ 200 := m_rng M h1 719 ku89 rfl
                  have rk90 : (I73 (gr g a0 0) 719).toInt = u89.toInt := congrArg Int32.toInt ku89
                  exact r_PM C M (z := (-3)) hr hlk F rfl ⟨rfl, (by have e9 : ∀ j, j < 729 → I73 (gr g a0 0) j = I (gr g a0 0) j := fun j hj => (p76 j hj).trans ((f71 (gr g a0 1) j (Or.inl (is_ne h0_ h8 (by decide)))).trans (hk j hj)); rw [e9 717 (by decide), e9 715 (by decide), e9 716 (by decide), e9 722 (by decide), e9 718 (by decide), e9 719 (by decide), ci2, ci3, ci4, ci5, ci6, ci7]; exact g0)⟩ dX11_forecast_100
                ·
                  refine lv_iload_n C.1 C.2.1 dX11_forecast_94 rfl (lv_at hl 2 rfl) ?_
                  refine lv_goto (tgt := 100) C.1 C.2.1 dX11_forecast_95 (by decide) ?_
                  obtain ⟨u91, ku91⟩ : ∃ z : Int32, I73 (gr g a0 0) 717 = z := ⟨_, rfl⟩
                  have tu91 : 0 ≤ u91.toInt ∧ u91.toInt ≤ 1 := m_rng M h1 717 ku91 rfl
                  have rk92 : (I73 (gr g a0 0) 717).toInt = u91.toInt := congrArg Int32.toInt ku91
                  obtain ⟨u93, ku93⟩ : ∃ z : Int32, I73 (gr g a0 0) 715 = z := ⟨_, rfl⟩
                  have tu93 : 3 ≤ u93.toInt ∧ u93.toInt ≤ 7 := m_rng M h1 715 ku93 rfl
                  have rk94 : (I73 (gr g a0 0) 715).toInt = u93.toInt := congrArg Int32.toInt ku93
                  obtain ⟨u95, ku95⟩ : ∃ z : Int32, I73 (gr g a0 0) 716 = z := ⟨_, rfl⟩
                  have tu95 : 4 ≤ u95.toInt ∧ u95.toInt ≤ 40 := m_rng M h1 716 ku95 rfl
                  have rk96 : (I73 (gr g a0 0) 716).toInt = u95.toInt := congrArg Int32.toInt ku95
                  obtain ⟨u97, ku97⟩ : ∃ z : Int32, I73 (gr g a0 0) 722 = z := ⟨_, rfl⟩
                  have tu97 : 1 ≤ u97.toInt ∧ u97.toInt ≤ 4 := m_rng M h1 722 ku97 rfl
                  have rk98 : (I73 (gr g a0 0) 722).toInt = u97.toInt := congrArg Int32.toInt ku97
                  obtain ⟨u99, ku99⟩ : ∃ z : Int32, I73 (gr g a0 0) 718 = z := ⟨_, rfl⟩
                  have tu99 : 0 ≤ u99.toInt ∧ u99.toInt ≤ 200 := m_rng M h1 718 ku99 rfl
                  have rk100 : (I73 (gr g a0 0) 718).toInt = u99.toInt := congrArg Int32.toInt ku99
                  obtain ⟨u101, ku101⟩ : ∃ z : Int32, I73 (gr g a0 0) 719 = z := ⟨_, rfl⟩
                  have tu101 : 0 ≤ u101.toInt ∧ u101.toInt ≤ 200 := m_rng M h1 719 ku101 rfl
                  have rk102 : (I73 (gr g a0 0) 719).toInt = u101.toInt := congrArg Int32.toInt ku101
                  exact r_PM C M hr hlk F rfl ⟨rfl, (by have e9 : ∀ j, j < 729 → I73 (gr g a0 0) j = I (gr g a0 0) j := fun j hj => (p76 j hj).trans ((f71 (gr g a0 1) j (Or.inl (is_ne h0_ h8 (by decide)))).trans (hk j hj)); rw [e9 717 (by decide), e9 715 (by decide), e9 716 (by decide), e9 722 (by decide), e9 718 (by decide), e9 719 (by decide), ci2, ci3, ci4, ci5, ci6, ci7]; exact g0)⟩ dX11_forecast_100
          refine n_icmp_gt C (tgt := 61) (Y := 400) dX11_forecast_39 (by decide) rfl rfl (fun q103 => ?_) (fun q103 => ?_)
          ·
            exact J61 _ _ _ M (lv_sub hl [0, 2] rfl)
          ·
            refine lv_aload_n C.1 C.2.1 dX11_forecast_42 rfl (lv_at hl 0 rfl) ?_
            have em104 : (I33 (gr g a0 0) 717).toInt = u40.toInt := congrArg Int32.toInt ku40
            refine k_PI C M h0_ (by decide) rfl (ct_X11_isGrown l g I33 J a0 h0_) (cw_X11_84 C.2.2.2.2 (by decide)) rfl hl.1 rfl (Nat.le_of_ble_eq_true rfl) dX11_forecast_43 ⟨Nat.le_refl _, Nat.le_refl _⟩ (fun r105 H locs p106r M => ?_)
            have p106 : 0 ≤ r105.toInt ∧ r105.toInt ≤ 1 ∧ (r105.toInt = 1 ↔ (I33 (gr g a0 0) 717).toInt = 1) := p106r
            simp only [em104] at p106
            have p106 : 0 ≤ r105.toInt ∧ r105.toInt ≤ 1 ∧ (r105.toInt = 1 ↔ u40.toInt = 1) := p106
            refine n_if_eq C (tgt := 61) dX11_forecast_46 (by decide) rfl (fun q107 => ?_) (fun q107 => ?_)
            ·
              exact J61 _ _ _ M (lv_sub hl [0, 2] rfl)
            ·
              refine lv_aload_n C.1 C.2.1 dX11_forecast_49 rfl (lv_at hl 0 rfl) ?_
              refine lv_iload_n C.1 C.2.1 dX11_forecast_50 rfl (lv_at hl 1 rfl) ?_
              have em108 : (I33 (gr g a0 0) 717).toInt = u40.toInt := congrArg Int32.toInt ku40
              have em109 : (I33 (gr g a0 0) 715).toInt = u41.toInt := congrArg Int32.toInt ku41
              have em110 : (I33 (gr g a0 0) 716).toInt = i4.toInt := congrArg Int32.toInt k37
              have em111 : (I33 (gr g a0 0) 722).toInt = i5.toInt := congrArg Int32.toInt k36
              have em112 : (I33 (gr g a0 0) 718).toInt = u44.toInt := congrArg Int32.toInt ku44
              have em113 : (I33 (gr g a0 0) 719).toInt = u45.toInt := congrArg Int32.toInt ku45
              obtain ⟨u114, ku114⟩ : ∃ z : Int32, I33 (gr g a0 0) 725 = z := ⟨_, rfl⟩
              have tu114 : 0 ≤ u114.toInt ∧ u114.toInt ≤ 20 := m_rng M h1 725 ku114 rfl
              have em115 : (I33 (gr g a0 0) 725).toInt = u114.toInt := congrArg Int32.toInt ku114
              refine k_PM C M h0_ (by decide) rfl (ct_X11_ticks l g I33 J a0 x1 h0_ (by simp only [em108, em109, em110, em111, em112, em113, em115]; first | assumption | omega) (by omega) (by omega)) (cw_X11_170 C.2.2.2.2 (by decide)) rfl hl.1 rfl (Nat.le_of_ble_eq_true rfl) dX11_forecast_51 ⟨Nat.le_refl _, Nat.le_refl _⟩ (fun r120 I116 J117 H locs G118 p119r M => ?_)
              obtain ⟨eJ117, ⟨p119, fx121⟩⟩ : J117 = J ∧ ((jm (I116 (gr g a0 0) 717).toInt (I116 (gr g a0 0) 715).toInt (I116 (gr g a0 0) 716).toInt (I116 (gr g a0 0) 722).toInt (I116 (gr g a0 0) 718).toInt (I116 (gr g a0 0) 719).toInt) ∧ (∀ j, 715 ≤ j → j ≠ 715 → j ≠ 717 → j ≠ 718 → j ≠ 719 → j ≠ 720 → j ≠ 725 → j ≠ 727 → j ≠ 728 → I116 (gr g a0 0) j = I33 (gr g a0 0) j)) := p119r
              have eJ117 := eJ117.symm
              subst eJ117
              obtain ⟨u122, ku122⟩ : ∃ z : Int32, I116 (gr g a0 0) 717 = z := ⟨_, rfl⟩
              have tu122 : 0 ≤ u122.toInt ∧ u122.toInt ≤ 1 := m_rng M h1 717 ku122 rfl
              have em123 : (I116 (gr g a0 0) 717).toInt = u122.toInt := congrArg Int32.toInt ku122
              obtain ⟨u124, ku124⟩ : ∃ z : Int32, I116 (gr g a0 0) 715 = z := ⟨_, rfl⟩
              have tu124 : 3 ≤ u124.toInt ∧ u124.toInt ≤ 7 := m_rng M h1 715 ku124 rfl
              have em125 : (I116 (gr g a0 0) 715).toInt = u124.toInt := congrArg Int32.toInt ku124
              have em126 : (I116 (gr g a0 0) 716).toInt = i4.toInt := congrArg Int32.toInt ((fx121 716 (by decide) (by decide) (by decide) (by decide) (by decide) (by decide) (by decide) (by decide) (by decide)).trans k37)
              have em127 : (I116 (gr g a0 0) 722).toInt = i5.toInt := congrArg Int32.toInt ((fx121 722 (by decide) (by decide) (by decide) (by decide) (by decide) (by decide) (by decide) (by decide) (by decide)).trans k36)
              obtain ⟨u128, ku128⟩ : ∃ z : Int32, I116 (gr g a0 0) 718 = z := ⟨_, rfl⟩
              have tu128 : 0 ≤ u128.toInt ∧ u128.toInt ≤ 200 := m_rng M h1 718 ku128 rfl
              have em129 : (I116 (gr g a0 0) 718).toInt = u128.toInt := congrArg Int32.toInt ku128
              obtain ⟨u130, ku130⟩ : ∃ z : Int32, I116 (gr g a0 0) 719 = z := ⟨_, rfl⟩
              have tu130 : 0 ≤ u130.toInt ∧ u130.toInt ≤ 200 := m_rng M h1 719 ku130 rfl
              have em131 : (I116 (gr g a0 0) 719).toInt = u130.toInt := congrArg Int32.toInt ku130
              simp only [em108, em109, em110, em111, em112, em113, em115, em123, em125, em126, em127, em129, em131] at p119
              have F := fr_call F G118 (by decide)
              refine lv_istore_n (lv' := [(3, .int r120), (0, .ref a0), (1, .int x1), (2, .int y32)]) C.1 C.2.1 dX11_forecast_54 rfl hl (by decide) rfl (fun ls hl => ?_)
              refine n_iinc C (k := 3) (N := 1) (lv' := fun v => [(2, .int v), (3, .int r120), (0, .ref a0), (1, .int x1)]) dX11_forecast_55 hl rfl (by decide) rfl rfl (by omega) (by omega) (fun _ => rfl) (fun v132 ls ev132 hl => ?_)
              refine lv_goto (tgt := 35) C.1 C.2.1 dX11_forecast_58 (by decide) ?_
              have jc133 : (I116 (gr g a0 0) 717).toInt = u122.toInt := congrArg Int32.toInt ku122
              have jc134 : (I116 (gr g a0 0) 715).toInt = u124.toInt := congrArg Int32.toInt ku124
              have jc135 : (I116 (gr g a0 0) 716).toInt = i4.toInt := congrArg Int32.toInt ((fx121 716 (by decide) (by decide) (by decide) (by decide) (by decide) (by decide) (by decide) (by decide) (by decide)).trans k37)
              have jc136 : (I116 (gr g a0 0) 722).toInt = i5.toInt := congrArg Int32.toInt ((fx121 722 (by decide) (by decide) (by decide) (by decide) (by decide) (by decide) (by decide) (by decide) (by decide)).trans k36)
              have jc137 : (I116 (gr g a0 0) 718).toInt = u128.toInt := congrArg Int32.toInt ku128
              have jc138 : (I116 (gr g a0 0) 719).toInt = u130.toInt := congrArg Int32.toInt ku130
              exact ih35 v132 I116 _ _ _ ((G118 a0 9 6 h0_ (by decide) (by decide)).trans k34) ((G118 a0 9 9 h0_ (by decide) (by decide)).trans k35) ((fx121 722 (by decide) (by decide) (by decide) (by decide) (by decide) (by decide) (by decide) (by decide) (by decide)).trans k36) ((fx121 716 (by decide) (by decide) (by decide) (by decide) (by decide) (by decide) (by decide) (by decide) (by decide)).trans k37) (by omega) (by omega) (by first | exact hk0 | exact fun j hj => (G118 (gr g a0 1) 29 j h8 (by decide) (by simp)).trans (hk j hj)) (by simp only [jc133, jc134, jc135, jc136, jc137, jc138]; first | assumption | exact g0) (by omega) F M (lv_sub hl [2, 3, 0] rfl)
      have jc139 : (I29 (gr g a0 0) 717).toInt = i2.toInt := congrArg Int32.toInt ((f30 (gr g a0 0) 717 (Or.inl (is_ne h0_ h1 (by decide)))).trans ((G27 (gr g a0 0) 28 717 h1 (by decide) (by decide)).trans ((f10 (gr g a0 0) 717 (Or.inl (is_ne h0_ h1 (by decide)))).trans ki2)))
      have jc140 : (I29 (gr g a0 0) 715).toInt = i3.toInt := congrArg Int32.toInt ((f30 (gr g a0 0) 715 (Or.inl (is_ne h0_ h1 (by decide)))).trans ((G27 (gr g a0 0) 28 715 h1 (by decide) (by decide)).trans ((f10 (gr g a0 0) 715 (Or.inl (is_ne h0_ h1 (by decide)))).trans ki3)))
      have jc141 : (I29 (gr g a0 0) 716).toInt = i4.toInt := congrArg Int32.toInt ((f30 (gr g a0 0) 716 (Or.inl (is_ne h0_ h1 (by decide)))).trans ((G27 (gr g a0 0) 28 716 h1 (by decide) (by decide)).trans ((f10 (gr g a0 0) 716 (Or.inl (is_ne h0_ h1 (by decide)))).trans ki4)))
      have jc142 : (I29 (gr g a0 0) 722).toInt = i5.toInt := congrArg Int32.toInt ((f30 (gr g a0 0) 722 (Or.inl (is_ne h0_ h1 (by decide)))).trans ((G27 (gr g a0 0) 28 722 h1 (by decide) (by decide)).trans ((f10 (gr g a0 0) 722 (Or.inl (is_ne h0_ h1 (by decide)))).trans ki5)))
      have jc143 : (I29 (gr g a0 0) 718).toInt = i6.toInt := congrArg Int32.toInt ((f30 (gr g a0 0) 718 (Or.inl (is_ne h0_ h1 (by decide)))).trans ((G27 (gr g a0 0) 28 718 h1 (by decide) (by decide)).trans ((f10 (gr g a0 0) 718 (Or.inl (is_ne h0_ h1 (by decide)))).trans ki6)))
      have jc144 : (I29 (gr g a0 0) 719).toInt = i7.toInt := congrArg Int32.toInt ((f30 (gr g a0 0) 719 (Or.inl (is_ne h0_ h1 (by decide)))).trans ((G27 (gr g a0 0) 28 719 h1 (by decide) (by decide)).trans ((f10 (gr g a0 0) 719 (Or.inl (is_ne h0_ h1 (by decide)))).trans ki7)))
      have cz145 : (0 : Int32).toInt = 0 := rfl
      exact L35 _ 0 I29 _ _ _ k31 ((f30 a0 9 (Or.inr (by decide))).trans ((G27 a0 9 9 h0_ (by decide) (by decide)).trans k11)) ((f30 (gr g a0 0) 722 (Or.inl (is_ne h0_ h1 (by decide)))).trans ((G27 (gr g a0 0) 28 722 h1 (by decide) (by decide)).trans ((f10 (gr g a0 0) 722 (Or.inl (is_ne h0_ h1 (by decide)))).trans ki5))) ((f30 (gr g a0 0) 716 (Or.inl (is_ne h0_ h1 (by decide)))).trans ((G27 (gr g a0 0) 28 716 h1 (by decide) (by decide)).trans ((f10 (gr g a0 0) 716 (Or.inl (is_ne h0_ h1 (by decide)))).trans ki4))) (by omega) (by omega) (by first | exact hk0 | exact fun j hj => (G27 (gr g a0 1) 29 j h8 (by decide) (by simp)).trans (hk j hj)) (by simp only [jc139, jc140, jc141, jc142, jc143, jc144]; first | assumption | exact g0) (n_big _) F M (lv_sub hl [1, 2, 0] rfl)
    ·
      refine lv_iconst (v := -1) C.1 C.2.1 dX11_forecast_22 (by decide) ?_
      have rk146 : (I9 (gr g a0 0) 717).toInt = i2.toInt := congrArg Int32.toInt ((f10 (gr g a0 0) 717 (Or.inl (is_ne h0_ h1 (by decide)))).trans ki2)
      have rk147 : (I9 (gr g a0 0) 715).toInt = i3.toInt := congrArg Int32.toInt ((f10 (gr g a0 0) 715 (Or.inl (is_ne h0_ h1 (by decide)))).trans ki3)
      have rk148 : (I9 (gr g a0 0) 716).toInt = i4.toInt := congrArg Int32.toInt ((f10 (gr g a0 0) 716 (Or.inl (is_ne h0_ h1 (by decide)))).trans ki4)
      have rk149 : (I9 (gr g a0 0) 722).toInt = i5.toInt := congrArg Int32.toInt ((f10 (gr g a0 0) 722 (Or.inl (is_ne h0_ h1 (by decide)))).trans ki5)
      have rk150 : (I9 (gr g a0 0) 718).toInt = i6.toInt := congrArg Int32.toInt ((f10 (gr g a0 0) 718 (Or.inl (is_ne h0_ h1 (by decide)))).trans ki6)
      have rk151 : (I9 (gr g a0 0) 719).toInt = i7.toInt := congrArg Int32.toInt ((f10 (gr g a0 0) 719 (Or.inl (is_ne h0_ h1 (by decide)))).trans ki7)
      exact r_PM C M (z := (-1)) hr hlk F rfl ⟨rfl, (by simp only [ci2, ci3, ci4, ci5, ci6, ci7, rk146, rk147, rk148, rk149, rk150, rk151]; first | assumption | exact g0)⟩ dX11_forecast_23
