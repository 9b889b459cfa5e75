abbrev md_X11_steps : List (Nat × Nat) := [(9, 10), (9, 11), (9, 12), (28, 0)]
set_option maxHeartbeats 4000000 in
set_option maxRecDepth 100000 in
theorem ct_X11_steps (l : Launch) (g : Gs) (I : Ms) (J : Js) (a0 : Nat) (x1 : Int32) (h0_ : Is g a0 9) (g0 : jm (I (gr g a0 0) 717).toInt (I (gr g a0 0) 715).toInt (I (gr g a0 0) 716).toInt (I (gr g a0 0) 722).toInt (I (gr g a0 0) 718).toInt (I (gr g a0 0) 719).toInt) : Ctr l yX11_steps cX11_steps 2 (Option.some Jvm.ClassFile.FieldType.int) 9 g [.ref a0, .int x1] I J (PM g md_X11_steps I (fun z I1 J1 => J1 = J ∧ ((jm (I1 (gr g a0 0) 717).toInt (I1 (gr g a0 0) 715).toInt (I1 (gr g a0 0) 716).toInt (I1 (gr g a0 0) 722).toInt (I1 (gr g a0 0) 718).toInt (I1 (gr g a0 0) 719).toInt) ∧ (∀ j, 715 ≤ j → j ≠ 715 → j ≠ 717 → j ≠ 718 → j ≠ 719 → j ≠ 720 → j ≠ 728 → I1 (gr g a0 0) j = I (gr g a0 0) j)))) := by
  refine m_start (by decide) (Nat.le_of_ble_eq_true rfl) ?_
  intro p e s m args below meth c C hr hlk M ls hl
  have hl : lv_has ls 2 [(0, .ref a0), (1, .int x1)] := hl
  have C : CallFix p m c cX11_steps 2 s args TB RX11 := C
  have F : Fr g md_X11_steps I I := fr_rf
  have hS0 := is_ref M h0_ 0 28 rfl rfl
  have Hi : ∀ j, 715 ≤ j → j ≠ 715 → j ≠ 717 → j ≠ 718 → j ≠ 719 → j ≠ 720 → j ≠ 728 → I (gr g a0 0) j = I (gr g a0 0) j := by intros; rfl
  have h1 := is_ref M h0_ 0 28 rfl rfl
  obtain ⟨i2, ki2⟩ : ∃ z : Int32, I (gr g a0 0) 717 = z := ⟨_, rfl⟩
  have ti2 : 0 ≤ i2.toInt ∧ i2.toInt ≤ 1 := m_rng M h1 717 ki2 rfl
  have ci2 : (I (gr g a0 0) 717).toInt = i2.toInt := congrArg Int32.toInt ki2
  obtain ⟨i3, ki3⟩ : ∃ z : Int32, I (gr g a0 0) 715 = z := ⟨_, rfl⟩
  have ti3 : 3 ≤ i3.toInt ∧ i3.toInt ≤ 7 := m_rng M h1 715 ki3 rfl
  have ci3 : (I (gr g a0 0) 715).toInt = i3.toInt := congrArg Int32.toInt ki3
  obtain ⟨i4, ki4⟩ : ∃ z : Int32, I (gr g a0 0) 716 = z := ⟨_, rfl⟩
  have ti4 : 4 ≤ i4.toInt ∧ i4.toInt ≤ 40 := m_rng M h1 716 ki4 rfl
  have ci4 : (I (gr g a0 0) 716).toInt = i4.toInt := congrArg Int32.toInt ki4
  obtain ⟨i5, ki5⟩ : ∃ z : Int32, I (gr g a0 0) 722 = z := ⟨_, rfl⟩
  have ti5 : 1 ≤ i5.toInt ∧ i5.toInt ≤ 4 := m_rng M h1 722 ki5 rfl
  have ci5 : (I (gr g a0 0) 722).toInt = i5.toInt := congrArg Int32.toInt ki5
  obtain ⟨i6, ki6⟩ : ∃ z : Int32, I (gr g a0 0) 718 = z := ⟨_, rfl⟩
  have ti6 : 0 ≤ i6.toInt ∧ i6.toInt ≤ 200 := m_rng M h1 718 ki6 rfl
  have ci6 : (I (gr g a0 0) 718).toInt = i6.toInt := congrArg Int32.toInt ki6
  obtain ⟨i7, ki7⟩ : ∃ z : Int32, I (gr g a0 0) 719 = z := ⟨_, rfl⟩
  have ti7 : 0 ≤ i7.toInt ∧ i7.toInt ≤ 200 := m_rng M h1 719 ki7 rfl
  have ci7 : (I (gr g a0 0) 719).toInt = i7.toInt := congrArg Int32.toInt ki7
  simp only [ci2, ci3, ci4, ci5, ci6, ci7] at g0
  have hj6 : i2.toInt = 1 → i3.toInt ≤ 6 := fun q => (g0 q).1
  refine lv_aload_n C.1 C.2.1 dX11_steps_0 rfl (lv_at hl 0 rfl) ?_
  refine lv_iconst (v := 0) C.1 C.2.1 dX11_steps_1 (by decide) ?_
  refine pi_X11_39 C M h0_ dX11_steps_2 (fun H locs I8 k10 f9 M => ?_)
  have F := fr_put F h0_ (Or.inr (by decide)) f9
  have Hi : ∀ j, 715 ≤ j → j ≠ 715 → j ≠ 717 → j ≠ 718 → j ≠ 719 → j ≠ 720 → j ≠ 728 → I8 (gr g a0 0) j = I (gr g a0 0) j := fun j hj hn715 hn717 hn718 hn719 hn720 hn728 => (f9 (gr g a0 0) j (Or.inl (is_ne h0_ hS0 (by decide)))).trans (Hi j hj hn715 hn717 hn718 hn719 hn720 hn728)
  refine lv_iload_n C.1 C.2.1 dX11_steps_5 rfl (lv_at hl 1 rfl) ?_
  refine lv_iconst (v := 1) C.1 C.2.1 dX11_steps_6 (by decide) ?_
  refine lv_sipush (v := 400) C.1 C.2.1 dX11_steps_7 (by decide) ?_
  refine ks_PI C M (ct_X11_within l g I8 J x1 1 400) (cw_X11_114 C.2.2.2.2 (by decide)) rfl hl.1 rfl (Nat.le_of_ble_eq_true rfl) dX11_steps_10 ⟨Nat.le_refl _, Nat.le_refl _⟩ (fun r11 H locs p12r M => ?_)
  have p12 : 0 ≤ r11.toInt ∧ r11.toInt ≤ 1 ∧ (r11.toInt = 1 ↔ 1 ≤ x1.toInt ∧ x1.toInt ≤ 400) := p12r
  refine n_if_eq C (tgt := 31) dX11_steps_13 (by decide) rfl (fun q13 => ?_) (fun q13 => ?_)
  ·
    refine lv_iconst (v := -1) C.1 C.2.1 dX11_steps_31 (by decide) ?_
    have rk14 : (I8 (gr g a0 0) 717).toInt = i2.toInt := congrArg Int32.toInt ((f9 (gr g a0 0) 717 (Or.inl (is_ne h0_ h1 (by decide)))).trans ki2)
    have rk15 : (I8 (gr g a0 0) 715).toInt = i3.toInt := congrArg Int32.toInt ((f9 (gr g a0 0) 715 (Or.inl (is_ne h0_ h1 (by decide)))).trans ki3)
    have rk16 : (I8 (gr g a0 0) 716).toInt = i4.toInt := congrArg Int32.toInt ((f9 (gr g a0 0) 716 (Or.inl (is_ne h0_ h1 (by decide)))).trans ki4)
    have rk17 : (I8 (gr g a0 0) 722).toInt = i5.toInt := congrArg Int32.toInt ((f9 (gr g a0 0) 722 (Or.inl (is_ne h0_ h1 (by decide)))).trans ki5)
    have rk18 : (I8 (gr g a0 0) 718).toInt = i6.toInt := congrArg Int32.toInt ((f9 (gr g a0 0) 718 (Or.inl (is_ne h0_ h1 (by decide)))).trans ki6)
    have rk19 : (I8 (gr g a0 0) 719).toInt = i7.toInt := congrArg Int32.toInt ((f9 (gr g a0 0) 719 (Or.inl (is_ne h0_ h1 (by decide)))).trans ki7)
    exact r_PM C M (z := (-1)) hr hlk F rfl ⟨rfl, ⟨(by simp only [ci2, ci3, ci4, ci5, ci6, ci7, rk14, rk15, rk16, rk17, rk18, rk19]; first | assumption | exact g0), Hi⟩⟩ dX11_steps_32
  ·
    refine lv_aload_n C.1 C.2.1 dX11_steps_16 rfl (lv_at hl 0 rfl) ?_
    have em20 : (I8 (gr g a0 0) 717).toInt = i2.toInt := congrArg Int32.toInt ((f9 (gr g a0 0) 717 (Or.inl (is_ne h0_ h1 (by decide)))).trans ki2)
    refine k_PI C M h0_ (by decide) rfl (ct_X11_isGrown l g I8 J a0 h0_) (cw_X11_84 C.2.2.2.2 (by decide)) rfl hl.1 rfl (Nat.le_of_ble_eq_true rfl) dX11_steps_17 ⟨Nat.le_refl _, Nat.le_refl _⟩ (fun r21 H locs p22r M => ?_)
    have p22 : 0 ≤ r21.toInt ∧ r21.toInt ≤ 1 ∧ (r21.toInt = 1 ↔ (I8 (gr g a0 0) 717).toInt = 1) := p22r
    simp only [em20] at p22
    have p22 : 0 ≤ r21.toInt ∧ r21.toInt ≤ 1 ∧ (r21.toInt = 1 ↔ i2.toInt = 1) := p22
    refine n_if_eq C (tgt := 31) dX11_steps_20 (by decide) rfl (fun q23 => ?_) (fun q23 => ?_)
    ·
      refine lv_iconst (v := -1) C.1 C.2.1 dX11_steps_31 (by decide) ?_
      have rk24 : (I8 (gr g a0 0) 717).toInt = i2.toInt := congrArg Int32.toInt ((f9 (gr g a0 0) 717 (Or.inl (is_ne h0_ h1 (by decide)))).trans ki2)
      have rk25 : (I8 (gr g a0 0) 715).toInt = i3.toInt := congrArg Int32.toInt ((f9 (gr g a0 0) 715 (Or.inl (is_ne h0_ h1 (by decide)))).trans ki3)
      have rk26 : (I8 (gr g a0 0) 716).toInt = i4.toInt := congrArg Int32.toInt ((f9 (gr g a0 0) 716 (Or.inl (is_ne h0_ h1 (by decide)))).trans ki4)
      have rk27 : (I8 (gr g a0 0) 722).toInt = i5.toInt := congrArg Int32.toInt ((f9 (gr g a0 0) 722 (Or.inl (is_ne h0_ h1 (by decide)))).trans ki5)
      have rk28 : (I8 (gr g a0 0) 718).toInt = i6.toInt := congrArg Int32.toInt ((f9 (gr g a0 0) 718 (Or.inl (is_ne h0_ h1 (by decide)))).trans ki6)
      have rk29 : (I8 (gr g a0 0) 719).toInt = i7.toInt := congrArg Int32.toInt ((f9 (gr g a0 0) 719 (Or.inl (is_ne h0_ h1 (by decide)))).trans ki7)
      exact r_PM C M (z := (-1)) hr hlk F rfl ⟨rfl, ⟨(by simp only [ci2, ci3, ci4, ci5, ci6, ci7, rk24, rk25, rk26, rk27, rk28, rk29]; first | assumption | exact g0), Hi⟩⟩ dX11_steps_32
    ·
      refine lv_aload_n C.1 C.2.1 dX11_steps_23 rfl (lv_at hl 0 rfl) ?_
      refine lv_iload_n C.1 C.2.1 dX11_steps_24 rfl (lv_at hl 1 rfl) ?_
      have em30 : (I8 (gr g a0 0) 717).toInt = i2.toInt := congrArg Int32.toInt ((f9 (gr g a0 0) 717 (Or.inl (is_ne h0_ h1 (by decide)))).trans ki2)
      have em31 : (I8 (gr g a0 0) 715).toInt = i3.toInt := congrArg Int32.toInt ((f9 (gr g a0 0) 715 (Or.inl (is_ne h0_ h1 (by decide)))).trans ki3)
      have em32 : (I8 (gr g a0 0) 716).toInt = i4.toInt := congrArg Int32.toInt ((f9 (gr g a0 0) 716 (Or.inl (is_ne h0_ h1 (by decide)))).trans ki4)
      have em33 : (I8 (gr g a0 0) 722).toInt = i5.toInt := congrArg Int32.toInt ((f9 (gr g a0 0) 722 (Or.inl (is_ne h0_ h1 (by decide)))).trans ki5)
      have em34 : (I8 (gr g a0 0) 718).toInt = i6.toInt := congrArg Int32.toInt ((f9 (gr g a0 0) 718 (Or.inl (is_ne h0_ h1 (by decide)))).trans ki6)
      have em35 : (I8 (gr g a0 0) 719).toInt = i7.toInt := congrArg Int32.toInt ((f9 (gr g a0 0) 719 (Or.inl (is_ne h0_ h1 (by decide)))).trans ki7)
      refine k_PM C M h0_ (by decide) rfl (ct_X11_stepsDone l g I8 J a0 x1 h0_ (by simp only [em30, em31, em32, em33, em34, em35]; first | assumption | omega) (by omega)) (cw_X11_120 C.2.2.2.2 (by decide)) rfl hl.1 rfl (Nat.le_of_ble_eq_true rfl) dX11_steps_25 ⟨Nat.le_refl _, Nat.le_refl _⟩ (fun r40 I36 J37 H locs G38 p39r M => ?_)
      obtain ⟨eJ37, ⟨p39, fx41⟩⟩ : J37 = J ∧ ((jm (I36 (gr g a0 0) 717).toInt (I36 (gr g a0 0) 715).toInt (I36 (gr g a0 0) 716).toInt (I36 (gr g a0 0) 722).toInt (I36 (gr g a0 0) 718).toInt (I36 (gr g a0 0) 719).toInt) ∧ (∀ j, 715 ≤ j → j ≠ 715 → j ≠ 717 → j ≠ 718 → j ≠ 719 → j ≠ 720 → j ≠ 728 → I36 (gr g a0 0) j = I8 (gr g a0 0) j)) := p39r
      have eJ37 := eJ37.symm
      subst eJ37
      have Hi : ∀ j, 715 ≤ j → j ≠ 715 → j ≠ 717 → j ≠ 718 → j ≠ 719 → j ≠ 720 → j ≠ 728 → I36 (gr g a0 0) j = I (gr g a0 0) j := fun j hj hn715 hn717 hn718 hn719 hn720 hn728 => (fx41 j hj hn715 hn717 hn718 hn719 hn720 hn728).trans (Hi j hj hn715 hn717 hn718 hn719 hn720 hn728)
      obtain ⟨u42, ku42⟩ : ∃ z : Int32, I36 (gr g a0 0) 717 = z := ⟨_, rfl⟩
      have tu42 : 0 ≤ u42.toInt ∧ u42.toInt ≤ 1 := m_rng M h1 717 ku42 rfl
      have em43 : (I36 (gr g a0 0) 717).toInt = u42.toInt := congrArg Int32.toInt ku42
      obtain ⟨u44, ku44⟩ : ∃ z : Int32, I36 (gr g a0 0) 715 = z := ⟨_, rfl⟩
      have tu44 : 3 ≤ u44.toInt ∧ u44.toInt ≤ 7 := m_rng M h1 715 ku44 rfl
      have em45 : (I36 (gr g a0 0) 715).toInt = u44.toInt := congrArg Int32.toInt ku44
      have em46 : (I36 (gr g a0 0) 716).toInt = i4.toInt := congrArg Int32.toInt ((fx41 716 (by decide) (by decide) (by decide) (by decide) (by decide) (by decide) (by decide)).trans ((f9 (gr g a0 0) 716 (Or.inl (is_ne h0_ h1 (by decide)))).trans ki4))
      have em47 : (I36 (gr g a0 0) 722).toInt = i5.toInt := congrArg Int32.toInt ((fx41 722 (by decide) (by decide) (by decide) (by decide) (by decide) (by decide) (by decide)).trans ((f9 (gr g a0 0) 722 (Or.inl (is_ne h0_ h1 (by decide)))).trans ki5))
      obtain ⟨u48, ku48⟩ : ∃ z : Int32, I36 (gr g a0 0) 718 = z := ⟨_, rfl⟩
      have tu48 : 0 ≤ u48.toInt ∧ u48.toInt ≤ 200 := m_rng M h1 718 ku48 rfl
      have em49 : (I36 (gr g a0 0) 718).toInt = u48.toInt := congrArg Int32.toInt ku48
      obtain ⟨u50, ku50⟩ : ∃ z : Int32, I36 (gr g a0 0) 719 = z := ⟨_, rfl⟩
      have tu50 : 0 ≤ u50.toInt ∧ u50.toInt ≤ 200 := m_rng M h1 719 ku50 rfl
      have em51 : (I36 (gr g a0 0) 719).toInt = u50.toInt := congrArg Int32.toInt ku50
      simp only [em30, em31, em32, em33, em34, em35, em43, em45, em46, em47, em49, em51] at p39
      have F := fr_call F G38 (by decide)
      refine lv_goto (tgt := 32) C.1 C.2.1 dX11_steps_28 (by decide) ?_
      have rk52 : (I36 (gr g a0 0) 717).toInt = u42.toInt := congrArg Int32.toInt ku42
      have rk53 : (I36 (gr g a0 0) 715).toInt = u44.toInt := congrArg Int32.toInt ku44
      have rk54 : (I36 (gr g a0 0) 716).toInt = i4.toInt := congrArg Int32.toInt ((fx41 716 (by decide) (by decide) (by decide) (by decide) (by decide) (by decide) (by decide)).trans ((f9 (gr g a0 0) 716 (Or.inl (is_ne h0_ h1 (by decide)))).trans ki4))
      have rk55 : (I36 (gr g a0 0) 722).toInt = i5.toInt := congrArg Int32.toInt ((fx41 722 (by decide) (by decide) (by decide) (by decide) (by decide) (by decide) (by decide)).trans ((f9 (gr g a0 0) 722 (Or.inl (is_ne h0_ h1 (by decide)))).trans ki5))
      have rk56 : (I36 (gr g a0 0) 718).toInt = u48.toInt := congrArg Int32.toInt ku48
      have rk57 : (I36 (gr g a0 0) 719).toInt = u50.toInt := congrArg Int32.toInt ku50
      exact r_PM C M hr hlk F rfl ⟨rfl, ⟨(by simp only [ci2, ci3, ci4, ci5, ci6, ci7, rk52, rk53, rk54, rk55, rk56, rk57]; first | assumption | exact g0), Hi⟩⟩ dX11_steps_32

abbrev md_X11_crash : List (Nat × Nat) := [(9, 10), (28, 0)]
set_option maxHeartbeats 4000000 in
set_option maxRecDepth 100000 in
theorem ct_X11_crash (l : Launch) (g : Gs) (I : Ms) (J : Js) (a0 : Nat) (h0_ : Is g a0 9) (g0 : jm (I (gr g a0 0) 717).toInt (I (gr g a0 0) 715).toInt (I (gr g a0 0) 716).toInt (I (gr g a0 0) 722).toInt (I (gr g a0 0) 718).toInt (I (gr g a0 0) 719).toInt) : Ctr l yX11_crash cX11_crash 1 (Option.some Jvm.ClassFile.FieldType.boolean) 7 g [.ref a0] I J (PM g md_X11_crash I (fun z I1 J1 => J1 = J ∧ ((0 ≤ z ∧ z ≤ 1 ∧ jm (I1 (gr g a0 0) 717).toInt (I1 (gr g a0 0) 715).toInt (I1 (gr g a0 0) 716).toInt (I1 (gr g a0 0) 722).toInt (I1 (gr g a0 0) 718).toInt (I1 (gr g a0 0) 719).toInt) ∧ (∀ j, 715 ≤ j → j ≠ 719 → j ≠ 725 → I1 (gr g a0 0) j = I (gr g a0 0) j)))) := by
  refine m_start (by decide) (Nat.le_of_ble_eq_true rfl) ?_
  intro p e s m args below meth c C hr hlk M ls hl
  have hl : lv_has ls 1 [(0, .ref a0)] := hl
  have C : CallFix p m c cX11_crash 1 s args TB RX11 := C
  have F : Fr g md_X11_crash I I := fr_rf
  have hS0 := is_ref M h0_ 0 28 rfl rfl
  have Hi : ∀ j, 715 ≤ j → j ≠ 719 → j ≠ 725 → I (gr g a0 0) j = I (gr g a0 0) j := by intros; rfl
  have h1 := is_ref M h0_ 0 28 rfl rfl
  obtain ⟨i2, ki2⟩ : ∃ z : Int32, I (gr g a0 0) 717 = z := ⟨_, rfl⟩
  have ti2 : 0 ≤ i2.toInt ∧ i2.toInt ≤ 1 := m_rng M h1 717 ki2 rfl
  have ci2 : (I (gr g a0 0) 717).toInt = i2.toInt := congrArg Int32.toInt ki2
  obtain ⟨i3, ki3⟩ : ∃ z : Int32, I (gr g a0 0) 715 = z := ⟨_, rfl⟩
  have ti3 : 3 ≤ i3.toInt ∧ i3.toInt ≤ 7 := m_rng M h1 715 ki3 rfl
  have ci3 : (I (gr g a0 0) 715).toInt = i3.toInt := congrArg Int32.toInt ki3
  obtain ⟨i4, ki4⟩ : ∃ z : Int32, I (gr g a0 0) 716 = z := ⟨_, rfl⟩
  have ti4 : 4 ≤ i4.toInt ∧ i4.toInt ≤ 40 := m_rng M h1 716 ki4 rfl
  have ci4 : (I (gr g a0 0) 716).toInt = i4.toInt := congrArg Int32.toInt ki4
  obtain ⟨i5, ki5⟩ : ∃ z : Int32, I (gr g a0 0) 722 = z := ⟨_, rfl⟩
  have ti5 : 1 ≤ i5.toInt ∧ i5.toInt ≤ 4 := m_rng M h1 722 ki5 rfl
  have ci5 : (I (gr g a0 0) 722).toInt = i5.toInt := congrArg Int32.toInt ki5
  obtain ⟨i6, ki6⟩ : ∃ z : Int32, I (gr g a0 0) 718 = z := ⟨_, rfl⟩
  have ti6 : 0 ≤ i6.toInt ∧ i6.toInt ≤ 200 := m_rng M h1 718 ki6 rfl
  have ci6 : (I (gr g a0 0) 718).toInt = i6.toInt := congrArg Int32.toInt ki6
  obtain ⟨i7, ki7⟩ : ∃ z : Int32, I (gr g a0 0) 719 = z := ⟨_, rfl⟩
  have ti7 : 0 ≤ i7.toInt ∧ i7.toInt ≤ 200 := m_rng M h1 719 ki7 rfl
  have ci7 : (I (gr g a0 0) 719).toInt = i7.toInt := congrArg Int32.toInt ki7
  simp only [ci2, ci3, ci4, ci5, ci6, ci7] at g0
  have hj6 : i2.toInt = 1 → i3.toInt ≤ 6 := fun q => (g0 q).1
  refine lv_aload_n C.1 C.2.1 dX11_crash_0 rfl (lv_at hl 0 rfl) ?_
  refine lv_iconst (v := 0) C.1 C.2.1 dX11_crash_1 (by decide) ?_
  refine pi_X11_39 C M h0_ dX11_crash_2 (fun H locs I8 k10 f9 M => ?_)
  have F := fr_put F h0_ (Or.inr (by decide)) f9
  have Hi : ∀ j, 715 ≤ j → j ≠ 719 → j ≠ 725 → I8 (gr g a0 0) j = I (gr g a0 0) j := fun j hj hn719 hn725 => (f9 (gr g a0 0) j (Or.inl (is_ne h0_ hS0 (by decide)))).trans (Hi j hj hn719 hn725)
  refine lv_aload_n C.1 C.2.1 dX11_crash_5 rfl (lv_at hl 0 rfl) ?_
  have em11 : (I8 (gr g a0 0) 717).toInt = i2.toInt := congrArg Int32.toInt ((f9 (gr g a0 0) 717 (Or.inl (is_ne h0_ h1 (by decide)))).trans ki2)
  refine k_PI C M h0_ (by decide) rfl (ct_X11_isGrown l g I8 J a0 h0_) (cw_X11_84 C.2.2.2.2 (by decide)) rfl hl.1 rfl (Nat.le_of_ble_eq_true rfl) dX11_crash_6 ⟨Nat.le_refl _, Nat.le_refl _⟩ (fun r12 H locs p13r M => ?_)
  have p13 : 0 ≤ r12.toInt ∧ r12.toInt ≤ 1 ∧ (r12.toInt = 1 ↔ (I8 (gr g a0 0) 717).toInt = 1) := p13r
  simp only [em11] at p13
  have p13 : 0 ≤ r12.toInt ∧ r12.toInt ≤ 1 ∧ (r12.toInt = 1 ↔ i2.toInt = 1) := p13
  refine n_if_ne C (tgt := 14) dX11_crash_9 (by decide) rfl (fun q14 => ?_) (fun q14 => ?_)
  ·
    refine lv_aload_n C.1 C.2.1 dX11_crash_14 rfl (lv_at hl 0 rfl) ?_
    have em15 : (I8 (gr g a0 0) 717).toInt = i2.toInt := congrArg Int32.toInt ((f9 (gr g a0 0) 717 (Or.inl (is_ne h0_ h1 (by decide)))).trans ki2)
    have em16 : (I8 (gr g a0 0) 715).toInt = i3.toInt := congrArg Int32.toInt ((f9 (gr g a0 0) 715 (Or.inl (is_ne h0_ h1 (by decide)))).trans ki3)
    have em17 : (I8 (gr g a0 0) 716).toInt = i4.toInt := congrArg Int32.toInt ((f9 (gr g a0 0) 716 (Or.inl (is_ne h0_ h1 (by decide)))).trans ki4)
    have em18 : (I8 (gr g a0 0) 722).toInt = i5.toInt := congrArg Int32.toInt ((f9 (gr g a0 0) 722 (Or.inl (is_ne h0_ h1 (by decide)))).trans ki5)
    have em19 : (I8 (gr g a0 0) 718).toInt = i6.toInt := congrArg Int32.toInt ((f9 (gr g a0 0) 718 (Or.inl (is_ne h0_ h1 (by decide)))).trans ki6)
    have em20 : (I8 (gr g a0 0) 719).toInt = i7.toInt := congrArg Int32.toInt ((f9 (gr g a0 0) 719 (Or.inl (is_ne h0_ h1 (by decide)))).trans ki7)
    refine k_PV C M h0_ (by decide) rfl (ct_X11_crashes l g I8 J a0 h0_ (by simp only [em15, em16, em17, em18, em19, em20]; first | assumption | omega) (by simp only [em15, em16, em17, em18, em19, em20]; first | assumption | omega)) (cw_X11_123 C.2.2.2.2 (by decide)) rfl hl.1 rfl (Nat.le_of_ble_eq_true rfl) dX11_crash_15 ⟨Nat.le_refl _, Nat.le_refl _⟩ (fun I21 J22 H locs G23 p24r M => ?_)
    obtain ⟨eJ22, ⟨p24, fx25⟩⟩ : J22 = J ∧ ((jm (I21 (gr g a0 0) 717).toInt (I21 (gr g a0 0) 715).toInt (I21 (gr g a0 0) 716).toInt (I21 (gr g a0 0) 722).toInt (I21 (gr g a0 0) 718).toInt (I21 (gr g a0 0) 719).toInt) ∧ (∀ j, 715 ≤ j → j ≠ 719 → j ≠ 725 → I21 (gr g a0 0) j = I8 (gr g a0 0) j)) := p24r
    have eJ22 := eJ22.symm
    subst eJ22
    have Hi : ∀ j, 715 ≤ j → j ≠ 719 → j ≠ 725 → I21 (gr g a0 0) j = I (gr g a0 0) j := fun j hj hn719 hn725 => (fx25 j hj hn719 hn725).trans (Hi j hj hn719 hn725)
    have em26 : (I21 (gr g a0 0) 717).toInt = i2.toInt := congrArg Int32.toInt ((fx25 717 (by decide) (by decide) (by decide)).trans ((f9 (gr g a0 0) 717 (Or.inl (is_ne h0_ h1 (by decide)))).trans ki2))
    have em27 : (I21 (gr g a0 0) 715).toInt = i3.toInt := congrArg Int32.toInt ((fx25 715 (by decide) (by decide) (by decide)).trans ((f9 (gr g a0 0) 715 (Or.inl (is_ne h0_ h1 (by decide)))).trans ki3))
    have em28 : (I21 (gr g a0 0) 716).toInt = i4.toInt := congrArg Int32.toInt ((fx25 716 (by decide) (by decide) (by decide)).trans ((f9 (gr g a0 0) 716 (Or.inl (is_ne h0_ h1 (by decide)))).trans ki4))
    have em29 : (I21 (gr g a0 0) 722).toInt = i5.toInt := congrArg Int32.toInt ((fx25 722 (by decide) (by decide) (by decide)).trans ((f9 (gr g a0 0) 722 (Or.inl (is_ne h0_ h1 (by decide)))).trans ki5))
    have em30 : (I21 (gr g a0 0) 718).toInt = i6.toInt := congrArg Int32.toInt ((fx25 718 (by decide) (by decide) (by decide)).trans ((f9 (gr g a0 0) 718 (Or.inl (is_ne h0_ h1 (by decide)))).trans ki6))
    obtain ⟨u31, ku31⟩ : ∃ z : Int32, I21 (gr g a0 0) 719 = z := ⟨_, rfl⟩
    have tu31 : 0 ≤ u31.toInt ∧ u31.toInt ≤ 200 := m_rng M h1 719 ku31 rfl
    have em32 : (I21 (gr g a0 0) 719).toInt = u31.toInt := congrArg Int32.toInt ku31
    simp only [em15, em16, em17, em18, em19, em20, em26, em27, em28, em29, em30, em32] at p24
    have F := fr_call F G23 (by decide)
    refine lv_iconst (v := 1) C.1 C.2.1 dX11_crash_18 (by decide) ?_
    have rk33 : (I21 (gr g a0 0) 717).toInt = i2.toInt := congrArg Int32.toInt ((fx25 717 (by decide) (by decide) (by decide)).trans ((f9 (gr g a0 0) 717 (Or.inl (is_ne h0_ h1 (by decide)))).trans ki2))
    have rk34 : (I21 (gr g a0 0) 715).toInt = i3.toInt := congrArg Int32.toInt ((fx25 715 (by decide) (by decide) (by decide)).trans ((f9 (gr g a0 0) 715 (Or.inl (is_ne h0_ h1 (by decide)))).trans ki3))
    have rk35 : (I21 (gr g a0 0) 716).toInt = i4.toInt := congrArg Int32.toInt ((fx25 716 (by decide) (by decide) (by decide)).trans ((f9 (gr g a0 0) 716 (Or.inl (is_ne h0_ h1 (by decide)))).trans ki4))
    have rk36 : (I21 (gr g a0 0) 722).toInt = i5.toInt := congrArg Int32.toInt ((fx25 722 (by decide) (by decide) (by decide)).trans ((f9 (gr g a0 0) 722 (Or.inl (is_ne h0_ h1 (by decide)))).trans ki5))
    have rk37 : (I21 (gr g a0 0) 718).toInt = i6.toInt := congrArg Int32.toInt ((fx25 718 (by decide) (by decide) (by decide)).trans ((f9 (gr g a0 0) 718 (Or.inl (is_ne h0_ h1 (by decide)))).trans ki6))
    have rk38 : (I21 (gr g a0 0) 719).toInt = u31.toInt := congrArg Int32.toInt ku31
    exact r_PMz C M (z := 1) hr hlk F rfl (by omega) (by omega) ⟨rfl, ⟨(by simp only [ci2, ci3, ci4, ci5, ci6, ci7, rk33, rk34, rk35, rk36, rk37, rk38]; refine ⟨by omega, by omega, ?_⟩; first | assumption | exact g0), Hi⟩⟩ dX11_crash_19
  ·
    refine lv_iconst (v := 0) C.1 C.2.1 dX11_crash_12 (by decide) ?_
    have rk39 : (I8 (gr g a0 0) 717).toInt = i2.toInt := congrArg Int32.toInt ((f9 (gr g a0 0) 717 (Or.inl (is_ne h0_ h1 (by decide)))).trans ki2)
    have rk40 : (I8 (gr g a0 0) 715).toInt = i3.toInt := congrArg Int32.toInt ((f9 (gr g a0 0) 715 (Or.inl (is_ne h0_ h1 (by decide)))).trans ki3)
    have rk41 : (I8 (gr g a0 0) 716).toInt = i4.toInt := congrArg Int32.toInt ((f9 (gr g a0 0) 716 (Or.inl (is_ne h0_ h1 (by decide)))).trans ki4)
    have rk42 : (I8 (gr g a0 0) 722).toInt = i5.toInt := congrArg Int32.toInt ((f9 (gr g a0 0) 722 (Or.inl (is_ne h0_ h1 (by decide)))).trans ki5)
    have rk43 : (I8 (gr g a0 0) 718).toInt = i6.toInt := congrArg Int32.toInt ((f9 (gr g a0 0) 718 (Or.inl (is_ne h0_ h1 (by decide)))).trans ki6)
    have rk44 : (I8 (gr g a0 0) 719).toInt = i7.toInt := congrArg Int32.toInt ((f9 (gr g a0 0) 719 (Or.inl (is_ne h0_ h1 (by decide)))).trans ki7)
    exact r_PMz C M (z := 0) hr hlk F rfl (by omega) (by omega) ⟨rfl, ⟨(by simp only [ci2, ci3, ci4, ci5, ci6, ci7, rk39, rk40, rk41, rk42, rk43, rk44]; refine ⟨by omega, by omega, ?_⟩; first | assumption | exact g0), Hi⟩⟩ dX11_crash_13

abbrev md_X11_serves : List (Nat × Nat) := [(9, 6), (9, 11), (9, 12), (28, 0), (32, 0)]
set_option maxHeartbeats 4000000 in
set_option maxRecDepth 100000 in
theorem ct_X11_serves (l : Launch) (g : Gs) (I : Ms) (J : Js) (a0 : Nat) (x1 : Int32) (h0_ : Is g a0 9) (g0 : jm (I (gr g a0 0) 717).toInt (I (gr g a0 0) 715).toInt (I (gr g a0 0) 716).toInt (I (gr g a0 0) 722).toInt (I (gr g a0 0) 718).toInt (I (gr g a0 0) 719).toInt) (g1 : 0 ≤ x1.toInt) (g2 : x1.toInt < (I (gr g a0 0) 725).toInt) (g3 : x1.toInt ≤ 19) : Ctr l yX11_serves cX11_serves 8 (Option.none : Option Jvm.ClassFile.FieldType) 7 g [.ref a0, .int x1] I J (PV g md_X11_serves I (fun I1 J1 => J1 = J ∧ (((I1 (gr g a0 0) 725).toInt = (I (gr g a0 0) 725).toInt - 1) ∧ (∀ j, 715 ≤ j → j ≠ 725 → I1 (gr g a0 0) j = I (gr g a0 0) j)))) := by
  refine m_start (by decide) (Nat.le_of_ble_eq_true rfl) ?_
  intro p e s m args below meth c C hr hlk M ls hl
  have hl : lv_has ls 8 [(0, .ref a0), (1, .int x1)] := hl
  have C : CallFix p m c cX11_serves 8 s args TB RX11 := C
  have F : Fr g md_X11_serves I I := fr_rf
  have hS0 := is_ref M h0_ 0 28 rfl rfl
  have Hi : ∀ j, 715 ≤ j → j ≠ 725 → I (gr g a0 0) j = I (gr g a0 0) j := by intros; rfl
  have h1 := is_ref M h0_ 0 28 rfl rfl
  obtain ⟨i2, ki2⟩ : ∃ z : Int32, I (gr g a0 0) 717 = z := ⟨_, rfl⟩
  have ti2 : 0 ≤ i2.toInt ∧ i2.toInt ≤ 1 := m_rng M h1 717 ki2 rfl
  have ci2 : (I (gr g a0 0) 717).toInt = i2.toInt := congrArg Int32.toInt ki2
  obtain ⟨i3, ki3⟩ : ∃ z : Int32, I (gr g a0 0) 715 = z := ⟨_, rfl⟩
  have ti3 : 3 ≤ i3.toInt ∧ i3.toInt ≤ 7 := m_rng M h1 715 ki3 rfl
  have ci3 : (I (gr g a0 0) 715).toInt = i3.toInt := congrArg Int32.toInt ki3
  obtain ⟨i4, ki4⟩ : ∃ z : Int32, I (gr g a0 0) 716 = z := ⟨_, rfl⟩
  have ti4 : 4 ≤ i4.toInt ∧ i4.toInt ≤ 40 := m_rng M h1 716 ki4 rfl
  have ci4 : (I (gr g a0 0) 716).toInt = i4.toInt := congrArg Int32.toInt ki4
  obtain ⟨i5, ki5⟩ : ∃ z : Int32, I (gr g a0 0) 722 = z := ⟨_, rfl⟩
  have ti5 : 1 ≤ i5.toInt ∧ i5.toInt ≤ 4 := m_rng M h1 722 ki5 rfl
  have ci5 : (I (gr g a0 0) 722).toInt = i5.toInt := congrArg Int32.toInt ki5
  obtain ⟨i6, ki6⟩ : ∃ z : Int32, I (gr g a0 0) 718 = z := ⟨_, rfl⟩
  have ti6 : 0 ≤ i6.toInt ∧ i6.toInt ≤ 200 := m_rng M h1 718 ki6 rfl
  have ci6 : (I (gr g a0 0) 718).toInt = i6.toInt := congrArg Int32.toInt ki6
  obtain ⟨i7, ki7⟩ : ∃ z : Int32, I (gr g a0 0) 719 = z := ⟨_, rfl⟩
  have ti7 : 0 ≤ i7.toInt ∧ i7.toInt ≤ 200 := m_rng M h1 719 ki7 rfl
  have ci7 : (I (gr g a0 0) 719).toInt = i7.toInt := congrArg Int32.toInt ki7
  obtain ⟨i8, ki8⟩ : ∃ z : Int32, I (gr g a0 0) 725 = z := ⟨_, rfl⟩
  have ti8 : 0 ≤ i8.toInt ∧ i8.toInt ≤ 20 := m_rng M h1 725 ki8 rfl
  have ci8 : (I (gr g a0 0) 725).toInt = i8.toInt := congrArg Int32.toInt ki8
  simp only [ci2, ci3, ci4, ci5, ci6, ci7, ci8] at g0 g2
  have hj6 : i2.toInt = 1 → i3.toInt ≤ 6 := fun q => (g0 q).1
  refine lv_sipush (v := 608) C.1 C.2.1 dX11_serves_0 (by decide) ?_
  refine lv_iconst (v := 5) C.1 C.2.1 dX11_serves_3 (by decide) ?_
  refine lv_iload_n C.1 C.2.1 dX11_serves_4 rfl (lv_at hl 1 rfl) ?_
  refine n_imul C (X := 5) dX11_serves_5 rfl rfl (by omega) (by omega) (fun v9 ev9 => ?_)
  refine n_iadd C (X := 608) dX11_serves_6 rfl rfl (by omega) (by omega) (fun v10 ev10 => ?_)
  refine lv_istore_n (lv' := [(2, .int v10), (0, .ref a0), (1, .int x1)]) C.1 C.2.1 dX11_serves_7 rfl hl (by decide) rfl (fun ls hl => ?_)
  refine lv_aload_n C.1 C.2.1 dX11_serves_8 rfl (lv_at hl 1 rfl) ?_
  refine gi_X11_7 C M h0_ dX11_serves_9 (fun h11 => ?_)
  refine lv_iload_n C.1 C.2.1 dX11_serves_12 rfl (lv_at hl 0 rfl) ?_
  refine lv_iconst (v := 1) C.1 C.2.1 dX11_serves_13 (by decide) ?_
  refine n_iadd C (Y := 1) dX11_serves_14 rfl rfl (by omega) (by omega) (fun v12 ev12 => ?_)
  refine a_ld C M h1 (n := 729) rfl rfl rfl (by omega) (by omega) rfl dX11_serves_15 (fun v13 kv13 => ?_)
  have hblk : 0 ≤ v13.toInt ∧ v13.toInt ≤ 300 := m_rng M h1 _ kv13 (rng28_blk (by omega) (by omega) (by omega))
  refine lv_istore_n (lv' := [(3, .int v13), (2, .int v10), (0, .ref a0), (1, .int x1)]) C.1 C.2.1 dX11_serves_16 rfl hl (by decide) rfl (fun ls hl => ?_)
  refine lv_aload_n C.1 C.2.1 dX11_serves_17 rfl (lv_at hl 2 rfl) ?_
  refine gi_X11_7 C M h0_ dX11_serves_18 (fun h14 => ?_)
  refine lv_iload_n C.1 C.2.1 dX11_serves_21 rfl (lv_at hl 1 rfl) ?_
  refine lv_iconst (v := 4) C.1 C.2.1 dX11_serves_22 (by decide) ?_
  refine n_iadd C (Y := 4) dX11_serves_23 rfl rfl (by omega) (by omega) (fun v15 ev15 => ?_)
  refine a_ld C M h1 (n := 729) rfl rfl rfl (by omega) (by omega) rfl dX11_serves_24 (fun v16 kv16 => ?_)
  refine lv_iconst (v := 1) C.1 C.2.1 dX11_serves_25 (by decide) ?_
  have J34 : ∀ (w17 : Int32) (H : Heap) (locs : List Loc) (ls : Array Slot), 0 ≤ w17.toInt → w17.toInt ≤ 1 → Mm g s I J H locs → lv_has ls 8 [(0, .ref a0), (1, .int x1), (2, .int v10), (3, .int v13)] → W p l e (rmL 7) s m args below meth c H locs 0 0 (MQg below g (PV g md_X11_serves I (fun I1 J1 => J1 = J ∧ (((I1 (gr g a0 0) 725).toInt = (I (gr g a0 0) 725).toInt - 1) ∧ (∀ j, 715 ≤ j → j ≠ 725 → I1 (gr g a0 0) j = I (gr g a0 0) j)))) args s) (F0 m 34 ls [.int w17]) := by
    intro w17 H locs ls f18 f19 M hl
    refine lv_istore (lv' := [(4, .int w17), (0, .ref a0), (1, .int x1), (2, .int v10), (3, .int v13)]) C.1 C.2.1 dX11_serves_34 hl (by decide) rfl (fun ls hl => ?_)
    refine lv_iload C.1 C.2.1 dX11_serves_36 (lv_at hl 0 rfl) ?_
    have J71 : ∀ (w20 : Int32) (I21 : Ms) (H : Heap) (locs : List Loc) (ls : Array Slot), 0 ≤ w20.toInt → w20.toInt ≤ 1 → I21 (gr g a0 0) 725 = i8 → I21 (gr g a0 0) 719 = i7 → I21 (gr g a0 0) 718 = i6 → I21 (gr g a0 0) 722 = i5 → I21 (gr g a0 0) 716 = i4 → I21 (gr g a0 0) 715 = i3 → I21 (gr g a0 0) 717 = i2 → Fr g md_X11_serves I I21 → (∀ j, 715 ≤ j → j ≠ 725 → I21 (gr g a0 0) j = I (gr g a0 0) j) → Mm g s I21 J H locs → lv_has ls 8 [(0, .ref a0), (1, .int x1), (2, .int v10), (4, .int w17)] → W p l e (rmL 7) s m args below meth c H locs 0 0 (MQg below g (PV g md_X11_serves I (fun I1 J1 => J1 = J ∧ (((I1 (gr g a0 0) 725).toInt = (I (gr g a0 0) 725).toInt - 1) ∧ (∀ j, 715 ≤ j → j ≠ 725 → I1 (gr g a0 0) j = I (gr g a0 0) j)))) args s) (F0 m 71 ls [.int w20]) := by
      intro w20 I21 H locs ls f29 f30 k22 k23 k24 k25 k26 k27 k28 F Hi M hl
      refine lv_istore (lv' := [(5, .int w20), (0, .ref a0), (1, .int x1), (2, .int v10), (4, .int w17)]) C.1 C.2.1 dX11_serves_71 hl (by decide) rfl (fun ls hl => ?_)
      refine lv_iload C.1 C.2.1 dX11_serves_73 (lv_at hl 0 rfl) ?_
      have J102 : ∀ (w31 : Int32) (H : Heap) (locs : List Loc) (ls : Array Slot), Mm g s I21 J H locs → lv_has ls 8 [(0, .ref a0), (1, .int x1), (2, .int v10), (4, .int w17), (5, .int w20)] → W p l e (rmL 7) s m args below meth c H locs 0 0 (MQg below g (PV g md_X11_serves I (fun I1 J1 => J1 = J ∧ (((I1 (gr g a0 0) 725).toInt = (I (gr g a0 0) 725).toInt - 1) ∧ (∀ j, 715 ≤ j → j ≠ 725 → I1 (gr g a0 0) j = I (gr g a0 0) j)))) args s) (F0 m 102 ls [.int w31]) := by
        intro w31 H locs ls M hl
        refine lv_istore (lv' := [(6, .int w31), (0, .ref a0), (1, .int x1), (2, .int v10), (4, .int w17), (5, .int w20)]) C.1 C.2.1 dX11_serves_102 hl (by decide) rfl (fun ls hl => ?_)
        refine lv_aload_n C.1 C.2.1 dX11_serves_104 rfl (lv_at hl 1 rfl) ?_
        refine lv_aload_n C.1 C.2.1 dX11_serves_105 rfl (lv_at hl 1 rfl) ?_
        refine gi_X11_7 C M h0_ dX11_serves_106 (fun h32 => ?_)
        refine lv_iload_n C.1 C.2.1 dX11_serves_109 rfl (lv_at hl 3 rfl) ?_
        refine a_ld C M h1 (n := 729) rfl rfl rfl (by omega) (by omega) rfl dX11_serves_110 (fun v33 kv33 => ?_)
        refine lv_iload C.1 C.2.1 dX11_serves_111 (lv_at hl 5 rfl) ?_
        have J130 : ∀ (w34 : Int32) (H : Heap) (locs : List Loc) (ls : Array Slot), 0 ≤ w34.toInt → w34.toInt ≤ 2 → Mm g s I21 J H locs → lv_has ls 8 [(0, .ref a0), (1, .int x1), (6, .int w31)] → W p l e (rmL 7) s m args below meth c H locs 0 0 (MQg below g (PV g md_X11_serves I (fun I1 J1 => J1 = J ∧ (((I1 (gr g a0 0) 725).toInt = (I (gr g a0 0) 725).toInt - 1) ∧ (∀ j, 715 ≤ j → j ≠ 725 → I1 (gr g a0 0) j = I (gr g a0 0) j)))) args s) (F0 m 130 ls [.int w34, .int v33, .ref a0]) := by
          intro w34 H locs ls f35 f36 M hl
          refine lv_iload C.1 C.2.1 dX11_serves_130 (lv_at hl 2 rfl) ?_
          refine k_PV C M h0_ (by decide) rfl (ct_X11_notes l g I21 J a0 v33 w34 w31 h0_) (cw_X11_160 C.2.2.2.2 (by decide)) rfl hl.1 rfl (Nat.le_of_ble_eq_true rfl) dX11_serves_132 ⟨Nat.le_refl _, Nat.le_refl _⟩ (fun I37 J38 H locs G39 p40r M => ?_)
          obtain ⟨eJ38, p40⟩ : J38 = J ∧ (True) := p40r
          have eJ38 := eJ38.symm
          subst eJ38
          have Hi : ∀ j, 715 ≤ j → j ≠ 725 → I37 (gr g a0 0) j = I (gr g a0 0) j := fun j hj hn725 => (G39 (gr g a0 0) 28 j hS0 (by decide) (by simp)).trans (Hi j hj hn725)
          have F := fr_call F G39 (by decide)
          refine lv_aload_n C.1 C.2.1 dX11_serves_135 rfl (lv_at hl 0 rfl) ?_
          refine gi_X11_7 C M h0_ dX11_serves_136 (fun h41 => ?_)
          refine lv_sipush (v := 725) C.1 C.2.1 dX11_serves_139 (by decide) ?_
          refine lv_dup2_11 C.1 C.2.1 dX11_serves_142 rfl rfl ?_
          refine a_ldK C M (X := 725) (j := 725) h1 (n := 729) rfl rfl rfl (by omega) (by omega) rfl ((G39 (gr g a0 0) 28 725 h1 (by decide) (by decide)).trans k22) dX11_serves_143 ?_
          refine lv_iconst (v := 1) C.1 C.2.1 dX11_serves_144 (by decide) ?_
          refine n_isub C (Y := 1) dX11_serves_145 rfl rfl (by omega) (by omega) (fun v42 ev42 => ?_)
          refine a_st C M (X := 725) (j := 725) h1 (n := 729) rfl rfl rfl (by omega) (by omega) rfl rfl (lo := 0) (hi := 20) rfl (by omega) (by omega) dX11_serves_146 (fun H locs I43 k45 f44 M => ?_)
          have F := fr_put F h1 (Or.inl (by decide)) f44
          have Hi : ∀ j, 715 ≤ j → j ≠ 725 → I43 (gr g a0 0) j = I (gr g a0 0) j := fun j hj hn725 => (f44 (gr g a0 0) j (Or.inr (by omega))).trans (Hi j hj hn725)
          refine lv_iconst (v := 5) C.1 C.2.1 dX11_serves_147 (by decide) ?_
          refine lv_iload_n C.1 C.2.1 dX11_serves_148 rfl (lv_at hl 1 rfl) ?_
          refine n_imul C (X := 5) dX11_serves_149 rfl rfl (by omega) (by omega) (fun v46 ev46 => ?_)
          refine lv_istore (lv' := [(7, .int v46), (0, .ref a0), (1, .int x1), (6, .int w31)]) C.1 C.2.1 dX11_serves_150 hl (by decide) rfl (fun ls hl => ?_)
          have L152 : ∀ (n152 : Nat) (y47 : Int32) (I48 : Ms) (H : Heap) (locs : List Loc) (ls : Array Slot), I48 (gr g a0 0) 725 = v42 → I48 (gr g a0 0) 717 = i2 → I48 (gr g a0 0) 715 = i3 → I48 (gr g a0 0) 716 = i4 → I48 (gr g a0 0) 722 = i5 → I48 (gr g a0 0) 718 = i6 → I48 (gr g a0 0) 719 = i7 → 0 ≤ y47.toInt → y47.toInt ≤ 100 → 100 - y47.toInt < (n152 : Int) → Fr g md_X11_serves I I48 → (∀ j, 715 ≤ j → j ≠ 725 → I48 (gr g a0 0) j = I (gr g a0 0) j) → Mm g s I48 J H locs → lv_has ls 8 [(0, .ref a0), (7, .int y47)] → W p l e (rmL 7) s m args below meth c H locs 0 0 (MQg below g (PV g md_X11_serves I (fun I1 J1 => J1 = J ∧ (((I1 (gr g a0 0) 725).toInt = (I (gr g a0 0) 725).toInt - 1) ∧ (∀ j, 715 ≤ j → j ≠ 725 → I1 (gr g a0 0) j = I (gr g a0 0) j)))) args s) (F0 m 152 ls []) := by
            intro n152
            induction n152 with
            | zero =>
              intro y47 I48 H locs ls k49 k50 k51 k52 k53 k54 k55 f56 f57 hm152 F Hi M hl
              exact absurd hm152 (by omega)
            | succ n152 ih152 =>
              intro y47 I48 H locs ls k49 k50 k51 k52 k53 k54 k55 f56 f57 hm152 F Hi M hl
              refine lv_iload C.1 C.2.1 dX11_serves_152 (lv_at hl 1 rfl) ?_
              refine lv_iconst (v := 5) C.1 C.2.1 dX11_serves_154 (by decide) ?_
              refine lv_aload_n C.1 C.2.1 dX11_serves_155 rfl (lv_at hl 0 rfl) ?_
              refine gi_X11_7 C M h0_ dX11_serves_156 (fun h58 => ?_)
              refine lv_sipush (v := 725) C.1 C.2.1 dX11_serves_159 (by decide) ?_
              refine a_ldK C M (X := 725) (j := 725) h1 (n := 729) rfl rfl rfl (by omega) (by omega) rfl k49 dX11_serves_162 ?_
              refine n_imul C (X := 5) dX11_serves_163 rfl rfl (by omega) (by omega) (fun v59 ev59 => ?_)
              refine n_icmp_ge C (tgt := 197) dX11_serves_164 (by decide) rfl rfl (fun q60 => ?_) (fun q60 => ?_)
              ·
                have rk61 : (I48 (gr g a0 0) 717).toInt = i2.toInt := congrArg Int32.toInt k50
                have rk62 : (I48 (gr g a0 0) 715).toInt = i3.toInt := congrArg Int32.toInt k51
                have rk63 : (I48 (gr g a0 0) 716).toInt = i4.toInt := congrArg Int32.toInt k52
                have rk64 : (I48 (gr g a0 0) 722).toInt = i5.toInt := congrArg Int32.toInt k53
                have rk65 : (I48 (gr g a0 0) 718).toInt = i6.toInt := congrArg Int32.toInt k54
                have rk66 : (I48 (gr g a0 0) 719).toInt = i7.toInt := congrArg Int32.toInt k55
                have rk67 : (I48 (gr g a0 0) 725).toInt = v42.toInt := congrArg Int32.toInt k49
                exact r_PV C M hr hlk F ⟨rfl, ⟨(by simp only [ci2, ci3, ci4, ci5, ci6, ci7, ci8, rk61, rk62, rk63, rk64, rk65, rk66, rk67]; omega), Hi⟩⟩ dX11_serves_197
              ·
                refine lv_aload_n C.1 C.2.1 dX11_serves_167 rfl (lv_at hl 0 rfl) ?_
                refine gi_X11_7 C M h0_ dX11_serves_168 (fun h68 => ?_)
                refine lv_sipush (v := 608) C.1 C.2.1 dX11_serves_171 (by decide) ?_
                refine lv_iload C.1 C.2.1 dX11_serves_174 (lv_at hl 1 rfl) ?_
                refine n_iadd C (X := 608) dX11_serves_176 rfl rfl (by omega) (by omega) (fun v69 ev69 => ?_)
                refine lv_aload_n C.1 C.2.1 dX11_serves_177 rfl (lv_at hl 0 rfl) ?_
                refine gi_X11_7 C M h0_ dX11_serves_178 (fun h70 => ?_)
                refine lv_sipush (v := 608) C.1 C.2.1 dX11_serves_181 (by decide) ?_
                refine lv_iload C.1 C.2.1 dX11_serves_184 (lv_at hl 1 rfl) ?_
                refine n_iadd C (X := 608) dX11_serves_186 rfl rfl (by omega) (by omega) (fun v71 ev71 => ?_)
                refine lv_iconst (v := 5) C.1 C.2.1 dX11_serves_187 (by decide) ?_
                refine n_iadd C (Y := 5) dX11_serves_188 rfl rfl (by omega) (by omega) (fun v72 ev72 => ?_)
                refine a_ld C M h1 (n := 729) rfl rfl rfl (by omega) (by omega) rfl dX11_serves_189 (fun v73 kv73 => ?_)
                refine a_stC C M h1 rfl (by omega) (by omega) kv73 (by omega) (by omega) (by omega) dX11_serves_190 (fun H locs I74 k76 f75 M => ?_)
                have F := fr_put F h1 (Or.inl (by decide)) f75
                have Hi : ∀ j, 715 ≤ j → j ≠ 725 → I74 (gr g a0 0) j = I (gr g a0 0) j := fun j hj hn725 => (f75 (gr g a0 0) j (Or.inr (by omega))).trans (Hi j hj hn725)
                refine n_iinc C (k := 1) (N := 1) (lv' := fun v => [(7, .int v), (0, .ref a0)]) dX11_serves_191 hl rfl (by decide) rfl rfl (by omega) (by omega) (fun _ => rfl) (fun v77 ls ev77 hl => ?_)
                refine lv_goto (tgt := 152) C.1 C.2.1 dX11_serves_194 (by decide) ?_
                exact ih152 v77 I74 _ _ _ ((f75 (gr g a0 0) 725 (Or.inr (by omega))).trans k49) ((f75 (gr g a0 0) 717 (Or.inr (by omega))).trans k50) ((f75 (gr g a0 0) 715 (Or.inr (by omega))).trans k51) ((f75 (gr g a0 0) 716 (Or.inr (by omega))).trans k52) ((f75 (gr g a0 0) 722 (Or.inr (by omega))).trans k53) ((f75 (gr g a0 0) 718 (Or.inr (by omega))).trans k54) ((f75 (gr g a0 0) 719 (Or.inr (by omega))).trans k55) (by omega) (by omega) (by omega) F Hi M (lv_sub hl [1, 0] rfl)
          exact L152 _ v46 I43 _ _ _ k45 ((f44 (gr g a0 0) 717 (Or.inr (by decide))).trans ((G39 (gr g a0 0) 28 717 h1 (by decide) (by decide)).trans k28)) ((f44 (gr g a0 0) 715 (Or.inr (by decide))).trans ((G39 (gr g a0 0) 28 715 h1 (by decide) (by decide)).trans k27)) ((f44 (gr g a0 0) 716 (Or.inr (by decide))).trans ((G39 (gr g a0 0) 28 716 h1 (by decide) (by decide)).trans k26)) ((f44 (gr g a0 0) 722 (Or.inr (by decide))).trans ((G39 (gr g a0 0) 28 722 h1 (by decide) (by decide)).trans k25)) ((f44 (gr g a0 0) 718 (Or.inr (by decide))).trans ((G39 (gr g a0 0) 28 718 h1 (by decide) (by decide)).trans k24)) ((f44 (gr g a0 0) 719 (Or.inr (by decide))).trans ((G39 (gr g a0 0) 28 719 h1 (by decide) (by decide)).trans k23)) (by omega) (by omega) (n_big _) F Hi M (lv_sub hl [1, 0] rfl)
        refine n_if_ne C (tgt := 120) dX11_serves_113 (by decide) rfl (fun q78 => ?_) (fun q78 => ?_)
        ·
          refine lv_iload C.1 C.2.1 dX11_serves_120 (lv_at hl 4 rfl) ?_
          refine n_if_eq C (tgt := 129) dX11_serves_122 (by decide) rfl (fun q79 => ?_) (fun q79 => ?_)
          ·
            refine lv_iconst (v := 0) C.1 C.2.1 dX11_serves_129 (by decide) ?_
            have cz80 : (0 : Int32).toInt = 0 := rfl
            exact J130 0 _ _ _ (by omega) (by omega) M (lv_sub hl [1, 2, 0] rfl)
          ·
            refine lv_iconst (v := 1) C.1 C.2.1 dX11_serves_125 (by decide) ?_
            refine lv_goto (tgt := 130) C.1 C.2.1 dX11_serves_126 (by decide) ?_
            have cz81 : (1 : Int32).toInt = 1 := rfl
            exact J130 1 _ _ _ (by omega) (by omega) M (lv_sub hl [1, 2, 0] rfl)
        ·
          refine lv_iconst (v := 2) C.1 C.2.1 dX11_serves_116 (by decide) ?_
          refine lv_goto (tgt := 130) C.1 C.2.1 dX11_serves_117 (by decide) ?_
          have cz82 : (2 : Int32).toInt = 2 := rfl
          exact J130 2 _ _ _ (by omega) (by omega) M (lv_sub hl [1, 2, 0] rfl)
      refine n_if_ne C (tgt := 82) dX11_serves_75 (by decide) rfl (fun q83 => ?_) (fun q83 => ?_)
      ·
        refine lv_iload C.1 C.2.1 dX11_serves_82 (lv_at hl 4 rfl) ?_
        refine n_if_eq C (tgt := 98) dX11_serves_84 (by decide) rfl (fun q84 => ?_) (fun q84 => ?_)
        ·
          refine lv_aload_n C.1 C.2.1 dX11_serves_98 rfl (lv_at hl 1 rfl) ?_
          refine gi_X11_53 C M h0_ dX11_serves_99 (fun v85 kv85 => ?_)
          exact J102 v85 _ _ _ M (lv_sub hl [1, 2, 3, 4, 0] rfl)
        ·
          refine lv_aload_n C.1 C.2.1 dX11_serves_87 rfl (lv_at hl 1 rfl) ?_
          refine gi_X11_7 C M h0_ dX11_serves_88 (fun h86 => ?_)
          refine lv_iload_n C.1 C.2.1 dX11_serves_91 rfl (lv_at hl 3 rfl) ?_
          refine lv_iconst (v := 2) C.1 C.2.1 dX11_serves_92 (by decide) ?_
          refine n_iadd C (Y := 2) dX11_serves_93 rfl rfl (by omega) (by omega) (fun v87 ev87 => ?_)
          refine a_ld C M h1 (n := 729) rfl rfl rfl (by omega) (by omega) rfl dX11_serves_94 (fun v88 kv88 => ?_)
          refine lv_goto (tgt := 102) C.1 C.2.1 dX11_serves_95 (by decide) ?_
          exact J102 v88 _ _ _ M (lv_sub hl [1, 2, 3, 4, 0] rfl)
      ·
        refine lv_iconst (v := 0) C.1 C.2.1 dX11_serves_78 (by decide) ?_
        refine lv_goto (tgt := 102) C.1 C.2.1 dX11_serves_79 (by decide) ?_
        have cz89 : (0 : Int32).toInt = 0 := rfl
        exact J102 0 _ _ _ M (lv_sub hl [1, 2, 3, 4, 0] rfl)
    refine n_if_eq C (tgt := 66) dX11_serves_38 (by decide) rfl (fun q90 => ?_) (fun q90 => ?_)
    ·
      refine lv_aload_n C.1 C.2.1 dX11_serves_66 rfl (lv_at hl 1 rfl) ?_
      refine lv_iload_n C.1 C.2.1 dX11_serves_67 rfl (lv_at hl 4 rfl) ?_
      have em91 : (I (gr g a0 0) 717).toInt = i2.toInt := congrArg Int32.toInt ki2
      have em92 : (I (gr g a0 0) 715).toInt = i3.toInt := congrArg Int32.toInt ki3
      have em93 : (I (gr g a0 0) 716).toInt = i4.toInt := congrArg Int32.toInt ki4
      have em94 : (I (gr g a0 0) 722).toInt = i5.toInt := congrArg Int32.toInt ki5
      have em95 : (I (gr g a0 0) 718).toInt = i6.toInt := congrArg Int32.toInt ki6
      have em96 : (I (gr g a0 0) 719).toInt = i7.toInt := congrArg Int32.toInt ki7
      refine k_PM C M h0_ (by decide) rfl (ct_X11_readsBlock l g I J a0 v13 h0_ (by simp only [em91, em92, em93, em94, em95, em96]; first | assumption | omega) (by omega) (by omega)) (cw_X11_141 C.2.2.2.2 (by decide)) rfl hl.1 rfl (Nat.le_of_ble_eq_true rfl) dX11_serves_68 ⟨Nat.le_refl _, Nat.le_refl _⟩ (fun r101 I97 J98 H locs G99 p100r M => ?_)
      obtain ⟨eJ98, p100⟩ : J98 = J ∧ (0 ≤ r101.toInt ∧ r101.toInt ≤ 1) := p100r
      have eJ98 := eJ98.symm
      subst eJ98
      have Hi : ∀ j, 715 ≤ j → j ≠ 725 → I97 (gr g a0 0) j = I (gr g a0 0) j := fun j hj hn725 => (G99 (gr g a0 0) 28 j hS0 (by decide) (by simp)).trans (Hi j hj hn725)
      have F := fr_call F G99 (by decide)
      exact J71 r101 I97 _ _ _ (by omega) (by omega) ((G99 (gr g a0 0) 28 725 h1 (by decide) (by decide)).trans ki8) ((G99 (gr g a0 0) 28 719 h1 (by decide) (by decide)).trans ki7) ((G99 (gr g a0 0) 28 718 h1 (by decide) (by decide)).trans ki6) ((G99 (gr g a0 0) 28 722 h1 (by decide) (by decide)).trans ki5) ((G99 (gr g a0 0) 28 716 h1 (by decide) (by decide)).trans ki4) ((G99 (gr g a0 0) 28 715 h1 (by decide) (by decide)).trans ki3) ((G99 (gr g a0 0) 28 717 h1 (by decide) (by decide)).trans ki2) F Hi M (lv_sub hl [1, 2, 3, 0] rfl)
    ·
      refine lv_aload_n C.1 C.2.1 dX11_serves_41 rfl (lv_at hl 1 rfl) ?_
      refine lv_iload_n C.1 C.2.1 dX11_serves_42 rfl (lv_at hl 4 rfl) ?_
      refine lv_aload_n C.1 C.2.1 dX11_serves_43 rfl (lv_at hl 1 rfl) ?_
      refine gi_X11_7 C M h0_ dX11_serves_44 (fun h102 => ?_)
      refine lv_iload_n C.1 C.2.1 dX11_serves_47 rfl (lv_at hl 3 rfl) ?_
      refine lv_iconst (v := 2) C.1 C.2.1 dX11_serves_48 (by decide) ?_
      refine n_iadd C (Y := 2) dX11_serves_49 rfl rfl (by omega) (by omega) (fun v103 ev103 => ?_)
      refine a_ld C M h1 (n := 729) rfl rfl rfl (by omega) (by omega) rfl dX11_serves_50 (fun v104 kv104 => ?_)
      have em105 : (I (gr g a0 0) 717).toInt = i2.toInt := congrArg Int32.toInt ki2
      have em106 : (I (gr g a0 0) 715).toInt = i3.toInt := congrArg Int32.toInt ki3
      have em107 : (I (gr g a0 0) 716).toInt = i4.toInt := congrArg Int32.toInt ki4
      have em108 : (I (gr g a0 0) 722).toInt = i5.toInt := congrArg Int32.toInt ki5
      have em109 : (I (gr g a0 0) 718).toInt = i6.toInt := congrArg Int32.toInt ki6
      have em110 : (I (gr g a0 0) 719).toInt = i7.toInt := congrArg Int32.toInt ki7
      refine k_PM C M h0_ (by decide) rfl (ct_X11_writesBlock l g I J a0 v13 v104 h0_ (by simp only [em105, em106, em107, em108, em109, em110]; first | assumption | omega) (by omega) (by omega)) (cw_X11_144 C.2.2.2.2 (by decide)) rfl hl.1 rfl (Nat.le_of_ble_eq_true rfl) dX11_serves_51 ⟨Nat.le_refl _, Nat.le_refl _⟩ (fun r115 I111 J112 H locs G113 p114r M => ?_)
      obtain ⟨eJ112, ⟨p114, fx116⟩⟩ : J112 = J ∧ ((True) ∧ (∀ j, 715 ≤ j → I111 (gr g a0 0) j = I (gr g a0 0) j)) := p114r
      have eJ112 := eJ112.symm
      subst eJ112
      have Hi : ∀ j, 715 ≤ j → j ≠ 725 → I111 (gr g a0 0) j = I (gr g a0 0) j := fun j hj hn725 => (fx116 j hj).trans (Hi j hj hn725)
      have F := fr_call F G113 (by decide)
      refine lv_iconst (v := 1) C.1 C.2.1 dX11_serves_54 (by decide) ?_
      refine n_icmp_ne C (tgt := 62) (Y := 1) dX11_serves_55 (by decide) rfl rfl (fun q117 => ?_) (fun q117 => ?_)
      ·
        refine lv_iconst (v := 0) C.1 C.2.1 dX11_serves_62 (by decide) ?_
        refine lv_goto (tgt := 71) C.1 C.2.1 dX11_serves_63 (by decide) ?_
        have cz118 : (0 : Int32).toInt = 0 := rfl
        exact J71 0 I111 _ _ _ (by omega) (by omega) ((fx116 725 (by decide)).trans ki8) ((fx116 719 (by decide)).trans ki7) ((fx116 718 (by decide)).trans ki6) ((fx116 722 (by decide)).trans ki5) ((fx116 716 (by decide)).trans ki4) ((fx116 715 (by decide)).trans ki3) ((fx116 717 (by decide)).trans ki2) F Hi M (lv_sub hl [1, 2, 3, 0] rfl)
      ·
        refine lv_iconst (v := 1) C.1 C.2.1 dX11_serves_58 (by decide) ?_
        refine lv_goto (tgt := 71) C.1 C.2.1 dX11_serves_59 (by decide) ?_
        have cz119 : (1 : Int32).toInt = 1 := rfl
        exact J71 1 I111 _ _ _ (by omega) (by omega) ((fx116 725 (by decide)).trans ki8) ((fx116 719 (by decide)).trans ki7) ((fx116 718 (by decide)).trans ki6) ((fx116 722 (by decide)).trans ki5) ((fx116 716 (by decide)).trans ki4) ((fx116 715 (by decide)).trans ki3) ((fx116 717 (by decide)).trans ki2) F Hi M (lv_sub hl [1, 2, 3, 0] rfl)
  refine n_icmp_ne C (tgt := 33) (Y := 1) dX11_serves_26 (by decide) rfl rfl (fun q120 => ?_) (fun q120 => ?_)
  ·
    refine lv_iconst (v := 0) C.1 C.2.1 dX11_serves_33 (by decide) ?_
    have cz121 : (0 : Int32).toInt = 0 := rfl
    exact J34 0 _ _ _ (by omega) (by omega) M (lv_sub hl [2, 3, 1, 0] rfl)
  ·
    refine lv_iconst (v := 1) C.1 C.2.1 dX11_serves_29 (by decide) ?_
    refine lv_goto (tgt := 34) C.1 C.2.1 dX11_serves_30 (by decide) ?_
    have cz122 : (1 : Int32).toInt = 1 := rfl
    exact J34 1 _ _ _ (by omega) (by omega) M (lv_sub hl [2, 3, 1, 0] rfl)

abbrev md_X11_ticks : List (Nat × Nat) := [(9, 6), (9, 11), (9, 12), (28, 0), (32, 0)]
set_option maxHeartbeats 4000000 in
set_option maxRecDepth 100000 in
theorem ct_X11_ticks (l : Launch) (g : Gs) (I : Ms) (J : Js) (a0 : Nat) (x1 : Int32) (h0_ : Is g a0 9) (g0 : jm (I (gr g a0 0) 717).toInt (I (gr g a0 0) 715).toInt (I (gr g a0 0) 716).toInt (I (gr g a0 0) 722).toInt (I (gr g a0 0) 718).toInt (I (gr g a0 0) 719).toInt) (g1 : 1 ≤ x1.toInt) (g2 : x1.toInt ≤ 60) : Ctr l yX11_ticks cX11_ticks 8 (Option.some Jvm.ClassFile.FieldType.int) 9 g [.ref a0, .int x1] I J (PM g md_X11_ticks I (fun z I1 J1 => J1 = J ∧ ((jm (I1 (gr g a0 0) 717).toInt (I1 (gr g a0 0) 715).toInt (I1 (gr g a0 0) 716).toInt (I1 (gr g a0 0) 722).toInt (I1 (gr g a0 0) 718).toInt (I1 (gr g a0 0) 719).toInt) ∧ (∀ j, 715 ≤ j → j ≠ 715 → j ≠ 717 → j ≠ 718 → j ≠ 719 → j ≠ 720 → j ≠ 725 → j ≠ 727 → j ≠ 728 → I1 (gr g a0 0) j = I (gr g a0 0) j)))) := by
  refine m_start (by decide) (Nat.le_of_ble_eq_true rfl) ?_
  intro p e s m args below meth c C hr hlk M ls hl
  have hl : lv_has ls 8 [(0, .ref a0), (1, .int x1)] := hl
  have C : CallFix p m c cX11_ticks 8 s args TB RX11 := C
  have F : Fr g md_X11_ticks I I := fr_rf
  have hS0 := is_ref M h0_ 0 28 rfl rfl
  have Hi : ∀ j, 715 ≤ j → j ≠ 715 → j ≠ 717 → j ≠ 718 → j ≠ 719 → j ≠ 720 → j ≠ 725 → j ≠ 727 → j ≠ 728 → I (gr g a0 0) j = I (gr g a0 0) j := by intros; rfl
  have h1 := is_ref M h0_ 0 28 rfl rfl
  obtain ⟨i2, ki2⟩ : ∃ z : Int32, I (gr g a0 0) 717 = z := ⟨_, rfl⟩
  have ti2 : 0 ≤ i2.toInt ∧ i2.toInt ≤ 1 := m_rng M h1 717 ki2 rfl
  have ci2 : (I (gr g a0 0) 717).toInt = i2.toInt := congrArg Int32.toInt ki2
  obtain ⟨i3, ki3⟩ : ∃ z : Int32, I (gr g a0 0) 715 = z := ⟨_, rfl⟩
  have ti3 : 3 ≤ i3.toInt ∧ i3.toInt ≤ 7 := m_rng M h1 715 ki3 rfl
  have ci3 : (I (gr g a0 0) 715).toInt = i3.toInt := congrArg Int32.toInt ki3
  obtain ⟨i4, ki4⟩ : ∃ z : Int32, I (gr g a0 0) 716 = z := ⟨_, rfl⟩
  have ti4 : 4 ≤ i4.toInt ∧ i4.toInt ≤ 40 := m_rng M h1 716 ki4 rfl
  have ci4 : (I (gr g a0 0) 716).toInt = i4.toInt := congrArg Int32.toInt ki4
  obtain ⟨i5, ki5⟩ : ∃ z : Int32, I (gr g a0 0) 722 = z := ⟨_, rfl⟩
  have ti5 : 1 ≤ i5.toInt ∧ i5.toInt ≤ 4 := m_rng M h1 722 ki5 rfl
  have ci5 : (I (gr g a0 0) 722).toInt = i5.toInt := congrArg Int32.toInt ki5
  obtain ⟨i6, ki6⟩ : ∃ z : Int32, I (gr g a0 0) 718 = z := ⟨_, rfl⟩
  have ti6 : 0 ≤ i6.toInt ∧ i6.toInt ≤ 200 := m_rng M h1 718 ki6 rfl
  have ci6 : (I (gr g a0 0) 718).toInt = i6.toInt := congrArg Int32.toInt ki6
  obtain ⟨i7, ki7⟩ : ∃ z : Int32, I (gr g a0 0) 719 = z := ⟨_, rfl⟩
  have ti7 : 0 ≤ i7.toInt ∧ i7.toInt ≤ 200 := m_rng M h1 719 ki7 rfl
  have ci7 : (I (gr g a0 0) 719).toInt = i7.toInt := congrArg Int32.toInt ki7
  obtain ⟨i8, ki8⟩ : ∃ z : Int32, I (gr g a0 0) 725 = z := ⟨_, rfl⟩
  have ti8 : 0 ≤ i8.toInt ∧ i8.toInt ≤ 20 := m_rng M h1 725 ki8 rfl
  have ci8 : (I (gr g a0 0) 725).toInt = i8.toInt := congrArg Int32.toInt ki8
  simp only [ci2, ci3, ci4, ci5, ci6, ci7, ci8] at g0
  have hj6 : i2.toInt = 1 → i3.toInt ≤ 6 := fun q => (g0 q).1
  refine lv_aload_n C.1 C.2.1 dX11_ticks_0 rfl (lv_at hl 0 rfl) ?_
  have em9 : (I (gr g a0 0) 717).toInt = i2.toInt := congrArg Int32.toInt ki2
  refine k_PI C M h0_ (by decide) rfl (ct_X11_isGrown l g I J a0 h0_) (cw_X11_84 C.2.2.2.2 (by decide)) rfl hl.1 rfl (Nat.le_of_ble_eq_true rfl) dX11_ticks_1 ⟨Nat.le_refl _, Nat.le_refl _⟩ (fun r10 H locs p11r M => ?_)
  have p11 : 0 ≤ r10.toInt ∧ r10.toInt ≤ 1 ∧ (r10.toInt = 1 ↔ (I (gr g a0 0) 717).toInt = 1) := p11r
  simp only [em9] at p11
  have p11 : 0 ≤ r10.toInt ∧ r10.toInt ≤ 1 ∧ (r10.toInt = 1 ↔ i2.toInt = 1) := p11
  have J35 : ∀ (w12 : Int32) (H : Heap) (locs : List Loc) (ls : Array Slot), 0 ≤ w12.toInt → w12.toInt ≤ 20 → Mm g s I J H locs → lv_has ls 8 [(0, .ref a0), (1, .int x1)] → W p l e (rmL 9) s m args below meth c H locs 0 0 (MQg below g (PM g md_X11_ticks I (fun z I1 J1 => J1 = J ∧ ((jm (I1 (gr g a0 0) 717).toInt (I1 (gr g a0 0) 715).toInt (I1 (gr g a0 0) 716).toInt (I1 (gr g a0 0) 722).toInt (I1 (gr g a0 0) 718).toInt (I1 (gr g a0 0) 719).toInt) ∧ (∀ j, 715 ≤ j → j ≠ 715 → j ≠ 717 → j ≠ 718 → j ≠ 719 → j ≠ 720 → j ≠ 725 → j ≠ 727 → j ≠ 728 → I1 (gr g a0 0) j = I (gr g a0 0) j)))) args s) (F0 m 35 ls [.int w12]) := by
    intro w12 H locs ls f13 f14 M hl
    refine lv_istore_n (lv' := [(2, .int w12), (0, .ref a0), (1, .int x1)]) C.1 C.2.1 dX11_ticks_35 rfl hl (by decide) rfl (fun ls hl => ?_)
    refine lv_iload_n C.1 C.2.1 dX11_ticks_36 rfl (lv_at hl 2 rfl) ?_
    refine lv_iload_n C.1 C.2.1 dX11_ticks_37 rfl (lv_at hl 0 rfl) ?_
    refine n_isub C dX11_ticks_38 rfl rfl (by omega) (by omega) (fun v15 ev15 => ?_)
    refine lv_istore_n (lv' := [(3, .int v15), (2, .int w12), (0, .ref a0), (1, .int x1)]) C.1 C.2.1 dX11_ticks_39 rfl hl (by decide) rfl (fun ls hl => ?_)
    refine lv_iconst (v := 0) C.1 C.2.1 dX11_ticks_40 (by decide) ?_
    refine lv_istore (lv' := [(4, .int 0), (3, .int v15), (2, .int w12), (0, .ref a0), (1, .int x1)]) C.1 C.2.1 dX11_ticks_41 hl (by decide) rfl (fun ls hl => ?_)
    refine lv_iconst (v := 0) C.1 C.2.1 dX11_ticks_43 (by decide) ?_
    refine lv_istore (lv' := [(5, .int 0), (4, .int 0), (3, .int v15), (2, .int w12), (0, .ref a0), (1, .int x1)]) C.1 C.2.1 dX11_ticks_44 hl (by decide) rfl (fun ls hl => ?_)
    refine lv_iconst (v := 1) C.1 C.2.1 dX11_ticks_46 (by decide) ?_
    refine lv_istore (lv' := [(6, .int 1), (5, .int 0), (4, .int 0), (3, .int v15), (2, .int w12), (0, .ref a0), (1, .int x1)]) C.1 C.2.1 dX11_ticks_47 hl (by decide) rfl (fun ls hl => ?_)
    have L49 : ∀ (n49 : Nat) (y16 : Int32) (y17 : Int32) (y18 : Int32) (y19 : Int32) (I20 : Ms) (H : Heap) (locs : List Loc) (ls : Array Slot), I20 (gr g a0 0) 719 = i7 → I20 (gr g a0 0) 718 = i6 → I20 (gr g a0 0) 722 = i5 → I20 (gr g a0 0) 716 = i4 → I20 (gr g a0 0) 715 = i3 → I20 (gr g a0 0) 717 = i2 → 0 ≤ y18.toInt → y18.toInt ≤ (I20 (gr g a0 0) 725).toInt → 0 ≤ y19.toInt → y19.toInt ≤ 1 → (I20 (gr g a0 0) 725).toInt - y18.toInt + y19.toInt < (n49 : Int) → Fr g md_X11_ticks I I20 → (∀ j, 715 ≤ j → j ≠ 715 → j ≠ 717 → j ≠ 718 → j ≠ 719 → j ≠ 720 → j ≠ 725 → j ≠ 727 → j ≠ 728 → I20 (gr g a0 0) j = I (gr g a0 0) j) → Mm g s I20 J H locs → lv_has ls 8 [(0, .ref a0), (2, .int w12), (3, .int y16), (4, .int y17), (5, .int y18), (6, .int y19)] → W p l e (rmL 9) s m args below meth c H locs 0 0 (MQg below g (PM g md_X11_ticks I (fun z I1 J1 => J1 = J ∧ ((jm (I1 (gr g a0 0) 717).toInt (I1 (gr g a0 0) 715).toInt (I1 (gr g a0 0) 716).toInt (I1 (gr g a0 0) 722).toInt (I1 (gr g a0 0) 718).toInt (I1 (gr g a0 0) 719).toInt) ∧ (∀ j, 715 ≤ j → j ≠ 715 → j ≠ 717 → j ≠ 718 → j ≠ 719 → j ≠ 720 → j ≠ 725 → j ≠ 727 → j ≠ 728 → I1 (gr g a0 0) j = I (gr g a0 0) j)))) args s) (F0 m 49 ls []) := by
      intro n49
      induction n49 with
      | zero =>
        intro y16 y17 y18 y19 I20 H locs ls k21 k22 k23 k24 k25 k26 f27 f28 f29 f30 hm49 F Hi M hl
        exact absurd hm49 (by omega)
      | succ n49 ih49 =>
        intro y16 y17 y18 y19 I20 H locs ls k21 k22 k23 k24 k25 k26 f27 f28 f29 f30 hm49 F Hi M hl
        obtain ⟨u31, ku31⟩ : ∃ z : Int32, I20 (gr g a0 0) 725 = z := ⟨_, rfl⟩
        have tu31 : 0 ≤ u31.toInt ∧ u31.toInt ≤ 20 := m_rng M h1 725 ku31 rfl
        have cu31 : (I20 (gr g a0 0) 725).toInt = u31.toInt := congrArg Int32.toInt ku31
        refine lv_iload C.1 C.2.1 dX11_ticks_49 (lv_at hl 5 rfl) ?_
        have J115 : ∀ (H : Heap) (locs : List Loc) (ls : Array Slot), Mm g s I20 J H locs → lv_has ls 8 [(0, .ref a0), (2, .int w12), (3, .int y16), (4, .int y17)] → W p l e (rmL 9) s m args below meth c H locs 0 0 (MQg below g (PM g md_X11_ticks I (fun z I1 J1 => J1 = J ∧ ((jm (I1 (gr g a0 0) 717).toInt (I1 (gr g a0 0) 715).toInt (I1 (gr g a0 0) 716).toInt (I1 (gr g a0 0) 722).toInt (I1 (gr g a0 0) 718).toInt (I1 (gr g a0 0) 719).toInt) ∧ (∀ j, 715 ≤ j → j ≠ 715 → j ≠ 717 → j ≠ 718 → j ≠ 719 → j ≠ 720 → j ≠ 725 → j ≠ 727 → j ≠ 728 → I1 (gr g a0 0) j = I (gr g a0 0) j)))) args s) (F0 m 115 ls []) := by
          intro H locs ls M hl
          refine lv_iload_n C.1 C.2.1 dX11_ticks_115 rfl (lv_at hl 2 rfl) ?_
          refine lv_iload_n C.1 C.2.1 dX11_ticks_116 rfl (lv_at hl 1 rfl) ?_
          refine n_iaddU C dX11_ticks_117 (fun v32 => ?_)
          refine lv_istore_n (lv' := [(3, .int v32), (0, .ref a0), (2, .int w12), (4, .int y17)]) C.1 C.2.1 dX11_ticks_118 rfl hl (by decide) rfl (fun ls hl => ?_)
          refine lv_aload_n C.1 C.2.1 dX11_ticks_119 rfl (lv_at hl 1 rfl) ?_
          have em33 : (I20 (gr g a0 0) 717).toInt = i2.toInt := congrArg Int32.toInt k26
          refine k_PI C M h0_ (by decide) rfl (ct_X11_isGrown l g I20 J a0 h0_) (cw_X11_84 C.2.2.2.2 (by decide)) rfl hl.1 rfl (Nat.le_of_ble_eq_true rfl) dX11_ticks_120 ⟨Nat.le_refl _, Nat.le_refl _⟩ (fun r34 H locs p35r M => ?_)
          have p35 : 0 ≤ r34.toInt ∧ r34.toInt ≤ 1 ∧ (r34.toInt = 1 ↔ (I20 (gr g a0 0) 717).toInt = 1) := p35r
          simp only [em33] at p35
          have p35 : 0 ≤ r34.toInt ∧ r34.toInt ≤ 1 ∧ (r34.toInt = 1 ↔ i2.toInt = 1) := p35
          refine n_if_eq C (tgt := 157) dX11_ticks_123 (by decide) rfl (fun q36 => ?_) (fun q36 => ?_)
          ·
            refine lv_iconst (v := 0) C.1 C.2.1 dX11_ticks_157 (by decide) ?_
            refine lv_istore (lv' := [(7, .int 0), (3, .int v32), (0, .ref a0), (2, .int w12), (4, .int y17)]) C.1 C.2.1 dX11_ticks_158 hl (by decide) rfl (fun ls hl => ?_)
            refine lv_aload_n C.1 C.2.1 dX11_ticks_160 rfl (lv_at hl 2 rfl) ?_
            refine gi_X11_7 C M h0_ dX11_ticks_161 (fun h37 => ?_)
            refine lv_sipush (v := 727) C.1 C.2.1 dX11_ticks_164 (by decide) ?_
            refine lv_dup2_11 C.1 C.2.1 dX11_ticks_167 rfl rfl ?_
            refine a_ld C M (X := 727) (j := 727) h1 (n := 729) rfl rfl rfl (by omega) (by omega) rfl dX11_ticks_168 (fun v38 kv38 => ?_)
            refine lv_iconst (v := 1) C.1 C.2.1 dX11_ticks_169 (by decide) ?_
            refine n_iaddU C dX11_ticks_170 (fun v39 => ?_)
            refine a_stU C M (X := 727) (j := 727) h1 (n := 729) rfl rfl rfl (by omega) (by omega) rfl rfl dX11_ticks_171 (fun H locs I40 k42 f41 M => ?_)
            have F := fr_put F h1 (Or.inl (by decide)) f41
            have Hi : ∀ j, 715 ≤ j → j ≠ 715 → j ≠ 717 → j ≠ 718 → j ≠ 719 → j ≠ 720 → j ≠ 725 → j ≠ 727 → j ≠ 728 → I40 (gr g a0 0) j = I (gr g a0 0) j := fun j hj hn715 hn717 hn718 hn719 hn720 hn725 hn727 hn728 => (f41 (gr g a0 0) j (Or.inr (by omega))).trans (Hi j hj hn715 hn717 hn718 hn719 hn720 hn725 hn727 hn728)
            refine lv_iload C.1 C.2.1 dX11_ticks_172 (lv_at hl 0 rfl) ?_
            refine n_if_ge C (tgt := 181) (X := 0) dX11_ticks_174 (by decide) rfl (fun q43 => ?_) (fun q43 => ?_)
            ·
              refine lv_iload C.1 C.2.1 dX11_ticks_181 (lv_at hl 4 rfl) ?_
              have rk44 : (I40 (gr g a0 0) 717).toInt = i2.toInt := congrArg Int32.toInt ((f41 (gr g a0 0) 717 (Or.inr (by decide))).trans k26)
              have rk45 : (I40 (gr g a0 0) 715).toInt = i3.toInt := congrArg Int32.toInt ((f41 (gr g a0 0) 715 (Or.inr (by decide))).trans k25)
              have rk46 : (I40 (gr g a0 0) 716).toInt = i4.toInt := congrArg Int32.toInt ((f41 (gr g a0 0) 716 (Or.inr (by decide))).trans k24)
              have rk47 : (I40 (gr g a0 0) 722).toInt = i5.toInt := congrArg Int32.toInt ((f41 (gr g a0 0) 722 (Or.inr (by decide))).trans k23)
              have rk48 : (I40 (gr g a0 0) 718).toInt = i6.toInt := congrArg Int32.toInt ((f41 (gr g a0 0) 718 (Or.inr (by decide))).trans k22)
              have rk49 : (I40 (gr g a0 0) 719).toInt = i7.toInt := congrArg Int32.toInt ((f41 (gr g a0 0) 719 (Or.inr (by decide))).trans k21)
              have rk50 : (I40 (gr g a0 0) 725).toInt = u31.toInt := congrArg Int32.toInt ((f41 (gr g a0 0) 725 (Or.inr (by decide))).trans ku31)
              exact r_PM C M hr hlk F rfl ⟨rfl, ⟨(by simp only [ci2, ci3, ci4, ci5, ci6, ci7, ci8, rk44, rk45, rk46, rk47, rk48, rk49, rk50]; first | assumption | exact g0), Hi⟩⟩ dX11_ticks_183
            ·
              exact absurd q43 (by omega)
          ·
            refine lv_aload_n C.1 C.2.1 dX11_ticks_126 rfl (lv_at hl 1 rfl) ?_
            refine lv_iload_n C.1 C.2.1 dX11_ticks_127 rfl (lv_at hl 0 rfl) ?_
            refine lv_aload_n C.1 C.2.1 dX11_ticks_128 rfl (lv_at hl 1 rfl) ?_
            refine gi_X11_7 C M h0_ dX11_ticks_129 (fun h51 => ?_)
            refine lv_sipush (v := 724) C.1 C.2.1 dX11_ticks_132 (by decide) ?_
            refine a_ld C M (X := 724) (j := 724) h1 (n := 729) rfl rfl rfl (by omega) (by omega) rfl dX11_ticks_135 (fun v52 kv52 => ?_)
            have tv52 := m_rng M h1 724 kv52 rfl
            have tv52 : 1 ≤ v52.toInt ∧ v52.toInt ≤ 60 := tv52
            have J151 : ∀ (w53 : Int32) (H : Heap) (locs : List Loc) (ls : Array Slot), w53.toInt ≤ 60 → Mm g s I20 J H locs → lv_has ls 8 [(0, .ref a0), (4, .int y17)] → W p l e (rmL 9) s m args below meth c H locs 0 0 (MQg below g (PM g md_X11_ticks I (fun z I1 J1 => J1 = J ∧ ((jm (I1 (gr g a0 0) 717).toInt (I1 (gr g a0 0) 715).toInt (I1 (gr g a0 0) 716).toInt (I1 (gr g a0 0) 722).toInt (I1 (gr g a0 0) 718).toInt (I1 (gr g a0 0) 719).toInt) ∧ (∀ j, 715 ≤ j → j ≠ 715 → j ≠ 717 → j ≠ 718 → j ≠ 719 → j ≠ 720 → j ≠ 725 → j ≠ 727 → j ≠ 728 → I1 (gr g a0 0) j = I (gr g a0 0) j)))) args s) (F0 m 151 ls [.int w53, .ref a0]) := by
              intro w53 H locs ls f54 M hl
              have em55 : (I20 (gr g a0 0) 717).toInt = i2.toInt := congrArg Int32.toInt k26
              have em56 : (I20 (gr g a0 0) 715).toInt = i3.toInt := congrArg Int32.toInt k25
              have em57 : (I20 (gr g a0 0) 716).toInt = i4.toInt := congrArg Int32.toInt k24
              have em58 : (I20 (gr g a0 0) 722).toInt = i5.toInt := congrArg Int32.toInt k23
              have em59 : (I20 (gr g a0 0) 718).toInt = i6.toInt := congrArg Int32.toInt k22
              have em60 : (I20 (gr g a0 0) 719).toInt = i7.toInt := congrArg Int32.toInt k21
              refine k_PM C M h0_ (by decide) rfl (ct_X11_stepsDone l g I20 J a0 w53 h0_ (by simp only [em55, em56, em57, em58, em59, em60]; first | assumption | omega) (by omega)) (cw_X11_120 C.2.2.2.2 (by decide)) rfl hl.1 rfl (Nat.le_of_ble_eq_true rfl) dX11_ticks_151 ⟨Nat.le_refl _, Nat.le_refl _⟩ (fun r65 I61 J62 H locs G63 p64r M => ?_)
              obtain ⟨eJ62, ⟨p64, fx66⟩⟩ : J62 = J ∧ ((jm (I61 (gr g a0 0) 717).toInt (I61 (gr g a0 0) 715).toInt (I61 (gr g a0 0) 716).toInt (I61 (gr g a0 0) 722).toInt (I61 (gr g a0 0) 718).toInt (I61 (gr g a0 0) 719).toInt) ∧ (∀ j, 715 ≤ j → j ≠ 715 → j ≠ 717 → j ≠ 718 → j ≠ 719 → j ≠ 720 → j ≠ 728 → I61 (gr g a0 0) j = I20 (gr g a0 0) j)) := p64r
              have eJ62 := eJ62.symm
              subst eJ62
              have Hi : ∀ j, 715 ≤ j → j ≠ 715 → j ≠ 717 → j ≠ 718 → j ≠ 719 → j ≠ 720 → j ≠ 725 → j ≠ 727 → j ≠ 728 → I61 (gr g a0 0) j = I (gr g a0 0) j := fun j hj hn715 hn717 hn718 hn719 hn720 hn725 hn727 hn728 => (fx66 j hj hn715 hn717 hn718 hn719 hn720 hn728).trans (Hi j hj hn715 hn717 hn718 hn719 hn720 hn725 hn727 hn728)
              obtain ⟨u67, ku67⟩ : ∃ z : Int32, I61 (gr g a0 0) 717 = z := ⟨_, rfl⟩
              have tu67 : 0 ≤ u67.toInt ∧ u67.toInt ≤ 1 := m_rng M h1 717 ku67 rfl
              have em68 : (I61 (gr g a0 0) 717).toInt = u67.toInt := congrArg Int32.toInt ku67
              obtain ⟨u69, ku69⟩ : ∃ z : Int32, I61 (gr g a0 0) 715 = z := ⟨_, rfl⟩
              have tu69 : 3 ≤ u69.toInt ∧ u69.toInt ≤ 7 := m_rng M h1 715 ku69 rfl
              have em70 : (I61 (gr g a0 0) 715).toInt = u69.toInt := congrArg Int32.toInt ku69
              have em71 : (I61 (gr g a0 0) 716).toInt = i4.toInt := congrArg Int32.toInt ((fx66 716 (by decide) (by decide) (by decide) (by decide) (by decide) (by decide) (by decide)).trans k24)
              have em72 : (I61 (gr g a0 0) 722).toInt = i5.toInt := congrArg Int32.toInt ((fx66 722 (by decide) (by decide) (by decide) (by decide) (by decide) (by decide) (by decide)).trans k23)
              obtain ⟨u73, ku73⟩ : ∃ z : Int32, I61 (gr g a0 0) 718 = z := ⟨_, rfl⟩
              have tu73 : 0 ≤ u73.toInt ∧ u73.toInt ≤ 200 := m_rng M h1 718 ku73 rfl
              have em74 : (I61 (gr g a0 0) 718).toInt = u73.toInt := congrArg Int32.toInt ku73
              obtain ⟨u75, ku75⟩ : ∃ z : Int32, I61 (gr g a0 0) 719 = z := ⟨_, rfl⟩
              have tu75 : 0 ≤ u75.toInt ∧ u75.toInt ≤ 200 := m_rng M h1 719 ku75 rfl
              have em76 : (I61 (gr g a0 0) 719).toInt = u75.toInt := congrArg Int32.toInt ku75
              simp only [em55, em56, em57, em58, em59, em60, em68, em70, em71, em72, em74, em76] at p64
              have F := fr_call F G63 (by decide)
              refine lv_goto (tgt := 158) C.1 C.2.1 dX11_ticks_154 (by decide) ?_
              refine lv_istore (lv' := [(7, .int r65), (0, .ref a0), (4, .int y17)]) C.1 C.2.1 dX11_ticks_158 hl (by decide) rfl (fun ls hl => ?_)
              refine lv_aload_n C.1 C.2.1 dX11_ticks_160 rfl (lv_at hl 1 rfl) ?_
              refine gi_X11_7 C M h0_ dX11_ticks_161 (fun h77 => ?_)
              refine lv_sipush (v := 727) C.1 C.2.1 dX11_ticks_164 (by decide) ?_
              refine lv_dup2_11 C.1 C.2.1 dX11_ticks_167 rfl rfl ?_
              refine a_ld C M (X := 727) (j := 727) h1 (n := 729) rfl rfl rfl (by omega) (by omega) rfl dX11_ticks_168 (fun v78 kv78 => ?_)
              refine lv_iconst (v := 1) C.1 C.2.1 dX11_ticks_169 (by decide) ?_
              refine n_iaddU C dX11_ticks_170 (fun v79 => ?_)
              refine a_stU C M (X := 727) (j := 727) h1 (n := 729) rfl rfl rfl (by omega) (by omega) rfl rfl dX11_ticks_171 (fun H locs I80 k82 f81 M => ?_)
              have F := fr_put F h1 (Or.inl (by decide)) f81
              have Hi : ∀ j, 715 ≤ j → j ≠ 715 → j ≠ 717 → j ≠ 718 → j ≠ 719 → j ≠ 720 → j ≠ 725 → j ≠ 727 → j ≠ 728 → I80 (gr g a0 0) j = I (gr g a0 0) j := fun j hj hn715 hn717 hn718 hn719 hn720 hn725 hn727 hn728 => (f81 (gr g a0 0) j (Or.inr (by omega))).trans (Hi j hj hn715 hn717 hn718 hn719 hn720 hn725 hn727 hn728)
              refine lv_iload C.1 C.2.1 dX11_ticks_172 (lv_at hl 0 rfl) ?_
              refine n_if_ge C (tgt := 181) dX11_ticks_174 (by decide) rfl (fun q83 => ?_) (fun q83 => ?_)
              ·
                refine lv_iload C.1 C.2.1 dX11_ticks_181 (lv_at hl 2 rfl) ?_
                have rk84 : (I80 (gr g a0 0) 717).toInt = u67.toInt := congrArg Int32.toInt ((f81 (gr g a0 0) 717 (Or.inr (by decide))).trans ku67)
                have rk85 : (I80 (gr g a0 0) 715).toInt = u69.toInt := congrArg Int32.toInt ((f81 (gr g a0 0) 715 (Or.inr (by decide))).trans ku69)
                have rk86 : (I80 (gr g a0 0) 716).toInt = i4.toInt := congrArg Int32.toInt ((f81 (gr g a0 0) 716 (Or.inr (by decide))).trans ((fx66 716 (by decide) (by decide) (by decide) (by decide) (by decide) (by decide) (by decide)).trans k24))
                have rk87 : (I80 (gr g a0 0) 722).toInt = i5.toInt := congrArg Int32.toInt ((f81 (gr g a0 0) 722 (Or.inr (by decide))).trans ((fx66 722 (by decide) (by decide) (by decide) (by decide) (by decide) (by decide) (by decide)).trans k23))
                have rk88 : (I80 (gr g a0 0) 718).toInt = u73.toInt := congrArg Int32.toInt ((f81 (gr g a0 0) 718 (Or.inr (by decide))).trans ku73)
                have rk89 : (I80 (gr g a0 0) 719).toInt = u75.toInt := congrArg Int32.toInt ((f81 (gr g a0 0) 719 (Or.inr (by decide))).trans ku75)
                have rk90 : (I80 (gr g a0 0) 725).toInt = u31.toInt := congrArg Int32.toInt ((f81 (gr g a0 0) 725 (Or.inr (by decide))).trans ((fx66 725 (by decide) (by decide) (by decide) (by decide) (by decide) (by decide) (by decide)).trans ku31))
                exact r_PM C M hr hlk F rfl ⟨rfl, ⟨(by simp only [ci2, ci3, ci4, ci5, ci6, ci7, ci8, rk84, rk85, rk86, rk87, rk88, rk89, rk90]; first | assumption | exact g0), Hi⟩⟩ dX11_ticks_183
              ·
                refine lv_iconst (v := -1) C.1 C.2.1 dX11_ticks_177 (by decide) ?_
                refine lv_goto (tgt := 183) C.1 C.2.1 dX11_ticks_178 (by decide) ?_
                have rk91 : (I80 (gr g a0 0) 717).toInt = u67.toInt := congrArg Int32.toInt ((f81 (gr g a0 0) 717 (Or.inr (by decide))).trans ku67)
                have rk92 : (I80 (gr g a0 0) 715).toInt = u69.toInt := congrArg Int32.toInt ((f81 (gr g a0 0) 715 (Or.inr (by decide))).trans ku69)
                have rk93 : (I80 (gr g a0 0) 716).toInt = i4.toInt := congrArg Int32.toInt ((f81 (gr g a0 0) 716 (Or.inr (by decide))).trans ((fx66 716 (by decide) (by decide) (by decide) (by decide) (by decide) (by decide) (by decide)).trans k24))
                have rk94 : (I80 (gr g a0 0) 722).toInt = i5.toInt := congrArg Int32.toInt ((f81 (gr g a0 0) 722 (Or.inr (by decide))).trans ((fx66 722 (by decide) (by decide) (by decide) (by decide) (by decide) (by decide) (by decide)).trans k23))
                have rk95 : (I80 (gr g a0 0) 718).toInt = u73.toInt := congrArg Int32.toInt ((f81 (gr g a0 0) 718 (Or.inr (by decide))).trans ku73)
                have rk96 : (I80 (gr g a0 0) 719).toInt = u75.toInt := congrArg Int32.toInt ((f81 (gr g a0 0) 719 (Or.inr (by decide))).trans ku75)
                have rk97 : (I80 (gr g a0 0) 725).toInt = u31.toInt := congrArg Int32.toInt ((f81 (gr g a0 0) 725 (Or.inr (by decide))).trans ((fx66 725 (by decide) (by decide) (by decide) (by decide) (by decide) (by decide) (by decide)).trans ku31))
                exact r_PM C M (z := (-1)) hr hlk F rfl ⟨rfl, ⟨(by simp only [ci2, ci3, ci4, ci5, ci6, ci7, ci8, rk91, rk92, rk93, rk94, rk95, rk96, rk97]; first | assumption | exact g0), Hi⟩⟩ dX11_ticks_183
            refine n_icmp_ge C (tgt := 143) dX11_ticks_136 (by decide) rfl rfl (fun q98 => ?_) (fun q98 => ?_)
            ·
              refine lv_aload_n C.1 C.2.1 dX11_ticks_143 rfl (lv_at hl 1 rfl) ?_
              refine gi_X11_7 C M h0_ dX11_ticks_144 (fun h99 => ?_)
              refine lv_sipush (v := 724) C.1 C.2.1 dX11_ticks_147 (by decide) ?_
              refine a_ldK C M (X := 724) (j := 724) h1 (n := 729) rfl rfl rfl (by omega) (by omega) rfl kv52 dX11_ticks_150 ?_
              exact J151 v52 _ _ _ (by omega) M (lv_sub hl [1, 3] rfl)
            ·
              refine lv_iload_n C.1 C.2.1 dX11_ticks_139 rfl (lv_at hl 0 rfl) ?_
              refine lv_goto (tgt := 151) C.1 C.2.1 dX11_ticks_140 (by decide) ?_
              exact J151 v32 _ _ _ (by omega) M (lv_sub hl [1, 3] rfl)
        refine n_if_eq C (tgt := 115) dX11_ticks_51 (by decide) rfl (fun q100 => ?_) (fun q100 => ?_)
        ·
          exact J115 _ _ _ M (lv_sub hl [0, 1, 2, 3] rfl)
        ·
          refine lv_iload C.1 C.2.1 dX11_ticks_54 (lv_at hl 4 rfl) ?_
          refine lv_aload_n C.1 C.2.1 dX11_ticks_56 rfl (lv_at hl 0 rfl) ?_
          refine gi_X11_7 C M h0_ dX11_ticks_57 (fun h101 => ?_)
          refine lv_sipush (v := 725) C.1 C.2.1 dX11_ticks_60 (by decide) ?_
          refine a_ldK C M (X := 725) (j := 725) h1 (n := 729) rfl rfl rfl (by omega) (by omega) rfl ku31 dX11_ticks_63 ?_
          refine n_icmp_ge C (tgt := 115) dX11_ticks_64 (by decide) rfl rfl (fun q102 => ?_) (fun q102 => ?_)
          ·
            exact J115 _ _ _ M (lv_sub hl [0, 1, 2, 3] rfl)
          ·
            refine lv_aload_n C.1 C.2.1 dX11_ticks_67 rfl (lv_at hl 0 rfl) ?_
            refine lv_iload C.1 C.2.1 dX11_ticks_68 (lv_at hl 4 rfl) ?_
            have em103 : (I20 (gr g a0 0) 717).toInt = i2.toInt := congrArg Int32.toInt k26
            have em104 : (I20 (gr g a0 0) 715).toInt = i3.toInt := congrArg Int32.toInt k25
            have em105 : (I20 (gr g a0 0) 716).toInt = i4.toInt := congrArg Int32.toInt k24
            have em106 : (I20 (gr g a0 0) 722).toInt = i5.toInt := congrArg Int32.toInt k23
            have em107 : (I20 (gr g a0 0) 718).toInt = i6.toInt := congrArg Int32.toInt k22
            have em108 : (I20 (gr g a0 0) 719).toInt = i7.toInt := congrArg Int32.toInt k21
            refine k_PM C M h0_ (by decide) rfl (ct_X11_costOf l g I20 J a0 y18 h0_ (by simp only [em103, em104, em105, em106, em107, em108]; first | assumption | omega) (by omega) (by omega)) (cw_X11_163 C.2.2.2.2 (by decide)) rfl hl.1 rfl (Nat.le_of_ble_eq_true rfl) dX11_ticks_70 ⟨Nat.le_refl _, Nat.le_refl _⟩ (fun r113 I109 J110 H locs G111 p112r M => ?_)
            obtain ⟨eJ110, p112⟩ : J110 = J ∧ (True) := p112r
            have eJ110 := eJ110.symm
            subst eJ110
            have Hi : ∀ j, 715 ≤ j → j ≠ 715 → j ≠ 717 → j ≠ 718 → j ≠ 719 → j ≠ 720 → j ≠ 725 → j ≠ 727 → j ≠ 728 → I109 (gr g a0 0) j = I (gr g a0 0) j := fun j hj hn715 hn717 hn718 hn719 hn720 hn725 hn727 hn728 => (G111 (gr g a0 0) 28 j hS0 (by decide) (by simp)).trans (Hi j hj hn715 hn717 hn718 hn719 hn720 hn725 hn727 hn728)
            have F := fr_call F G111 (by decide)
            refine lv_istore (lv' := [(7, .int r113), (0, .ref a0), (2, .int w12), (3, .int y16), (4, .int y17), (5, .int y18), (6, .int y19)]) C.1 C.2.1 dX11_ticks_73 hl (by decide) rfl (fun ls hl => ?_)
            refine lv_iload C.1 C.2.1 dX11_ticks_75 (lv_at hl 0 rfl) ?_
            refine n_if_ge C (tgt := 86) dX11_ticks_77 (by decide) rfl (fun q114 => ?_) (fun q114 => ?_)
            ·
              refine lv_iload C.1 C.2.1 dX11_ticks_86 (lv_at hl 0 rfl) ?_
              refine lv_iload_n C.1 C.2.1 dX11_ticks_88 rfl (lv_at hl 3 rfl) ?_
              refine n_icmp_gt C (tgt := 109) dX11_ticks_89 (by decide) rfl rfl (fun q115 => ?_) (fun q115 => ?_)
              ·
                refine lv_iconst (v := 0) C.1 C.2.1 dX11_ticks_109 (by decide) ?_
                refine lv_istore (lv' := [(6, .int 0), (7, .int r113), (0, .ref a0), (2, .int w12), (3, .int y16), (4, .int y17), (5, .int y18)]) C.1 C.2.1 dX11_ticks_110 hl (by decide) rfl (fun ls hl => ?_)
                refine lv_goto (tgt := 49) C.1 C.2.1 dX11_ticks_112 (by decide) ?_
                have jc116 : (I109 (gr g a0 0) 725).toInt = u31.toInt := congrArg Int32.toInt ((G111 (gr g a0 0) 28 725 h1 (by decide) (by decide)).trans ku31)
                have cz117 : (0 : Int32).toInt = 0 := rfl
                exact ih49 y16 y17 y18 0 I109 _ _ _ ((G111 (gr g a0 0) 28 719 h1 (by decide) (by decide)).trans k21) ((G111 (gr g a0 0) 28 718 h1 (by decide) (by decide)).trans k22) ((G111 (gr g a0 0) 28 722 h1 (by decide) (by decide)).trans k23) ((G111 (gr g a0 0) 28 716 h1 (by decide) (by decide)).trans k24) ((G111 (gr g a0 0) 28 715 h1 (by decide) (by decide)).trans k25) ((G111 (gr g a0 0) 28 717 h1 (by decide) (by decide)).trans k26) (by omega) (by omega) (by omega) (by omega) (by omega) F Hi M (lv_sub hl [2, 3, 4, 5, 6, 0] rfl)
              ·
                refine lv_iload_n C.1 C.2.1 dX11_ticks_92 rfl (lv_at hl 3 rfl) ?_
                refine lv_iload C.1 C.2.1 dX11_ticks_93 (lv_at hl 0 rfl) ?_
                have il119 := i_lo y16
                have ih120 := i_hi y16
                have il121 := i_lo r113
                have ih122 := i_hi r113
                refine n_isub C dX11_ticks_95 rfl rfl (by omega) (by omega) (fun v118 ev118 => ?_)
                refine lv_istore_n (lv' := [(3, .int v118), (7, .int r113), (0, .ref a0), (2, .int w12), (4, .int y17), (5, .int y18), (6, .int y19)]) C.1 C.2.1 dX11_ticks_96 rfl hl (by decide) rfl (fun ls hl => ?_)
                refine lv_aload_n C.1 C.2.1 dX11_ticks_97 rfl (lv_at hl 2 rfl) ?_
                refine lv_iload C.1 C.2.1 dX11_ticks_98 (lv_at hl 5 rfl) ?_
                have em123 : (I109 (gr g a0 0) 717).toInt = i2.toInt := congrArg Int32.toInt ((G111 (gr g a0 0) 28 717 h1 (by decide) (by decide)).trans k26)
                have em124 : (I109 (gr g a0 0) 715).toInt = i3.toInt := congrArg Int32.toInt ((G111 (gr g a0 0) 28 715 h1 (by decide) (by decide)).trans k25)
                have em125 : (I109 (gr g a0 0) 716).toInt = i4.toInt := congrArg Int32.toInt ((G111 (gr g a0 0) 28 716 h1 (by decide) (by decide)).trans k24)
                have em126 : (I109 (gr g a0 0) 722).toInt = i5.toInt := congrArg Int32.toInt ((G111 (gr g a0 0) 28 722 h1 (by decide) (by decide)).trans k23)
                have em127 : (I109 (gr g a0 0) 718).toInt = i6.toInt := congrArg Int32.toInt ((G111 (gr g a0 0) 28 718 h1 (by decide) (by decide)).trans k22)
                have em128 : (I109 (gr g a0 0) 719).toInt = i7.toInt := congrArg Int32.toInt ((G111 (gr g a0 0) 28 719 h1 (by decide) (by decide)).trans k21)
                have em129 : (I109 (gr g a0 0) 725).toInt = u31.toInt := congrArg Int32.toInt ((G111 (gr g a0 0) 28 725 h1 (by decide) (by decide)).trans ku31)
                refine k_PV C M h0_ (by decide) rfl (ct_X11_serves l g I109 J a0 y18 h0_ (by simp only [em123, em124, em125, em126, em127, em128, em129]; first | assumption | omega) (by omega) (by simp only [em123, em124, em125, em126, em127, em128, em129]; first | assumption | omega) (by omega)) (cw_X11_166 C.2.2.2.2 (by decide)) rfl hl.1 rfl (Nat.le_of_ble_eq_true rfl) dX11_ticks_100 ⟨Nat.le_refl _, Nat.le_refl _⟩ (fun I130 J131 H locs G132 p133r M => ?_)
                obtain ⟨eJ131, ⟨p133, fx134⟩⟩ : J131 = J ∧ (((I130 (gr g a0 0) 725).toInt = (I109 (gr g a0 0) 725).toInt - 1) ∧ (∀ j, 715 ≤ j → j ≠ 725 → I130 (gr g a0 0) j = I109 (gr g a0 0) j)) := p133r
                have eJ131 := eJ131.symm
                subst eJ131
                have Hi : ∀ j, 715 ≤ j → j ≠ 715 → j ≠ 717 → j ≠ 718 → j ≠ 719 → j ≠ 720 → j ≠ 725 → j ≠ 727 → j ≠ 728 → I130 (gr g a0 0) j = I (gr g a0 0) j := fun j hj hn715 hn717 hn718 hn719 hn720 hn725 hn727 hn728 => (fx134 j hj hn725).trans (Hi j hj hn715 hn717 hn718 hn719 hn720 hn725 hn727 hn728)
                obtain ⟨u135, ku135⟩ : ∃ z : Int32, I130 (gr g a0 0) 725 = z := ⟨_, rfl⟩
                have tu135 : 0 ≤ u135.toInt ∧ u135.toInt ≤ 20 := m_rng M h1 725 ku135 rfl
                have em136 : (I130 (gr g a0 0) 725).toInt = u135.toInt := congrArg Int32.toInt ku135
                simp only [em123, em124, em125, em126, em127, em128, em129, em136] at p133
                have F := fr_call F G132 (by decide)
                refine n_iincU C (k := 4) (lv' := fun v => [(4, .int v), (3, .int v118), (7, .int r113), (0, .ref a0), (2, .int w12), (5, .int y18), (6, .int y19)]) dX11_ticks_103 hl rfl (by decide) (fun _ => rfl) (fun v137 ls hl => ?_)
                refine lv_goto (tgt := 112) C.1 C.2.1 dX11_ticks_106 (by decide) ?_
                refine lv_goto (tgt := 49) C.1 C.2.1 dX11_ticks_112 (by decide) ?_
                have jc138 : (I130 (gr g a0 0) 725).toInt = u135.toInt := congrArg Int32.toInt ku135
                exact ih49 v118 v137 y18 y19 I130 _ _ _ ((fx134 719 (by decide) (by decide)).trans ((G111 (gr g a0 0) 28 719 h1 (by decide) (by decide)).trans k21)) ((fx134 718 (by decide) (by decide)).trans ((G111 (gr g a0 0) 28 718 h1 (by decide) (by decide)).trans k22)) ((fx134 722 (by decide) (by decide)).trans ((G111 (gr g a0 0) 28 722 h1 (by decide) (by decide)).trans k23)) ((fx134 716 (by decide) (by decide)).trans ((G111 (gr g a0 0) 28 716 h1 (by decide) (by decide)).trans k24)) ((fx134 715 (by decide) (by decide)).trans ((G111 (gr g a0 0) 28 715 h1 (by decide) (by decide)).trans k25)) ((fx134 717 (by decide) (by decide)).trans ((G111 (gr g a0 0) 28 717 h1 (by decide) (by decide)).trans k26)) (by omega) (by omega) (by omega) (by omega) (by omega) F Hi M (lv_sub hl [3, 4, 1, 0, 5, 6] rfl)
            ·
              refine n_iinc C (k := 5) (N := 1) (lv' := fun v => [(5, .int v), (7, .int r113), (0, .ref a0), (2, .int w12), (3, .int y16), (4, .int y17), (6, .int y19)]) dX11_ticks_80 hl rfl (by decide) rfl rfl (by omega) (by omega) (fun _ => rfl) (fun v139 ls ev139 hl => ?_)
              refine lv_goto (tgt := 112) C.1 C.2.1 dX11_ticks_83 (by decide) ?_
              refine lv_goto (tgt := 49) C.1 C.2.1 dX11_ticks_112 (by decide) ?_
              have jc140 : (I109 (gr g a0 0) 725).toInt = u31.toInt := congrArg Int32.toInt ((G111 (gr g a0 0) 28 725 h1 (by decide) (by decide)).trans ku31)
              exact ih49 y16 y17 v139 y19 I109 _ _ _ ((G111 (gr g a0 0) 28 719 h1 (by decide) (by decide)).trans k21) ((G111 (gr g a0 0) 28 718 h1 (by decide) (by decide)).trans k22) ((G111 (gr g a0 0) 28 722 h1 (by decide) (by decide)).trans k23) ((G111 (gr g a0 0) 28 716 h1 (by decide) (by decide)).trans k24) ((G111 (gr g a0 0) 28 715 h1 (by decide) (by decide)).trans k25) ((G111 (gr g a0 0) 28 717 h1 (by decide) (by decide)).trans k26) (by omega) (by omega) (by omega) (by omega) (by omega) F Hi M (lv_sub hl [2, 3, 4, 5, 0, 6] rfl)
    have jc141 : (I (gr g a0 0) 725).toInt = i8.toInt := congrArg Int32.toInt ki8
    have cz142 : (0 : Int32).toInt = 0 := rfl
    have cz143 : (0 : Int32).toInt = 0 := rfl
    have cz144 : (1 : Int32).toInt = 1 := rfl
    exact L49 _ v15 0 0 1 I _ _ _ ki7 ki6 ki5 ki4 ki3 ki2 (by omega) (by omega) (by omega) (by omega) (n_big _) F Hi M (lv_sub hl [5, 4, 3, 2, 1, 0] rfl)
  refine n_if_ne C (tgt := 11) dX11_ticks_4 (by decide) rfl (fun q145 => ?_) (fun q145 => ?_)
  ·
    refine lv_aload_n C.1 C.2.1 dX11_ticks_11 rfl (lv_at hl 0 rfl) ?_
    refine gi_X11_7 C M h0_ dX11_ticks_12 (fun h146 => ?_)
    refine lv_sipush (v := 723) C.1 C.2.1 dX11_ticks_15 (by decide) ?_
    refine a_ld C M (X := 723) (j := 723) h1 (n := 729) rfl rfl rfl (by omega) (by omega) rfl dX11_ticks_18 (fun v147 kv147 => ?_)
    have tv147 := m_rng M h1 723 kv147 rfl
    have tv147 : 0 ≤ v147.toInt ∧ v147.toInt ≤ 20 := tv147
    refine lv_iload_n C.1 C.2.1 dX11_ticks_19 rfl (lv_at hl 1 rfl) ?_
    refine n_icmp_ge C (tgt := 34) dX11_ticks_20 (by decide) rfl rfl (fun q148 => ?_) (fun q148 => ?_)
    ·
      refine lv_iload_n C.1 C.2.1 dX11_ticks_34 rfl (lv_at hl 1 rfl) ?_
      exact J35 x1 _ _ _ (by omega) (by omega) M hl
    ·
      refine lv_aload_n C.1 C.2.1 dX11_ticks_23 rfl (lv_at hl 0 rfl) ?_
      refine gi_X11_7 C M h0_ dX11_ticks_24 (fun h149 => ?_)
      refine lv_sipush (v := 723) C.1 C.2.1 dX11_ticks_27 (by decide) ?_
      refine a_ldK C M (X := 723) (j := 723) h1 (n := 729) rfl rfl rfl (by omega) (by omega) rfl kv147 dX11_ticks_30 ?_
      refine lv_goto (tgt := 35) C.1 C.2.1 dX11_ticks_31 (by decide) ?_
      exact J35 v147 _ _ _ (by omega) (by omega) M hl
  ·
    refine lv_iconst (v := 0) C.1 C.2.1 dX11_ticks_7 (by decide) ?_
    refine lv_goto (tgt := 35) C.1 C.2.1 dX11_ticks_8 (by decide) ?_
    have cz150 : (0 : Int32).toInt = 0 := rfl
    exact J35 0 _ _ _ (by omega) (by omega) M hl

abbrev md_X11_tick : List (Nat × Nat) := [(9, 6), (9, 10), (9, 11), (9, 12), (28, 0), (32, 0)]
set_option maxHeartbeats 4000000 in
set_option maxRecDepth 100000 in
theorem ct_X11_tick (l : Launch) (g : Gs) (I : Ms) (J : Js) (a0 : Nat) (x1 : Int32) (h0_ : Is g a0 9) (g0 : jm (I (gr g a0 0) 717).toInt (I (gr g a0 0) 715).toInt (I (gr g a0 0) 716).toInt (I (gr g a0 0) 722).toInt (I (gr g a0 0) 718).toInt (I (gr g a0 0) 719).toInt) : Ctr l yX11_tick cX11_tick 2 (Option.some Jvm.ClassFile.FieldType.int) 10 g [.ref a0, .int x1] I J (PM g md_X11_tick I (fun z I1 J1 => J1 = J ∧ ((jm (I1 (gr g a0 0) 717).toInt (I1 (gr g a0 0) 715).toInt (I1 (gr g a0 0) 716).toInt (I1 (gr g a0 0) 722).toInt (I1 (gr g a0 0) 718).toInt (I1 (gr g a0 0) 719).toInt) ∧ (∀ j, 715 ≤ j → j ≠ 715 → j ≠ 717 → j ≠ 718 → j ≠ 719 → j ≠ 720 → j ≠ 725 → j ≠ 727 → j ≠ 728 → I1 (gr g a0 0) j = I (gr g a0 0) j)))) := by
  refine m_start (by decide) (Nat.le_of_ble_eq_true rfl) ?_
  intro p e s m args below meth c C hr hlk M ls hl
  have hl : lv_has ls 2 [(0, .ref a0), (1, .int x1)] := hl
  have C : CallFix p m c cX11_tick 2 s args TB RX11 := C
  have F : Fr g md_X11_tick I I := fr_rf
  have hS0 := is_ref M h0_ 0 28 rfl rfl
  have Hi : ∀ j, 715 ≤ j → j ≠ 715 → j ≠ 717 → j ≠ 718 → j ≠ 719 → j ≠ 720 → j ≠ 725 → j ≠ 727 → j ≠ 728 → I (gr g a0 0) j = I (gr g a0 0) j := by intros; rfl
  have h1 := is_ref M h0_ 0 28 rfl rfl
  obtain ⟨i2, ki2⟩ : ∃ z : Int32, I (gr g a0 0) 717 = z := ⟨_, rfl⟩
  have ti2 : 0 ≤ i2.toInt ∧ i2.toInt ≤ 1 := m_rng M h1 717 ki2 rfl
  have ci2 : (I (gr g a0 0) 717).toInt = i2.toInt := congrArg Int32.toInt ki2
  obtain ⟨i3, ki3⟩ : ∃ z : Int32, I (gr g a0 0) 715 = z := ⟨_, rfl⟩
  have ti3 : 3 ≤ i3.toInt ∧ i3.toInt ≤ 7 := m_rng M h1 715 ki3 rfl
  have ci3 : (I (gr g a0 0) 715).toInt = i3.toInt := congrArg Int32.toInt ki3
  obtain ⟨i4, ki4⟩ : ∃ z : Int32, I (gr g a0 0) 716 = z := ⟨_, rfl⟩
  have ti4 : 4 ≤ i4.toInt ∧ i4.toInt ≤ 40 := m_rng M h1 716 ki4 rfl
  have ci4 : (I (gr g a0 0) 716).toInt = i4.toInt := congrArg Int32.toInt ki4
  obtain ⟨i5, ki5⟩ : ∃ z : Int32, I (gr g a0 0) 722 = z := ⟨_, rfl⟩
  have ti5 : 1 ≤ i5.toInt ∧ i5.toInt ≤ 4 := m_rng M h1 722 ki5 rfl
  have ci5 : (I (gr g a0 0) 722).toInt = i5.toInt := congrArg Int32.toInt ki5
  obtain ⟨i6, ki6⟩ : ∃ z : Int32, I (gr g a0 0) 718 = z := ⟨_, rfl⟩
  have ti6 : 0 ≤ i6.toInt ∧ i6.toInt ≤ 200 := m_rng M h1 718 ki6 rfl
  have ci6 : (I (gr g a0 0) 718).toInt = i6.toInt := congrArg Int32.toInt ki6
  obtain ⟨i7, ki7⟩ : ∃ z : Int32, I (gr g a0 0) 719 = z := ⟨_, rfl⟩
  have ti7 : 0 ≤ i7.toInt ∧ i7.toInt ≤ 200 := m_rng M h1 719 ki7 rfl
  have ci7 : (I (gr g a0 0) 719).toInt = i7.toInt := congrArg Int32.toInt ki7
  simp only [ci2, ci3, ci4, ci5, ci6, ci7] at g0
  have hj6 : i2.toInt = 1 → i3.toInt ≤ 6 := fun q => (g0 q).1
  refine lv_aload_n C.1 C.2.1 dX11_tick_0 rfl (lv_at hl 0 rfl) ?_
  refine lv_iconst (v := 0) C.1 C.2.1 dX11_tick_1 (by decide) ?_
  refine pi_X11_39 C M h0_ dX11_tick_2 (fun H locs I8 k10 f9 M => ?_)
  have F := fr_put F h0_ (Or.inr (by decide)) f9
  have Hi : ∀ j, 715 ≤ j → j ≠ 715 → j ≠ 717 → j ≠ 718 → j ≠ 719 → j ≠ 720 → j ≠ 725 → j ≠ 727 → j ≠ 728 → I8 (gr g a0 0) j = I (gr g a0 0) j := fun j hj hn715 hn717 hn718 hn719 hn720 hn725 hn727 hn728 => (f9 (gr g a0 0) j (Or.inl (is_ne h0_ hS0 (by decide)))).trans (Hi j hj hn715 hn717 hn718 hn719 hn720 hn725 hn727 hn728)
  refine lv_iload_n C.1 C.2.1 dX11_tick_5 rfl (lv_at hl 1 rfl) ?_
  refine lv_iconst (v := 1) C.1 C.2.1 dX11_tick_6 (by decide) ?_
  refine lv_bipush (v := 60) C.1 C.2.1 dX11_tick_7 (by decide) ?_
  refine ks_PI C M (ct_X11_within l g I8 J x1 1 60) (cw_X11_114 C.2.2.2.2 (by decide)) rfl hl.1 rfl (Nat.le_of_ble_eq_true rfl) dX11_tick_9 ⟨Nat.le_refl _, Nat.le_refl _⟩ (fun r11 H locs p12r M => ?_)
  have p12 : 0 ≤ r11.toInt ∧ r11.toInt ≤ 1 ∧ (r11.toInt = 1 ↔ 1 ≤ x1.toInt ∧ x1.toInt ≤ 60) := p12r
  refine n_if_eq C (tgt := 23) dX11_tick_12 (by decide) rfl (fun q13 => ?_) (fun q13 => ?_)
  ·
    refine lv_iconst (v := -1) C.1 C.2.1 dX11_tick_23 (by decide) ?_
    have rk14 : (I8 (gr g a0 0) 717).toInt = i2.toInt := congrArg Int32.toInt ((f9 (gr g a0 0) 717 (Or.inl (is_ne h0_ h1 (by decide)))).trans ki2)
    have rk15 : (I8 (gr g a0 0) 715).toInt = i3.toInt := congrArg Int32.toInt ((f9 (gr g a0 0) 715 (Or.inl (is_ne h0_ h1 (by decide)))).trans ki3)
    have rk16 : (I8 (gr g a0 0) 716).toInt = i4.toInt := congrArg Int32.toInt ((f9 (gr g a0 0) 716 (Or.inl (is_ne h0_ h1 (by decide)))).trans ki4)
    have rk17 : (I8 (gr g a0 0) 722).toInt = i5.toInt := congrArg Int32.toInt ((f9 (gr g a0 0) 722 (Or.inl (is_ne h0_ h1 (by decide)))).trans ki5)
    have rk18 : (I8 (gr g a0 0) 718).toInt = i6.toInt := congrArg Int32.toInt ((f9 (gr g a0 0) 718 (Or.inl (is_ne h0_ h1 (by decide)))).trans ki6)
    have rk19 : (I8 (gr g a0 0) 719).toInt = i7.toInt := congrArg Int32.toInt ((f9 (gr g a0 0) 719 (Or.inl (is_ne h0_ h1 (by decide)))).trans ki7)
    exact r_PM C M (z := (-1)) hr hlk F rfl ⟨rfl, ⟨(by simp only [ci2, ci3, ci4, ci5, ci6, ci7, rk14, rk15, rk16, rk17, rk18, rk19]; first | assumption | exact g0), Hi⟩⟩ dX11_tick_24
  ·
    refine lv_aload_n C.1 C.2.1 dX11_tick_15 rfl (lv_at hl 0 rfl) ?_
    refine lv_iload_n C.1 C.2.1 dX11_tick_16 rfl (lv_at hl 1 rfl) ?_
    have em20 : (I8 (gr g a0 0) 717).toInt = i2.toInt := congrArg Int32.toInt ((f9 (gr g a0 0) 717 (Or.inl (is_ne h0_ h1 (by decide)))).trans ki2)
    have em21 : (I8 (gr g a0 0) 715).toInt = i3.toInt := congrArg Int32.toInt ((f9 (gr g a0 0) 715 (Or.inl (is_ne h0_ h1 (by decide)))).trans ki3)
    have em22 : (I8 (gr g a0 0) 716).toInt = i4.toInt := congrArg Int32.toInt ((f9 (gr g a0 0) 716 (Or.inl (is_ne h0_ h1 (by decide)))).trans ki4)
    have em23 : (I8 (gr g a0 0) 722).toInt = i5.toInt := congrArg Int32.toInt ((f9 (gr g a0 0) 722 (Or.inl (is_ne h0_ h1 (by decide)))).trans ki5)
    have em24 : (I8 (gr g a0 0) 718).toInt = i6.toInt := congrArg Int32.toInt ((f9 (gr g a0 0) 718 (Or.inl (is_ne h0_ h1 (by decide)))).trans ki6)
    have em25 : (I8 (gr g a0 0) 719).toInt = i7.toInt := congrArg Int32.toInt ((f9 (gr g a0 0) 719 (Or.inl (is_ne h0_ h1 (by decide)))).trans ki7)
    obtain ⟨u26, ku26⟩ : ∃ z : Int32, I8 (gr g a0 0) 725 = z := ⟨_, rfl⟩
    have tu26 : 0 ≤ u26.toInt ∧ u26.toInt ≤ 20 := m_rng M h1 725 ku26 rfl
    have em27 : (I8 (gr g a0 0) 725).toInt = u26.toInt := congrArg Int32.toInt ku26
    refine k_PM C M h0_ (by decide) rfl (ct_X11_ticks l g I8 J a0 x1 h0_ (by simp only [em20, em21, em22, em23, em24, em25, em27]; first | assumption | omega) (by omega) (by omega)) (cw_X11_170 C.2.2.2.2 (by decide)) rfl hl.1 rfl (Nat.le_of_ble_eq_true rfl) dX11_tick_17 ⟨Nat.le_refl _, Nat.le_refl _⟩ (fun r32 I28 J29 H locs G30 p31r M => ?_)
    obtain ⟨eJ29, ⟨p31, fx33⟩⟩ : J29 = J ∧ ((jm (I28 (gr g a0 0) 717).toInt (I28 (gr g a0 0) 715).toInt (I28 (gr g a0 0) 716).toInt (I28 (gr g a0 0) 722).toInt (I28 (gr g a0 0) 718).toInt (I28 (gr g a0 0) 719).toInt) ∧ (∀ j, 715 ≤ j → j ≠ 715 → j ≠ 717 → j ≠ 718 → j ≠ 719 → j ≠ 720 → j ≠ 725 → j ≠ 727 → j ≠ 728 → I28 (gr g a0 0) j = I8 (gr g a0 0) j)) := p31r
    have eJ29 := eJ29.symm
    subst eJ29
    have Hi : ∀ j, 715 ≤ j → j ≠ 715 → j ≠ 717 → j ≠ 718 → j ≠ 719 → j ≠ 720 → j ≠ 725 → j ≠ 727 → j ≠ 728 → I28 (gr g a0 0) j = I (gr g a0 0) j := fun j hj hn715 hn717 hn718 hn719 hn720 hn725 hn727 hn728 => (fx33 j hj hn715 hn717 hn718 hn719 hn720 hn725 hn727 hn728).trans (Hi j hj hn715 hn717 hn718 hn719 hn720 hn725 hn727 hn728)
    obtain ⟨u34, ku34⟩ : ∃ z : Int32, I28 (gr g a0 0) 717 = z := ⟨_, rfl⟩
    have tu34 : 0 ≤ u34.toInt ∧ u34.toInt ≤ 1 := m_rng M h1 717 ku34 rfl
    have em35 : (I28 (gr g a0 0) 717).toInt = u34.toInt := congrArg Int32.toInt ku34
    obtain ⟨u36, ku36⟩ : ∃ z : Int32, I28 (gr g a0 0) 715 = z := ⟨_, rfl⟩
    have tu36 : 3 ≤ u36.toInt ∧ u36.toInt ≤ 7 := m_rng M h1 715 ku36 rfl
    have em37 : (I28 (gr g a0 0) 715).toInt = u36.toInt := congrArg Int32.toInt ku36
    have em38 : (I28 (gr g a0 0) 716).toInt = i4.toInt := congrArg Int32.toInt ((fx33 716 (by decide) (by decide) (by decide) (by decide) (by decide) (by decide) (by decide) (by decide) (by decide)).trans ((f9 (gr g a0 0) 716 (Or.inl (is_ne h0_ h1 (by decide)))).trans ki4))
    have em39 : (I28 (gr g a0 0) 722).toInt = i5.toInt := congrArg Int32.toInt ((fx33 722 (by decide) (by decide) (by decide) (by decide) (by decide) (by decide) (by decide) (by decide) (by decide)).trans ((f9 (gr g a0 0) 722 (Or.inl (is_ne h0_ h1 (by decide)))).trans ki5))
    obtain ⟨u40, ku40⟩ : ∃ z : Int32, I28 (gr g a0 0) 718 = z := ⟨_, rfl⟩
    have tu40 : 0 ≤ u40.toInt ∧ u40.toInt ≤ 200 := m_rng M h1 718 ku40 rfl
    have em41 : (I28 (gr g a0 0) 718).toInt = u40.toInt := congrArg Int32.toInt ku40
    obtain ⟨u42, ku42⟩ : ∃ z : Int32, I28 (gr g a0 0) 719 = z := ⟨_, rfl⟩
    have tu42 : 0 ≤ u42.toInt ∧ u42.toInt ≤ 200 := m_rng M h1 719 ku42 rfl
    have em43 : (I28 (gr g a0 0) 719).toInt = u42.toInt := congrArg Int32.toInt ku42
    simp only [em20, em21, em22, em23, em24, em25, em27, em35, em37, em38, em39, em41, em43] at p31
    have F := fr_call F G30 (by decide)
    refine lv_goto (tgt := 24) C.1 C.2.1 dX11_tick_20 (by decide) ?_
    have rk44 : (I28 (gr g a0 0) 717).toInt = u34.toInt := congrArg Int32.toInt ku34
    have rk45 : (I28 (gr g a0 0) 715).toInt = u36.toInt := congrArg Int32.toInt ku36
    have rk46 : (I28 (gr g a0 0) 716).toInt = i4.toInt := congrArg Int32.toInt ((fx33 716 (by decide) (by decide) (by decide) (by decide) (by decide) (by decide) (by decide) (by decide) (by decide)).trans ((f9 (gr g a0 0) 716 (Or.inl (is_ne h0_ h1 (by decide)))).trans ki4))
    have rk47 : (I28 (gr g a0 0) 722).toInt = i5.toInt := congrArg Int32.toInt ((fx33 722 (by decide) (by decide) (by decide) (by decide) (by decide) (by decide) (by decide) (by decide) (by decide)).trans ((f9 (gr g a0 0) 722 (Or.inl (is_ne h0_ h1 (by decide)))).trans ki5))
    have rk48 : (I28 (gr g a0 0) 718).toInt = u40.toInt := congrArg Int32.toInt ku40
    have rk49 : (I28 (gr g a0 0) 719).toInt = u42.toInt := congrArg Int32.toInt ku42
    exact r_PM C M hr hlk F rfl ⟨rfl, ⟨(by simp only [ci2, ci3, ci4, ci5, ci6, ci7, rk44, rk45, rk46, rk47, rk48, rk49]; first | assumption | exact g0), Hi⟩⟩ dX11_tick_24
