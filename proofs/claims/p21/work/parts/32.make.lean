abbrev md_X11_make : List (Nat × Nat) := [(9, 6), (9, 10), (28, 0), (31, 0)]
set_option maxHeartbeats 4000000 in
set_option maxRecDepth 100000 in
theorem ct_X11_make (l : Launch) (g : Gs) (I : Ms) (J : Js) (a0 : Nat) (x1 : Int32) (x2 : Int32) (h0_ : Is g a0 9) (g0 : jm (I (gr g a0 0) 717).toInt (I (gr g a0 0) 715).toInt (I (gr g a0 0) 716).toInt (I (gr g a0 0) 722).toInt (I (gr g a0 0) 718).toInt (I (gr g a0 0) 719).toInt) (g1 : IM g I a0) : Ctr l yX11_make cX11_make 3 (Option.some Jvm.ClassFile.FieldType.int) 2 g [.ref a0, .int x1, .int x2] I J (PM g md_X11_make I (fun z I1 J1 => J1 = J ∧ ((((3 ≤ x1.toInt ∧ x1.toInt ≤ 6 ∧ 4 ≤ x2.toInt ∧ x2.toInt ≤ 40 → z = x2.toInt * (x1.toInt - 1)) ∧ (¬ (3 ≤ x1.toInt ∧ x1.toInt ≤ 6 ∧ 4 ≤ x2.toInt ∧ x2.toInt ≤ 40) → z = -1)) ∧ jm (I1 (gr g a0 0) 717).toInt (I1 (gr g a0 0) 715).toInt (I1 (gr g a0 0) 716).toInt (I1 (gr g a0 0) 722).toInt (I1 (gr g a0 0) 718).toInt (I1 (gr g a0 0) 719).toInt) ∧ IM g I1 a0))) := by
  refine m_start (by decide) (Nat.le_of_ble_eq_true rfl) ?_
  intro p e s m args below meth c C hr hlk M ls hl
  have hl : lv_has ls 3 [(0, .ref a0), (1, .int x1), (2, .int x2)] := hl
  have C : CallFix p m c cX11_make 3 s args TB RX11 := C
  have F : Fr g md_X11_make I I := fr_rf
  have h1 := is_ref M h0_ 0 28 rfl rfl
  obtain ⟨i2, ki2⟩ : ∃ z : Int32, I (gr g a0 0) 717 = z := ⟨_, rfl⟩
  have ti2 : 0 ≤ i2.toInt ∧ i2.toInt ≤ 1 := m_rng M h1 717 ki2 rfl
  have ci2 : (I (gr g a0 0) 717).toInt = i2.toInt := congrArg Int32.toInt ki2
  obtain ⟨i3, ki3⟩ : ∃ z : Int32, I (gr g a0 0) 715 = z := ⟨_, rfl⟩
  have ti3 : 3 ≤ i3.toInt ∧ i3.toInt ≤ 7 := m_rng M h1 715 ki3 rfl
  have ci3 : (I (gr g a0 0) 715).toInt = i3.toInt := congrArg Int32.toInt ki3
  obtain ⟨i4, ki4⟩ : ∃ z : Int32, I (gr g a0 0) 716 = z := ⟨_, rfl⟩
  have ti4 : 4 ≤ i4.toInt ∧ i4.toInt ≤ 40 := m_rng M h1 716 ki4 rfl
  have ci4 : (I (gr g a0 0) 716).toInt = i4.toInt := congrArg Int32.toInt ki4
  obtain ⟨i5, ki5⟩ : ∃ z : Int32, I (gr g a0 0) 722 = z := ⟨_, rfl⟩
  have ti5 : 1 ≤ i5.toInt ∧ i5.toInt ≤ 4 := m_rng M h1 722 ki5 rfl
  have ci5 : (I (gr g a0 0) 722).toInt = i5.toInt := congrArg Int32.toInt ki5
  obtain ⟨i6, ki6⟩ : ∃ z : Int32, I (gr g a0 0) 718 = z := ⟨_, rfl⟩
  have ti6 : 0 ≤ i6.toInt ∧ i6.toInt ≤ 200 := m_rng M h1 718 ki6 rfl
  have ci6 : (I (gr g a0 0) 718).toInt = i6.toInt := congrArg Int32.toInt ki6
  obtain ⟨i7, ki7⟩ : ∃ z : Int32, I (gr g a0 0) 719 = z := ⟨_, rfl⟩
  have ti7 : 0 ≤ i7.toInt ∧ i7.toInt ≤ 200 := m_rng M h1 719 ki7 rfl
  have ci7 : (I (gr g a0 0) 719).toInt = i7.toInt := congrArg Int32.toInt ki7
  simp only [ci2, ci3, ci4, ci5, ci6, ci7] at g0
  have hj6 : i2.toInt = 1 → i3.toInt ≤ 6 := fun q => (g0 q).1
  refine lv_aload_n C.1 C.2.1 dX11_make_0 rfl (lv_at hl 0 rfl) ?_
  refine lv_iconst (v := 0) C.1 C.2.1 dX11_make_1 (by decide) ?_
  refine pi_X11_39 C M h0_ dX11_make_2 (fun H locs I8 k10 f9 M => ?_)
  have F := fr_put F h0_ (Or.inr (by decide)) f9
  refine lv_iload_n C.1 C.2.1 dX11_make_5 rfl (lv_at hl 1 rfl) ?_
  refine lv_iconst (v := 3) C.1 C.2.1 dX11_make_6 (by decide) ?_
  refine lv_bipush (v := 6) C.1 C.2.1 dX11_make_7 (by decide) ?_
  refine ks_PI C M (ct_X11_within l g I8 J x1 3 6) (cw_X11_114 C.2.2.2.2 (by decide)) rfl hl.1 rfl (Nat.le_of_ble_eq_true rfl) dX11_make_9 ⟨Nat.le_refl _, Nat.le_refl _⟩ (fun r11 H locs p12r M => ?_)
  have p12 : 0 ≤ r11.toInt ∧ r11.toInt ≤ 1 ∧ (r11.toInt = 1 ↔ 3 ≤ x1.toInt ∧ x1.toInt ≤ 6) := p12r
  refine n_if_eq C (tgt := 25) dX11_make_12 (by decide) rfl (fun q13 => ?_) (fun q13 => ?_)
  ·
    refine lv_iconst (v := -1) C.1 C.2.1 dX11_make_25 (by decide) ?_
    have rk14 : (I8 (gr g a0 0) 717).toInt = i2.toInt := congrArg Int32.toInt ((f9 (gr g a0 0) 717 (Or.inl (is_ne h0_ h1 (by decide)))).trans ki2)
    have rk15 : (I8 (gr g a0 0) 715).toInt = i3.toInt := congrArg Int32.toInt ((f9 (gr g a0 0) 715 (Or.inl (is_ne h0_ h1 (by decide)))).trans ki3)
    have rk16 : (I8 (gr g a0 0) 716).toInt = i4.toInt := congrArg Int32.toInt ((f9 (gr g a0 0) 716 (Or.inl (is_ne h0_ h1 (by decide)))).trans ki4)
    have rk17 : (I8 (gr g a0 0) 722).toInt = i5.toInt := congrArg Int32.toInt ((f9 (gr g a0 0) 722 (Or.inl (is_ne h0_ h1 (by decide)))).trans ki5)
    have rk18 : (I8 (gr g a0 0) 718).toInt = i6.toInt := congrArg Int32.toInt ((f9 (gr g a0 0) 718 (Or.inl (is_ne h0_ h1 (by decide)))).trans ki6)
    have rk19 : (I8 (gr g a0 0) 719).toInt = i7.toInt := congrArg Int32.toInt ((f9 (gr g a0 0) 719 (Or.inl (is_ne h0_ h1 (by decide)))).trans ki7)
    exact r_PM C M (z := (-1)) hr hlk F rfl ⟨rfl, ⟨⟨⟨fun q => absurd q (by omega), fun _ => rfl⟩, (by simp only [ci2, ci3, ci4, ci5, ci6, ci7, rk14, rk15, rk16, rk17, rk18, rk19]; exact g0)⟩, im_put M.2.2.2.2.2.1 h0_ h0_ rfl f9 g1⟩⟩ dX11_make_26
  ·
    refine lv_iload_n C.1 C.2.1 dX11_make_15 rfl (lv_at hl 2 rfl) ?_
    refine lv_iconst (v := 4) C.1 C.2.1 dX11_make_16 (by decide) ?_
    refine lv_bipush (v := 40) C.1 C.2.1 dX11_make_17 (by decide) ?_
    refine ks_PI C M (ct_X11_within l g I8 J x2 4 40) (cw_X11_114 C.2.2.2.2 (by decide)) rfl hl.1 rfl (Nat.le_of_ble_eq_true rfl) dX11_make_19 ⟨Nat.le_refl _, Nat.le_refl _⟩ (fun r20 H locs p21r M => ?_)
    have p21 : 0 ≤ r20.toInt ∧ r20.toInt ≤ 1 ∧ (r20.toInt = 1 ↔ 4 ≤ x2.toInt ∧ x2.toInt ≤ 40) := p21r
    refine n_if_ne C (tgt := 27) dX11_make_22 (by decide) rfl (fun q22 => ?_) (fun q22 => ?_)
    ·
      refine lv_aload_n C.1 C.2.1 dX11_make_27 rfl (lv_at hl 0 rfl) ?_
      refine lv_iload_n C.1 C.2.1 dX11_make_28 rfl (lv_at hl 1 rfl) ?_
      refine lv_iload_n C.1 C.2.1 dX11_make_29 rfl (lv_at hl 2 rfl) ?_
      have em23 : (I8 (gr g a0 0) 717).toInt = i2.toInt := congrArg Int32.toInt ((f9 (gr g a0 0) 717 (Or.inl (is_ne h0_ h1 (by decide)))).trans ki2)
      have em24 : (I8 (gr g a0 0) 715).toInt = i3.toInt := congrArg Int32.toInt ((f9 (gr g a0 0) 715 (Or.inl (is_ne h0_ h1 (by decide)))).trans ki3)
      have em25 : (I8 (gr g a0 0) 716).toInt = i4.toInt := congrArg Int32.toInt ((f9 (gr g a0 0) 716 (Or.inl (is_ne h0_ h1 (by decide)))).trans ki4)
      have em26 : (I8 (gr g a0 0) 722).toInt = i5.toInt := congrArg Int32.toInt ((f9 (gr g a0 0) 722 (Or.inl (is_ne h0_ h1 (by decide)))).trans ki5)
      have em27 : (I8 (gr g a0 0) 718).toInt = i6.toInt := congrArg Int32.toInt ((f9 (gr g a0 0) 718 (Or.inl (is_ne h0_ h1 (by decide)))).trans ki6)
      have em28 : (I8 (gr g a0 0) 719).toInt = i7.toInt := congrArg Int32.toInt ((f9 (gr g a0 0) 719 (Or.inl (is_ne h0_ h1 (by decide)))).trans ki7)
      refine k_PV C M h0_ (by decide) rfl (ct_X11_begins l g I8 J a0 x1 x2 h0_ (by omega) (by omega) (by omega) (by omega)) (cw_X11_35 C.2.2.2.2 (by decide)) rfl hl.1 rfl (Nat.le_of_ble_eq_true rfl) dX11_make_30 ⟨Nat.le_refl _, Nat.le_refl _⟩ (fun I29 J30 H locs G31 p32r M => ?_)
      obtain ⟨eJ30, p32⟩ : J30 = J ∧ ((I29 (gr g a0 0) 717).toInt = 0 ∧ (I29 (gr g a0 0) 715).toInt = x1.toInt ∧ (I29 (gr g a0 0) 716).toInt = x2.toInt ∧ (I29 (gr g a0 3) 0).toInt = 0 ∧ (I29 (gr g a0 3) 1).toInt = 0) := p32r
      have eJ30 := eJ30.symm
      subst eJ30
      obtain ⟨u33, ku33⟩ : ∃ z : Int32, I29 (gr g a0 0) 717 = z := ⟨_, rfl⟩
      have tu33 : 0 ≤ u33.toInt ∧ u33.toInt ≤ 1 := m_rng M h1 717 ku33 rfl
      have em34 : (I29 (gr g a0 0) 717).toInt = u33.toInt := congrArg Int32.toInt ku33
      obtain ⟨u35, ku35⟩ : ∃ z : Int32, I29 (gr g a0 0) 715 = z := ⟨_, rfl⟩
      have tu35 : 3 ≤ u35.toInt ∧ u35.toInt ≤ 7 := m_rng M h1 715 ku35 rfl
      have em36 : (I29 (gr g a0 0) 715).toInt = u35.toInt := congrArg Int32.toInt ku35
      obtain ⟨u37, ku37⟩ : ∃ z : Int32, I29 (gr g a0 0) 716 = z := ⟨_, rfl⟩
      have tu37 : 4 ≤ u37.toInt ∧ u37.toInt ≤ 40 := m_rng M h1 716 ku37 rfl
      have em38 : (I29 (gr g a0 0) 716).toInt = u37.toInt := congrArg Int32.toInt ku37
      simp only [em23, em24, em25, em26, em27, em28, em34, em36, em38] at p32
      have F := fr_call F G31 (by decide)
      refine lv_aload_n C.1 C.2.1 dX11_make_33 rfl (lv_at hl 0 rfl) ?_
      have em39 : (I29 (gr g a0 0) 715).toInt = u35.toInt := congrArg Int32.toInt ku35
      have em40 : (I29 (gr g a0 0) 716).toInt = u37.toInt := congrArg Int32.toInt ku37
      refine k_PI C M h0_ (by decide) rfl (ct_X11_blocks l g I29 J a0 h0_) (cw_X11_63 C.2.2.2.2 (by decide)) rfl hl.1 rfl (Nat.le_of_ble_eq_true rfl) dX11_make_34 ⟨Nat.le_refl _, Nat.le_refl _⟩ (fun r41 H locs p42r M => ?_)
      have p42 : r41.toInt = mBl (I29 (gr g a0 0) 716).toInt (I29 (gr g a0 0) 715).toInt ∧ 8 ≤ r41.toInt ∧ r41.toInt ≤ 240 := p42r
      simp only [em39, em40] at p42
      have p42 : r41.toInt = mBl u37.toInt u35.toInt ∧ 8 ≤ r41.toInt ∧ r41.toInt ≤ 240 := p42
      have rk43 : (I29 (gr g a0 0) 717).toInt = u33.toInt := congrArg Int32.toInt ku33
      have rk44 : (I29 (gr g a0 0) 715).toInt = u35.toInt := congrArg Int32.toInt ku35
      have rk45 : (I29 (gr g a0 0) 716).toInt = u37.toInt := congrArg Int32.toInt ku37
      obtain ⟨u46, ku46⟩ : ∃ z : Int32, I29 (gr g a0 0) 722 = z := ⟨_, rfl⟩
      have tu46 : 1 ≤ u46.toInt ∧ u46.toInt ≤ 4 := m_rng M h1 722 ku46 rfl
      have rk47 : (I29 (gr g a0 0) 722).toInt = u46.toInt := congrArg Int32.toInt ku46
      obtain ⟨u48, ku48⟩ : ∃ z : Int32, I29 (gr g a0 0) 718 = z := ⟨_, rfl⟩
      have tu48 : 0 ≤ u48.toInt ∧ u48.toInt ≤ 200 := m_rng M h1 718 ku48 rfl
      have rk49 : (I29 (gr g a0 0) 718).toInt = u48.toInt := congrArg Int32.toInt ku48
      obtain ⟨u50, ku50⟩ : ∃ z : Int32, I29 (gr g a0 0) 719 = z := ⟨_, rfl⟩
      have tu50 : 0 ≤ u50.toInt ∧ u50.toInt ≤ 200 := m_rng M h1 719 ku50 rfl
      have rk51 : (I29 (gr g a0 0) 719).toInt = u50.toInt := congrArg Int32.toInt ku50
      exact r_PM C M hr hlk F rfl ⟨rfl, ⟨⟨⟨fun _ => (by have e9 := p42.1; unfold mBl at e9; rw [e9]; have e7 := p32; congr 1 <;> omega), fun q => absurd ⟨by omega, by omega, by omega, by omega⟩ q⟩, (by simp only [ci2, ci3, ci4, ci5, ci6, ci7, rk43, rk44, rk45, rk47, rk49, rk51]; unfold jm; intro q; exact absurd q (by have e7 := p32; omega))⟩, im_zero p32.2.2.2.1 p32.2.2.2.2⟩⟩ dX11_make_37
    ·
      refine lv_iconst (v := -1) C.1 C.2.1 dX11_make_25 (by decide) ?_
      have rk52 : (I8 (gr g a0 0) 717).toInt = i2.toInt := congrArg Int32.toInt ((f9 (gr g a0 0) 717 (Or.inl (is_ne h0_ h1 (by decide)))).trans ki2)
      have rk53 : (I8 (gr g a0 0) 715).toInt = i3.toInt := congrArg Int32.toInt ((f9 (gr g a0 0) 715 (Or.inl (is_ne h0_ h1 (by decide)))).trans ki3)
      have rk54 : (I8 (gr g a0 0) 716).toInt = i4.toInt := congrArg Int32.toInt ((f9 (gr g a0 0) 716 (Or.inl (is_ne h0_ h1 (by decide)))).trans ki4)
      have rk55 : (I8 (gr g a0 0) 722).toInt = i5.toInt := congrArg Int32.toInt ((f9 (gr g a0 0) 722 (Or.inl (is_ne h0_ h1 (by decide)))).trans ki5)
      have rk56 : (I8 (gr g a0 0) 718).toInt = i6.toInt := congrArg Int32.toInt ((f9 (gr g a0 0) 718 (Or.inl (is_ne h0_ h1 (by decide)))).trans ki6)
      have rk57 : (I8 (gr g a0 0) 719).toInt = i7.toInt := congrArg Int32.toInt ((f9 (gr g a0 0) 719 (Or.inl (is_ne h0_ h1 (by decide)))).trans ki7)
      exact r_PM C M (z := (-1)) hr hlk F rfl ⟨rfl, ⟨⟨⟨fun q => absurd q (by omega), fun _ => rfl⟩, (by simp only [ci2, ci3, ci4, ci5, ci6, ci7, rk52, rk53, rk54, rk55, rk56, rk57]; exact g0)⟩, im_put M.2.2.2.2.2.1 h0_ h0_ rfl f9 g1⟩⟩ dX11_make_26
