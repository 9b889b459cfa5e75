abbrev md_X11_set : List (Nat × Nat) := [(9, 10), (28, 723), (28, 724), (28, 725)]
set_option maxHeartbeats 4000000 in
set_option maxRecDepth 100000 in
theorem ct_X11_set (l : Launch) (g : Gs) (I : Ms) (J : Js) (a0 : Nat) (x1 : Int32) (x2 : Int32) (h0_ : Is g a0 9) (g0 : jm (I (gr g a0 0) 717).toInt (I (gr g a0 0) 715).toInt (I (gr g a0 0) 716).toInt (I (gr g a0 0) 722).toInt (I (gr g a0 0) 718).toInt (I (gr g a0 0) 719).toInt) : Ctr l yX11_set cX11_set 4 (Option.some Jvm.ClassFile.FieldType.int) 3 g [.ref a0, .int x1, .int x2] I J (PM g md_X11_set I (fun z I1 J1 => J1 = J ∧ ((jm (I1 (gr g a0 0) 717).toInt (I1 (gr g a0 0) 715).toInt (I1 (gr g a0 0) 716).toInt (I1 (gr g a0 0) 722).toInt (I1 (gr g a0 0) 718).toInt (I1 (gr g a0 0) 719).toInt) ∧ (∀ j, 715 ≤ j → j ≠ 722 → j ≠ 723 → j ≠ 724 → I1 (gr g a0 0) j = I (gr g a0 0) j)))) := by
  refine m_start (by decide) (Nat.le_of_ble_eq_true rfl) ?_
  intro p e s m args below meth c C hr hlk M ls hl
  have hl : lv_has ls 4 [(0, .ref a0), (1, .int x1), (2, .int x2)] := hl
  have C : CallFix p m c cX11_set 4 s args TB RX11 := C
  have F : Fr g md_X11_set I I := fr_rf
  have hS0 := is_ref M h0_ 0 28 rfl rfl
  have Hi : ∀ j, 715 ≤ j → j ≠ 722 → j ≠ 723 → j ≠ 724 → I (gr g a0 0) j = I (gr g a0 0) j := by intros; rfl
  have h1 := is_ref M h0_ 0 28 rfl rfl
  obtain ⟨i2, ki2⟩ : ∃ z : Int32, I (gr g a0 0) 717 = z := ⟨_, rfl⟩
  have ti2 : 0 ≤ i2.toInt ∧ i2.toInt ≤ 1 := m_rng M h1 717 ki2 rfl
  have ci2 : (I (gr g a0 0) 717).toInt = i2.toInt := congrArg Int32.toInt ki2
  obtain ⟨i3, ki3⟩ : ∃ z : Int32, I (gr g a0 0) 715 = z := ⟨_, rfl⟩
  have ti3 : 3 ≤ i3.toInt ∧ i3.toInt ≤ 7 := m_rng M h1 715 ki3 rfl
  have ci3 : (I (gr g a0 0) 715).toInt = i3.toInt := congrArg Int32.toInt ki3
  obtain ⟨i4, ki4⟩ : ∃ z : Int32, I (gr g a0 0) 716 = z := ⟨_, rfl⟩
  have ti4 : 4 ≤ i4.toInt ∧ i4.toInt ≤ 40 := m_rng M h1 716 ki4 rfl
  have ci4 : (I (gr g a0 0) 716).toInt = i4.toInt := congrArg Int32.toInt ki4
  obtain ⟨i5, ki5⟩ : ∃ z : Int32, I (gr g a0 0) 722 = z := ⟨_, rfl⟩
  have ti5 : 1 ≤ i5.toInt ∧ i5.toInt ≤ 4 := m_rng M h1 722 ki5 rfl
  have ci5 : (I (gr g a0 0) 722).toInt = i5.toInt := congrArg Int32.toInt ki5
  obtain ⟨i6, ki6⟩ : ∃ z : Int32, I (gr g a0 0) 718 = z := ⟨_, rfl⟩
  have ti6 : 0 ≤ i6.toInt ∧ i6.toInt ≤ 200 := m_rng M h1 718 ki6 rfl
  have ci6 : (I (gr g a0 0) 718).toInt = i6.toInt := congrArg Int32.toInt ki6
  obtain ⟨i7, ki7⟩ : ∃ z : Int32, I (gr g a0 0) 719 = z := ⟨_, rfl⟩
  have ti7 : 0 ≤ i7.toInt ∧ i7.toInt ≤ 200 := m_rng M h1 719 ki7 rfl
  have ci7 : (I (gr g a0 0) 719).toInt = i7.toInt := congrArg Int32.toInt ki7
  simp only [ci2, ci3, ci4, ci5, ci6, ci7] at g0
  have hj6 : i2.toInt = 1 → i3.toInt ≤ 6 := fun q => (g0 q).1
  refine lv_aload_n C.1 C.2.1 dX11_set_0 rfl (lv_at hl 0 rfl) ?_
  refine lv_iconst (v := 0) C.1 C.2.1 dX11_set_1 (by decide) ?_
  refine pi_X11_39 C M h0_ dX11_set_2 (fun H locs I8 k10 f9 M => ?_)
  have F := fr_put F h0_ (Or.inr (by decide)) f9
  have Hi : ∀ j, 715 ≤ j → j ≠ 722 → j ≠ 723 → j ≠ 724 → I8 (gr g a0 0) j = I (gr g a0 0) j := fun j hj hn722 hn723 hn724 => (f9 (gr g a0 0) j (Or.inl (is_ne h0_ hS0 (by decide)))).trans (Hi j hj hn722 hn723 hn724)
  refine lv_iload_n C.1 C.2.1 dX11_set_5 rfl (lv_at hl 1 rfl) ?_
  refine n_if_ne C (tgt := 28) dX11_set_6 (by decide) rfl (fun q11 => ?_) (fun q11 => ?_)
  ·
    refine lv_iload_n C.1 C.2.1 dX11_set_28 rfl (lv_at hl 1 rfl) ?_
    refine lv_iconst (v := 1) C.1 C.2.1 dX11_set_29 (by decide) ?_
    refine n_icmp_ne C (tgt := 46) (Y := 1) dX11_set_30 (by decide) rfl rfl (fun q12 => ?_) (fun q12 => ?_)
    ·
      refine lv_iload_n C.1 C.2.1 dX11_set_46 rfl (lv_at hl 1 rfl) ?_
      refine lv_iconst (v := 2) C.1 C.2.1 dX11_set_47 (by decide) ?_
      refine n_icmp_ne C (tgt := 61) (Y := 2) dX11_set_48 (by decide) rfl rfl (fun q13 => ?_) (fun q13 => ?_)
      ·
        refine lv_iconst (v := -1) C.1 C.2.1 dX11_set_61 (by decide) ?_
        have rk14 : (I8 (gr g a0 0) 717).toInt = i2.toInt := congrArg Int32.toInt ((f9 (gr g a0 0) 717 (Or.inl (is_ne h0_ h1 (by decide)))).trans ki2)
        have rk15 : (I8 (gr g a0 0) 715).toInt = i3.toInt := congrArg Int32.toInt ((f9 (gr g a0 0) 715 (Or.inl (is_ne h0_ h1 (by decide)))).trans ki3)
        have rk16 : (I8 (gr g a0 0) 716).toInt = i4.toInt := congrArg Int32.toInt ((f9 (gr g a0 0) 716 (Or.inl (is_ne h0_ h1 (by decide)))).trans ki4)
        have rk17 : (I8 (gr g a0 0) 722).toInt = i5.toInt := congrArg Int32.toInt ((f9 (gr g a0 0) 722 (Or.inl (is_ne h0_ h1 (by decide)))).trans ki5)
        have rk18 : (I8 (gr g a0 0) 718).toInt = i6.toInt := congrArg Int32.toInt ((f9 (gr g a0 0) 718 (Or.inl (is_ne h0_ h1 (by decide)))).trans ki6)
        have rk19 : (I8 (gr g a0 0) 719).toInt = i7.toInt := congrArg Int32.toInt ((f9 (gr g a0 0) 719 (Or.inl (is_ne h0_ h1 (by decide)))).trans ki7)
        exact r_PM C M (z := (-1)) hr hlk F rfl ⟨rfl, ⟨(by simp only [ci2, ci3, ci4, ci5, ci6, ci7, rk14, rk15, rk16, rk17, rk18, rk19]; first | exact g0 | (unfold jm; intro q; have hj := g0 q; have hj2 := hj.2.1; have e9 := mSp_b (R := i4.toInt) (N := i3.toInt) (S := x2.toInt) (b := i6.toInt) (by omega) (by omega) (by omega) (by omega) (by omega) (by omega) (by omega) (by omega); exact ⟨hj.1, hj.2.1, by omega⟩)), Hi⟩⟩ dX11_set_62
      ·
        refine lv_iload_n C.1 C.2.1 dX11_set_51 rfl (lv_at hl 2 rfl) ?_
        refine lv_iconst (v := 1) C.1 C.2.1 dX11_set_52 (by decide) ?_
        refine lv_bipush (v := 60) C.1 C.2.1 dX11_set_53 (by decide) ?_
        refine ks_PI C M (ct_X11_within l g I8 J x2 1 60) (cw_X11_114 C.2.2.2.2 (by decide)) rfl hl.1 rfl (Nat.le_of_ble_eq_true rfl) dX11_set_55 ⟨Nat.le_refl _, Nat.le_refl _⟩ (fun r20 H locs p21r M => ?_)
        have p21 : 0 ≤ r20.toInt ∧ r20.toInt ≤ 1 ∧ (r20.toInt = 1 ↔ 1 ≤ x2.toInt ∧ x2.toInt ≤ 60) := p21r
        refine n_if_ne C (tgt := 63) dX11_set_58 (by decide) rfl (fun q22 => ?_) (fun q22 => ?_)
        ·
          refine lv_aload_n C.1 C.2.1 dX11_set_63 rfl (lv_at hl 0 rfl) ?_
          refine gi_X11_7 C M h0_ dX11_set_64 (fun h23 => ?_)
          refine lv_sipush (v := 722) C.1 C.2.1 dX11_set_67 (by decide) ?_
          refine lv_iload_n C.1 C.2.1 dX11_set_70 rfl (lv_at hl 1 rfl) ?_
          refine n_iadd C (X := 722) dX11_set_71 rfl rfl (by omega) (by omega) (fun v24 ev24 => ?_)
          refine a_ld C M (j := 724) h1 (n := 729) rfl rfl rfl (by omega) (by omega) (by omega) dX11_set_72 (fun v25 kv25 => ?_)
          have tv25 := m_rng M h1 724 kv25 rfl
          have tv25 : 1 ≤ v25.toInt ∧ v25.toInt ≤ 60 := tv25
          refine lv_istore_n (lv' := [(3, .int v25), (0, .ref a0), (1, .int x1), (2, .int x2)]) C.1 C.2.1 dX11_set_73 rfl hl (by decide) rfl (fun ls hl => ?_)
          refine lv_aload_n C.1 C.2.1 dX11_set_74 rfl (lv_at hl 1 rfl) ?_
          refine gi_X11_7 C M h0_ dX11_set_75 (fun h26 => ?_)
          refine lv_sipush (v := 722) C.1 C.2.1 dX11_set_78 (by decide) ?_
          refine lv_iload_n C.1 C.2.1 dX11_set_81 rfl (lv_at hl 2 rfl) ?_
          refine n_iadd C (X := 722) dX11_set_82 rfl rfl (by omega) (by omega) (fun v27 ev27 => ?_)
          refine lv_iload_n C.1 C.2.1 dX11_set_83 rfl (lv_at hl 3 rfl) ?_
          refine a_st C M (j := 724) h1 (n := 729) rfl rfl rfl (by omega) (by omega) (by omega) rfl (lo := 1) (hi := 60) rfl (by omega) (by omega) dX11_set_84 (fun H locs I28 k30 f29 M => ?_)
          have F := fr_put F h1 (Or.inr (by decide)) f29
          have Hi : ∀ j, 715 ≤ j → j ≠ 722 → j ≠ 723 → j ≠ 724 → I28 (gr g a0 0) j = I (gr g a0 0) j := fun j hj hn722 hn723 hn724 => (f29 (gr g a0 0) j (Or.inr (by omega))).trans (Hi j hj hn722 hn723 hn724)
          refine lv_iload_n C.1 C.2.1 dX11_set_85 rfl (lv_at hl 0 rfl) ?_
          have rk31 : (I28 (gr g a0 0) 717).toInt = i2.toInt := congrArg Int32.toInt ((f29 (gr g a0 0) 717 (Or.inr (by decide))).trans ((f9 (gr g a0 0) 717 (Or.inl (is_ne h0_ h1 (by decide)))).trans ki2))
          have rk32 : (I28 (gr g a0 0) 715).toInt = i3.toInt := congrArg Int32.toInt ((f29 (gr g a0 0) 715 (Or.inr (by decide))).trans ((f9 (gr g a0 0) 715 (Or.inl (is_ne h0_ h1 (by decide)))).trans ki3))
          have rk33 : (I28 (gr g a0 0) 716).toInt = i4.toInt := congrArg Int32.toInt ((f29 (gr g a0 0) 716 (Or.inr (by decide))).trans ((f9 (gr g a0 0) 716 (Or.inl (is_ne h0_ h1 (by decide)))).trans ki4))
          have rk34 : (I28 (gr g a0 0) 722).toInt = i5.toInt := congrArg Int32.toInt ((f29 (gr g a0 0) 722 (Or.inr (by decide))).trans ((f9 (gr g a0 0) 722 (Or.inl (is_ne h0_ h1 (by decide)))).trans ki5))
          have rk35 : (I28 (gr g a0 0) 718).toInt = i6.toInt := congrArg Int32.toInt ((f29 (gr g a0 0) 718 (Or.inr (by decide))).trans ((f9 (gr g a0 0) 718 (Or.inl (is_ne h0_ h1 (by decide)))).trans ki6))
          have rk36 : (I28 (gr g a0 0) 719).toInt = i7.toInt := congrArg Int32.toInt ((f29 (gr g a0 0) 719 (Or.inr (by decide))).trans ((f9 (gr g a0 0) 719 (Or.inl (is_ne h0_ h1 (by decide)))).trans ki7))
          exact r_PM C M hr hlk F rfl ⟨rfl, ⟨(by simp only [ci2, ci3, ci4, ci5, ci6, ci7, rk31, rk32, rk33, rk34, rk35, rk36]; first | exact g0 | (unfold jm; intro q; have hj := g0 q; have hj2 := hj.2.1; have e9 := mSp_b (R := i4.toInt) (N := i3.toInt) (S := x2.toInt) (b := i6.toInt) (by omega) (by omega) (by omega) (by omega) (by omega) (by omega) (by omega) (by omega); exact ⟨hj.1, hj.2.1, by omega⟩)), Hi⟩⟩ dX11_set_86
        ·
          refine lv_iconst (v := -1) C.1 C.2.1 dX11_set_61 (by decide) ?_
          have rk37 : (I8 (gr g a0 0) 717).toInt = i2.toInt := congrArg Int32.toInt ((f9 (gr g a0 0) 717 (Or.inl (is_ne h0_ h1 (by decide)))).trans ki2)
          have rk38 : (I8 (gr g a0 0) 715).toInt = i3.toInt := congrArg Int32.toInt ((f9 (gr g a0 0) 715 (Or.inl (is_ne h0_ h1 (by decide)))).trans ki3)
          have rk39 : (I8 (gr g a0 0) 716).toInt = i4.toInt := congrArg Int32.toInt ((f9 (gr g a0 0) 716 (Or.inl (is_ne h0_ h1 (by decide)))).trans ki4)
          have rk40 : (I8 (gr g a0 0) 722).toInt = i5.toInt := congrArg Int32.toInt ((f9 (gr g a0 0) 722 (Or.inl (is_ne h0_ h1 (by decide)))).trans ki5)
          have rk41 : (I8 (gr g a0 0) 718).toInt = i6.toInt := congrArg Int32.toInt ((f9 (gr g a0 0) 718 (Or.inl (is_ne h0_ h1 (by decide)))).trans ki6)
          have rk42 : (I8 (gr g a0 0) 719).toInt = i7.toInt := congrArg Int32.toInt ((f9 (gr g a0 0) 719 (Or.inl (is_ne h0_ h1 (by decide)))).trans ki7)
          exact r_PM C M (z := (-1)) hr hlk F rfl ⟨rfl, ⟨(by simp only [ci2, ci3, ci4, ci5, ci6, ci7, rk37, rk38, rk39, rk40, rk41, rk42]; first | exact g0 | (unfold jm; intro q; have hj := g0 q; have hj2 := hj.2.1; have e9 := mSp_b (R := i4.toInt) (N := i3.toInt) (S := x2.toInt) (b := i6.toInt) (by omega) (by omega) (by omega) (by omega) (by omega) (by omega) (by omega) (by omega); exact ⟨hj.1, hj.2.1, by omega⟩)), Hi⟩⟩ dX11_set_62
    ·
      refine lv_iload_n C.1 C.2.1 dX11_set_33 rfl (lv_at hl 2 rfl) ?_
      refine lv_iconst (v := 0) C.1 C.2.1 dX11_set_34 (by decide) ?_
      refine lv_bipush (v := 20) C.1 C.2.1 dX11_set_35 (by decide) ?_
      refine ks_PI C M (ct_X11_within l g I8 J x2 0 20) (cw_X11_114 C.2.2.2.2 (by decide)) rfl hl.1 rfl (Nat.le_of_ble_eq_true rfl) dX11_set_37 ⟨Nat.le_refl _, Nat.le_refl _⟩ (fun r43 H locs p44r M => ?_)
      have p44 : 0 ≤ r43.toInt ∧ r43.toInt ≤ 1 ∧ (r43.toInt = 1 ↔ 0 ≤ x2.toInt ∧ x2.toInt ≤ 20) := p44r
      refine n_if_ne C (tgt := 63) dX11_set_40 (by decide) rfl (fun q45 => ?_) (fun q45 => ?_)
      ·
        refine lv_aload_n C.1 C.2.1 dX11_set_63 rfl (lv_at hl 0 rfl) ?_
        refine gi_X11_7 C M h0_ dX11_set_64 (fun h46 => ?_)
        refine lv_sipush (v := 722) C.1 C.2.1 dX11_set_67 (by decide) ?_
        refine lv_iload_n C.1 C.2.1 dX11_set_70 rfl (lv_at hl 1 rfl) ?_
        refine n_iadd C (X := 722) dX11_set_71 rfl rfl (by omega) (by omega) (fun v47 ev47 => ?_)
        refine a_ld C M (j := 723) h1 (n := 729) rfl rfl rfl (by omega) (by omega) (by omega) dX11_set_72 (fun v48 kv48 => ?_)
        have tv48 := m_rng M h1 723 kv48 rfl
        have tv48 : 0 ≤ v48.toInt ∧ v48.toInt ≤ 20 := tv48
        refine lv_istore_n (lv' := [(3, .int v48), (0, .ref a0), (1, .int x1), (2, .int x2)]) C.1 C.2.1 dX11_set_73 rfl hl (by decide) rfl (fun ls hl => ?_)
        refine lv_aload_n C.1 C.2.1 dX11_set_74 rfl (lv_at hl 1 rfl) ?_
        refine gi_X11_7 C M h0_ dX11_set_75 (fun h49 => ?_)
        refine lv_sipush (v := 722) C.1 C.2.1 dX11_set_78 (by decide) ?_
        refine lv_iload_n C.1 C.2.1 dX11_set_81 rfl (lv_at hl 2 rfl) ?_
        refine n_iadd C (X := 722) dX11_set_82 rfl rfl (by omega) (by omega) (fun v50 ev50 => ?_)
        refine lv_iload_n C.1 C.2.1 dX11_set_83 rfl (lv_at hl 3 rfl) ?_
        refine a_st C M (j := 723) h1 (n := 729) rfl rfl rfl (by omega) (by omega) (by omega) rfl (lo := 0) (hi := 20) rfl (by omega) (by omega) dX11_set_84 (fun H locs I51 k53 f52 M => ?_)
        have F := fr_put F h1 (Or.inr (by decide)) f52
        have Hi : ∀ j, 715 ≤ j → j ≠ 722 → j ≠ 723 → j ≠ 724 → I51 (gr g a0 0) j = I (gr g a0 0) j := fun j hj hn722 hn723 hn724 => (f52 (gr g a0 0) j (Or.inr (by omega))).trans (Hi j hj hn722 hn723 hn724)
        refine lv_iload_n C.1 C.2.1 dX11_set_85 rfl (lv_at hl 0 rfl) ?_
        have rk54 : (I51 (gr g a0 0) 717).toInt = i2.toInt := congrArg Int32.toInt ((f52 (gr g a0 0) 717 (Or.inr (by decide))).trans ((f9 (gr g a0 0) 717 (Or.inl (is_ne h0_ h1 (by decide)))).trans ki2))
        have rk55 : (I51 (gr g a0 0) 715).toInt = i3.toInt := congrArg Int32.toInt ((f52 (gr g a0 0) 715 (Or.inr (by decide))).trans ((f9 (gr g a0 0) 715 (Or.inl (is_ne h0_ h1 (by decide)))).trans ki3))
        have rk56 : (I51 (gr g a0 0) 716).toInt = i4.toInt := congrArg Int32.toInt ((f52 (gr g a0 0) 716 (Or.inr (by decide))).trans ((f9 (gr g a0 0) 716 (Or.inl (is_ne h0_ h1 (by decide)))).trans ki4))
        have rk57 : (I51 (gr g a0 0) 722).toInt = i5.toInt := congrArg Int32.toInt ((f52 (gr g a0 0) 722 (Or.inr (by decide))).trans ((f9 (gr g a0 0) 722 (Or.inl (is_ne h0_ h1 (by decide)))).trans ki5))
        have rk58 : (I51 (gr g a0 0) 718).toInt = i6.toInt := congrArg Int32.toInt ((f52 (gr g a0 0) 718 (Or.inr (by decide))).trans ((f9 (gr g a0 0) 718 (Or.inl (is_ne h0_ h1 (by decide)))).trans ki6))
        have rk59 : (I51 (gr g a0 0) 719).toInt = i7.toInt := congrArg Int32.toInt ((f52 (gr g a0 0) 719 (Or.inr (by decide))).trans ((f9 (gr g a0 0) 719 (Or.inl (is_ne h0_ h1 (by decide)))).trans ki7))
        exact r_PM C M hr hlk F rfl ⟨rfl, ⟨(by simp only [ci2, ci3, ci4, ci5, ci6, ci7, rk54, rk55, rk56, rk57, rk58, rk59]; first | exact g0 | (unfold jm; intro q; have hj := g0 q; have hj2 := hj.2.1; have e9 := mSp_b (R := i4.toInt) (N := i3.toInt) (S := x2.toInt) (b := i6.toInt) (by omega) (by omega) (by omega) (by omega) (by omega) (by omega) (by omega) (by omega); exact ⟨hj.1, hj.2.1, by omega⟩)), Hi⟩⟩ dX11_set_86
      ·
        refine lv_goto (tgt := 61) C.1 C.2.1 dX11_set_43 (by decide) ?_
        refine lv_iconst (v := -1) C.1 C.2.1 dX11_set_61 (by decide) ?_
        have rk60 : (I8 (gr g a0 0) 717).toInt = i2.toInt := congrArg Int32.toInt ((f9 (gr g a0 0) 717 (Or.inl (is_ne h0_ h1 (by decide)))).trans ki2)
        have rk61 : (I8 (gr g a0 0) 715).toInt = i3.toInt := congrArg Int32.toInt ((f9 (gr g a0 0) 715 (Or.inl (is_ne h0_ h1 (by decide)))).trans ki3)
        have rk62 : (I8 (gr g a0 0) 716).toInt = i4.toInt := congrArg Int32.toInt ((f9 (gr g a0 0) 716 (Or.inl (is_ne h0_ h1 (by decide)))).trans ki4)
        have rk63 : (I8 (gr g a0 0) 722).toInt = i5.toInt := congrArg Int32.toInt ((f9 (gr g a0 0) 722 (Or.inl (is_ne h0_ h1 (by decide)))).trans ki5)
        have rk64 : (I8 (gr g a0 0) 718).toInt = i6.toInt := congrArg Int32.toInt ((f9 (gr g a0 0) 718 (Or.inl (is_ne h0_ h1 (by decide)))).trans ki6)
        have rk65 : (I8 (gr g a0 0) 719).toInt = i7.toInt := congrArg Int32.toInt ((f9 (gr g a0 0) 719 (Or.inl (is_ne h0_ h1 (by decide)))).trans ki7)
        exact r_PM C M (z := (-1)) hr hlk F rfl ⟨rfl, ⟨(by simp only [ci2, ci3, ci4, ci5, ci6, ci7, rk60, rk61, rk62, rk63, rk64, rk65]; first | exact g0 | (unfold jm; intro q; have hj := g0 q; have hj2 := hj.2.1; have e9 := mSp_b (R := i4.toInt) (N := i3.toInt) (S := x2.toInt) (b := i6.toInt) (by omega) (by omega) (by omega) (by omega) (by omega) (by omega) (by omega) (by omega); exact ⟨hj.1, hj.2.1, by omega⟩)), Hi⟩⟩ dX11_set_62
  ·
    refine lv_iload_n C.1 C.2.1 dX11_set_9 rfl (lv_at hl 2 rfl) ?_
    refine lv_iconst (v := 1) C.1 C.2.1 dX11_set_10 (by decide) ?_
    refine lv_iconst (v := 4) C.1 C.2.1 dX11_set_11 (by decide) ?_
    refine ks_PI C M (ct_X11_within l g I8 J x2 1 4) (cw_X11_114 C.2.2.2.2 (by decide)) rfl hl.1 rfl (Nat.le_of_ble_eq_true rfl) dX11_set_12 ⟨Nat.le_refl _, Nat.le_refl _⟩ (fun r66 H locs p67r M => ?_)
    have p67 : 0 ≤ r66.toInt ∧ r66.toInt ≤ 1 ∧ (r66.toInt = 1 ↔ 1 ≤ x2.toInt ∧ x2.toInt ≤ 4) := p67r
    refine n_if_eq C (tgt := 61) dX11_set_15 (by decide) rfl (fun q68 => ?_) (fun q68 => ?_)
    ·
      refine lv_iconst (v := -1) C.1 C.2.1 dX11_set_61 (by decide) ?_
      have rk69 : (I8 (gr g a0 0) 717).toInt = i2.toInt := congrArg Int32.toInt ((f9 (gr g a0 0) 717 (Or.inl (is_ne h0_ h1 (by decide)))).trans ki2)
      have rk70 : (I8 (gr g a0 0) 715).toInt = i3.toInt := congrArg Int32.toInt ((f9 (gr g a0 0) 715 (Or.inl (is_ne h0_ h1 (by decide)))).trans ki3)
      have rk71 : (I8 (gr g a0 0) 716).toInt = i4.toInt := congrArg Int32.toInt ((f9 (gr g a0 0) 716 (Or.inl (is_ne h0_ h1 (by decide)))).trans ki4)
      have rk72 : (I8 (gr g a0 0) 722).toInt = i5.toInt := congrArg Int32.toInt ((f9 (gr g a0 0) 722 (Or.inl (is_ne h0_ h1 (by decide)))).trans ki5)
      have rk73 : (I8 (gr g a0 0) 718).toInt = i6.toInt := congrArg Int32.toInt ((f9 (gr g a0 0) 718 (Or.inl (is_ne h0_ h1 (by decide)))).trans ki6)
      have rk74 : (I8 (gr g a0 0) 719).toInt = i7.toInt := congrArg Int32.toInt ((f9 (gr g a0 0) 719 (Or.inl (is_ne h0_ h1 (by decide)))).trans ki7)
      exact r_PM C M (z := (-1)) hr hlk F rfl ⟨rfl, ⟨(by simp only [ci2, ci3, ci4, ci5, ci6, ci7, rk69, rk70, rk71, rk72, rk73, rk74]; first | exact g0 | (unfold jm; intro q; have hj := g0 q; have hj2 := hj.2.1; have e9 := mSp_b (R := i4.toInt) (N := i3.toInt) (S := x2.toInt) (b := i6.toInt) (by omega) (by omega) (by omega) (by omega) (by omega) (by omega) (by omega) (by omega); exact ⟨hj.1, hj.2.1, by omega⟩)), Hi⟩⟩ dX11_set_62
    ·
      refine lv_aload_n C.1 C.2.1 dX11_set_18 rfl (lv_at hl 0 rfl) ?_
      have em75 : (I8 (gr g a0 0) 717).toInt = i2.toInt := congrArg Int32.toInt ((f9 (gr g a0 0) 717 (Or.inl (is_ne h0_ h1 (by decide)))).trans ki2)
      have em76 : (I8 (gr g a0 0) 719).toInt = i7.toInt := congrArg Int32.toInt ((f9 (gr g a0 0) 719 (Or.inl (is_ne h0_ h1 (by decide)))).trans ki7)
      refine k_PI C M h0_ (by decide) rfl (ct_X11_isMoving l g I8 J a0 h0_) (cw_X11_88 C.2.2.2.2 (by decide)) rfl hl.1 rfl (Nat.le_of_ble_eq_true rfl) dX11_set_19 ⟨Nat.le_refl _, Nat.le_refl _⟩ (fun r77 H locs p78r M => ?_)
      have p78 : 0 ≤ r77.toInt ∧ r77.toInt ≤ 1 ∧ (r77.toInt = 1 ↔ (I8 (gr g a0 0) 717).toInt = 1 ∧ 0 < (I8 (gr g a0 0) 719).toInt) := p78r
      simp only [em75, em76] at p78
      have p78 : 0 ≤ r77.toInt ∧ r77.toInt ≤ 1 ∧ (r77.toInt = 1 ↔ i2.toInt = 1 ∧ 0 < i7.toInt) := p78
      refine n_if_eq C (tgt := 63) dX11_set_22 (by decide) rfl (fun q79 => ?_) (fun q79 => ?_)
      ·
        refine lv_aload_n C.1 C.2.1 dX11_set_63 rfl (lv_at hl 0 rfl) ?_
        refine gi_X11_7 C M h0_ dX11_set_64 (fun h80 => ?_)
        refine lv_sipush (v := 722) C.1 C.2.1 dX11_set_67 (by decide) ?_
        refine lv_iload_n C.1 C.2.1 dX11_set_70 rfl (lv_at hl 1 rfl) ?_
        refine n_iadd C (X := 722) dX11_set_71 rfl rfl (by omega) (by omega) (fun v81 ev81 => ?_)
        refine a_ld C M (j := 722) h1 (n := 729) rfl rfl rfl (by omega) (by omega) (by omega) dX11_set_72 (fun v82 kv82 => ?_)
        have tv82 := m_rng M h1 722 kv82 rfl
        have tv82 : 1 ≤ v82.toInt ∧ v82.toInt ≤ 4 := tv82
        refine lv_istore_n (lv' := [(3, .int v82), (0, .ref a0), (1, .int x1), (2, .int x2)]) C.1 C.2.1 dX11_set_73 rfl hl (by decide) rfl (fun ls hl => ?_)
        refine lv_aload_n C.1 C.2.1 dX11_set_74 rfl (lv_at hl 1 rfl) ?_
        refine gi_X11_7 C M h0_ dX11_set_75 (fun h83 => ?_)
        refine lv_sipush (v := 722) C.1 C.2.1 dX11_set_78 (by decide) ?_
        refine lv_iload_n C.1 C.2.1 dX11_set_81 rfl (lv_at hl 2 rfl) ?_
        refine n_iadd C (X := 722) dX11_set_82 rfl rfl (by omega) (by omega) (fun v84 ev84 => ?_)
        refine lv_iload_n C.1 C.2.1 dX11_set_83 rfl (lv_at hl 3 rfl) ?_
        refine a_st C M (j := 722) h1 (n := 729) rfl rfl rfl (by omega) (by omega) (by omega) rfl (lo := 1) (hi := 4) rfl (by omega) (by omega) dX11_set_84 (fun H locs I85 k87 f86 M => ?_)
        have F := fr_put F h1 (Or.inr (by decide)) f86
        have Hi : ∀ j, 715 ≤ j → j ≠ 722 → j ≠ 723 → j ≠ 724 → I85 (gr g a0 0) j = I (gr g a0 0) j := fun j hj hn722 hn723 hn724 => (f86 (gr g a0 0) j (Or.inr (by omega))).trans (Hi j hj hn722 hn723 hn724)
        refine lv_iload_n C.1 C.2.1 dX11_set_85 rfl (lv_at hl 0 rfl) ?_
        have rk88 : (I85 (gr g a0 0) 717).toInt = i2.toInt := congrArg Int32.toInt ((f86 (gr g a0 0) 717 (Or.inr (by decide))).trans ((f9 (gr g a0 0) 717 (Or.inl (is_ne h0_ h1 (by decide)))).trans ki2))
        have rk89 : (I85 (gr g a0 0) 715).toInt = i3.toInt := congrArg Int32.toInt ((f86 (gr g a0 0) 715 (Or.inr (by decide))).trans ((f9 (gr g a0 0) 715 (Or.inl (is_ne h0_ h1 (by decide)))).trans ki3))
        have rk90 : (I85 (gr g a0 0) 716).toInt = i4.toInt := congrArg Int32.toInt ((f86 (gr g a0 0) 716 (Or.inr (by decide))).trans ((f9 (gr g a0 0) 716 (Or.inl (is_ne h0_ h1 (by decide)))).trans ki4))
        have rk91 : (I85 (gr g a0 0) 722).toInt = x2.toInt := congrArg Int32.toInt k87
        have rk92 : (I85 (gr g a0 0) 718).toInt = i6.toInt := congrArg Int32.toInt ((f86 (gr g a0 0) 718 (Or.inr (by decide))).trans ((f9 (gr g a0 0) 718 (Or.inl (is_ne h0_ h1 (by decide)))).trans ki6))
        have rk93 : (I85 (gr g a0 0) 719).toInt = i7.toInt := congrArg Int32.toInt ((f86 (gr g a0 0) 719 (Or.inr (by decide))).trans ((f9 (gr g a0 0) 719 (Or.inl (is_ne h0_ h1 (by decide)))).trans ki7))
        exact r_PM C M hr hlk F rfl ⟨rfl, ⟨(by simp only [ci2, ci3, ci4, ci5, ci6, ci7, rk88, rk89, rk90, rk91, rk92, rk93]; first | exact g0 | (unfold jm; intro q; have hj := g0 q; have hj2 := hj.2.1; have e9 := mSp_b (R := i4.toInt) (N := i3.toInt) (S := x2.toInt) (b := i6.toInt) (by omega) (by omega) (by omega) (by omega) (by omega) (by omega) (by omega) (by omega); exact ⟨hj.1, hj.2.1, by omega⟩)), Hi⟩⟩ dX11_set_86
      ·
        refine lv_goto (tgt := 61) C.1 C.2.1 dX11_set_25 (by decide) ?_
        refine lv_iconst (v := -1) C.1 C.2.1 dX11_set_61 (by decide) ?_
        have rk94 : (I8 (gr g a0 0) 717).toInt = i2.toInt := congrArg Int32.toInt ((f9 (gr g a0 0) 717 (Or.inl (is_ne h0_ h1 (by decide)))).trans ki2)
        have rk95 : (I8 (gr g a0 0) 715).toInt = i3.toInt := congrArg Int32.toInt ((f9 (gr g a0 0) 715 (Or.inl (is_ne h0_ h1 (by decide)))).trans ki3)
        have rk96 : (I8 (gr g a0 0) 716).toInt = i4.toInt := congrArg Int32.toInt ((f9 (gr g a0 0) 716 (Or.inl (is_ne h0_ h1 (by decide)))).trans ki4)
        have rk97 : (I8 (gr g a0 0) 722).toInt = i5.toInt := congrArg Int32.toInt ((f9 (gr g a0 0) 722 (Or.inl (is_ne h0_ h1 (by decide)))).trans ki5)
        have rk98 : (I8 (gr g a0 0) 718).toInt = i6.toInt := congrArg Int32.toInt ((f9 (gr g a0 0) 718 (Or.inl (is_ne h0_ h1 (by decide)))).trans ki6)
        have rk99 : (I8 (gr g a0 0) 719).toInt = i7.toInt := congrArg Int32.toInt ((f9 (gr g a0 0) 719 (Or.inl (is_ne h0_ h1 (by decide)))).trans ki7)
        exact r_PM C M (z := (-1)) hr hlk F rfl ⟨rfl, ⟨(by simp only [ci2, ci3, ci4, ci5, ci6, ci7, rk94, rk95, rk96, rk97, rk98, rk99]; first | exact g0 | (unfold jm; intro q; have hj := g0 q; have hj2 := hj.2.1; have e9 := mSp_b (R := i4.toInt) (N := i3.toInt) (S := x2.toInt) (b := i6.toInt) (by omega) (by omega) (by omega) (by omega) (by omega) (by omega) (by omega) (by omega); exact ⟨hj.1, hj.2.1, by omega⟩)), Hi⟩⟩ dX11_set_62

abbrev md_X11_grow : List (Nat × Nat) := [(9, 10), (28, 0)]
set_option maxHeartbeats 4000000 in
set_option maxRecDepth 100000 in
theorem ct_X11_grow (l : Launch) (g : Gs) (I : Ms) (J : Js) (a0 : Nat) (h0_ : Is g a0 9) (g0 : jm (I (gr g a0 0) 717).toInt (I (gr g a0 0) 715).toInt (I (gr g a0 0) 716).toInt (I (gr g a0 0) 722).toInt (I (gr g a0 0) 718).toInt (I (gr g a0 0) 719).toInt) : Ctr l yX11_grow cX11_grow 2 (Option.some Jvm.ClassFile.FieldType.int) 3 g [.ref a0] I J (PM g md_X11_grow I (fun z I1 J1 => J1 = J ∧ ((jm (I1 (gr g a0 0) 717).toInt (I1 (gr g a0 0) 715).toInt (I1 (gr g a0 0) 716).toInt (I1 (gr g a0 0) 722).toInt (I1 (gr g a0 0) 718).toInt (I1 (gr g a0 0) 719).toInt) ∧ (∀ j, 715 ≤ j → j ≠ 717 → j ≠ 718 → j ≠ 719 → j ≠ 720 → I1 (gr g a0 0) j = I (gr g a0 0) j)))) := by
  refine m_start (by decide) (Nat.le_of_ble_eq_true rfl) ?_
  intro p e s m args below meth c C hr hlk M ls hl
  have hl : lv_has ls 2 [(0, .ref a0)] := hl
  have C : CallFix p m c cX11_grow 2 s args TB RX11 := C
  have F : Fr g md_X11_grow I I := fr_rf
  have hS0 := is_ref M h0_ 0 28 rfl rfl
  have Hi : ∀ j, 715 ≤ j → j ≠ 717 → j ≠ 718 → j ≠ 719 → j ≠ 720 → I (gr g a0 0) j = I (gr g a0 0) j := by intros; rfl
  have h1 := is_ref M h0_ 0 28 rfl rfl
  obtain ⟨i2, ki2⟩ : ∃ z : Int32, I (gr g a0 0) 717 = z := ⟨_, rfl⟩
  have ti2 : 0 ≤ i2.toInt ∧ i2.toInt ≤ 1 := m_rng M h1 717 ki2 rfl
  have ci2 : (I (gr g a0 0) 717).toInt = i2.toInt := congrArg Int32.toInt ki2
  obtain ⟨i3, ki3⟩ : ∃ z : Int32, I (gr g a0 0) 715 = z := ⟨_, rfl⟩
  have ti3 : 3 ≤ i3.toInt ∧ i3.toInt ≤ 7 := m_rng M h1 715 ki3 rfl
  have ci3 : (I (gr g a0 0) 715).toInt = i3.toInt := congrArg Int32.toInt ki3
  obtain ⟨i4, ki4⟩ : ∃ z : Int32, I (gr g a0 0) 716 = z := ⟨_, rfl⟩
  have ti4 : 4 ≤ i4.toInt ∧ i4.toInt ≤ 40 := m_rng M h1 716 ki4 rfl
  have ci4 : (I (gr g a0 0) 716).toInt = i4.toInt := congrArg Int32.toInt ki4
  obtain ⟨i5, ki5⟩ : ∃ z : Int32, I (gr g a0 0) 722 = z := ⟨_, rfl⟩
  have ti5 : 1 ≤ i5.toInt ∧ i5.toInt ≤ 4 := m_rng M h1 722 ki5 rfl
  have ci5 : (I (gr g a0 0) 722).toInt = i5.toInt := congrArg Int32.toInt ki5
  obtain ⟨i6, ki6⟩ : ∃ z : Int32, I (gr g a0 0) 718 = z := ⟨_, rfl⟩
  have ti6 : 0 ≤ i6.toInt ∧ i6.toInt ≤ 200 := m_rng M h1 718 ki6 rfl
  have ci6 : (I (gr g a0 0) 718).toInt = i6.toInt := congrArg Int32.toInt ki6
  obtain ⟨i7, ki7⟩ : ∃ z : Int32, I (gr g a0 0) 719 = z := ⟨_, rfl⟩
  have ti7 : 0 ≤ i7.toInt ∧ i7.toInt ≤ 200 := m_rng M h1 719 ki7 rfl
  have ci7 : (I (gr g a0 0) 719).toInt = i7.toInt := congrArg Int32.toInt ki7
  simp only [ci2, ci3, ci4, ci5, ci6, ci7] at g0
  have hj6 : i2.toInt = 1 → i3.toInt ≤ 6 := fun q => (g0 q).1
  have hns := mNs_b (R := i4.toInt) (N := i3.toInt) (by omega) (by omega) (by omega) (by omega)
  refine lv_aload_n C.1 C.2.1 dX11_grow_0 rfl (lv_at hl 0 rfl) ?_
  refine lv_iconst (v := 0) C.1 C.2.1 dX11_grow_1 (by decide) ?_
  refine pi_X11_39 C M h0_ dX11_grow_2 (fun H locs I8 k10 f9 M => ?_)
  have F := fr_put F h0_ (Or.inr (by decide)) f9
  have Hi : ∀ j, 715 ≤ j → j ≠ 717 → j ≠ 718 → j ≠ 719 → j ≠ 720 → I8 (gr g a0 0) j = I (gr g a0 0) j := fun j hj hn717 hn718 hn719 hn720 => (f9 (gr g a0 0) j (Or.inl (is_ne h0_ hS0 (by decide)))).trans (Hi j hj hn717 hn718 hn719 hn720)
  refine lv_aload_n C.1 C.2.1 dX11_grow_5 rfl (lv_at hl 0 rfl) ?_
  have em11 : (I8 (gr g a0 0) 717).toInt = i2.toInt := congrArg Int32.toInt ((f9 (gr g a0 0) 717 (Or.inl (is_ne h0_ h1 (by decide)))).trans ki2)
  refine k_PI C M h0_ (by decide) rfl (ct_X11_isGrown l g I8 J a0 h0_) (cw_X11_84 C.2.2.2.2 (by decide)) rfl hl.1 rfl (Nat.le_of_ble_eq_true rfl) dX11_grow_6 ⟨Nat.le_refl _, Nat.le_refl _⟩ (fun r12 H locs p13r M => ?_)
  have p13 : 0 ≤ r12.toInt ∧ r12.toInt ≤ 1 ∧ (r12.toInt = 1 ↔ (I8 (gr g a0 0) 717).toInt = 1) := p13r
  simp only [em11] at p13
  have p13 : 0 ≤ r12.toInt ∧ r12.toInt ≤ 1 ∧ (r12.toInt = 1 ↔ i2.toInt = 1) := p13
  refine n_if_ne C (tgt := 36) dX11_grow_9 (by decide) rfl (fun q14 => ?_) (fun q14 => ?_)
  ·
    refine lv_iconst (v := -1) C.1 C.2.1 dX11_grow_36 (by decide) ?_
    have rk15 : (I8 (gr g a0 0) 717).toInt = i2.toInt := congrArg Int32.toInt ((f9 (gr g a0 0) 717 (Or.inl (is_ne h0_ h1 (by decide)))).trans ki2)
    have rk16 : (I8 (gr g a0 0) 715).toInt = i3.toInt := congrArg Int32.toInt ((f9 (gr g a0 0) 715 (Or.inl (is_ne h0_ h1 (by decide)))).trans ki3)
    have rk17 : (I8 (gr g a0 0) 716).toInt = i4.toInt := congrArg Int32.toInt ((f9 (gr g a0 0) 716 (Or.inl (is_ne h0_ h1 (by decide)))).trans ki4)
    have rk18 : (I8 (gr g a0 0) 722).toInt = i5.toInt := congrArg Int32.toInt ((f9 (gr g a0 0) 722 (Or.inl (is_ne h0_ h1 (by decide)))).trans ki5)
    have rk19 : (I8 (gr g a0 0) 718).toInt = i6.toInt := congrArg Int32.toInt ((f9 (gr g a0 0) 718 (Or.inl (is_ne h0_ h1 (by decide)))).trans ki6)
    have rk20 : (I8 (gr g a0 0) 719).toInt = i7.toInt := congrArg Int32.toInt ((f9 (gr g a0 0) 719 (Or.inl (is_ne h0_ h1 (by decide)))).trans ki7)
    exact r_PM C M (z := (-1)) hr hlk F rfl ⟨rfl, ⟨(by simp only [ci2, ci3, ci4, ci5, ci6, ci7, rk15, rk16, rk17, rk18, rk19, rk20]; first | exact g0 | (unfold jm; intro q; have e9 := mSp_b (R := i4.toInt) (N := i3.toInt) (S := i5.toInt) (b := 0) (by omega) (by omega) (by omega) (by omega) (by omega) (by omega) (by omega) (by omega); exact ⟨by omega, by omega, by omega⟩)), Hi⟩⟩ dX11_grow_37
  ·
    refine lv_aload_n C.1 C.2.1 dX11_grow_12 rfl (lv_at hl 0 rfl) ?_
    refine gi_X11_7 C M h0_ dX11_grow_13 (fun h21 => ?_)
    refine lv_sipush (v := 715) C.1 C.2.1 dX11_grow_16 (by decide) ?_
    refine a_ldK C M (X := 715) (j := 715) h1 (n := 729) rfl rfl rfl (by omega) (by omega) rfl ((f9 (gr g a0 0) 715 (Or.inl (is_ne h0_ h1 (by decide)))).trans ki3) dX11_grow_19 ?_
    refine lv_bipush (v := 7) C.1 C.2.1 dX11_grow_20 (by decide) ?_
    refine n_icmp_eq C (tgt := 36) (Y := 7) dX11_grow_22 (by decide) rfl rfl (fun q22 => ?_) (fun q22 => ?_)
    ·
      refine lv_iconst (v := -1) C.1 C.2.1 dX11_grow_36 (by decide) ?_
      have rk23 : (I8 (gr g a0 0) 717).toInt = i2.toInt := congrArg Int32.toInt ((f9 (gr g a0 0) 717 (Or.inl (is_ne h0_ h1 (by decide)))).trans ki2)
      have rk24 : (I8 (gr g a0 0) 715).toInt = i3.toInt := congrArg Int32.toInt ((f9 (gr g a0 0) 715 (Or.inl (is_ne h0_ h1 (by decide)))).trans ki3)
      have rk25 : (I8 (gr g a0 0) 716).toInt = i4.toInt := congrArg Int32.toInt ((f9 (gr g a0 0) 716 (Or.inl (is_ne h0_ h1 (by decide)))).trans ki4)
      have rk26 : (I8 (gr g a0 0) 722).toInt = i5.toInt := congrArg Int32.toInt ((f9 (gr g a0 0) 722 (Or.inl (is_ne h0_ h1 (by decide)))).trans ki5)
      have rk27 : (I8 (gr g a0 0) 718).toInt = i6.toInt := congrArg Int32.toInt ((f9 (gr g a0 0) 718 (Or.inl (is_ne h0_ h1 (by decide)))).trans ki6)
      have rk28 : (I8 (gr g a0 0) 719).toInt = i7.toInt := congrArg Int32.toInt ((f9 (gr g a0 0) 719 (Or.inl (is_ne h0_ h1 (by decide)))).trans ki7)
      exact r_PM C M (z := (-1)) hr hlk F rfl ⟨rfl, ⟨(by simp only [ci2, ci3, ci4, ci5, ci6, ci7, rk23, rk24, rk25, rk26, rk27, rk28]; first | exact g0 | (unfold jm; intro q; have e9 := mSp_b (R := i4.toInt) (N := i3.toInt) (S := i5.toInt) (b := 0) (by omega) (by omega) (by omega) (by omega) (by omega) (by omega) (by omega) (by omega); exact ⟨by omega, by omega, by omega⟩)), Hi⟩⟩ dX11_grow_37
    ·
      refine lv_aload_n C.1 C.2.1 dX11_grow_25 rfl (lv_at hl 0 rfl) ?_
      refine gi_X11_7 C M h0_ dX11_grow_26 (fun h29 => ?_)
      refine lv_sipush (v := 721) C.1 C.2.1 dX11_grow_29 (by decide) ?_
      refine a_ld C M (X := 721) (j := 721) h1 (n := 729) rfl rfl rfl (by omega) (by omega) rfl dX11_grow_32 (fun v30 kv30 => ?_)
      have tv30 := m_rng M h1 721 kv30 rfl
      have tv30 : -1 ≤ v30.toInt ∧ v30.toInt ≤ 6 := tv30
      refine n_if_lt C (tgt := 38) dX11_grow_33 (by decide) rfl (fun q31 => ?_) (fun q31 => ?_)
      ·
        refine lv_iconst (v := 0) C.1 C.2.1 dX11_grow_38 (by decide) ?_
        refine lv_istore_n (lv' := [(1, .int 0), (0, .ref a0)]) C.1 C.2.1 dX11_grow_39 rfl hl (by decide) rfl (fun ls hl => ?_)
        have L40 : ∀ (n40 : Nat) (y32 : Int32) (I33 : Ms) (H : Heap) (locs : List Loc) (ls : Array Slot), I33 (gr g a0 0) 721 = v30 → I33 a0 9 = 0 → I33 (gr g a0 0) 719 = i7 → I33 (gr g a0 0) 718 = i6 → I33 (gr g a0 0) 722 = i5 → I33 (gr g a0 0) 716 = i4 → I33 (gr g a0 0) 715 = i3 → I33 (gr g a0 0) 717 = i2 → 0 ≤ y32.toInt → y32.toInt ≤ 40 → 40 - y32.toInt < (n40 : Int) → Fr g md_X11_grow I I33 → (∀ j, 715 ≤ j → j ≠ 717 → j ≠ 718 → j ≠ 719 → j ≠ 720 → I33 (gr g a0 0) j = I (gr g a0 0) j) → Mm g s I33 J H locs → lv_has ls 2 [(0, .ref a0), (1, .int y32)] → W p l e (rmL 3) s m args below meth c H locs 0 0 (MQg below g (PM g md_X11_grow I (fun z I1 J1 => J1 = J ∧ ((jm (I1 (gr g a0 0) 717).toInt (I1 (gr g a0 0) 715).toInt (I1 (gr g a0 0) 716).toInt (I1 (gr g a0 0) 722).toInt (I1 (gr g a0 0) 718).toInt (I1 (gr g a0 0) 719).toInt) ∧ (∀ j, 715 ≤ j → j ≠ 717 → j ≠ 718 → j ≠ 719 → j ≠ 720 → I1 (gr g a0 0) j = I (gr g a0 0) j)))) args s) (F0 m 40 ls []) := by
          intro n40
          induction n40 with
          | zero =>
            intro y32 I33 H locs ls k34 k35 k36 k37 k38 k39 k40 k41 f42 f43 hm40 F Hi M hl
            exact absurd hm40 (by omega)
          | succ n40 ih40 =>
            intro y32 I33 H locs ls k34 k35 k36 k37 k38 k39 k40 k41 f42 f43 hm40 F Hi M hl
            refine lv_iload_n C.1 C.2.1 dX11_grow_40 rfl (lv_at hl 1 rfl) ?_
            refine lv_bipush (v := 40) C.1 C.2.1 dX11_grow_41 (by decide) ?_
            refine n_icmp_ge C (tgt := 94) (Y := 40) dX11_grow_43 (by decide) rfl rfl (fun q44 => ?_) (fun q44 => ?_)
            ·
              refine lv_aload_n C.1 C.2.1 dX11_grow_94 rfl (lv_at hl 0 rfl) ?_
              refine gi_X11_7 C M h0_ dX11_grow_95 (fun h45 => ?_)
              refine lv_sipush (v := 717) C.1 C.2.1 dX11_grow_98 (by decide) ?_
              refine lv_iconst (v := 1) C.1 C.2.1 dX11_grow_101 (by decide) ?_
              refine a_st C M (X := 717) (j := 717) (V := 1) h1 (n := 729) rfl rfl rfl (by omega) (by omega) rfl rfl (lo := 0) (hi := 1) rfl (by omega) (by omega) dX11_grow_102 (fun H locs I46 k48 f47 M => ?_)
              have F := fr_put F h1 (Or.inl (by decide)) f47
              have Hi : ∀ j, 715 ≤ j → j ≠ 717 → j ≠ 718 → j ≠ 719 → j ≠ 720 → I46 (gr g a0 0) j = I (gr g a0 0) j := fun j hj hn717 hn718 hn719 hn720 => (f47 (gr g a0 0) j (Or.inr (by omega))).trans (Hi j hj hn717 hn718 hn719 hn720)
              refine lv_aload_n C.1 C.2.1 dX11_grow_103 rfl (lv_at hl 0 rfl) ?_
              refine gi_X11_7 C M h0_ dX11_grow_104 (fun h49 => ?_)
              refine lv_sipush (v := 718) C.1 C.2.1 dX11_grow_107 (by decide) ?_
              refine lv_iconst (v := 0) C.1 C.2.1 dX11_grow_110 (by decide) ?_
              refine a_st C M (X := 718) (j := 718) (V := 0) h1 (n := 729) rfl rfl rfl (by omega) (by omega) rfl rfl (lo := 0) (hi := 200) rfl (by omega) (by omega) dX11_grow_111 (fun H locs I50 k52 f51 M => ?_)
              have F := fr_put F h1 (Or.inl (by decide)) f51
              have Hi : ∀ j, 715 ≤ j → j ≠ 717 → j ≠ 718 → j ≠ 719 → j ≠ 720 → I50 (gr g a0 0) j = I (gr g a0 0) j := fun j hj hn717 hn718 hn719 hn720 => (f51 (gr g a0 0) j (Or.inr (by omega))).trans (Hi j hj hn717 hn718 hn719 hn720)
              refine lv_aload_n C.1 C.2.1 dX11_grow_112 rfl (lv_at hl 0 rfl) ?_
              refine gi_X11_7 C M h0_ dX11_grow_113 (fun h53 => ?_)
              refine lv_sipush (v := 719) C.1 C.2.1 dX11_grow_116 (by decide) ?_
              refine lv_iconst (v := 0) C.1 C.2.1 dX11_grow_119 (by decide) ?_
              refine a_st C M (X := 719) (j := 719) (V := 0) h1 (n := 729) rfl rfl rfl (by omega) (by omega) rfl rfl (lo := 0) (hi := 200) rfl (by omega) (by omega) dX11_grow_120 (fun H locs I54 k56 f55 M => ?_)
              have F := fr_put F h1 (Or.inl (by decide)) f55
              have Hi : ∀ j, 715 ≤ j → j ≠ 717 → j ≠ 718 → j ≠ 719 → j ≠ 720 → I54 (gr g a0 0) j = I (gr g a0 0) j := fun j hj hn717 hn718 hn719 hn720 => (f55 (gr g a0 0) j (Or.inr (by omega))).trans (Hi j hj hn717 hn718 hn719 hn720)
              refine lv_aload_n C.1 C.2.1 dX11_grow_121 rfl (lv_at hl 0 rfl) ?_
              refine gi_X11_7 C M h0_ dX11_grow_122 (fun h57 => ?_)
              refine lv_sipush (v := 720) C.1 C.2.1 dX11_grow_125 (by decide) ?_
              refine lv_iconst (v := 0) C.1 C.2.1 dX11_grow_128 (by decide) ?_
              refine a_st C M (X := 720) (j := 720) (V := 0) h1 (n := 729) rfl rfl rfl (by omega) (by omega) rfl rfl (lo := 0) (hi := 1) rfl (by omega) (by omega) dX11_grow_129 (fun H locs I58 k60 f59 M => ?_)
              have F := fr_put F h1 (Or.inl (by decide)) f59
              have Hi : ∀ j, 715 ≤ j → j ≠ 717 → j ≠ 718 → j ≠ 719 → j ≠ 720 → I58 (gr g a0 0) j = I (gr g a0 0) j := fun j hj hn717 hn718 hn719 hn720 => (f59 (gr g a0 0) j (Or.inr (by omega))).trans (Hi j hj hn717 hn718 hn719 hn720)
              refine lv_aload_n C.1 C.2.1 dX11_grow_130 rfl (lv_at hl 0 rfl) ?_
              have em61 : (I58 (gr g a0 0) 715).toInt = i3.toInt := congrArg Int32.toInt ((f59 (gr g a0 0) 715 (Or.inr (by decide))).trans ((f55 (gr g a0 0) 715 (Or.inr (by decide))).trans ((f51 (gr g a0 0) 715 (Or.inr (by decide))).trans ((f47 (gr g a0 0) 715 (Or.inr (by decide))).trans k40))))
              have em62 : (I58 (gr g a0 0) 716).toInt = i4.toInt := congrArg Int32.toInt ((f59 (gr g a0 0) 716 (Or.inr (by decide))).trans ((f55 (gr g a0 0) 716 (Or.inr (by decide))).trans ((f51 (gr g a0 0) 716 (Or.inr (by decide))).trans ((f47 (gr g a0 0) 716 (Or.inr (by decide))).trans k39))))
              refine k_PI C M h0_ (by decide) rfl (ct_X11_newStripes l g I58 J a0 h0_) (cw_X11_67 C.2.2.2.2 (by decide)) rfl hl.1 rfl (Nat.le_of_ble_eq_true rfl) dX11_grow_131 ⟨Nat.le_refl _, Nat.le_refl _⟩ (fun r63 H locs p64r M => ?_)
              have p64 : r63.toInt = mNs (I58 (gr g a0 0) 716).toInt (I58 (gr g a0 0) 715).toInt ∧ 1 ≤ r63.toInt ∧ r63.toInt ≤ (I58 (gr g a0 0) 716).toInt := p64r
              simp only [em61, em62] at p64
              have p64 : r63.toInt = mNs i4.toInt i3.toInt ∧ 1 ≤ r63.toInt ∧ r63.toInt ≤ i4.toInt := p64
              have rk65 : (I58 (gr g a0 0) 717).toInt = 1 := congrArg Int32.toInt ((f59 (gr g a0 0) 717 (Or.inr (by decide))).trans ((f55 (gr g a0 0) 717 (Or.inr (by decide))).trans ((f51 (gr g a0 0) 717 (Or.inr (by decide))).trans k48)))
              have rk66 : (I58 (gr g a0 0) 715).toInt = i3.toInt := congrArg Int32.toInt ((f59 (gr g a0 0) 715 (Or.inr (by decide))).trans ((f55 (gr g a0 0) 715 (Or.inr (by decide))).trans ((f51 (gr g a0 0) 715 (Or.inr (by decide))).trans ((f47 (gr g a0 0) 715 (Or.inr (by decide))).trans k40))))
              have rk67 : (I58 (gr g a0 0) 716).toInt = i4.toInt := congrArg Int32.toInt ((f59 (gr g a0 0) 716 (Or.inr (by decide))).trans ((f55 (gr g a0 0) 716 (Or.inr (by decide))).trans ((f51 (gr g a0 0) 716 (Or.inr (by decide))).trans ((f47 (gr g a0 0) 716 (Or.inr (by decide))).trans k39))))
              have rk68 : (I58 (gr g a0 0) 722).toInt = i5.toInt := congrArg Int32.toInt ((f59 (gr g a0 0) 722 (Or.inr (by decide))).trans ((f55 (gr g a0 0) 722 (Or.inr (by decide))).trans ((f51 (gr g a0 0) 722 (Or.inr (by decide))).trans ((f47 (gr g a0 0) 722 (Or.inr (by decide))).trans k38))))
              have rk69 : (I58 (gr g a0 0) 718).toInt = 0 := congrArg Int32.toInt ((f59 (gr g a0 0) 718 (Or.inr (by decide))).trans ((f55 (gr g a0 0) 718 (Or.inr (by decide))).trans k52))
              have rk70 : (I58 (gr g a0 0) 719).toInt = 0 := congrArg Int32.toInt ((f59 (gr g a0 0) 719 (Or.inr (by decide))).trans k56)
              exact r_PM C M hr hlk F rfl ⟨rfl, ⟨(by simp only [ci2, ci3, ci4, ci5, ci6, ci7, rk65, rk66, rk67, rk68, rk69, rk70]; first | exact g0 | (unfold jm; intro q; have e9 := mSp_b (R := i4.toInt) (N := i3.toInt) (S := i5.toInt) (b := 0) (by omega) (by omega) (by omega) (by omega) (by omega) (by omega) (by omega) (by omega); exact ⟨by omega, by omega, by omega⟩)), Hi⟩⟩ dX11_grow_134
            ·
              refine lv_aload_n C.1 C.2.1 dX11_grow_46 rfl (lv_at hl 0 rfl) ?_
              refine gi_X11_7 C M h0_ dX11_grow_47 (fun h71 => ?_)
              refine lv_iconst (v := 0) C.1 C.2.1 dX11_grow_50 (by decide) ?_
              refine lv_aload_n C.1 C.2.1 dX11_grow_51 rfl (lv_at hl 0 rfl) ?_
              refine gi_X11_7 C M h0_ dX11_grow_52 (fun h72 => ?_)
              refine lv_sipush (v := 715) C.1 C.2.1 dX11_grow_55 (by decide) ?_
              refine a_ldK C M (X := 715) (j := 715) h1 (n := 729) rfl rfl rfl (by omega) (by omega) rfl k40 dX11_grow_58 ?_
              refine lv_iload_n C.1 C.2.1 dX11_grow_59 rfl (lv_at hl 1 rfl) ?_
              refine ks_PI C M (ct_X11_at l g I33 J i3 y32 (by omega) (by omega) (by omega) (by omega)) (cw_X11_50 C.2.2.2.2 (by decide)) rfl hl.1 rfl (Nat.le_of_ble_eq_true rfl) dX11_grow_60 ⟨Nat.le_refl _, Nat.le_refl _⟩ (fun r73 H locs p74r M => ?_)
              have p74 : r73.toInt = 40 * i3.toInt + y32.toInt := p74r
              refine n_iadd C (X := 0) dX11_grow_63 rfl rfl (by omega) (by omega) (fun v75 ev75 => ?_)
              refine lv_iconst (v := 0) C.1 C.2.1 dX11_grow_64 (by decide) ?_
              refine a_stU C M h1 (n := 729) rfl rfl rfl (by omega) (by omega) rfl (rng28_lo (by omega)) dX11_grow_65 (fun H locs I76 k78 f77 M => ?_)
              have F := fr_put F h1 (Or.inl (by decide)) f77
              have Hi : ∀ j, 715 ≤ j → j ≠ 717 → j ≠ 718 → j ≠ 719 → j ≠ 720 → I76 (gr g a0 0) j = I (gr g a0 0) j := fun j hj hn717 hn718 hn719 hn720 => (f77 (gr g a0 0) j (Or.inr (by omega))).trans (Hi j hj hn717 hn718 hn719 hn720)
              refine lv_aload_n C.1 C.2.1 dX11_grow_66 rfl (lv_at hl 0 rfl) ?_
              refine gi_X11_7 C M h0_ dX11_grow_67 (fun h79 => ?_)
              refine lv_sipush (v := 280) C.1 C.2.1 dX11_grow_70 (by decide) ?_
              refine lv_aload_n C.1 C.2.1 dX11_grow_73 rfl (lv_at hl 0 rfl) ?_
              refine gi_X11_7 C M h0_ dX11_grow_74 (fun h80 => ?_)
              refine lv_sipush (v := 715) C.1 C.2.1 dX11_grow_77 (by decide) ?_
              refine a_ldK C M (X := 715) (j := 715) h1 (n := 729) rfl rfl rfl (by omega) (by omega) rfl ((f77 (gr g a0 0) 715 (Or.inr (by omega))).trans k40) dX11_grow_80 ?_
              refine lv_iload_n C.1 C.2.1 dX11_grow_81 rfl (lv_at hl 1 rfl) ?_
              refine ks_PI C M (ct_X11_at l g I76 J i3 y32 (by omega) (by omega) (by omega) (by omega)) (cw_X11_50 C.2.2.2.2 (by decide)) rfl hl.1 rfl (Nat.le_of_ble_eq_true rfl) dX11_grow_82 ⟨Nat.le_refl _, Nat.le_refl _⟩ (fun r81 H locs p82r M => ?_)
              have p82 : r81.toInt = 40 * i3.toInt + y32.toInt := p82r
              refine n_iadd C (X := 280) dX11_grow_85 rfl rfl (by omega) (by omega) (fun v83 ev83 => ?_)
              refine lv_iconst (v := 0) C.1 C.2.1 dX11_grow_86 (by decide) ?_
              refine a_stU C M h1 (n := 729) rfl rfl rfl (by omega) (by omega) rfl (rng28_lo (by omega)) dX11_grow_87 (fun H locs I84 k86 f85 M => ?_)
              have F := fr_put F h1 (Or.inl (by decide)) f85
              have Hi : ∀ j, 715 ≤ j → j ≠ 717 → j ≠ 718 → j ≠ 719 → j ≠ 720 → I84 (gr g a0 0) j = I (gr g a0 0) j := fun j hj hn717 hn718 hn719 hn720 => (f85 (gr g a0 0) j (Or.inr (by omega))).trans (Hi j hj hn717 hn718 hn719 hn720)
              refine n_iinc C (k := 1) (N := 1) (lv' := fun v => [(1, .int v), (0, .ref a0)]) dX11_grow_88 hl rfl (by decide) rfl rfl (by omega) (by omega) (fun _ => rfl) (fun v87 ls ev87 hl => ?_)
              refine lv_goto (tgt := 40) C.1 C.2.1 dX11_grow_91 (by decide) ?_
              exact ih40 v87 I84 _ _ _ ((f85 (gr g a0 0) 721 (Or.inr (by omega))).trans ((f77 (gr g a0 0) 721 (Or.inr (by omega))).trans k34)) ((f85 a0 9 (Or.inl (is_ne h1 h0_ (by decide)))).trans ((f77 a0 9 (Or.inl (is_ne h1 h0_ (by decide)))).trans k35)) ((f85 (gr g a0 0) 719 (Or.inr (by omega))).trans ((f77 (gr g a0 0) 719 (Or.inr (by omega))).trans k36)) ((f85 (gr g a0 0) 718 (Or.inr (by omega))).trans ((f77 (gr g a0 0) 718 (Or.inr (by omega))).trans k37)) ((f85 (gr g a0 0) 722 (Or.inr (by omega))).trans ((f77 (gr g a0 0) 722 (Or.inr (by omega))).trans k38)) ((f85 (gr g a0 0) 716 (Or.inr (by omega))).trans ((f77 (gr g a0 0) 716 (Or.inr (by omega))).trans k39)) ((f85 (gr g a0 0) 715 (Or.inr (by omega))).trans ((f77 (gr g a0 0) 715 (Or.inr (by omega))).trans k40)) ((f85 (gr g a0 0) 717 (Or.inr (by omega))).trans ((f77 (gr g a0 0) 717 (Or.inr (by omega))).trans k41)) (by omega) (by omega) (by omega) F Hi M (lv_sub hl [1, 0] rfl)
        have cz88 : (0 : Int32).toInt = 0 := rfl
        exact L40 _ 0 I8 _ _ _ kv30 k10 ((f9 (gr g a0 0) 719 (Or.inl (is_ne h0_ h1 (by decide)))).trans ki7) ((f9 (gr g a0 0) 718 (Or.inl (is_ne h0_ h1 (by decide)))).trans ki6) ((f9 (gr g a0 0) 722 (Or.inl (is_ne h0_ h1 (by decide)))).trans ki5) ((f9 (gr g a0 0) 716 (Or.inl (is_ne h0_ h1 (by decide)))).trans ki4) ((f9 (gr g a0 0) 715 (Or.inl (is_ne h0_ h1 (by decide)))).trans ki3) ((f9 (gr g a0 0) 717 (Or.inl (is_ne h0_ h1 (by decide)))).trans ki2) (by omega) (by omega) (n_big _) F Hi M (lv_sub hl [1, 0] rfl)
      ·
        refine lv_iconst (v := -1) C.1 C.2.1 dX11_grow_36 (by decide) ?_
        have rk89 : (I8 (gr g a0 0) 717).toInt = i2.toInt := congrArg Int32.toInt ((f9 (gr g a0 0) 717 (Or.inl (is_ne h0_ h1 (by decide)))).trans ki2)
        have rk90 : (I8 (gr g a0 0) 715).toInt = i3.toInt := congrArg Int32.toInt ((f9 (gr g a0 0) 715 (Or.inl (is_ne h0_ h1 (by decide)))).trans ki3)
        have rk91 : (I8 (gr g a0 0) 716).toInt = i4.toInt := congrArg Int32.toInt ((f9 (gr g a0 0) 716 (Or.inl (is_ne h0_ h1 (by decide)))).trans ki4)
        have rk92 : (I8 (gr g a0 0) 722).toInt = i5.toInt := congrArg Int32.toInt ((f9 (gr g a0 0) 722 (Or.inl (is_ne h0_ h1 (by decide)))).trans ki5)
        have rk93 : (I8 (gr g a0 0) 718).toInt = i6.toInt := congrArg Int32.toInt ((f9 (gr g a0 0) 718 (Or.inl (is_ne h0_ h1 (by decide)))).trans ki6)
        have rk94 : (I8 (gr g a0 0) 719).toInt = i7.toInt := congrArg Int32.toInt ((f9 (gr g a0 0) 719 (Or.inl (is_ne h0_ h1 (by decide)))).trans ki7)
        exact r_PM C M (z := (-1)) hr hlk F rfl ⟨rfl, ⟨(by simp only [ci2, ci3, ci4, ci5, ci6, ci7, rk89, rk90, rk91, rk92, rk93, rk94]; first | exact g0 | (unfold jm; intro q; have e9 := mSp_b (R := i4.toInt) (N := i3.toInt) (S := i5.toInt) (b := 0) (by omega) (by omega) (by omega) (by omega) (by omega) (by omega) (by omega) (by omega); exact ⟨by omega, by omega, by omega⟩)), Hi⟩⟩ dX11_grow_37

abbrev md_X11_crashes : List (Nat × Nat) := [(28, 0)]
set_option maxHeartbeats 4000000 in
set_option maxRecDepth 100000 in
theorem ct_X11_crashes (l : Launch) (g : Gs) (I : Ms) (J : Js) (a0 : Nat) (h0_ : Is g a0 9) (g0 : jm (I (gr g a0 0) 717).toInt (I (gr g a0 0) 715).toInt (I (gr g a0 0) 716).toInt (I (gr g a0 0) 722).toInt (I (gr g a0 0) 718).toInt (I (gr g a0 0) 719).toInt) (g1 : (I (gr g a0 0) 717).toInt = 1) : Ctr l yX11_crashes cX11_crashes 2 (Option.none : Option Jvm.ClassFile.FieldType) 6 g [.ref a0] I J (PV g md_X11_crashes I (fun I1 J1 => J1 = J ∧ ((jm (I1 (gr g a0 0) 717).toInt (I1 (gr g a0 0) 715).toInt (I1 (gr g a0 0) 716).toInt (I1 (gr g a0 0) 722).toInt (I1 (gr g a0 0) 718).toInt (I1 (gr g a0 0) 719).toInt) ∧ (∀ j, 715 ≤ j → j ≠ 719 → j ≠ 725 → I1 (gr g a0 0) j = I (gr g a0 0) j)))) := by
  refine m_start (by decide) (Nat.le_of_ble_eq_true rfl) ?_
  intro p e s m args below meth c C hr hlk M ls hl
  have hl : lv_has ls 2 [(0, .ref a0)] := hl
  have C : CallFix p m c cX11_crashes 2 s args TB RX11 := C
  have F : Fr g md_X11_crashes I I := fr_rf
  have hS0 := is_ref M h0_ 0 28 rfl rfl
  have Hi : ∀ j, 715 ≤ j → j ≠ 719 → j ≠ 725 → I (gr g a0 0) j = I (gr g a0 0) j := by intros; rfl
  have h1 := is_ref M h0_ 0 28 rfl rfl
  obtain ⟨i2, ki2⟩ : ∃ z : Int32, I (gr g a0 0) 717 = z := ⟨_, rfl⟩
  have ti2 : 0 ≤ i2.toInt ∧ i2.toInt ≤ 1 := m_rng M h1 717 ki2 rfl
  have ci2 : (I (gr g a0 0) 717).toInt = i2.toInt := congrArg Int32.toInt ki2
  obtain ⟨i3, ki3⟩ : ∃ z : Int32, I (gr g a0 0) 715 = z := ⟨_, rfl⟩
  have ti3 : 3 ≤ i3.toInt ∧ i3.toInt ≤ 7 := m_rng M h1 715 ki3 rfl
  have ci3 : (I (gr g a0 0) 715).toInt = i3.toInt := congrArg Int32.toInt ki3
  obtain ⟨i4, ki4⟩ : ∃ z : Int32, I (gr g a0 0) 716 = z := ⟨_, rfl⟩
  have ti4 : 4 ≤ i4.toInt ∧ i4.toInt ≤ 40 := m_rng M h1 716 ki4 rfl
  have ci4 : (I (gr g a0 0) 716).toInt = i4.toInt := congrArg Int32.toInt ki4
  obtain ⟨i5, ki5⟩ : ∃ z : Int32, I (gr g a0 0) 722 = z := ⟨_, rfl⟩
  have ti5 : 1 ≤ i5.toInt ∧ i5.toInt ≤ 4 := m_rng M h1 722 ki5 rfl
  have ci5 : (I (gr g a0 0) 722).toInt = i5.toInt := congrArg Int32.toInt ki5
  obtain ⟨i6, ki6⟩ : ∃ z : Int32, I (gr g a0 0) 718 = z := ⟨_, rfl⟩
  have ti6 : 0 ≤ i6.toInt ∧ i6.toInt ≤ 200 := m_rng M h1 718 ki6 rfl
  have ci6 : (I (gr g a0 0) 718).toInt = i6.toInt := congrArg Int32.toInt ki6
  obtain ⟨i7, ki7⟩ : ∃ z : Int32, I (gr g a0 0) 719 = z := ⟨_, rfl⟩
  have ti7 : 0 ≤ i7.toInt ∧ i7.toInt ≤ 200 := m_rng M h1 719 ki7 rfl
  have ci7 : (I (gr g a0 0) 719).toInt = i7.toInt := congrArg Int32.toInt ki7
  simp only [ci2, ci3, ci4, ci5, ci6, ci7] at g0 g1
  have hj := g0 (by omega)
  refine lv_aload_n C.1 C.2.1 dX11_crashes_0 rfl (lv_at hl 0 rfl) ?_
  refine gi_X11_7 C M h0_ dX11_crashes_1 (fun h8 => ?_)
  refine lv_sipush (v := 725) C.1 C.2.1 dX11_crashes_4 (by decide) ?_
  refine lv_iconst (v := 0) C.1 C.2.1 dX11_crashes_7 (by decide) ?_
  refine a_st C M (X := 725) (j := 725) (V := 0) h1 (n := 729) rfl rfl rfl (by omega) (by omega) rfl rfl (lo := 0) (hi := 20) rfl (by omega) (by omega) dX11_crashes_8 (fun H locs I9 k11 f10 M => ?_)
  have F := fr_put F h1 (Or.inl (by decide)) f10
  have Hi : ∀ j, 715 ≤ j → j ≠ 719 → j ≠ 725 → I9 (gr g a0 0) j = I (gr g a0 0) j := fun j hj hn719 hn725 => (f10 (gr g a0 0) j (Or.inr (by omega))).trans (Hi j hj hn719 hn725)
  refine lv_aload_n C.1 C.2.1 dX11_crashes_9 rfl (lv_at hl 0 rfl) ?_
  refine gi_X11_7 C M h0_ dX11_crashes_10 (fun h12 => ?_)
  refine lv_sipush (v := 719) C.1 C.2.1 dX11_crashes_13 (by decide) ?_
  refine lv_iconst (v := 0) C.1 C.2.1 dX11_crashes_16 (by decide) ?_
  refine a_st C M (X := 719) (j := 719) (V := 0) h1 (n := 729) rfl rfl rfl (by omega) (by omega) rfl rfl (lo := 0) (hi := 200) rfl (by omega) (by omega) dX11_crashes_17 (fun H locs I13 k15 f14 M => ?_)
  have F := fr_put F h1 (Or.inl (by decide)) f14
  have Hi : ∀ j, 715 ≤ j → j ≠ 719 → j ≠ 725 → I13 (gr g a0 0) j = I (gr g a0 0) j := fun j hj hn719 hn725 => (f14 (gr g a0 0) j (Or.inr (by omega))).trans (Hi j hj hn719 hn725)
  refine lv_aload_n C.1 C.2.1 dX11_crashes_18 rfl (lv_at hl 0 rfl) ?_
  refine gi_X11_7 C M h0_ dX11_crashes_19 (fun h16 => ?_)
  refine lv_sipush (v := 720) C.1 C.2.1 dX11_crashes_22 (by decide) ?_
  refine a_ld C M (X := 720) (j := 720) h1 (n := 729) rfl rfl rfl (by omega) (by omega) rfl dX11_crashes_25 (fun v17 kv17 => ?_)
  have tv17 := m_rng M h1 720 kv17 rfl
  have tv17 : 0 ≤ v17.toInt ∧ v17.toInt ≤ 1 := tv17
  refine n_if_ne C (tgt := 30) dX11_crashes_26 (by decide) rfl (fun q18 => ?_) (fun q18 => ?_)
  ·
    refine lv_iconst (v := 0) C.1 C.2.1 dX11_crashes_30 (by decide) ?_
    refine lv_istore_n (lv' := [(1, .int 0), (0, .ref a0)]) C.1 C.2.1 dX11_crashes_31 rfl hl (by decide) rfl (fun ls hl => ?_)
    have L32 : ∀ (n32 : Nat) (y19 : Int32) (I20 : Ms) (H : Heap) (locs : List Loc) (ls : Array Slot), I20 (gr g a0 0) 720 = v17 → I20 (gr g a0 0) 719 = 0 → I20 (gr g a0 0) 725 = 0 → I20 (gr g a0 0) 718 = i6 → I20 (gr g a0 0) 722 = i5 → I20 (gr g a0 0) 716 = i4 → I20 (gr g a0 0) 715 = i3 → I20 (gr g a0 0) 717 = i2 → 0 ≤ y19.toInt → y19.toInt ≤ 24 → 24 - y19.toInt < (n32 : Int) → Fr g md_X11_crashes I I20 → (∀ j, 715 ≤ j → j ≠ 719 → j ≠ 725 → I20 (gr g a0 0) j = I (gr g a0 0) j) → Mm g s I20 J H locs → lv_has ls 2 [(0, .ref a0), (1, .int y19)] → W p l e (rmL 6) s m args below meth c H locs 0 0 (MQg below g (PV g md_X11_crashes I (fun I1 J1 => J1 = J ∧ ((jm (I1 (gr g a0 0) 717).toInt (I1 (gr g a0 0) 715).toInt (I1 (gr g a0 0) 716).toInt (I1 (gr g a0 0) 722).toInt (I1 (gr g a0 0) 718).toInt (I1 (gr g a0 0) 719).toInt) ∧ (∀ j, 715 ≤ j → j ≠ 719 → j ≠ 725 → I1 (gr g a0 0) j = I (gr g a0 0) j)))) args s) (F0 m 32 ls []) := by
      intro n32
      induction n32 with
      | zero =>
        intro y19 I20 H locs ls k21 k22 k23 k24 k25 k26 k27 k28 f29 f30 hm32 F Hi M hl
        exact absurd hm32 (by omega)
      | succ n32 ih32 =>
        intro y19 I20 H locs ls k21 k22 k23 k24 k25 k26 k27 k28 f29 f30 hm32 F Hi M hl
        refine lv_iload_n C.1 C.2.1 dX11_crashes_32 rfl (lv_at hl 1 rfl) ?_
        refine lv_bipush (v := 24) C.1 C.2.1 dX11_crashes_33 (by decide) ?_
        refine n_icmp_ge C (tgt := 64) (Y := 24) dX11_crashes_35 (by decide) rfl rfl (fun q31 => ?_) (fun q31 => ?_)
        ·
          refine lv_aload_n C.1 C.2.1 dX11_crashes_64 rfl (lv_at hl 0 rfl) ?_
          refine gi_X11_7 C M h0_ dX11_crashes_65 (fun h32 => ?_)
          refine lv_sipush (v := 719) C.1 C.2.1 dX11_crashes_68 (by decide) ?_
          refine lv_aload_n C.1 C.2.1 dX11_crashes_71 rfl (lv_at hl 0 rfl) ?_
          refine lv_aload_n C.1 C.2.1 dX11_crashes_72 rfl (lv_at hl 0 rfl) ?_
          refine gi_X11_7 C M h0_ dX11_crashes_73 (fun h33 => ?_)
          refine lv_sipush (v := 718) C.1 C.2.1 dX11_crashes_76 (by decide) ?_
          refine a_ldK C M (X := 718) (j := 718) h1 (n := 729) rfl rfl rfl (by omega) (by omega) rfl k24 dX11_crashes_79 ?_
          have em34 : (I20 (gr g a0 0) 715).toInt = i3.toInt := congrArg Int32.toInt k27
          have em35 : (I20 (gr g a0 0) 716).toInt = i4.toInt := congrArg Int32.toInt k26
          have em36 : (I20 (gr g a0 0) 722).toInt = i5.toInt := congrArg Int32.toInt k25
          refine k_PI C M h0_ (by decide) rfl (ct_X11_readsFrom l g I20 J a0 i6 h0_ (by omega) (by omega) (by simp only [em34, em35, em36]; first | assumption | omega)) (cw_X11_78 C.2.2.2.2 (by decide)) rfl hl.1 rfl (Nat.le_of_ble_eq_true rfl) dX11_crashes_80 ⟨Nat.le_refl _, Nat.le_refl _⟩ (fun r37 H locs p38r M => ?_)
          have p38 : r37.toInt = mRd (I20 (gr g a0 0) 716).toInt (I20 (gr g a0 0) 715).toInt (I20 (gr g a0 0) 722).toInt i6.toInt ∧ 1 ≤ r37.toInt ∧ r37.toInt ≤ 28 ∧ ((I20 (gr g a0 0) 715).toInt ≤ 6 → r37.toInt ≤ 24) := p38r
          simp only [em34, em35, em36] at p38
          have p38 : r37.toInt = mRd i4.toInt i3.toInt i5.toInt i6.toInt ∧ 1 ≤ r37.toInt ∧ r37.toInt ≤ 28 ∧ (i3.toInt ≤ 6 → r37.toInt ≤ 24) := p38
          refine lv_aload_n C.1 C.2.1 dX11_crashes_83 rfl (lv_at hl 0 rfl) ?_
          refine lv_aload_n C.1 C.2.1 dX11_crashes_84 rfl (lv_at hl 0 rfl) ?_
          refine gi_X11_7 C M h0_ dX11_crashes_85 (fun h39 => ?_)
          refine lv_sipush (v := 718) C.1 C.2.1 dX11_crashes_88 (by decide) ?_
          refine a_ldK C M (X := 718) (j := 718) h1 (n := 729) rfl rfl rfl (by omega) (by omega) rfl k24 dX11_crashes_91 ?_
          have em40 : (I20 (gr g a0 0) 715).toInt = i3.toInt := congrArg Int32.toInt k27
          have em41 : (I20 (gr g a0 0) 716).toInt = i4.toInt := congrArg Int32.toInt k26
          have em42 : (I20 (gr g a0 0) 722).toInt = i5.toInt := congrArg Int32.toInt k25
          refine k_PI C M h0_ (by decide) rfl (ct_X11_backupsFrom l g I20 J a0 i6 h0_ (by omega) (by omega) (by simp only [em40, em41, em42]; first | assumption | omega)) (cw_X11_81 C.2.2.2.2 (by decide)) rfl hl.1 rfl (Nat.le_of_ble_eq_true rfl) dX11_crashes_92 ⟨Nat.le_refl _, Nat.le_refl _⟩ (fun r43 H locs p44r M => ?_)
          have p44 : r43.toInt = mBk (I20 (gr g a0 0) 716).toInt (I20 (gr g a0 0) 715).toInt (I20 (gr g a0 0) 722).toInt i6.toInt ∧ 0 ≤ r43.toInt ∧ r43.toInt ≤ 28 ∧ ((I20 (gr g a0 0) 715).toInt ≤ 6 → r43.toInt ≤ 24) := p44r
          simp only [em40, em41, em42] at p44
          have p44 : r43.toInt = mBk i4.toInt i3.toInt i5.toInt i6.toInt ∧ 0 ≤ r43.toInt ∧ r43.toInt ≤ 28 ∧ (i3.toInt ≤ 6 → r43.toInt ≤ 24) := p44
          refine n_iadd C dX11_crashes_95 rfl rfl (by omega) (by omega) (fun v45 ev45 => ?_)
          refine lv_iconst (v := 1) C.1 C.2.1 dX11_crashes_96 (by decide) ?_
          refine n_iadd C (Y := 1) dX11_crashes_97 rfl rfl (by omega) (by omega) (fun v46 ev46 => ?_)
          refine a_st C M (X := 719) (j := 719) h1 (n := 729) rfl rfl rfl (by omega) (by omega) rfl rfl (lo := 0) (hi := 200) rfl (by omega) (by omega) dX11_crashes_98 (fun H locs I47 k49 f48 M => ?_)
          have F := fr_put F h1 (Or.inl (by decide)) f48
          have Hi : ∀ j, 715 ≤ j → j ≠ 719 → j ≠ 725 → I47 (gr g a0 0) j = I (gr g a0 0) j := fun j hj hn719 hn725 => (f48 (gr g a0 0) j (Or.inr (by omega))).trans (Hi j hj hn719 hn725)
          have rk50 : (I47 (gr g a0 0) 717).toInt = i2.toInt := congrArg Int32.toInt ((f48 (gr g a0 0) 717 (Or.inr (by decide))).trans k28)
          have rk51 : (I47 (gr g a0 0) 715).toInt = i3.toInt := congrArg Int32.toInt ((f48 (gr g a0 0) 715 (Or.inr (by decide))).trans k27)
          have rk52 : (I47 (gr g a0 0) 716).toInt = i4.toInt := congrArg Int32.toInt ((f48 (gr g a0 0) 716 (Or.inr (by decide))).trans k26)
          have rk53 : (I47 (gr g a0 0) 722).toInt = i5.toInt := congrArg Int32.toInt ((f48 (gr g a0 0) 722 (Or.inr (by decide))).trans k25)
          have rk54 : (I47 (gr g a0 0) 718).toInt = i6.toInt := congrArg Int32.toInt ((f48 (gr g a0 0) 718 (Or.inr (by decide))).trans k24)
          have rk55 : (I47 (gr g a0 0) 719).toInt = v46.toInt := congrArg Int32.toInt k49
          exact r_PV C M hr hlk F ⟨rfl, ⟨(by simp only [ci2, ci3, ci4, ci5, ci6, ci7, rk50, rk51, rk52, rk53, rk54, rk55]; have hj2 := hj.2.1; have e9 := mSp_b (R := i4.toInt) (N := i3.toInt) (S := i5.toInt) (b := i6.toInt) (by omega) (by omega) (by omega) (by omega) (by omega) (by omega) (by omega) (by omega); exact fun _ => ⟨hj.1, hj.2.1, by omega⟩), Hi⟩⟩ dX11_crashes_99
        ·
          refine lv_aload_n C.1 C.2.1 dX11_crashes_38 rfl (lv_at hl 0 rfl) ?_
          refine gi_X11_7 C M h0_ dX11_crashes_39 (fun h56 => ?_)
          refine lv_sipush (v := 560) C.1 C.2.1 dX11_crashes_42 (by decide) ?_
          refine lv_iload_n C.1 C.2.1 dX11_crashes_45 rfl (lv_at hl 1 rfl) ?_
          refine n_iadd C (X := 560) dX11_crashes_46 rfl rfl (by omega) (by omega) (fun v57 ev57 => ?_)
          refine lv_aload_n C.1 C.2.1 dX11_crashes_47 rfl (lv_at hl 0 rfl) ?_
          refine gi_X11_7 C M h0_ dX11_crashes_48 (fun h58 => ?_)
          refine lv_sipush (v := 584) C.1 C.2.1 dX11_crashes_51 (by decide) ?_
          refine lv_iload_n C.1 C.2.1 dX11_crashes_54 rfl (lv_at hl 1 rfl) ?_
          refine n_iadd C (X := 584) dX11_crashes_55 rfl rfl (by omega) (by omega) (fun v59 ev59 => ?_)
          refine a_ld C M h1 (n := 729) rfl rfl rfl (by omega) (by omega) rfl dX11_crashes_56 (fun v60 kv60 => ?_)
          refine a_stU C M h1 (n := 729) rfl rfl rfl (by omega) (by omega) rfl (rng28_lo (by omega)) dX11_crashes_57 (fun H locs I61 k63 f62 M => ?_)
          have F := fr_put F h1 (Or.inl (by decide)) f62
          have Hi : ∀ j, 715 ≤ j → j ≠ 719 → j ≠ 725 → I61 (gr g a0 0) j = I (gr g a0 0) j := fun j hj hn719 hn725 => (f62 (gr g a0 0) j (Or.inr (by omega))).trans (Hi j hj hn719 hn725)
          refine n_iinc C (k := 1) (N := 1) (lv' := fun v => [(1, .int v), (0, .ref a0)]) dX11_crashes_58 hl rfl (by decide) rfl rfl (by omega) (by omega) (fun _ => rfl) (fun v64 ls ev64 hl => ?_)
          refine lv_goto (tgt := 32) C.1 C.2.1 dX11_crashes_61 (by decide) ?_
          exact ih32 v64 I61 _ _ _ ((f62 (gr g a0 0) 720 (Or.inr (by omega))).trans k21) ((f62 (gr g a0 0) 719 (Or.inr (by omega))).trans k22) ((f62 (gr g a0 0) 725 (Or.inr (by omega))).trans k23) ((f62 (gr g a0 0) 718 (Or.inr (by omega))).trans k24) ((f62 (gr g a0 0) 722 (Or.inr (by omega))).trans k25) ((f62 (gr g a0 0) 716 (Or.inr (by omega))).trans k26) ((f62 (gr g a0 0) 715 (Or.inr (by omega))).trans k27) ((f62 (gr g a0 0) 717 (Or.inr (by omega))).trans k28) (by omega) (by omega) (by omega) F Hi M (lv_sub hl [1, 0] rfl)
    have cz65 : (0 : Int32).toInt = 0 := rfl
    exact L32 _ 0 I13 _ _ _ kv17 k15 ((f14 (gr g a0 0) 725 (Or.inr (by decide))).trans k11) ((f14 (gr g a0 0) 718 (Or.inr (by decide))).trans ((f10 (gr g a0 0) 718 (Or.inr (by decide))).trans ki6)) ((f14 (gr g a0 0) 722 (Or.inr (by decide))).trans ((f10 (gr g a0 0) 722 (Or.inr (by decide))).trans ki5)) ((f14 (gr g a0 0) 716 (Or.inr (by decide))).trans ((f10 (gr g a0 0) 716 (Or.inr (by decide))).trans ki4)) ((f14 (gr g a0 0) 715 (Or.inr (by decide))).trans ((f10 (gr g a0 0) 715 (Or.inr (by decide))).trans ki3)) ((f14 (gr g a0 0) 717 (Or.inr (by decide))).trans ((f10 (gr g a0 0) 717 (Or.inr (by decide))).trans ki2)) (by omega) (by omega) (n_big _) F Hi M (lv_sub hl [1, 0] rfl)
  ·
    have rk66 : (I13 (gr g a0 0) 717).toInt = i2.toInt := congrArg Int32.toInt ((f14 (gr g a0 0) 717 (Or.inr (by decide))).trans ((f10 (gr g a0 0) 717 (Or.inr (by decide))).trans ki2))
    have rk67 : (I13 (gr g a0 0) 715).toInt = i3.toInt := congrArg Int32.toInt ((f14 (gr g a0 0) 715 (Or.inr (by decide))).trans ((f10 (gr g a0 0) 715 (Or.inr (by decide))).trans ki3))
    have rk68 : (I13 (gr g a0 0) 716).toInt = i4.toInt := congrArg Int32.toInt ((f14 (gr g a0 0) 716 (Or.inr (by decide))).trans ((f10 (gr g a0 0) 716 (Or.inr (by decide))).trans ki4))
    have rk69 : (I13 (gr g a0 0) 722).toInt = i5.toInt := congrArg Int32.toInt ((f14 (gr g a0 0) 722 (Or.inr (by decide))).trans ((f10 (gr g a0 0) 722 (Or.inr (by decide))).trans ki5))
    have rk70 : (I13 (gr g a0 0) 718).toInt = i6.toInt := congrArg Int32.toInt ((f14 (gr g a0 0) 718 (Or.inr (by decide))).trans ((f10 (gr g a0 0) 718 (Or.inr (by decide))).trans ki6))
    have rk71 : (I13 (gr g a0 0) 719).toInt = 0 := congrArg Int32.toInt k15
    exact r_PV C M hr hlk F ⟨rfl, ⟨(by simp only [ci2, ci3, ci4, ci5, ci6, ci7, rk66, rk67, rk68, rk69, rk70, rk71]; have hj2 := hj.2.1; have e9 := mSp_b (R := i4.toInt) (N := i3.toInt) (S := i5.toInt) (b := i6.toInt) (by omega) (by omega) (by omega) (by omega) (by omega) (by omega) (by omega) (by omega); exact fun _ => ⟨hj.1, hj.2.1, by omega⟩), Hi⟩⟩ dX11_crashes_29

abbrev md_X11_writes : List (Nat × Nat) := [(28, 0)]
set_option maxHeartbeats 4000000 in
set_option maxRecDepth 100000 in
theorem ct_X11_writes (l : Launch) (g : Gs) (I : Ms) (J : Js) (a0 : Nat) (x1 : Int32) (x2 : Int32) (h0_ : Is g a0 9) (g0 : 0 ≤ x1.toInt) (g1 : x1.toInt < mNs (I (gr g a0 0) 716).toInt (I (gr g a0 0) 715).toInt) (g2 : x1.toInt ≤ 200) (g3 : (I (gr g a0 0) 715).toInt ≤ 6) (g4 : 0 ≤ x2.toInt) (g5 : x2.toInt ≤ 300) : Ctr l yX11_writes cX11_writes 10 (Option.none : Option Jvm.ClassFile.FieldType) 4 g [.ref a0, .int x1, .int x2] I J (PV g md_X11_writes I (fun I1 J1 => J1 = J ∧ ((True) ∧ (∀ j, 715 ≤ j → I1 (gr g a0 0) j = I (gr g a0 0) j)))) := by
  refine m_start (by decide) (Nat.le_of_ble_eq_true rfl) ?_
  intro p e s m args below meth c C hr hlk M ls hl
  have hl : lv_has ls 10 [(0, .ref a0), (1, .int x1), (2, .int x2)] := hl
  have C : CallFix p m c cX11_writes 10 s args TB RX11 := C
  have F : Fr g md_X11_writes I I := fr_rf
  have hS0 := is_ref M h0_ 0 28 rfl rfl
  have Hi : ∀ j, 715 ≤ j → I (gr g a0 0) j = I (gr g a0 0) j := by intros; rfl
  have h1 := is_ref M h0_ 0 28 rfl rfl
  obtain ⟨i2, ki2⟩ : ∃ z : Int32, I (gr g a0 0) 717 = z := ⟨_, rfl⟩
  have ti2 : 0 ≤ i2.toInt ∧ i2.toInt ≤ 1 := m_rng M h1 717 ki2 rfl
  have ci2 : (I (gr g a0 0) 717).toInt = i2.toInt := congrArg Int32.toInt ki2
  obtain ⟨i3, ki3⟩ : ∃ z : Int32, I (gr g a0 0) 715 = z := ⟨_, rfl⟩
  have ti3 : 3 ≤ i3.toInt ∧ i3.toInt ≤ 7 := m_rng M h1 715 ki3 rfl
  have ci3 : (I (gr g a0 0) 715).toInt = i3.toInt := congrArg Int32.toInt ki3
  obtain ⟨i4, ki4⟩ : ∃ z : Int32, I (gr g a0 0) 716 = z := ⟨_, rfl⟩
  have ti4 : 4 ≤ i4.toInt ∧ i4.toInt ≤ 40 := m_rng M h1 716 ki4 rfl
  have ci4 : (I (gr g a0 0) 716).toInt = i4.toInt := congrArg Int32.toInt ki4
  obtain ⟨i5, ki5⟩ : ∃ z : Int32, I (gr g a0 0) 722 = z := ⟨_, rfl⟩
  have ti5 : 1 ≤ i5.toInt ∧ i5.toInt ≤ 4 := m_rng M h1 722 ki5 rfl
  have ci5 : (I (gr g a0 0) 722).toInt = i5.toInt := congrArg Int32.toInt ki5
  obtain ⟨i6, ki6⟩ : ∃ z : Int32, I (gr g a0 0) 718 = z := ⟨_, rfl⟩
  have ti6 : 0 ≤ i6.toInt ∧ i6.toInt ≤ 200 := m_rng M h1 718 ki6 rfl
  have ci6 : (I (gr g a0 0) 718).toInt = i6.toInt := congrArg Int32.toInt ki6
  obtain ⟨i7, ki7⟩ : ∃ z : Int32, I (gr g a0 0) 719 = z := ⟨_, rfl⟩
  have ti7 : 0 ≤ i7.toInt ∧ i7.toInt ≤ 200 := m_rng M h1 719 ki7 rfl
  have ci7 : (I (gr g a0 0) 719).toInt = i7.toInt := congrArg Int32.toInt ki7
  simp only [ci2, ci3, ci4, ci5, ci6, ci7] at g1 g3
  have hns := mNs_b (R := i4.toInt) (N := i3.toInt) (by omega) (by omega) (by omega) (by omega)
  refine lv_aload_n C.1 C.2.1 dX11_writes_0 rfl (lv_at hl 0 rfl) ?_
  refine gi_X11_7 C M h0_ dX11_writes_1 (fun h8 => ?_)
  refine lv_sipush (v := 715) C.1 C.2.1 dX11_writes_4 (by decide) ?_
  refine a_ldK C M (X := 715) (j := 715) h1 (n := 729) rfl rfl rfl (by omega) (by omega) rfl ki3 dX11_writes_7 ?_
  refine lv_iconst (v := 1) C.1 C.2.1 dX11_writes_8 (by decide) ?_
  refine n_iadd C (Y := 1) dX11_writes_9 rfl rfl (by omega) (by omega) (fun v9 ev9 => ?_)
  refine lv_istore_n (lv' := [(3, .int v9), (0, .ref a0), (1, .int x1), (2, .int x2)]) C.1 C.2.1 dX11_writes_10 rfl hl (by decide) rfl (fun ls hl => ?_)
  refine lv_iload_n C.1 C.2.1 dX11_writes_11 rfl (lv_at hl 3 rfl) ?_
  refine lv_iload_n C.1 C.2.1 dX11_writes_12 rfl (lv_at hl 0 rfl) ?_
  refine n_idiv0 C dX11_writes_13 rfl rfl (by omega) (by omega) (fun v10 ev10 lv10 uv10 => ?_)
  have q11 : v10.toInt ≤ 75 := by rw [ev10]; exact i_dle (by omega) (by omega) (by omega)
  refine lv_istore (lv' := [(4, .int v10), (3, .int v9), (0, .ref a0), (1, .int x1), (2, .int x2)]) C.1 C.2.1 dX11_writes_14 hl (by decide) rfl (fun ls hl => ?_)
  refine lv_iload C.1 C.2.1 dX11_writes_16 (lv_at hl 0 rfl) ?_
  refine lv_aload_n C.1 C.2.1 dX11_writes_18 rfl (lv_at hl 2 rfl) ?_
  refine lv_iload_n C.1 C.2.1 dX11_writes_19 rfl (lv_at hl 3 rfl) ?_
  have em12 : (I (gr g a0 0) 715).toInt = i3.toInt := congrArg Int32.toInt ki3
  have em13 : (I (gr g a0 0) 716).toInt = i4.toInt := congrArg Int32.toInt ki4
  have em14 : (I (gr g a0 0) 722).toInt = i5.toInt := congrArg Int32.toInt ki5
  refine k_PI C M h0_ (by decide) rfl (ct_X11_stripesFrom l g I J a0 x1 h0_ (by omega) (by omega) (by simp only [em12, em13, em14]; first | assumption | omega)) (cw_X11_70 C.2.2.2.2 (by decide)) rfl hl.1 rfl (Nat.le_of_ble_eq_true rfl) dX11_writes_20 ⟨Nat.le_refl _, Nat.le_refl _⟩ (fun r15 H locs p16r M => ?_)
  have p16 : r15.toInt = mSt (I (gr g a0 0) 716).toInt (I (gr g a0 0) 715).toInt (I (gr g a0 0) 722).toInt x1.toInt ∧ 1 ≤ r15.toInt ∧ r15.toInt ≤ 4 := p16r
  simp only [em12, em13, em14] at p16
  have p16 : r15.toInt = mSt i4.toInt i3.toInt i5.toInt x1.toInt ∧ 1 ≤ r15.toInt ∧ r15.toInt ≤ 4 := p16
  refine n_icmp_lt C (tgt := 27) dX11_writes_23 (by decide) rfl rfl (fun q17 => ?_) (fun q17 => ?_)
  ·
    refine lv_iload_n C.1 C.2.1 dX11_writes_27 rfl (lv_at hl 3 rfl) ?_
    refine lv_iload C.1 C.2.1 dX11_writes_28 (lv_at hl 0 rfl) ?_
    refine n_iadd C dX11_writes_30 rfl rfl (by omega) (by omega) (fun v18 ev18 => ?_)
    refine lv_istore (lv' := [(5, .int v18), (4, .int v10), (3, .int v9), (0, .ref a0), (1, .int x1), (2, .int x2)]) C.1 C.2.1 dX11_writes_31 hl (by decide) rfl (fun ls hl => ?_)
    refine lv_iload_n C.1 C.2.1 dX11_writes_33 rfl (lv_at hl 5 rfl) ?_
    refine lv_iload_n C.1 C.2.1 dX11_writes_34 rfl (lv_at hl 2 rfl) ?_
    refine n_irem0 C dX11_writes_35 rfl rfl (by omega) (by omega) (fun v19 ev19 lv19 uv19 => ?_)
    refine lv_istore (lv' := [(6, .int v19), (5, .int v18), (4, .int v10), (3, .int v9), (0, .ref a0), (1, .int x1), (2, .int x2)]) C.1 C.2.1 dX11_writes_36 hl (by decide) rfl (fun ls hl => ?_)
    refine lv_sipush (v := 560) C.1 C.2.1 dX11_writes_38 (by decide) ?_
    refine lv_iload C.1 C.2.1 dX11_writes_41 (lv_at hl 2 rfl) ?_
    refine lv_aload_n C.1 C.2.1 dX11_writes_43 rfl (lv_at hl 4 rfl) ?_
    refine gi_X11_7 C M h0_ dX11_writes_44 (fun h20 => ?_)
    refine lv_sipush (v := 715) C.1 C.2.1 dX11_writes_47 (by decide) ?_
    refine a_ldK C M (X := 715) (j := 715) h1 (n := 729) rfl rfl rfl (by omega) (by omega) rfl ki3 dX11_writes_50 ?_
    have bp22 := i_prod (x := v10.toInt) (y := i3.toInt) (A := 3) (B := 7) (by omega) (by omega) (by omega) (by omega)
    refine n_imul C dX11_writes_51 rfl rfl (by omega) (by omega) (fun v21 ev21 => ?_)
    refine n_iadd C (X := 560) dX11_writes_52 rfl rfl (by omega) (by omega) (fun v23 ev23 => ?_)
    refine lv_istore (lv' := [(7, .int v23), (6, .int v19), (5, .int v18), (4, .int v10), (3, .int v9), (0, .ref a0), (1, .int x1), (2, .int x2)]) C.1 C.2.1 dX11_writes_53 hl (by decide) rfl (fun ls hl => ?_)
    refine lv_iload C.1 C.2.1 dX11_writes_55 (lv_at hl 1 rfl) ?_
    refine lv_aload_n C.1 C.2.1 dX11_writes_57 rfl (lv_at hl 5 rfl) ?_
    refine gi_X11_7 C M h0_ dX11_writes_58 (fun h24 => ?_)
    refine lv_sipush (v := 715) C.1 C.2.1 dX11_writes_61 (by decide) ?_
    refine a_ldK C M (X := 715) (j := 715) h1 (n := 729) rfl rfl rfl (by omega) (by omega) rfl ki3 dX11_writes_64 ?_
    refine n_icmp_ge C (tgt := 98) dX11_writes_65 (by decide) rfl rfl (fun q25 => ?_) (fun q25 => ?_)
    ·
      refine lv_iconst (v := 0) C.1 C.2.1 dX11_writes_98 (by decide) ?_
      refine lv_istore (lv' := [(8, .int 0), (7, .int v23), (6, .int v19), (5, .int v18), (4, .int v10), (3, .int v9), (0, .ref a0), (1, .int x1), (2, .int x2)]) C.1 C.2.1 dX11_writes_99 hl (by decide) rfl (fun ls hl => ?_)
      refine lv_iconst (v := 0) C.1 C.2.1 dX11_writes_101 (by decide) ?_
      refine lv_istore (lv' := [(9, .int 0), (8, .int 0), (7, .int v23), (6, .int v19), (5, .int v18), (4, .int v10), (3, .int v9), (0, .ref a0), (1, .int x1), (2, .int x2)]) C.1 C.2.1 dX11_writes_102 hl (by decide) rfl (fun ls hl => ?_)
      have L104 : ∀ (n104 : Nat) (y26 : Int32) (y27 : Int32) (H : Heap) (locs : List Loc) (ls : Array Slot), 0 ≤ y27.toInt → y27.toInt ≤ 6 → 6 - y27.toInt < (n104 : Int) → Mm g s I J H locs → lv_has ls 10 [(0, .ref a0), (3, .int v9), (5, .int v18), (7, .int v23), (8, .int y26), (9, .int y27)] → W p l e (rmL 4) s m args below meth c H locs 0 0 (MQg below g (PV g md_X11_writes I (fun I1 J1 => J1 = J ∧ ((True) ∧ (∀ j, 715 ≤ j → I1 (gr g a0 0) j = I (gr g a0 0) j)))) args s) (F0 m 104 ls []) := by
        intro n104
        induction n104 with
        | zero =>
          intro y26 y27 H locs ls f28 f29 hm104 M hl
          exact absurd hm104 (by omega)
        | succ n104 ih104 =>
          intro y26 y27 H locs ls f28 f29 hm104 M hl
          refine lv_iload C.1 C.2.1 dX11_writes_104 (lv_at hl 5 rfl) ?_
          refine lv_aload_n C.1 C.2.1 dX11_writes_106 rfl (lv_at hl 0 rfl) ?_
          refine gi_X11_7 C M h0_ dX11_writes_107 (fun h30 => ?_)
          refine lv_sipush (v := 715) C.1 C.2.1 dX11_writes_110 (by decide) ?_
          refine a_ldK C M (X := 715) (j := 715) h1 (n := 729) rfl rfl rfl (by omega) (by omega) rfl ki3 dX11_writes_113 ?_
          refine n_icmp_ge C (tgt := 138) dX11_writes_114 (by decide) rfl rfl (fun q31 => ?_) (fun q31 => ?_)
          ·
            refine lv_aload_n C.1 C.2.1 dX11_writes_138 rfl (lv_at hl 0 rfl) ?_
            refine lv_iload_n C.1 C.2.1 dX11_writes_139 rfl (lv_at hl 1 rfl) ?_
            refine lv_iload C.1 C.2.1 dX11_writes_140 (lv_at hl 2 rfl) ?_
            refine ks_PI C M (ct_X11_parityOf l g I J v9 v18 (by omega) (by omega) (by omega)) (cw_X11_46 C.2.2.2.2 (by decide)) rfl hl.1 rfl (Nat.le_of_ble_eq_true rfl) dX11_writes_142 ⟨Nat.le_refl _, Nat.le_refl _⟩ (fun r32 H locs p33r M => ?_)
            have p33 : 0 ≤ r32.toInt ∧ r32.toInt ≤ v9.toInt - 1 := p33r
            refine lv_iload C.1 C.2.1 dX11_writes_145 (lv_at hl 2 rfl) ?_
            refine lv_iload C.1 C.2.1 dX11_writes_147 (lv_at hl 4 rfl) ?_
            refine k_PV C M h0_ (by decide) rfl (ct_X11_lays l g I J a0 r32 v18 y26 h0_ (by omega) (by omega) (by omega) (by omega) (by omega)) (cw_X11_110 C.2.2.2.2 (by decide)) rfl hl.1 rfl (Nat.le_of_ble_eq_true rfl) dX11_writes_149 ⟨Nat.le_refl _, Nat.le_refl _⟩ (fun I34 J35 H locs G36 p37r M => ?_)
            obtain ⟨eJ35, ⟨p37, fx38⟩⟩ : J35 = J ∧ ((True) ∧ (∀ j, 715 ≤ j → I34 (gr g a0 0) j = I (gr g a0 0) j)) := p37r
            have eJ35 := eJ35.symm
            subst eJ35
            have Hi : ∀ j, 715 ≤ j → I34 (gr g a0 0) j = I (gr g a0 0) j := fun j hj => (fx38 j hj).trans (Hi j hj)
            have F := fr_call F G36 (by decide)
            exact r_PV C M hr hlk F ⟨rfl, ⟨trivial, Hi⟩⟩ dX11_writes_152
          ·
            refine lv_iload C.1 C.2.1 dX11_writes_117 (lv_at hl 4 rfl) ?_
            refine lv_aload_n C.1 C.2.1 dX11_writes_119 rfl (lv_at hl 0 rfl) ?_
            refine gi_X11_7 C M h0_ dX11_writes_120 (fun h39 => ?_)
            refine lv_iload C.1 C.2.1 dX11_writes_123 (lv_at hl 3 rfl) ?_
            refine lv_iload C.1 C.2.1 dX11_writes_125 (lv_at hl 5 rfl) ?_
            refine n_iadd C dX11_writes_127 rfl rfl (by omega) (by omega) (fun v40 ev40 => ?_)
            refine a_ld C M h1 (n := 729) rfl rfl rfl (by omega) (by omega) rfl dX11_writes_128 (fun v41 kv41 => ?_)
            refine n_ixorU C dX11_writes_129 (fun v42 => ?_)
            refine lv_istore (lv' := [(8, .int v42), (0, .ref a0), (3, .int v9), (5, .int v18), (7, .int v23), (9, .int y27)]) C.1 C.2.1 dX11_writes_130 hl (by decide) rfl (fun ls hl => ?_)
            refine n_iinc C (k := 5) (N := 1) (lv' := fun v => [(9, .int v), (8, .int v42), (0, .ref a0), (3, .int v9), (5, .int v18), (7, .int v23)]) dX11_writes_132 hl rfl (by decide) rfl rfl (by omega) (by omega) (fun _ => rfl) (fun v43 ls ev43 hl => ?_)
            refine lv_goto (tgt := 104) C.1 C.2.1 dX11_writes_135 (by decide) ?_
            exact ih104 v42 v43 _ _ _ (by omega) (by omega) (by omega) M (lv_sub hl [2, 3, 4, 5, 1, 0] rfl)
      have cz44 : (0 : Int32).toInt = 0 := rfl
      have cz45 : (0 : Int32).toInt = 0 := rfl
      exact L104 _ 0 0 _ _ _ (by omega) (by omega) (n_big _) M (lv_sub hl [7, 6, 4, 2, 1, 0] rfl)
    ·
      refine lv_aload_n C.1 C.2.1 dX11_writes_68 rfl (lv_at hl 5 rfl) ?_
      refine lv_iload_n C.1 C.2.1 dX11_writes_69 rfl (lv_at hl 4 rfl) ?_
      refine lv_iload C.1 C.2.1 dX11_writes_70 (lv_at hl 2 rfl) ?_
      refine ks_PI C M (ct_X11_parityOf l g I J v9 v18 (by omega) (by omega) (by omega)) (cw_X11_46 C.2.2.2.2 (by decide)) rfl hl.1 rfl (Nat.le_of_ble_eq_true rfl) dX11_writes_72 ⟨Nat.le_refl _, Nat.le_refl _⟩ (fun r46 H locs p47r M => ?_)
      have p47 : 0 ≤ r46.toInt ∧ r46.toInt ≤ v9.toInt - 1 := p47r
      refine lv_iconst (v := 1) C.1 C.2.1 dX11_writes_75 (by decide) ?_
      refine n_iadd C (Y := 1) dX11_writes_76 rfl rfl (by omega) (by omega) (fun v48 ev48 => ?_)
      refine lv_iload C.1 C.2.1 dX11_writes_77 (lv_at hl 1 rfl) ?_
      refine n_iadd C dX11_writes_79 rfl rfl (by omega) (by omega) (fun v49 ev49 => ?_)
      refine lv_iload_n C.1 C.2.1 dX11_writes_80 rfl (lv_at hl 4 rfl) ?_
      refine n_irem0 C dX11_writes_81 rfl rfl (by omega) (by omega) (fun v50 ev50 lv50 uv50 => ?_)
      refine lv_iload C.1 C.2.1 dX11_writes_82 (lv_at hl 2 rfl) ?_
      refine lv_aload_n C.1 C.2.1 dX11_writes_84 rfl (lv_at hl 5 rfl) ?_
      refine gi_X11_7 C M h0_ dX11_writes_85 (fun h51 => ?_)
      refine lv_iload C.1 C.2.1 dX11_writes_88 (lv_at hl 0 rfl) ?_
      refine lv_iload C.1 C.2.1 dX11_writes_90 (lv_at hl 1 rfl) ?_
      refine n_iadd C dX11_writes_92 rfl rfl (by omega) (by omega) (fun v52 ev52 => ?_)
      refine a_ld C M h1 (n := 729) rfl rfl rfl (by omega) (by omega) rfl dX11_writes_93 (fun v53 kv53 => ?_)
      refine k_PV C M h0_ (by decide) rfl (ct_X11_lays l g I J a0 v50 v18 v53 h0_ (by omega) (by omega) (by omega) (by omega) (by omega)) (cw_X11_110 C.2.2.2.2 (by decide)) rfl hl.1 rfl (Nat.le_of_ble_eq_true rfl) dX11_writes_94 ⟨Nat.le_refl _, Nat.le_refl _⟩ (fun I54 J55 H locs G56 p57r M => ?_)
      obtain ⟨eJ55, ⟨p57, fx58⟩⟩ : J55 = J ∧ ((True) ∧ (∀ j, 715 ≤ j → I54 (gr g a0 0) j = I (gr g a0 0) j)) := p57r
      have eJ55 := eJ55.symm
      subst eJ55
      have Hi : ∀ j, 715 ≤ j → I54 (gr g a0 0) j = I (gr g a0 0) j := fun j hj => (fx58 j hj).trans (Hi j hj)
      have F := fr_call F G56 (by decide)
      exact r_PV C M hr hlk F ⟨rfl, ⟨trivial, Hi⟩⟩ dX11_writes_97
  ·
    exact r_PV C M hr hlk F ⟨rfl, ⟨trivial, Hi⟩⟩ dX11_writes_26

abbrev md_X11_checkpoints : List (Nat × Nat) := [(28, 0)]
set_option maxHeartbeats 4000000 in
set_option maxRecDepth 100000 in
theorem ct_X11_checkpoints (l : Launch) (g : Gs) (I : Ms) (J : Js) (a0 : Nat) (h0_ : Is g a0 9) (g0 : (I (gr g a0 0) 717).toInt = 1) (g1 : (I (gr g a0 0) 715).toInt ≤ 6) (g2 : (I (gr g a0 0) 718).toInt < mNs (I (gr g a0 0) 716).toInt (I (gr g a0 0) 715).toInt) : Ctr l yX11_checkpoints cX11_checkpoints 3 (Option.none : Option Jvm.ClassFile.FieldType) 4 g [.ref a0] I J (PV g md_X11_checkpoints I (fun I1 J1 => J1 = J ∧ ((jm (I1 (gr g a0 0) 717).toInt (I1 (gr g a0 0) 715).toInt (I1 (gr g a0 0) 716).toInt (I1 (gr g a0 0) 722).toInt (I1 (gr g a0 0) 718).toInt (I1 (gr g a0 0) 719).toInt) ∧ (∀ j, 715 ≤ j → j ≠ 715 → j ≠ 717 → j ≠ 718 → j ≠ 719 → j ≠ 720 → I1 (gr g a0 0) j = I (gr g a0 0) j)))) := by
  refine m_start (by decide) (Nat.le_of_ble_eq_true rfl) ?_
  intro p e s m args below meth c C hr hlk M ls hl
  have hl : lv_has ls 3 [(0, .ref a0)] := hl
  have C : CallFix p m c cX11_checkpoints 3 s args TB RX11 := C
  have F : Fr g md_X11_checkpoints I I := fr_rf
  have hS0 := is_ref M h0_ 0 28 rfl rfl
  have Hi : ∀ j, 715 ≤ j → j ≠ 715 → j ≠ 717 → j ≠ 718 → j ≠ 719 → j ≠ 720 → I (gr g a0 0) j = I (gr g a0 0) j := by intros; rfl
  have h1 := is_ref M h0_ 0 28 rfl rfl
  obtain ⟨i2, ki2⟩ : ∃ z : Int32, I (gr g a0 0) 717 = z := ⟨_, rfl⟩
  have ti2 : 0 ≤ i2.toInt ∧ i2.toInt ≤ 1 := m_rng M h1 717 ki2 rfl
  have ci2 : (I (gr g a0 0) 717).toInt = i2.toInt := congrArg Int32.toInt ki2
  obtain ⟨i3, ki3⟩ : ∃ z : Int32, I (gr g a0 0) 715 = z := ⟨_, rfl⟩
  have ti3 : 3 ≤ i3.toInt ∧ i3.toInt ≤ 7 := m_rng M h1 715 ki3 rfl
  have ci3 : (I (gr g a0 0) 715).toInt = i3.toInt := congrArg Int32.toInt ki3
  obtain ⟨i4, ki4⟩ : ∃ z : Int32, I (gr g a0 0) 716 = z := ⟨_, rfl⟩
  have ti4 : 4 ≤ i4.toInt ∧ i4.toInt ≤ 40 := m_rng M h1 716 ki4 rfl
  have ci4 : (I (gr g a0 0) 716).toInt = i4.toInt := congrArg Int32.toInt ki4
  obtain ⟨i5, ki5⟩ : ∃ z : Int32, I (gr g a0 0) 722 = z := ⟨_, rfl⟩
  have ti5 : 1 ≤ i5.toInt ∧ i5.toInt ≤ 4 := m_rng M h1 722 ki5 rfl
  have ci5 : (I (gr g a0 0) 722).toInt = i5.toInt := congrArg Int32.toInt ki5
  obtain ⟨i6, ki6⟩ : ∃ z : Int32, I (gr g a0 0) 718 = z := ⟨_, rfl⟩
  have ti6 : 0 ≤ i6.toInt ∧ i6.toInt ≤ 200 := m_rng M h1 718 ki6 rfl
  have ci6 : (I (gr g a0 0) 718).toInt = i6.toInt := congrArg Int32.toInt ki6
  obtain ⟨i7, ki7⟩ : ∃ z : Int32, I (gr g a0 0) 719 = z := ⟨_, rfl⟩
  have ti7 : 0 ≤ i7.toInt ∧ i7.toInt ≤ 200 := m_rng M h1 719 ki7 rfl
  have ci7 : (I (gr g a0 0) 719).toInt = i7.toInt := congrArg Int32.toInt ki7
  simp only [ci2, ci3, ci4, ci5, ci6, ci7] at g0 g1 g2
  have hns := mNs_b (R := i4.toInt) (N := i3.toInt) (by omega) (by omega) (by omega) (by omega)
  refine lv_aload_n C.1 C.2.1 dX11_checkpoints_0 rfl (lv_at hl 0 rfl) ?_
  refine gi_X11_7 C M h0_ dX11_checkpoints_1 (fun h8 => ?_)
  refine lv_sipush (v := 718) C.1 C.2.1 dX11_checkpoints_4 (by decide) ?_
  refine lv_dup2_11 C.1 C.2.1 dX11_checkpoints_7 rfl rfl ?_
  refine a_ldK C M (X := 718) (j := 718) h1 (n := 729) rfl rfl rfl (by omega) (by omega) rfl ki6 dX11_checkpoints_8 ?_
  refine lv_aload_n C.1 C.2.1 dX11_checkpoints_9 rfl (lv_at hl 0 rfl) ?_
  refine lv_aload_n C.1 C.2.1 dX11_checkpoints_10 rfl (lv_at hl 0 rfl) ?_
  refine gi_X11_7 C M h0_ dX11_checkpoints_11 (fun h9 => ?_)
  refine lv_sipush (v := 718) C.1 C.2.1 dX11_checkpoints_14 (by decide) ?_
  refine a_ldK C M (X := 718) (j := 718) h1 (n := 729) rfl rfl rfl (by omega) (by omega) rfl ki6 dX11_checkpoints_17 ?_
  have em10 : (I (gr g a0 0) 715).toInt = i3.toInt := congrArg Int32.toInt ki3
  have em11 : (I (gr g a0 0) 716).toInt = i4.toInt := congrArg Int32.toInt ki4
  have em12 : (I (gr g a0 0) 722).toInt = i5.toInt := congrArg Int32.toInt ki5
  refine k_PI C M h0_ (by decide) rfl (ct_X11_stripesFrom l g I J a0 i6 h0_ (by omega) (by omega) (by simp only [em10, em11, em12]; first | assumption | omega)) (cw_X11_70 C.2.2.2.2 (by decide)) rfl hl.1 rfl (Nat.le_of_ble_eq_true rfl) dX11_checkpoints_18 ⟨Nat.le_refl _, Nat.le_refl _⟩ (fun r13 H locs p14r M => ?_)
  have p14 : r13.toInt = mSt (I (gr g a0 0) 716).toInt (I (gr g a0 0) 715).toInt (I (gr g a0 0) 722).toInt i6.toInt ∧ 1 ≤ r13.toInt ∧ r13.toInt ≤ 4 := p14r
  simp only [em10, em11, em12] at p14
  have p14 : r13.toInt = mSt i4.toInt i3.toInt i5.toInt i6.toInt ∧ 1 ≤ r13.toInt ∧ r13.toInt ≤ 4 := p14
  refine n_iadd C dX11_checkpoints_21 rfl rfl (by omega) (by omega) (fun v15 ev15 => ?_)
  refine a_st C M (X := 718) (j := 718) h1 (n := 729) rfl rfl rfl (by omega) (by omega) rfl rfl (lo := 0) (hi := 200) rfl (by omega) (by omega) dX11_checkpoints_22 (fun H locs I16 k18 f17 M => ?_)
  have F := fr_put F h1 (Or.inl (by decide)) f17
  have Hi : ∀ j, 715 ≤ j → j ≠ 715 → j ≠ 717 → j ≠ 718 → j ≠ 719 → j ≠ 720 → I16 (gr g a0 0) j = I (gr g a0 0) j := fun j hj hn715 hn717 hn718 hn719 hn720 => (f17 (gr g a0 0) j (Or.inr (by omega))).trans (Hi j hj hn715 hn717 hn718 hn719 hn720)
  refine lv_aload_n C.1 C.2.1 dX11_checkpoints_23 rfl (lv_at hl 0 rfl) ?_
  refine gi_X11_7 C M h0_ dX11_checkpoints_24 (fun h19 => ?_)
  refine lv_sipush (v := 719) C.1 C.2.1 dX11_checkpoints_27 (by decide) ?_
  refine lv_iconst (v := 0) C.1 C.2.1 dX11_checkpoints_30 (by decide) ?_
  refine a_st C M (X := 719) (j := 719) (V := 0) h1 (n := 729) rfl rfl rfl (by omega) (by omega) rfl rfl (lo := 0) (hi := 200) rfl (by omega) (by omega) dX11_checkpoints_31 (fun H locs I20 k22 f21 M => ?_)
  have F := fr_put F h1 (Or.inl (by decide)) f21
  have Hi : ∀ j, 715 ≤ j → j ≠ 715 → j ≠ 717 → j ≠ 718 → j ≠ 719 → j ≠ 720 → I20 (gr g a0 0) j = I (gr g a0 0) j := fun j hj hn715 hn717 hn718 hn719 hn720 => (f21 (gr g a0 0) j (Or.inr (by omega))).trans (Hi j hj hn715 hn717 hn718 hn719 hn720)
  refine lv_aload_n C.1 C.2.1 dX11_checkpoints_32 rfl (lv_at hl 0 rfl) ?_
  refine gi_X11_7 C M h0_ dX11_checkpoints_33 (fun h23 => ?_)
  refine lv_sipush (v := 720) C.1 C.2.1 dX11_checkpoints_36 (by decide) ?_
  refine lv_iconst (v := 0) C.1 C.2.1 dX11_checkpoints_39 (by decide) ?_
  refine a_st C M (X := 720) (j := 720) (V := 0) h1 (n := 729) rfl rfl rfl (by omega) (by omega) rfl rfl (lo := 0) (hi := 1) rfl (by omega) (by omega) dX11_checkpoints_40 (fun H locs I24 k26 f25 M => ?_)
  have F := fr_put F h1 (Or.inl (by decide)) f25
  have Hi : ∀ j, 715 ≤ j → j ≠ 715 → j ≠ 717 → j ≠ 718 → j ≠ 719 → j ≠ 720 → I24 (gr g a0 0) j = I (gr g a0 0) j := fun j hj hn715 hn717 hn718 hn719 hn720 => (f25 (gr g a0 0) j (Or.inr (by omega))).trans (Hi j hj hn715 hn717 hn718 hn719 hn720)
  refine lv_aload_n C.1 C.2.1 dX11_checkpoints_41 rfl (lv_at hl 0 rfl) ?_
  refine gi_X11_7 C M h0_ dX11_checkpoints_42 (fun h27 => ?_)
  refine lv_sipush (v := 718) C.1 C.2.1 dX11_checkpoints_45 (by decide) ?_
  refine a_ldK C M (X := 718) (j := 718) h1 (n := 729) rfl rfl rfl (by omega) (by omega) rfl ((f25 (gr g a0 0) 718 (Or.inr (by decide))).trans ((f21 (gr g a0 0) 718 (Or.inr (by decide))).trans k18)) dX11_checkpoints_48 ?_
  refine lv_aload_n C.1 C.2.1 dX11_checkpoints_49 rfl (lv_at hl 0 rfl) ?_
  have em28 : (I24 (gr g a0 0) 715).toInt = i3.toInt := congrArg Int32.toInt ((f25 (gr g a0 0) 715 (Or.inr (by decide))).trans ((f21 (gr g a0 0) 715 (Or.inr (by decide))).trans ((f17 (gr g a0 0) 715 (Or.inr (by decide))).trans ki3)))
  have em29 : (I24 (gr g a0 0) 716).toInt = i4.toInt := congrArg Int32.toInt ((f25 (gr g a0 0) 716 (Or.inr (by decide))).trans ((f21 (gr g a0 0) 716 (Or.inr (by decide))).trans ((f17 (gr g a0 0) 716 (Or.inr (by decide))).trans ki4)))
  refine k_PI C M h0_ (by decide) rfl (ct_X11_newStripes l g I24 J a0 h0_) (cw_X11_67 C.2.2.2.2 (by decide)) rfl hl.1 rfl (Nat.le_of_ble_eq_true rfl) dX11_checkpoints_50 ⟨Nat.le_refl _, Nat.le_refl _⟩ (fun r30 H locs p31r M => ?_)
  have p31 : r30.toInt = mNs (I24 (gr g a0 0) 716).toInt (I24 (gr g a0 0) 715).toInt ∧ 1 ≤ r30.toInt ∧ r30.toInt ≤ (I24 (gr g a0 0) 716).toInt := p31r
  simp only [em28, em29] at p31
  have p31 : r30.toInt = mNs i4.toInt i3.toInt ∧ 1 ≤ r30.toInt ∧ r30.toInt ≤ i4.toInt := p31
  refine n_icmp_ge C (tgt := 57) dX11_checkpoints_53 (by decide) rfl rfl (fun q32 => ?_) (fun q32 => ?_)
  ·
    refine lv_iconst (v := 0) C.1 C.2.1 dX11_checkpoints_57 (by decide) ?_
    refine lv_istore_n (lv' := [(1, .int 0), (0, .ref a0)]) C.1 C.2.1 dX11_checkpoints_58 rfl hl (by decide) rfl (fun ls hl => ?_)
    have L59 : ∀ (n59 : Nat) (y33 : Int32) (I34 : Ms) (H : Heap) (locs : List Loc) (ls : Array Slot), I34 (gr g a0 0) 720 = 0 → I34 (gr g a0 0) 719 = 0 → I34 (gr g a0 0) 718 = v15 → I34 (gr g a0 0) 722 = i5 → I34 (gr g a0 0) 716 = i4 → I34 (gr g a0 0) 715 = i3 → I34 (gr g a0 0) 717 = i2 → 0 ≤ y33.toInt → y33.toInt ≤ 7 → 7 - y33.toInt < (n59 : Int) → Fr g md_X11_checkpoints I I34 → (∀ j, 715 ≤ j → j ≠ 715 → j ≠ 717 → j ≠ 718 → j ≠ 719 → j ≠ 720 → I34 (gr g a0 0) j = I (gr g a0 0) j) → Mm g s I34 J H locs → lv_has ls 3 [(0, .ref a0), (1, .int y33)] → W p l e (rmL 4) s m args below meth c H locs 0 0 (MQg below g (PV g md_X11_checkpoints I (fun I1 J1 => J1 = J ∧ ((jm (I1 (gr g a0 0) 717).toInt (I1 (gr g a0 0) 715).toInt (I1 (gr g a0 0) 716).toInt (I1 (gr g a0 0) 722).toInt (I1 (gr g a0 0) 718).toInt (I1 (gr g a0 0) 719).toInt) ∧ (∀ j, 715 ≤ j → j ≠ 715 → j ≠ 717 → j ≠ 718 → j ≠ 719 → j ≠ 720 → I1 (gr g a0 0) j = I (gr g a0 0) j)))) args s) (F0 m 59 ls []) := by
      intro n59
      induction n59 with
      | zero =>
        intro y33 I34 H locs ls k35 k36 k37 k38 k39 k40 k41 f42 f43 hm59 F Hi M hl
        exact absurd hm59 (by omega)
      | succ n59 ih59 =>
        intro y33 I34 H locs ls k35 k36 k37 k38 k39 k40 k41 f42 f43 hm59 F Hi M hl
        refine lv_iload_n C.1 C.2.1 dX11_checkpoints_59 rfl (lv_at hl 1 rfl) ?_
        refine lv_aload_n C.1 C.2.1 dX11_checkpoints_60 rfl (lv_at hl 0 rfl) ?_
        refine gi_X11_7 C M h0_ dX11_checkpoints_61 (fun h44 => ?_)
        refine lv_sipush (v := 715) C.1 C.2.1 dX11_checkpoints_64 (by decide) ?_
        refine a_ldK C M (X := 715) (j := 715) h1 (n := 729) rfl rfl rfl (by omega) (by omega) rfl k40 dX11_checkpoints_67 ?_
        refine n_icmp_gt C (tgt := 132) dX11_checkpoints_68 (by decide) rfl rfl (fun q45 => ?_) (fun q45 => ?_)
        ·
          refine lv_aload_n C.1 C.2.1 dX11_checkpoints_132 rfl (lv_at hl 0 rfl) ?_
          refine gi_X11_7 C M h0_ dX11_checkpoints_133 (fun h46 => ?_)
          refine lv_sipush (v := 715) C.1 C.2.1 dX11_checkpoints_136 (by decide) ?_
          refine lv_dup2_11 C.1 C.2.1 dX11_checkpoints_139 rfl rfl ?_
          refine a_ldK C M (X := 715) (j := 715) h1 (n := 729) rfl rfl rfl (by omega) (by omega) rfl k40 dX11_checkpoints_140 ?_
          refine lv_iconst (v := 1) C.1 C.2.1 dX11_checkpoints_141 (by decide) ?_
          refine n_iadd C (Y := 1) dX11_checkpoints_142 rfl rfl (by omega) (by omega) (fun v47 ev47 => ?_)
          refine a_st C M (X := 715) (j := 715) h1 (n := 729) rfl rfl rfl (by omega) (by omega) rfl rfl (lo := 3) (hi := 7) rfl (by omega) (by omega) dX11_checkpoints_143 (fun H locs I48 k50 f49 M => ?_)
          have F := fr_put F h1 (Or.inl (by decide)) f49
          have Hi : ∀ j, 715 ≤ j → j ≠ 715 → j ≠ 717 → j ≠ 718 → j ≠ 719 → j ≠ 720 → I48 (gr g a0 0) j = I (gr g a0 0) j := fun j hj hn715 hn717 hn718 hn719 hn720 => (f49 (gr g a0 0) j (Or.inr (by omega))).trans (Hi j hj hn715 hn717 hn718 hn719 hn720)
          refine lv_aload_n C.1 C.2.1 dX11_checkpoints_144 rfl (lv_at hl 0 rfl) ?_
          refine gi_X11_7 C M h0_ dX11_checkpoints_145 (fun h51 => ?_)
          refine lv_sipush (v := 717) C.1 C.2.1 dX11_checkpoints_148 (by decide) ?_
          refine lv_iconst (v := 0) C.1 C.2.1 dX11_checkpoints_151 (by decide) ?_
          refine a_st C M (X := 717) (j := 717) (V := 0) h1 (n := 729) rfl rfl rfl (by omega) (by omega) rfl rfl (lo := 0) (hi := 1) rfl (by omega) (by omega) dX11_checkpoints_152 (fun H locs I52 k54 f53 M => ?_)
          have F := fr_put F h1 (Or.inl (by decide)) f53
          have Hi : ∀ j, 715 ≤ j → j ≠ 715 → j ≠ 717 → j ≠ 718 → j ≠ 719 → j ≠ 720 → I52 (gr g a0 0) j = I (gr g a0 0) j := fun j hj hn715 hn717 hn718 hn719 hn720 => (f53 (gr g a0 0) j (Or.inr (by omega))).trans (Hi j hj hn715 hn717 hn718 hn719 hn720)
          refine lv_aload_n C.1 C.2.1 dX11_checkpoints_153 rfl (lv_at hl 0 rfl) ?_
          refine gi_X11_7 C M h0_ dX11_checkpoints_154 (fun h55 => ?_)
          refine lv_sipush (v := 718) C.1 C.2.1 dX11_checkpoints_157 (by decide) ?_
          refine lv_iconst (v := 0) C.1 C.2.1 dX11_checkpoints_160 (by decide) ?_
          refine a_st C M (X := 718) (j := 718) (V := 0) h1 (n := 729) rfl rfl rfl (by omega) (by omega) rfl rfl (lo := 0) (hi := 200) rfl (by omega) (by omega) dX11_checkpoints_161 (fun H locs I56 k58 f57 M => ?_)
          have F := fr_put F h1 (Or.inl (by decide)) f57
          have Hi : ∀ j, 715 ≤ j → j ≠ 715 → j ≠ 717 → j ≠ 718 → j ≠ 719 → j ≠ 720 → I56 (gr g a0 0) j = I (gr g a0 0) j := fun j hj hn715 hn717 hn718 hn719 hn720 => (f57 (gr g a0 0) j (Or.inr (by omega))).trans (Hi j hj hn715 hn717 hn718 hn719 hn720)
          have rk59 : (I56 (gr g a0 0) 717).toInt = 0 := congrArg Int32.toInt ((f57 (gr g a0 0) 717 (Or.inr (by decide))).trans k54)
          have rk60 : (I56 (gr g a0 0) 715).toInt = v47.toInt := congrArg Int32.toInt ((f57 (gr g a0 0) 715 (Or.inr (by decide))).trans ((f53 (gr g a0 0) 715 (Or.inr (by decide))).trans k50))
          have rk61 : (I56 (gr g a0 0) 716).toInt = i4.toInt := congrArg Int32.toInt ((f57 (gr g a0 0) 716 (Or.inr (by decide))).trans ((f53 (gr g a0 0) 716 (Or.inr (by decide))).trans ((f49 (gr g a0 0) 716 (Or.inr (by decide))).trans k39)))
          have rk62 : (I56 (gr g a0 0) 722).toInt = i5.toInt := congrArg Int32.toInt ((f57 (gr g a0 0) 722 (Or.inr (by decide))).trans ((f53 (gr g a0 0) 722 (Or.inr (by decide))).trans ((f49 (gr g a0 0) 722 (Or.inr (by decide))).trans k38)))
          have rk63 : (I56 (gr g a0 0) 718).toInt = 0 := congrArg Int32.toInt k58
          have rk64 : (I56 (gr g a0 0) 719).toInt = 0 := congrArg Int32.toInt ((f57 (gr g a0 0) 719 (Or.inr (by decide))).trans ((f53 (gr g a0 0) 719 (Or.inr (by decide))).trans ((f49 (gr g a0 0) 719 (Or.inr (by decide))).trans k36)))
          exact r_PV C M hr hlk F ⟨rfl, ⟨(by simp only [ci2, ci3, ci4, ci5, ci6, ci7, rk59, rk60, rk61, rk62, rk63, rk64]; first | (unfold jm; intro q; exact absurd q (by decide)) | (have e9 := mSp_b (R := i4.toInt) (N := i3.toInt) (S := i5.toInt) (b := 0) (by omega) (by omega) (by omega) (by omega) (by omega) (by omega) (by omega) (by omega); exact fun _ => ⟨by omega, by omega, by omega⟩)), Hi⟩⟩ dX11_checkpoints_162
        ·
          refine lv_aload_n C.1 C.2.1 dX11_checkpoints_71 rfl (lv_at hl 0 rfl) ?_
          refine gi_X11_7 C M h0_ dX11_checkpoints_72 (fun h65 => ?_)
          refine lv_sipush (v := 718) C.1 C.2.1 dX11_checkpoints_75 (by decide) ?_
          refine a_ldK C M (X := 718) (j := 718) h1 (n := 729) rfl rfl rfl (by omega) (by omega) rfl k37 dX11_checkpoints_78 ?_
          refine lv_istore_n (lv' := [(2, .int v15), (0, .ref a0), (1, .int y33)]) C.1 C.2.1 dX11_checkpoints_79 rfl hl (by decide) rfl (fun ls hl => ?_)
          have L80 : ∀ (n80 : Nat) (y66 : Int32) (I67 : Ms) (H : Heap) (locs : List Loc) (ls : Array Slot), I67 (gr g a0 0) 717 = i2 → I67 (gr g a0 0) 715 = i3 → I67 (gr g a0 0) 716 = i4 → I67 (gr g a0 0) 722 = i5 → I67 (gr g a0 0) 718 = v15 → I67 (gr g a0 0) 719 = 0 → I67 (gr g a0 0) 720 = 0 → 0 ≤ y66.toInt → y66.toInt ≤ 200 → 200 - y66.toInt < (n80 : Int) → Fr g md_X11_checkpoints I I67 → (∀ j, 715 ≤ j → j ≠ 715 → j ≠ 717 → j ≠ 718 → j ≠ 719 → j ≠ 720 → I67 (gr g a0 0) j = I (gr g a0 0) j) → Mm g s I67 J H locs → lv_has ls 3 [(0, .ref a0), (1, .int y33), (2, .int y66)] → W p l e (rmL 4) s m args below meth c H locs 0 0 (MQg below g (PV g md_X11_checkpoints I (fun I1 J1 => J1 = J ∧ ((jm (I1 (gr g a0 0) 717).toInt (I1 (gr g a0 0) 715).toInt (I1 (gr g a0 0) 716).toInt (I1 (gr g a0 0) 722).toInt (I1 (gr g a0 0) 718).toInt (I1 (gr g a0 0) 719).toInt) ∧ (∀ j, 715 ≤ j → j ≠ 715 → j ≠ 717 → j ≠ 718 → j ≠ 719 → j ≠ 720 → I1 (gr g a0 0) j = I (gr g a0 0) j)))) args s) (F0 m 80 ls []) := by
            intro n80
            induction n80 with
            | zero =>
              intro y66 I67 H locs ls k68 k69 k70 k71 k72 k73 k74 f75 f76 hm80 F Hi M hl
              exact absurd hm80 (by omega)
            | succ n80 ih80 =>
              intro y66 I67 H locs ls k68 k69 k70 k71 k72 k73 k74 f75 f76 hm80 F Hi M hl
              refine lv_iload_n C.1 C.2.1 dX11_checkpoints_80 rfl (lv_at hl 2 rfl) ?_
              refine lv_aload_n C.1 C.2.1 dX11_checkpoints_81 rfl (lv_at hl 0 rfl) ?_
              refine gi_X11_7 C M h0_ dX11_checkpoints_82 (fun h77 => ?_)
              refine lv_sipush (v := 716) C.1 C.2.1 dX11_checkpoints_85 (by decide) ?_
              refine a_ldK C M (X := 716) (j := 716) h1 (n := 729) rfl rfl rfl (by omega) (by omega) rfl k70 dX11_checkpoints_88 ?_
              refine n_icmp_ge C (tgt := 126) dX11_checkpoints_89 (by decide) rfl rfl (fun q78 => ?_) (fun q78 => ?_)
              ·
                refine n_iinc C (k := 1) (N := 1) (lv' := fun v => [(1, .int v), (0, .ref a0), (2, .int y66)]) dX11_checkpoints_126 hl rfl (by decide) rfl rfl (by omega) (by omega) (fun _ => rfl) (fun v79 ls ev79 hl => ?_)
                refine lv_goto (tgt := 59) C.1 C.2.1 dX11_checkpoints_129 (by decide) ?_
                exact ih59 v79 I67 _ _ _ k74 k73 k72 k71 k70 k69 k68 (by omega) (by omega) (by omega) F Hi M (lv_sub hl [1, 0] rfl)
              ·
                refine lv_aload_n C.1 C.2.1 dX11_checkpoints_92 rfl (lv_at hl 0 rfl) ?_
                refine gi_X11_7 C M h0_ dX11_checkpoints_93 (fun h80 => ?_)
                refine lv_iconst (v := 0) C.1 C.2.1 dX11_checkpoints_96 (by decide) ?_
                refine lv_iload_n C.1 C.2.1 dX11_checkpoints_97 rfl (lv_at hl 1 rfl) ?_
                refine lv_iload_n C.1 C.2.1 dX11_checkpoints_98 rfl (lv_at hl 2 rfl) ?_
                refine ks_PI C M (ct_X11_at l g I67 J y33 y66 (by omega) (by omega) (by omega) (by omega)) (cw_X11_50 C.2.2.2.2 (by decide)) rfl hl.1 rfl (Nat.le_of_ble_eq_true rfl) dX11_checkpoints_99 ⟨Nat.le_refl _, Nat.le_refl _⟩ (fun r81 H locs p82r M => ?_)
                have p82 : r81.toInt = 40 * y33.toInt + y66.toInt := p82r
                refine n_iadd C (X := 0) dX11_checkpoints_102 rfl rfl (by omega) (by omega) (fun v83 ev83 => ?_)
                refine lv_iconst (v := 0) C.1 C.2.1 dX11_checkpoints_103 (by decide) ?_
                refine a_stU C M h1 (n := 729) rfl rfl rfl (by omega) (by omega) rfl (rng28_lo (by omega)) dX11_checkpoints_104 (fun H locs I84 k86 f85 M => ?_)
                have F := fr_put F h1 (Or.inl (by decide)) f85
                have Hi : ∀ j, 715 ≤ j → j ≠ 715 → j ≠ 717 → j ≠ 718 → j ≠ 719 → j ≠ 720 → I84 (gr g a0 0) j = I (gr g a0 0) j := fun j hj hn715 hn717 hn718 hn719 hn720 => (f85 (gr g a0 0) j (Or.inr (by omega))).trans (Hi j hj hn715 hn717 hn718 hn719 hn720)
                refine lv_aload_n C.1 C.2.1 dX11_checkpoints_105 rfl (lv_at hl 0 rfl) ?_
                refine gi_X11_7 C M h0_ dX11_checkpoints_106 (fun h87 => ?_)
                refine lv_sipush (v := 280) C.1 C.2.1 dX11_checkpoints_109 (by decide) ?_
                refine lv_iload_n C.1 C.2.1 dX11_checkpoints_112 rfl (lv_at hl 1 rfl) ?_
                refine lv_iload_n C.1 C.2.1 dX11_checkpoints_113 rfl (lv_at hl 2 rfl) ?_
                refine ks_PI C M (ct_X11_at l g I84 J y33 y66 (by omega) (by omega) (by omega) (by omega)) (cw_X11_50 C.2.2.2.2 (by decide)) rfl hl.1 rfl (Nat.le_of_ble_eq_true rfl) dX11_checkpoints_114 ⟨Nat.le_refl _, Nat.le_refl _⟩ (fun r88 H locs p89r M => ?_)
                have p89 : r88.toInt = 40 * y33.toInt + y66.toInt := p89r
                refine n_iadd C (X := 280) dX11_checkpoints_117 rfl rfl (by omega) (by omega) (fun v90 ev90 => ?_)
                refine lv_iconst (v := 0) C.1 C.2.1 dX11_checkpoints_118 (by decide) ?_
                refine a_stU C M h1 (n := 729) rfl rfl rfl (by omega) (by omega) rfl (rng28_lo (by omega)) dX11_checkpoints_119 (fun H locs I91 k93 f92 M => ?_)
                have F := fr_put F h1 (Or.inl (by decide)) f92
                have Hi : ∀ j, 715 ≤ j → j ≠ 715 → j ≠ 717 → j ≠ 718 → j ≠ 719 → j ≠ 720 → I91 (gr g a0 0) j = I (gr g a0 0) j := fun j hj hn715 hn717 hn718 hn719 hn720 => (f92 (gr g a0 0) j (Or.inr (by omega))).trans (Hi j hj hn715 hn717 hn718 hn719 hn720)
                refine n_iinc C (k := 2) (N := 1) (lv' := fun v => [(2, .int v), (0, .ref a0), (1, .int y33)]) dX11_checkpoints_120 hl rfl (by decide) rfl rfl (by omega) (by omega) (fun _ => rfl) (fun v94 ls ev94 hl => ?_)
                refine lv_goto (tgt := 80) C.1 C.2.1 dX11_checkpoints_123 (by decide) ?_
                exact ih80 v94 I91 _ _ _ ((f92 (gr g a0 0) 717 (Or.inr (by omega))).trans ((f85 (gr g a0 0) 717 (Or.inr (by omega))).trans k68)) ((f92 (gr g a0 0) 715 (Or.inr (by omega))).trans ((f85 (gr g a0 0) 715 (Or.inr (by omega))).trans k69)) ((f92 (gr g a0 0) 716 (Or.inr (by omega))).trans ((f85 (gr g a0 0) 716 (Or.inr (by omega))).trans k70)) ((f92 (gr g a0 0) 722 (Or.inr (by omega))).trans ((f85 (gr g a0 0) 722 (Or.inr (by omega))).trans k71)) ((f92 (gr g a0 0) 718 (Or.inr (by omega))).trans ((f85 (gr g a0 0) 718 (Or.inr (by omega))).trans k72)) ((f92 (gr g a0 0) 719 (Or.inr (by omega))).trans ((f85 (gr g a0 0) 719 (Or.inr (by omega))).trans k73)) ((f92 (gr g a0 0) 720 (Or.inr (by omega))).trans ((f85 (gr g a0 0) 720 (Or.inr (by omega))).trans k74)) (by omega) (by omega) (by omega) F Hi M (lv_sub hl [1, 2, 0] rfl)
          exact L80 _ v15 I34 _ _ _ k41 k40 k39 k38 k37 k36 k35 (by omega) (by omega) (n_big _) F Hi M (lv_sub hl [1, 2, 0] rfl)
    have cz95 : (0 : Int32).toInt = 0 := rfl
    exact L59 _ 0 I24 _ _ _ k26 ((f25 (gr g a0 0) 719 (Or.inr (by decide))).trans k22) ((f25 (gr g a0 0) 718 (Or.inr (by decide))).trans ((f21 (gr g a0 0) 718 (Or.inr (by decide))).trans k18)) ((f25 (gr g a0 0) 722 (Or.inr (by decide))).trans ((f21 (gr g a0 0) 722 (Or.inr (by decide))).trans ((f17 (gr g a0 0) 722 (Or.inr (by decide))).trans ki5))) ((f25 (gr g a0 0) 716 (Or.inr (by decide))).trans ((f21 (gr g a0 0) 716 (Or.inr (by decide))).trans ((f17 (gr g a0 0) 716 (Or.inr (by decide))).trans ki4))) ((f25 (gr g a0 0) 715 (Or.inr (by decide))).trans ((f21 (gr g a0 0) 715 (Or.inr (by decide))).trans ((f17 (gr g a0 0) 715 (Or.inr (by decide))).trans ki3))) ((f25 (gr g a0 0) 717 (Or.inr (by decide))).trans ((f21 (gr g a0 0) 717 (Or.inr (by decide))).trans ((f17 (gr g a0 0) 717 (Or.inr (by decide))).trans ki2))) (by omega) (by omega) (n_big _) F Hi M (lv_sub hl [1, 0] rfl)
  ·
    have rk96 : (I24 (gr g a0 0) 717).toInt = i2.toInt := congrArg Int32.toInt ((f25 (gr g a0 0) 717 (Or.inr (by decide))).trans ((f21 (gr g a0 0) 717 (Or.inr (by decide))).trans ((f17 (gr g a0 0) 717 (Or.inr (by decide))).trans ki2)))
    have rk97 : (I24 (gr g a0 0) 715).toInt = i3.toInt := congrArg Int32.toInt ((f25 (gr g a0 0) 715 (Or.inr (by decide))).trans ((f21 (gr g a0 0) 715 (Or.inr (by decide))).trans ((f17 (gr g a0 0) 715 (Or.inr (by decide))).trans ki3)))
    have rk98 : (I24 (gr g a0 0) 716).toInt = i4.toInt := congrArg Int32.toInt ((f25 (gr g a0 0) 716 (Or.inr (by decide))).trans ((f21 (gr g a0 0) 716 (Or.inr (by decide))).trans ((f17 (gr g a0 0) 716 (Or.inr (by decide))).trans ki4)))
    have rk99 : (I24 (gr g a0 0) 722).toInt = i5.toInt := congrArg Int32.toInt ((f25 (gr g a0 0) 722 (Or.inr (by decide))).trans ((f21 (gr g a0 0) 722 (Or.inr (by decide))).trans ((f17 (gr g a0 0) 722 (Or.inr (by decide))).trans ki5)))
    have rk100 : (I24 (gr g a0 0) 718).toInt = v15.toInt := congrArg Int32.toInt ((f25 (gr g a0 0) 718 (Or.inr (by decide))).trans ((f21 (gr g a0 0) 718 (Or.inr (by decide))).trans k18))
    have rk101 : (I24 (gr g a0 0) 719).toInt = 0 := congrArg Int32.toInt ((f25 (gr g a0 0) 719 (Or.inr (by decide))).trans k22)
    exact r_PV C M hr hlk F ⟨rfl, ⟨(by simp only [ci2, ci3, ci4, ci5, ci6, ci7, rk96, rk97, rk98, rk99, rk100, rk101]; first | (unfold jm; intro q; exact absurd q (by decide)) | (have e9 := mSp_b (R := i4.toInt) (N := i3.toInt) (S := i5.toInt) (b := v15.toInt) (by omega) (by omega) (by omega) (by omega) (by omega) (by omega) (by omega) (by omega); exact fun _ => ⟨by omega, by omega, by omega⟩)), Hi⟩⟩ dX11_checkpoints_56
