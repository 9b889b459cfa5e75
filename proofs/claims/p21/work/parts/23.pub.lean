set_option maxHeartbeats 4000000 in
set_option maxRecDepth 100000 in
theorem ct_X11_isWord (l : Launch) (g : Gs) (I : Ms) (J : Js) (a0 : Nat) (x1 : Int32) (x2 : Int32) (h0_ : Is g a0 9) : Ctr l yX11_isWord cX11_isWord 3 (Option.some Jvm.ClassFile.FieldType.boolean) 2 g [.ref a0, .int x1, .int x2] I J (PI I J (fun z => 0 ≤ z ∧ z ≤ 1 ∧ (z = 1 → 0 ≤ x1.toInt ∧ x1.toInt ≤ 7 ∧ 0 ≤ x2.toInt ∧ x2.toInt ≤ 39))) := by
  refine m_start (by decide) (Nat.le_of_ble_eq_true rfl) ?_
  intro p e s m args below meth c C hr hlk M ls hl
  have hl : lv_has ls 3 [(0, .ref a0), (1, .int x1), (2, .int x2)] := hl
  have C : CallFix p m c cX11_isWord 3 s args TB RX11 := C
  refine lv_iload_n C.1 C.2.1 dX11_isWord_0 rfl (lv_at hl 1 rfl) ?_
  refine lv_iconst (v := 0) C.1 C.2.1 dX11_isWord_1 (by decide) ?_
  refine lv_aload_n C.1 C.2.1 dX11_isWord_2 rfl (lv_at hl 0 rfl) ?_
  have h1 := is_ref M h0_ 0 28 rfl rfl
  obtain ⟨u2, ku2⟩ : ∃ z : Int32, I (gr g a0 0) 715 = z := ⟨_, rfl⟩
  have tu2 : 3 ≤ u2.toInt ∧ u2.toInt ≤ 7 := m_rng M h1 715 ku2 rfl
  have em3 : (I (gr g a0 0) 715).toInt = u2.toInt := congrArg Int32.toInt ku2
  obtain ⟨u4, ku4⟩ : ∃ z : Int32, I (gr g a0 0) 717 = z := ⟨_, rfl⟩
  have tu4 : 0 ≤ u4.toInt ∧ u4.toInt ≤ 1 := m_rng M h1 717 ku4 rfl
  have em5 : (I (gr g a0 0) 717).toInt = u4.toInt := congrArg Int32.toInt ku4
  refine k_PI C M h0_ (by decide) rfl (ct_X11_disks l g I J a0 h0_) (cw_X11_147 C.2.2.2.2 (by decide)) rfl hl.1 rfl (Nat.le_of_ble_eq_true rfl) dX11_isWord_3 ⟨Nat.le_refl _, Nat.le_refl _⟩ (fun r6 H locs p7r M => ?_)
  have p7 : r6.toInt = (I (gr g a0 0) 715).toInt + (I (gr g a0 0) 717).toInt := p7r
  simp only [em3, em5] at p7
  have p7 : r6.toInt = u2.toInt + u4.toInt := p7
  refine lv_iconst (v := 1) C.1 C.2.1 dX11_isWord_6 (by decide) ?_
  refine n_isub C (Y := 1) dX11_isWord_7 rfl rfl (by omega) (by omega) (fun v8 ev8 => ?_)
  refine ks_PI C M (ct_X11_within l g I J x1 0 v8) (cw_X11_114 C.2.2.2.2 (by decide)) rfl hl.1 rfl (Nat.le_of_ble_eq_true rfl) dX11_isWord_8 ⟨Nat.le_refl _, Nat.le_refl _⟩ (fun r9 H locs p10r M => ?_)
  have p10 : 0 ≤ r9.toInt ∧ r9.toInt ≤ 1 ∧ (r9.toInt = 1 ↔ 0 ≤ x1.toInt ∧ x1.toInt ≤ v8.toInt) := p10r
  refine n_if_eq C (tgt := 36) dX11_isWord_11 (by decide) rfl (fun q11 => ?_) (fun q11 => ?_)
  ·
    refine lv_iconst (v := 0) C.1 C.2.1 dX11_isWord_36 (by decide) ?_
    exact r_PIz C M (z := 0) hr hlk rfl (by omega) (by omega) (by omega) dX11_isWord_37
  ·
    refine lv_iload_n C.1 C.2.1 dX11_isWord_14 rfl (lv_at hl 2 rfl) ?_
    refine lv_iconst (v := 0) C.1 C.2.1 dX11_isWord_15 (by decide) ?_
    refine lv_aload_n C.1 C.2.1 dX11_isWord_16 rfl (lv_at hl 0 rfl) ?_
    refine gi_X11_7 C M h0_ dX11_isWord_17 (fun h12 => ?_)
    refine lv_sipush (v := 716) C.1 C.2.1 dX11_isWord_20 (by decide) ?_
    refine a_ld C M (X := 716) (j := 716) h1 (n := 729) rfl rfl rfl (by omega) (by omega) rfl dX11_isWord_23 (fun v13 kv13 => ?_)
    have tv13 := m_rng M h1 716 kv13 rfl
    have tv13 : 4 ≤ v13.toInt ∧ v13.toInt ≤ 40 := tv13
    refine lv_iconst (v := 1) C.1 C.2.1 dX11_isWord_24 (by decide) ?_
    refine n_isub C (Y := 1) dX11_isWord_25 rfl rfl (by omega) (by omega) (fun v14 ev14 => ?_)
    refine ks_PI C M (ct_X11_within l g I J x2 0 v14) (cw_X11_114 C.2.2.2.2 (by decide)) rfl hl.1 rfl (Nat.le_of_ble_eq_true rfl) dX11_isWord_26 ⟨Nat.le_refl _, Nat.le_refl _⟩ (fun r15 H locs p16r M => ?_)
    have p16 : 0 ≤ r15.toInt ∧ r15.toInt ≤ 1 ∧ (r15.toInt = 1 ↔ 0 ≤ x2.toInt ∧ x2.toInt ≤ v14.toInt) := p16r
    refine n_if_eq C (tgt := 36) dX11_isWord_29 (by decide) rfl (fun q17 => ?_) (fun q17 => ?_)
    ·
      refine lv_iconst (v := 0) C.1 C.2.1 dX11_isWord_36 (by decide) ?_
      exact r_PIz C M (z := 0) hr hlk rfl (by omega) (by omega) (by omega) dX11_isWord_37
    ·
      refine lv_iconst (v := 1) C.1 C.2.1 dX11_isWord_32 (by decide) ?_
      refine lv_goto (tgt := 37) C.1 C.2.1 dX11_isWord_33 (by decide) ?_
      exact r_PIz C M (z := 1) hr hlk rfl (by omega) (by omega) (by omega) dX11_isWord_37

abbrev md_X11_bad : List (Nat × Nat) := [(9, 10), (28, 0)]
set_option maxHeartbeats 4000000 in
set_option maxRecDepth 100000 in
theorem ct_X11_bad (l : Launch) (g : Gs) (I : Ms) (J : Js) (a0 : Nat) (x1 : Int32) (x2 : Int32) (h0_ : Is g a0 9) : Ctr l yX11_bad cX11_bad 3 (Option.some Jvm.ClassFile.FieldType.boolean) 3 g [.ref a0, .int x1, .int x2] I J (PM g md_X11_bad I (fun z I1 J1 => J1 = J ∧ ((0 ≤ z ∧ z ≤ 1) ∧ (∀ j, 715 ≤ j → I1 (gr g a0 0) j = I (gr g a0 0) j)))) := by
  refine m_start (by decide) (Nat.le_of_ble_eq_true rfl) ?_
  intro p e s m args below meth c C hr hlk M ls hl
  have hl : lv_has ls 3 [(0, .ref a0), (1, .int x1), (2, .int x2)] := hl
  have C : CallFix p m c cX11_bad 3 s args TB RX11 := C
  have F : Fr g md_X11_bad I I := fr_rf
  have hS0 := is_ref M h0_ 0 28 rfl rfl
  have Hi : ∀ j, 715 ≤ j → I (gr g a0 0) j = I (gr g a0 0) j := by intros; rfl
  refine lv_aload_n C.1 C.2.1 dX11_bad_0 rfl (lv_at hl 0 rfl) ?_
  refine lv_iconst (v := 0) C.1 C.2.1 dX11_bad_1 (by decide) ?_
  refine pi_X11_39 C M h0_ dX11_bad_2 (fun H locs I1 k3 f2 M => ?_)
  have F := fr_put F h0_ (Or.inr (by decide)) f2
  have Hi : ∀ j, 715 ≤ j → I1 (gr g a0 0) j = I (gr g a0 0) j := fun j hj => (f2 (gr g a0 0) j (Or.inl (is_ne h0_ hS0 (by decide)))).trans (Hi j hj)
  refine lv_aload_n C.1 C.2.1 dX11_bad_5 rfl (lv_at hl 0 rfl) ?_
  refine lv_iload_n C.1 C.2.1 dX11_bad_6 rfl (lv_at hl 1 rfl) ?_
  refine lv_iload_n C.1 C.2.1 dX11_bad_7 rfl (lv_at hl 2 rfl) ?_
  refine k_PI C M h0_ (by decide) rfl (ct_X11_isWord l g I1 J a0 x1 x2 h0_) (cw_X11_150 C.2.2.2.2 (by decide)) rfl hl.1 rfl (Nat.le_of_ble_eq_true rfl) dX11_bad_8 ⟨Nat.le_refl _, Nat.le_refl _⟩ (fun r4 H locs p5r M => ?_)
  have p5 : 0 ≤ r4.toInt ∧ r4.toInt ≤ 1 ∧ (r4.toInt = 1 → 0 ≤ x1.toInt ∧ x1.toInt ≤ 7 ∧ 0 ≤ x2.toInt ∧ x2.toInt ≤ 39) := p5r
  refine n_if_eq C (tgt := 44) dX11_bad_11 (by decide) rfl (fun q6 => ?_) (fun q6 => ?_)
  ·
    refine lv_iconst (v := 0) C.1 C.2.1 dX11_bad_44 (by decide) ?_
    exact r_PMz C M (z := 0) hr hlk F rfl (by omega) (by omega) ⟨rfl, ⟨(by omega), Hi⟩⟩ dX11_bad_45
  ·
    refine lv_aload_n C.1 C.2.1 dX11_bad_14 rfl (lv_at hl 0 rfl) ?_
    refine gi_X11_7 C M h0_ dX11_bad_15 (fun h7 => ?_)
    refine lv_sipush (v := 721) C.1 C.2.1 dX11_bad_18 (by decide) ?_
    refine a_ld C M (X := 721) (j := 721) h7 (n := 729) rfl rfl rfl (by omega) (by omega) rfl dX11_bad_21 (fun v8 kv8 => ?_)
    have tv8 := m_rng M h7 721 kv8 rfl
    have tv8 : -1 ≤ v8.toInt ∧ v8.toInt ≤ 6 := tv8
    refine lv_iload_n C.1 C.2.1 dX11_bad_22 rfl (lv_at hl 1 rfl) ?_
    refine n_icmp_eq C (tgt := 44) dX11_bad_23 (by decide) rfl rfl (fun q9 => ?_) (fun q9 => ?_)
    ·
      refine lv_iconst (v := 0) C.1 C.2.1 dX11_bad_44 (by decide) ?_
      exact r_PMz C M (z := 0) hr hlk F rfl (by omega) (by omega) ⟨rfl, ⟨(by omega), Hi⟩⟩ dX11_bad_45
    ·
      refine lv_aload_n C.1 C.2.1 dX11_bad_26 rfl (lv_at hl 0 rfl) ?_
      refine gi_X11_7 C M h0_ dX11_bad_27 (fun h10 => ?_)
      refine lv_sipush (v := 280) C.1 C.2.1 dX11_bad_30 (by decide) ?_
      refine lv_iload_n C.1 C.2.1 dX11_bad_33 rfl (lv_at hl 1 rfl) ?_
      refine lv_iload_n C.1 C.2.1 dX11_bad_34 rfl (lv_at hl 2 rfl) ?_
      refine ks_PI C M (ct_X11_at l g I1 J x1 x2 (by omega) (by omega) (by omega) (by omega)) (cw_X11_50 C.2.2.2.2 (by decide)) rfl hl.1 rfl (Nat.le_of_ble_eq_true rfl) dX11_bad_35 ⟨Nat.le_refl _, Nat.le_refl _⟩ (fun r11 H locs p12r M => ?_)
      have p12 : r11.toInt = 40 * x1.toInt + x2.toInt := p12r
      refine n_iadd C (X := 280) dX11_bad_38 rfl rfl (by omega) (by omega) (fun v13 ev13 => ?_)
      refine a_ld C M h7 (n := 729) rfl rfl rfl (by omega) (by omega) rfl dX11_bad_39 (fun v14 kv14 => ?_)
      refine lv_iconst (v := 1) C.1 C.2.1 dX11_bad_40 (by decide) ?_
      refine n_icmp_ne C (tgt := 46) (Y := 1) dX11_bad_41 (by decide) rfl rfl (fun q15 => ?_) (fun q15 => ?_)
      ·
        refine lv_aload_n C.1 C.2.1 dX11_bad_46 rfl (lv_at hl 0 rfl) ?_
        refine gi_X11_7 C M h0_ dX11_bad_47 (fun h16 => ?_)
        refine lv_sipush (v := 280) C.1 C.2.1 dX11_bad_50 (by decide) ?_
        refine lv_iload_n C.1 C.2.1 dX11_bad_53 rfl (lv_at hl 1 rfl) ?_
        refine lv_iload_n C.1 C.2.1 dX11_bad_54 rfl (lv_at hl 2 rfl) ?_
        refine ks_PI C M (ct_X11_at l g I1 J x1 x2 (by omega) (by omega) (by omega) (by omega)) (cw_X11_50 C.2.2.2.2 (by decide)) rfl hl.1 rfl (Nat.le_of_ble_eq_true rfl) dX11_bad_55 ⟨Nat.le_refl _, Nat.le_refl _⟩ (fun r17 H locs p18r M => ?_)
        have p18 : r17.toInt = 40 * x1.toInt + x2.toInt := p18r
        refine n_iadd C (X := 280) dX11_bad_58 rfl rfl (by omega) (by omega) (fun v19 ev19 => ?_)
        refine lv_iconst (v := 1) C.1 C.2.1 dX11_bad_59 (by decide) ?_
        refine a_stU C M h7 (n := 729) rfl rfl rfl (by omega) (by omega) rfl (rng28_lo (by omega)) dX11_bad_60 (fun H locs I20 k22 f21 M => ?_)
        have F := fr_put F h7 (Or.inl (by decide)) f21
        have Hi : ∀ j, 715 ≤ j → I20 (gr g a0 0) j = I (gr g a0 0) j := fun j hj => (f21 (gr g a0 0) j (Or.inr (by omega))).trans (Hi j hj)
        refine lv_iconst (v := 1) C.1 C.2.1 dX11_bad_61 (by decide) ?_
        exact r_PMz C M (z := 1) hr hlk F rfl (by omega) (by omega) ⟨rfl, ⟨(by omega), Hi⟩⟩ dX11_bad_62
      ·
        refine lv_iconst (v := 0) C.1 C.2.1 dX11_bad_44 (by decide) ?_
        exact r_PMz C M (z := 0) hr hlk F rfl (by omega) (by omega) ⟨rfl, ⟨(by omega), Hi⟩⟩ dX11_bad_45

abbrev md_X11_poke : List (Nat × Nat) := [(9, 10), (28, 0)]
set_option maxHeartbeats 4000000 in
set_option maxRecDepth 100000 in
theorem ct_X11_poke (l : Launch) (g : Gs) (I : Ms) (J : Js) (a0 : Nat) (x1 : Int32) (x2 : Int32) (x3 : Int32) (h0_ : Is g a0 9) : Ctr l yX11_poke cX11_poke 4 (Option.some Jvm.ClassFile.FieldType.boolean) 3 g [.ref a0, .int x1, .int x2, .int x3] I J (PM g md_X11_poke I (fun z I1 J1 => J1 = J ∧ ((0 ≤ z ∧ z ≤ 1) ∧ (∀ j, 715 ≤ j → I1 (gr g a0 0) j = I (gr g a0 0) j)))) := by
  refine m_start (by decide) (Nat.le_of_ble_eq_true rfl) ?_
  intro p e s m args below meth c C hr hlk M ls hl
  have hl : lv_has ls 4 [(0, .ref a0), (1, .int x1), (2, .int x2), (3, .int x3)] := hl
  have C : CallFix p m c cX11_poke 4 s args TB RX11 := C
  have F : Fr g md_X11_poke I I := fr_rf
  have hS0 := is_ref M h0_ 0 28 rfl rfl
  have Hi : ∀ j, 715 ≤ j → I (gr g a0 0) j = I (gr g a0 0) j := by intros; rfl
  refine lv_aload_n C.1 C.2.1 dX11_poke_0 rfl (lv_at hl 0 rfl) ?_
  refine lv_iconst (v := 0) C.1 C.2.1 dX11_poke_1 (by decide) ?_
  refine pi_X11_39 C M h0_ dX11_poke_2 (fun H locs I1 k3 f2 M => ?_)
  have F := fr_put F h0_ (Or.inr (by decide)) f2
  have Hi : ∀ j, 715 ≤ j → I1 (gr g a0 0) j = I (gr g a0 0) j := fun j hj => (f2 (gr g a0 0) j (Or.inl (is_ne h0_ hS0 (by decide)))).trans (Hi j hj)
  refine lv_aload_n C.1 C.2.1 dX11_poke_5 rfl (lv_at hl 0 rfl) ?_
  refine lv_iload_n C.1 C.2.1 dX11_poke_6 rfl (lv_at hl 1 rfl) ?_
  refine lv_iload_n C.1 C.2.1 dX11_poke_7 rfl (lv_at hl 2 rfl) ?_
  refine k_PI C M h0_ (by decide) rfl (ct_X11_isWord l g I1 J a0 x1 x2 h0_) (cw_X11_150 C.2.2.2.2 (by decide)) rfl hl.1 rfl (Nat.le_of_ble_eq_true rfl) dX11_poke_8 ⟨Nat.le_refl _, Nat.le_refl _⟩ (fun r4 H locs p5r M => ?_)
  have p5 : 0 ≤ r4.toInt ∧ r4.toInt ≤ 1 ∧ (r4.toInt = 1 → 0 ≤ x1.toInt ∧ x1.toInt ≤ 7 ∧ 0 ≤ x2.toInt ∧ x2.toInt ≤ 39) := p5r
  refine n_if_eq C (tgt := 26) dX11_poke_11 (by decide) rfl (fun q6 => ?_) (fun q6 => ?_)
  ·
    refine lv_iconst (v := 0) C.1 C.2.1 dX11_poke_26 (by decide) ?_
    exact r_PMz C M (z := 0) hr hlk F rfl (by omega) (by omega) ⟨rfl, ⟨(by omega), Hi⟩⟩ dX11_poke_27
  ·
    refine lv_aload_n C.1 C.2.1 dX11_poke_14 rfl (lv_at hl 0 rfl) ?_
    refine gi_X11_7 C M h0_ dX11_poke_15 (fun h7 => ?_)
    refine lv_sipush (v := 721) C.1 C.2.1 dX11_poke_18 (by decide) ?_
    refine a_ld C M (X := 721) (j := 721) h7 (n := 729) rfl rfl rfl (by omega) (by omega) rfl dX11_poke_21 (fun v8 kv8 => ?_)
    have tv8 := m_rng M h7 721 kv8 rfl
    have tv8 : -1 ≤ v8.toInt ∧ v8.toInt ≤ 6 := tv8
    refine lv_iload_n C.1 C.2.1 dX11_poke_22 rfl (lv_at hl 1 rfl) ?_
    refine n_icmp_ne C (tgt := 28) dX11_poke_23 (by decide) rfl rfl (fun q9 => ?_) (fun q9 => ?_)
    ·
      refine lv_aload_n C.1 C.2.1 dX11_poke_28 rfl (lv_at hl 0 rfl) ?_
      refine gi_X11_7 C M h0_ dX11_poke_29 (fun h10 => ?_)
      refine lv_iconst (v := 0) C.1 C.2.1 dX11_poke_32 (by decide) ?_
      refine lv_iload_n C.1 C.2.1 dX11_poke_33 rfl (lv_at hl 1 rfl) ?_
      refine lv_iload_n C.1 C.2.1 dX11_poke_34 rfl (lv_at hl 2 rfl) ?_
      refine ks_PI C M (ct_X11_at l g I1 J x1 x2 (by omega) (by omega) (by omega) (by omega)) (cw_X11_50 C.2.2.2.2 (by decide)) rfl hl.1 rfl (Nat.le_of_ble_eq_true rfl) dX11_poke_35 ⟨Nat.le_refl _, Nat.le_refl _⟩ (fun r11 H locs p12r M => ?_)
      have p12 : r11.toInt = 40 * x1.toInt + x2.toInt := p12r
      refine n_iadd C (X := 0) dX11_poke_38 rfl rfl (by omega) (by omega) (fun v13 ev13 => ?_)
      refine lv_iload_n C.1 C.2.1 dX11_poke_39 rfl (lv_at hl 3 rfl) ?_
      refine a_stU C M h7 (n := 729) rfl rfl rfl (by omega) (by omega) rfl (rng28_lo (by omega)) dX11_poke_40 (fun H locs I14 k16 f15 M => ?_)
      have F := fr_put F h7 (Or.inl (by decide)) f15
      have Hi : ∀ j, 715 ≤ j → I14 (gr g a0 0) j = I (gr g a0 0) j := fun j hj => (f15 (gr g a0 0) j (Or.inr (by omega))).trans (Hi j hj)
      refine lv_aload_n C.1 C.2.1 dX11_poke_41 rfl (lv_at hl 0 rfl) ?_
      refine gi_X11_7 C M h0_ dX11_poke_42 (fun h17 => ?_)
      refine lv_sipush (v := 280) C.1 C.2.1 dX11_poke_45 (by decide) ?_
      refine lv_iload_n C.1 C.2.1 dX11_poke_48 rfl (lv_at hl 1 rfl) ?_
      refine lv_iload_n C.1 C.2.1 dX11_poke_49 rfl (lv_at hl 2 rfl) ?_
      refine ks_PI C M (ct_X11_at l g I14 J x1 x2 (by omega) (by omega) (by omega) (by omega)) (cw_X11_50 C.2.2.2.2 (by decide)) rfl hl.1 rfl (Nat.le_of_ble_eq_true rfl) dX11_poke_50 ⟨Nat.le_refl _, Nat.le_refl _⟩ (fun r18 H locs p19r M => ?_)
      have p19 : r18.toInt = 40 * x1.toInt + x2.toInt := p19r
      refine n_iadd C (X := 280) dX11_poke_53 rfl rfl (by omega) (by omega) (fun v20 ev20 => ?_)
      refine lv_iconst (v := 0) C.1 C.2.1 dX11_poke_54 (by decide) ?_
      refine a_stU C M h7 (n := 729) rfl rfl rfl (by omega) (by omega) rfl (rng28_lo (by omega)) dX11_poke_55 (fun H locs I21 k23 f22 M => ?_)
      have F := fr_put F h7 (Or.inl (by decide)) f22
      have Hi : ∀ j, 715 ≤ j → I21 (gr g a0 0) j = I (gr g a0 0) j := fun j hj => (f22 (gr g a0 0) j (Or.inr (by omega))).trans (Hi j hj)
      refine lv_iconst (v := 1) C.1 C.2.1 dX11_poke_56 (by decide) ?_
      exact r_PMz C M (z := 1) hr hlk F rfl (by omega) (by omega) ⟨rfl, ⟨(by omega), Hi⟩⟩ dX11_poke_57
    ·
      refine lv_iconst (v := 0) C.1 C.2.1 dX11_poke_26 (by decide) ?_
      exact r_PMz C M (z := 0) hr hlk F rfl (by omega) (by omega) ⟨rfl, ⟨(by omega), Hi⟩⟩ dX11_poke_27

abbrev md_X11_lose : List (Nat × Nat) := [(9, 10), (28, 722)]
set_option maxHeartbeats 4000000 in
set_option maxRecDepth 100000 in
theorem ct_X11_lose (l : Launch) (g : Gs) (I : Ms) (J : Js) (a0 : Nat) (x1 : Int32) (h0_ : Is g a0 9) (g0 : jm (I (gr g a0 0) 717).toInt (I (gr g a0 0) 715).toInt (I (gr g a0 0) 716).toInt (I (gr g a0 0) 722).toInt (I (gr g a0 0) 718).toInt (I (gr g a0 0) 719).toInt) : Ctr l yX11_lose cX11_lose 2 (Option.some Jvm.ClassFile.FieldType.boolean) 2 g [.ref a0, .int x1] I J (PM g md_X11_lose I (fun z I1 J1 => J1 = J ∧ ((0 ≤ z ∧ z ≤ 1) ∧ (∀ j, 715 ≤ j → j ≠ 721 → I1 (gr g a0 0) j = I (gr g a0 0) j)))) := by
  refine m_start (by decide) (Nat.le_of_ble_eq_true rfl) ?_
  intro p e s m args below meth c C hr hlk M ls hl
  have hl : lv_has ls 2 [(0, .ref a0), (1, .int x1)] := hl
  have C : CallFix p m c cX11_lose 2 s args TB RX11 := C
  have F : Fr g md_X11_lose I I := fr_rf
  have hS0 := is_ref M h0_ 0 28 rfl rfl
  have Hi : ∀ j, 715 ≤ j → j ≠ 721 → I (gr g a0 0) j = I (gr g a0 0) j := by intros; rfl
  have h1 := is_ref M h0_ 0 28 rfl rfl
  obtain ⟨i2, ki2⟩ : ∃ z : Int32, I (gr g a0 0) 717 = z := ⟨_, rfl⟩
  have ti2 : 0 ≤ i2.toInt ∧ i2.toInt ≤ 1 := m_rng M h1 717 ki2 rfl
  have ci2 : (I (gr g a0 0) 717).toInt = i2.toInt := congrArg Int32.toInt ki2
  obtain ⟨i3, ki3⟩ : ∃ z : Int32, I (gr g a0 0) 715 = z := ⟨_, rfl⟩
  have ti3 : 3 ≤ i3.toInt ∧ i3.toInt ≤ 7 := m_rng M h1 715 ki3 rfl
  have ci3 : (I (gr g a0 0) 715).toInt = i3.toInt := congrArg Int32.toInt ki3
  obtain ⟨i4, ki4⟩ : ∃ z : Int32, I (gr g a0 0) 716 = z := ⟨_, rfl⟩
  have ti4 : 4 ≤ i4.toInt ∧ i4.toInt ≤ 40 := m_rng M h1 716 ki4 rfl
  have ci4 : (I (gr g a0 0) 716).toInt = i4.toInt := congrArg Int32.toInt ki4
  obtain ⟨i5, ki5⟩ : ∃ z : Int32, I (gr g a0 0) 722 = z := ⟨_, rfl⟩
  have ti5 : 1 ≤ i5.toInt ∧ i5.toInt ≤ 4 := m_rng M h1 722 ki5 rfl
  have ci5 : (I (gr g a0 0) 722).toInt = i5.toInt := congrArg Int32.toInt ki5
  obtain ⟨i6, ki6⟩ : ∃ z : Int32, I (gr g a0 0) 718 = z := ⟨_, rfl⟩
  have ti6 : 0 ≤ i6.toInt ∧ i6.toInt ≤ 200 := m_rng M h1 718 ki6 rfl
  have ci6 : (I (gr g a0 0) 718).toInt = i6.toInt := congrArg Int32.toInt ki6
  obtain ⟨i7, ki7⟩ : ∃ z : Int32, I (gr g a0 0) 719 = z := ⟨_, rfl⟩
  have ti7 : 0 ≤ i7.toInt ∧ i7.toInt ≤ 200 := m_rng M h1 719 ki7 rfl
  have ci7 : (I (gr g a0 0) 719).toInt = i7.toInt := congrArg Int32.toInt ki7
  simp only [ci2, ci3, ci4, ci5, ci6, ci7] at g0
  have hj6 : i2.toInt = 1 → i3.toInt ≤ 6 := fun q => (g0 q).1
  refine lv_aload_n C.1 C.2.1 dX11_lose_0 rfl (lv_at hl 0 rfl) ?_
  refine lv_iconst (v := 0) C.1 C.2.1 dX11_lose_1 (by decide) ?_
  refine pi_X11_39 C M h0_ dX11_lose_2 (fun H locs I8 k10 f9 M => ?_)
  have F := fr_put F h0_ (Or.inr (by decide)) f9
  have Hi : ∀ j, 715 ≤ j → j ≠ 721 → I8 (gr g a0 0) j = I (gr g a0 0) j := fun j hj hn721 => (f9 (gr g a0 0) j (Or.inl (is_ne h0_ hS0 (by decide)))).trans (Hi j hj hn721)
  refine lv_iload_n C.1 C.2.1 dX11_lose_5 rfl (lv_at hl 1 rfl) ?_
  refine lv_iconst (v := 0) C.1 C.2.1 dX11_lose_6 (by decide) ?_
  refine lv_aload_n C.1 C.2.1 dX11_lose_7 rfl (lv_at hl 0 rfl) ?_
  have em11 : (I8 (gr g a0 0) 715).toInt = i3.toInt := congrArg Int32.toInt ((f9 (gr g a0 0) 715 (Or.inl (is_ne h0_ h1 (by decide)))).trans ki3)
  have em12 : (I8 (gr g a0 0) 717).toInt = i2.toInt := congrArg Int32.toInt ((f9 (gr g a0 0) 717 (Or.inl (is_ne h0_ h1 (by decide)))).trans ki2)
  refine k_PI C M h0_ (by decide) rfl (ct_X11_disks l g I8 J a0 h0_) (cw_X11_147 C.2.2.2.2 (by decide)) rfl hl.1 rfl (Nat.le_of_ble_eq_true rfl) dX11_lose_8 ⟨Nat.le_refl _, Nat.le_refl _⟩ (fun r13 H locs p14r M => ?_)
  have p14 : r13.toInt = (I8 (gr g a0 0) 715).toInt + (I8 (gr g a0 0) 717).toInt := p14r
  simp only [em11, em12] at p14
  have p14 : r13.toInt = i3.toInt + i2.toInt := p14
  refine lv_iconst (v := 1) C.1 C.2.1 dX11_lose_11 (by decide) ?_
  refine n_isub C (Y := 1) dX11_lose_12 rfl rfl (by omega) (by omega) (fun v15 ev15 => ?_)
  refine ks_PI C M (ct_X11_within l g I8 J x1 0 v15) (cw_X11_114 C.2.2.2.2 (by decide)) rfl hl.1 rfl (Nat.le_of_ble_eq_true rfl) dX11_lose_13 ⟨Nat.le_refl _, Nat.le_refl _⟩ (fun r16 H locs p17r M => ?_)
  have p17 : 0 ≤ r16.toInt ∧ r16.toInt ≤ 1 ∧ (r16.toInt = 1 ↔ 0 ≤ x1.toInt ∧ x1.toInt ≤ v15.toInt) := p17r
  refine n_if_eq C (tgt := 30) dX11_lose_16 (by decide) rfl (fun q18 => ?_) (fun q18 => ?_)
  ·
    refine lv_iconst (v := 0) C.1 C.2.1 dX11_lose_30 (by decide) ?_
    exact r_PMz C M (z := 0) hr hlk F rfl (by omega) (by omega) ⟨rfl, ⟨(by omega), Hi⟩⟩ dX11_lose_31
  ·
    refine lv_aload_n C.1 C.2.1 dX11_lose_19 rfl (lv_at hl 0 rfl) ?_
    refine gi_X11_7 C M h0_ dX11_lose_20 (fun h19 => ?_)
    refine lv_sipush (v := 721) C.1 C.2.1 dX11_lose_23 (by decide) ?_
    refine a_ld C M (X := 721) (j := 721) h1 (n := 729) rfl rfl rfl (by omega) (by omega) rfl dX11_lose_26 (fun v20 kv20 => ?_)
    have tv20 := m_rng M h1 721 kv20 rfl
    have tv20 : -1 ≤ v20.toInt ∧ v20.toInt ≤ 6 := tv20
    refine n_if_lt C (tgt := 32) dX11_lose_27 (by decide) rfl (fun q21 => ?_) (fun q21 => ?_)
    ·
      refine lv_aload_n C.1 C.2.1 dX11_lose_32 rfl (lv_at hl 0 rfl) ?_
      refine gi_X11_7 C M h0_ dX11_lose_33 (fun h22 => ?_)
      refine lv_sipush (v := 721) C.1 C.2.1 dX11_lose_36 (by decide) ?_
      refine lv_iload_n C.1 C.2.1 dX11_lose_39 rfl (lv_at hl 1 rfl) ?_
      refine a_st C M (X := 721) (j := 721) h1 (n := 729) rfl rfl rfl (by omega) (by omega) rfl rfl (lo := -1) (hi := 6) rfl (by omega) (by omega) dX11_lose_40 (fun H locs I23 k25 f24 M => ?_)
      have F := fr_put F h1 (Or.inr (by decide)) f24
      have Hi : ∀ j, 715 ≤ j → j ≠ 721 → I23 (gr g a0 0) j = I (gr g a0 0) j := fun j hj hn721 => (f24 (gr g a0 0) j (Or.inr (by omega))).trans (Hi j hj hn721)
      refine lv_iconst (v := 1) C.1 C.2.1 dX11_lose_41 (by decide) ?_
      exact r_PMz C M (z := 1) hr hlk F rfl (by omega) (by omega) ⟨rfl, ⟨(by omega), Hi⟩⟩ dX11_lose_42
    ·
      refine lv_iconst (v := 0) C.1 C.2.1 dX11_lose_30 (by decide) ?_
      exact r_PMz C M (z := 0) hr hlk F rfl (by omega) (by omega) ⟨rfl, ⟨(by omega), Hi⟩⟩ dX11_lose_31

abbrev md_X11_request : List (Nat × Nat) := [(9, 10)]
set_option maxHeartbeats 4000000 in
set_option maxRecDepth 100000 in
theorem ct_X11_request (l : Launch) (g : Gs) (I : Ms) (J : Js) (a0 : Nat) (x1 : Int32) (x2 : Int32) (h0_ : Is g a0 9) : Ctr l yX11_request cX11_request 4 (Option.some Jvm.ClassFile.FieldType.int) 2 g [.ref a0, .int x1, .int x2] I J (PM g md_X11_request I (fun z I1 J1 => J1 = J ∧ (True))) := by
  refine m_start (by decide) (Nat.le_of_ble_eq_true rfl) ?_
  intro p e s m args below meth c C hr hlk M ls hl
  have hl : lv_has ls 4 [(0, .ref a0), (1, .int x1), (2, .int x2)] := hl
  have C : CallFix p m c cX11_request 4 s args TB RX11 := C
  have F : Fr g md_X11_request I I := fr_rf
  refine lv_aload_n C.1 C.2.1 dX11_request_0 rfl (lv_at hl 0 rfl) ?_
  refine lv_iconst (v := 0) C.1 C.2.1 dX11_request_1 (by decide) ?_
  refine pi_X11_39 C M h0_ dX11_request_2 (fun H locs I1 k3 f2 M => ?_)
  have F := fr_put F h0_ (Or.inr (by decide)) f2
  refine lv_iload_n C.1 C.2.1 dX11_request_5 rfl (lv_at hl 2 rfl) ?_
  refine lv_iconst (v := 0) C.1 C.2.1 dX11_request_6 (by decide) ?_
  refine lv_iconst (v := 3) C.1 C.2.1 dX11_request_7 (by decide) ?_
  refine ks_PI C M (ct_X11_within l g I1 J x2 0 3) (cw_X11_114 C.2.2.2.2 (by decide)) rfl hl.1 rfl (Nat.le_of_ble_eq_true rfl) dX11_request_8 ⟨Nat.le_refl _, Nat.le_refl _⟩ (fun r4 H locs p5r M => ?_)
  have p5 : 0 ≤ r4.toInt ∧ r4.toInt ≤ 1 ∧ (r4.toInt = 1 ↔ 0 ≤ x2.toInt ∧ x2.toInt ≤ 3) := p5r
  refine n_if_ne C (tgt := 16) dX11_request_11 (by decide) rfl (fun q6 => ?_) (fun q6 => ?_)
  ·
    refine lv_iload_n C.1 C.2.1 dX11_request_16 rfl (lv_at hl 1 rfl) ?_
    refine lv_iconst (v := -1) C.1 C.2.1 dX11_request_17 (by decide) ?_
    refine n_icmp_ne C (tgt := 30) (Y := (-1)) dX11_request_18 (by decide) rfl rfl (fun q7 => ?_) (fun q7 => ?_)
    ·
      refine lv_iload_n C.1 C.2.1 dX11_request_30 rfl (lv_at hl 1 rfl) ?_
      refine lv_iconst (v := 0) C.1 C.2.1 dX11_request_31 (by decide) ?_
      refine lv_aload_n C.1 C.2.1 dX11_request_32 rfl (lv_at hl 0 rfl) ?_
      refine gi_X11_7 C M h0_ dX11_request_33 (fun h8 => ?_)
      refine lv_sipush (v := 725) C.1 C.2.1 dX11_request_36 (by decide) ?_
      refine a_ld C M (X := 725) (j := 725) h8 (n := 729) rfl rfl rfl (by omega) (by omega) rfl dX11_request_39 (fun v9 kv9 => ?_)
      have tv9 := m_rng M h8 725 kv9 rfl
      have tv9 : 0 ≤ v9.toInt ∧ v9.toInt ≤ 20 := tv9
      refine lv_iconst (v := 1) C.1 C.2.1 dX11_request_40 (by decide) ?_
      refine n_isub C (Y := 1) dX11_request_41 rfl rfl (by omega) (by omega) (fun v10 ev10 => ?_)
      refine ks_PI C M (ct_X11_within l g I1 J x1 0 v10) (cw_X11_114 C.2.2.2.2 (by decide)) rfl hl.1 rfl (Nat.le_of_ble_eq_true rfl) dX11_request_42 ⟨Nat.le_refl _, Nat.le_refl _⟩ (fun r11 H locs p12r M => ?_)
      have p12 : 0 ≤ r11.toInt ∧ r11.toInt ≤ 1 ∧ (r11.toInt = 1 ↔ 0 ≤ x1.toInt ∧ x1.toInt ≤ v10.toInt) := p12r
      refine n_if_ne C (tgt := 50) dX11_request_45 (by decide) rfl (fun q13 => ?_) (fun q13 => ?_)
      ·
        refine lv_sipush (v := 608) C.1 C.2.1 dX11_request_50 (by decide) ?_
        refine lv_iconst (v := 5) C.1 C.2.1 dX11_request_53 (by decide) ?_
        refine lv_iload_n C.1 C.2.1 dX11_request_54 rfl (lv_at hl 1 rfl) ?_
        refine n_imul C (X := 5) dX11_request_55 rfl rfl (by omega) (by omega) (fun v14 ev14 => ?_)
        refine n_iadd C (X := 608) dX11_request_56 rfl rfl (by omega) (by omega) (fun v15 ev15 => ?_)
        refine lv_istore_n (lv' := [(3, .int v15), (0, .ref a0), (1, .int x1), (2, .int x2)]) C.1 C.2.1 dX11_request_57 rfl hl (by decide) rfl (fun ls hl => ?_)
        refine lv_iload_n C.1 C.2.1 dX11_request_58 rfl (lv_at hl 3 rfl) ?_
        refine n_if_ne C (tgt := 71) dX11_request_59 (by decide) rfl (fun q16 => ?_) (fun q16 => ?_)
        ·
          refine lv_iload_n C.1 C.2.1 dX11_request_71 rfl (lv_at hl 3 rfl) ?_
          refine lv_iconst (v := 1) C.1 C.2.1 dX11_request_72 (by decide) ?_
          refine n_icmp_ne C (tgt := 87) (Y := 1) dX11_request_73 (by decide) rfl rfl (fun q17 => ?_) (fun q17 => ?_)
          ·
            refine lv_iload_n C.1 C.2.1 dX11_request_87 rfl (lv_at hl 3 rfl) ?_
            refine lv_iconst (v := 2) C.1 C.2.1 dX11_request_88 (by decide) ?_
            refine n_icmp_ne C (tgt := 103) (Y := 2) dX11_request_89 (by decide) rfl rfl (fun q18 => ?_) (fun q18 => ?_)
            ·
              refine lv_aload_n C.1 C.2.1 dX11_request_103 rfl (lv_at hl 1 rfl) ?_
              refine gi_X11_7 C M h0_ dX11_request_104 (fun h19 => ?_)
              refine lv_iload_n C.1 C.2.1 dX11_request_107 rfl (lv_at hl 0 rfl) ?_
              refine lv_iconst (v := 4) C.1 C.2.1 dX11_request_108 (by decide) ?_
              refine n_iadd C (Y := 4) dX11_request_109 rfl rfl (by omega) (by omega) (fun v20 ev20 => ?_)
              refine a_ld C M h8 (n := 729) rfl rfl rfl (by omega) (by omega) rfl dX11_request_110 (fun v21 kv21 => ?_)
              exact r_PM C M hr hlk F rfl ⟨rfl, trivial⟩ dX11_request_111
            ·
              refine lv_aload_n C.1 C.2.1 dX11_request_92 rfl (lv_at hl 1 rfl) ?_
              refine gi_X11_7 C M h0_ dX11_request_93 (fun h22 => ?_)
              refine lv_iload_n C.1 C.2.1 dX11_request_96 rfl (lv_at hl 0 rfl) ?_
              refine lv_iconst (v := 3) C.1 C.2.1 dX11_request_97 (by decide) ?_
              refine n_iadd C (Y := 3) dX11_request_98 rfl rfl (by omega) (by omega) (fun v23 ev23 => ?_)
              refine a_ld C M h8 (n := 729) rfl rfl rfl (by omega) (by omega) rfl dX11_request_99 (fun v24 kv24 => ?_)
              refine lv_goto (tgt := 111) C.1 C.2.1 dX11_request_100 (by decide) ?_
              exact r_PM C M hr hlk F rfl ⟨rfl, trivial⟩ dX11_request_111
          ·
            refine lv_aload_n C.1 C.2.1 dX11_request_76 rfl (lv_at hl 1 rfl) ?_
            refine gi_X11_7 C M h0_ dX11_request_77 (fun h25 => ?_)
            refine lv_iload_n C.1 C.2.1 dX11_request_80 rfl (lv_at hl 0 rfl) ?_
            refine lv_iconst (v := 1) C.1 C.2.1 dX11_request_81 (by decide) ?_
            refine n_iadd C (Y := 1) dX11_request_82 rfl rfl (by omega) (by omega) (fun v26 ev26 => ?_)
            refine a_ld C M h8 (n := 729) rfl rfl rfl (by omega) (by omega) rfl dX11_request_83 (fun v27 kv27 => ?_)
            refine lv_goto (tgt := 111) C.1 C.2.1 dX11_request_84 (by decide) ?_
            exact r_PM C M hr hlk F rfl ⟨rfl, trivial⟩ dX11_request_111
        ·
          refine lv_aload_n C.1 C.2.1 dX11_request_62 rfl (lv_at hl 1 rfl) ?_
          refine gi_X11_7 C M h0_ dX11_request_63 (fun h28 => ?_)
          refine lv_iload_n C.1 C.2.1 dX11_request_66 rfl (lv_at hl 0 rfl) ?_
          refine a_ld C M h8 (n := 729) rfl rfl rfl (by omega) (by omega) rfl dX11_request_67 (fun v29 kv29 => ?_)
          refine lv_goto (tgt := 111) C.1 C.2.1 dX11_request_68 (by decide) ?_
          exact r_PM C M hr hlk F rfl ⟨rfl, trivial⟩ dX11_request_111
      ·
        refine lv_iconst (v := -1) C.1 C.2.1 dX11_request_48 (by decide) ?_
        exact r_PM C M (z := (-1)) hr hlk F rfl ⟨rfl, trivial⟩ dX11_request_49
    ·
      refine lv_aload_n C.1 C.2.1 dX11_request_21 rfl (lv_at hl 0 rfl) ?_
      refine gi_X11_7 C M h0_ dX11_request_22 (fun h30 => ?_)
      refine lv_sipush (v := 725) C.1 C.2.1 dX11_request_25 (by decide) ?_
      refine a_ld C M (X := 725) (j := 725) h30 (n := 729) rfl rfl rfl (by omega) (by omega) rfl dX11_request_28 (fun v31 kv31 => ?_)
      have tv31 := m_rng M h30 725 kv31 rfl
      have tv31 : 0 ≤ v31.toInt ∧ v31.toInt ≤ 20 := tv31
      exact r_PM C M hr hlk F rfl ⟨rfl, trivial⟩ dX11_request_29
  ·
    refine lv_iconst (v := -1) C.1 C.2.1 dX11_request_14 (by decide) ?_
    exact r_PM C M (z := (-1)) hr hlk F rfl ⟨rfl, trivial⟩ dX11_request_15

abbrev md_X11_served : List (Nat × Nat) := [(9, 10)]
set_option maxHeartbeats 4000000 in
set_option maxRecDepth 100000 in
theorem ct_X11_served (l : Launch) (g : Gs) (I : Ms) (J : Js) (a0 : Nat) (x1 : Int32) (x2 : Int32) (h0_ : Is g a0 9) : Ctr l yX11_served cX11_served 4 (Option.some Jvm.ClassFile.FieldType.int) 2 g [.ref a0, .int x1, .int x2] I J (PM g md_X11_served I (fun z I1 J1 => J1 = J ∧ (True))) := by
  refine m_start (by decide) (Nat.le_of_ble_eq_true rfl) ?_
  intro p e s m args below meth c C hr hlk M ls hl
  have hl : lv_has ls 4 [(0, .ref a0), (1, .int x1), (2, .int x2)] := hl
  have C : CallFix p m c cX11_served 4 s args TB RX11 := C
  have F : Fr g md_X11_served I I := fr_rf
  refine lv_aload_n C.1 C.2.1 dX11_served_0 rfl (lv_at hl 0 rfl) ?_
  refine lv_iconst (v := 1) C.1 C.2.1 dX11_served_1 (by decide) ?_
  refine pi_X11_39 C M h0_ dX11_served_2 (fun H locs I1 k3 f2 M => ?_)
  have F := fr_put F h0_ (Or.inr (by decide)) f2
  refine lv_aload_n C.1 C.2.1 dX11_served_5 rfl (lv_at hl 0 rfl) ?_
  refine gi_X11_43 C M h0_ dX11_served_6 (fun v4 kv4 tv4 uv4 => ?_)
  refine lv_iconst (v := 1) C.1 C.2.1 dX11_served_9 (by decide) ?_
  refine n_isub C (Y := 1) dX11_served_10 rfl rfl (by omega) (by omega) (fun v5 ev5 => ?_)
  refine lv_istore_n (lv' := [(3, .int v5), (0, .ref a0), (1, .int x1), (2, .int x2)]) C.1 C.2.1 dX11_served_11 rfl hl (by decide) rfl (fun ls hl => ?_)
  have L12 : ∀ (n12 : Nat) (y6 : Int32) (H : Heap) (locs : List Loc) (ls : Array Slot), (-1) ≤ y6.toInt → y6.toInt ≤ 29 → y6.toInt + 1 < (n12 : Int) → Mm g s I1 J H locs → lv_has ls 4 [(0, .ref a0), (1, .int x1), (2, .int x2), (3, .int y6)] → W p l e (rmL 2) s m args below meth c H locs 0 0 (MQg below g (PM g md_X11_served I (fun z I1 J1 => J1 = J ∧ (True))) args s) (F0 m 12 ls []) := by
    intro n12
    induction n12 with
    | zero =>
      intro y6 H locs ls f7 f8 hm12 M hl
      exact absurd hm12 (by omega)
    | succ n12 ih12 =>
      intro y6 H locs ls f7 f8 hm12 M hl
      refine lv_iload_n C.1 C.2.1 dX11_served_12 rfl (lv_at hl 3 rfl) ?_
      refine n_if_lt C (tgt := 64) dX11_served_13 (by decide) rfl (fun q9 => ?_) (fun q9 => ?_)
      ·
        refine lv_iconst (v := 0) C.1 C.2.1 dX11_served_64 (by decide) ?_
        exact r_PM C M (z := 0) hr hlk F rfl ⟨rfl, trivial⟩ dX11_served_65
      ·
        refine lv_iload_n C.1 C.2.1 dX11_served_16 rfl (lv_at hl 2 rfl) ?_
        refine lv_iconst (v := 0) C.1 C.2.1 dX11_served_17 (by decide) ?_
        refine lv_iconst (v := 2) C.1 C.2.1 dX11_served_18 (by decide) ?_
        refine ks_PI C M (ct_X11_within l g I1 J x2 0 2) (cw_X11_114 C.2.2.2.2 (by decide)) rfl hl.1 rfl (Nat.le_of_ble_eq_true rfl) dX11_served_19 ⟨Nat.le_refl _, Nat.le_refl _⟩ (fun r10 H locs p11r M => ?_)
        have p11 : 0 ≤ r10.toInt ∧ r10.toInt ≤ 1 ∧ (r10.toInt = 1 ↔ 0 ≤ x2.toInt ∧ x2.toInt ≤ 2) := p11r
        refine n_if_eq C (tgt := 64) dX11_served_22 (by decide) rfl (fun q12 => ?_) (fun q12 => ?_)
        ·
          refine lv_iconst (v := 0) C.1 C.2.1 dX11_served_64 (by decide) ?_
          exact r_PM C M (z := 0) hr hlk F rfl ⟨rfl, trivial⟩ dX11_served_65
        ·
          refine lv_aload_n C.1 C.2.1 dX11_served_25 rfl (lv_at hl 0 rfl) ?_
          refine gi_X11_23 C M h0_ dX11_served_26 (fun h13 => ?_)
          refine lv_iconst (v := 4) C.1 C.2.1 dX11_served_29 (by decide) ?_
          refine lv_iload_n C.1 C.2.1 dX11_served_30 rfl (lv_at hl 3 rfl) ?_
          refine n_imul C (X := 4) dX11_served_31 rfl rfl (by omega) (by omega) (fun v14 ev14 => ?_)
          refine a_ld C M h13 (n := 120) rfl rfl rfl (by omega) (by omega) rfl dX11_served_32 (fun v15 kv15 => ?_)
          refine lv_iload_n C.1 C.2.1 dX11_served_33 rfl (lv_at hl 1 rfl) ?_
          refine n_icmp_eq C (tgt := 40) dX11_served_34 (by decide) rfl rfl (fun q16 => ?_) (fun q16 => ?_)
          ·
            refine lv_aload_n C.1 C.2.1 dX11_served_40 rfl (lv_at hl 0 rfl) ?_
            refine lv_iconst (v := 0) C.1 C.2.1 dX11_served_41 (by decide) ?_
            refine pi_X11_39 C M h0_ dX11_served_42 (fun H locs I17 k19 f18 M => ?_)
            have F := fr_put F h0_ (Or.inr (by decide)) f18
            refine lv_aload_n C.1 C.2.1 dX11_served_45 rfl (lv_at hl 0 rfl) ?_
            refine gi_X11_23 C M h0_ dX11_served_46 (fun h20 => ?_)
            refine lv_iconst (v := 4) C.1 C.2.1 dX11_served_49 (by decide) ?_
            refine lv_iload_n C.1 C.2.1 dX11_served_50 rfl (lv_at hl 3 rfl) ?_
            refine n_imul C (X := 4) dX11_served_51 rfl rfl (by omega) (by omega) (fun v21 ev21 => ?_)
            refine lv_iconst (v := 1) C.1 C.2.1 dX11_served_52 (by decide) ?_
            refine n_iadd C (Y := 1) dX11_served_53 rfl rfl (by omega) (by omega) (fun v22 ev22 => ?_)
            refine lv_iload_n C.1 C.2.1 dX11_served_54 rfl (lv_at hl 2 rfl) ?_
            refine n_iadd C dX11_served_55 rfl rfl (by omega) (by omega) (fun v23 ev23 => ?_)
            refine a_ld C M h13 (n := 120) rfl rfl rfl (by omega) (by omega) rfl dX11_served_56 (fun v24 kv24 => ?_)
            exact r_PM C M hr hlk F rfl ⟨rfl, trivial⟩ dX11_served_57
          ·
            refine lv_goto (tgt := 58) C.1 C.2.1 dX11_served_37 (by decide) ?_
            refine n_iinc C (k := 3) (N := -1) (lv' := fun v => [(3, .int v), (0, .ref a0), (1, .int x1), (2, .int x2)]) dX11_served_58 hl rfl (by decide) rfl rfl (by omega) (by omega) (fun _ => rfl) (fun v25 ls ev25 hl => ?_)
            refine lv_goto (tgt := 12) C.1 C.2.1 dX11_served_61 (by decide) ?_
            exact ih12 v25 _ _ _ (by omega) (by omega) (by omega) M (lv_sub hl [1, 2, 3, 0] rfl)
  exact L12 _ v5 _ _ _ (by omega) (by omega) (n_big _) M (lv_sub hl [1, 2, 3, 0] rfl)

abbrev md_X11_laid : List (Nat × Nat) := [(9, 10)]
set_option maxHeartbeats 4000000 in
set_option maxRecDepth 100000 in
theorem ct_X11_laid (l : Launch) (g : Gs) (I : Ms) (J : Js) (a0 : Nat) (x1 : Int32) (h0_ : Is g a0 9) : Ctr l yX11_laid cX11_laid 2 (Option.some Jvm.ClassFile.FieldType.int) 2 g [.ref a0, .int x1] I J (PM g md_X11_laid I (fun z I1 J1 => J1 = J ∧ (True))) := by
  refine m_start (by decide) (Nat.le_of_ble_eq_true rfl) ?_
  intro p e s m args below meth c C hr hlk M ls hl
  have hl : lv_has ls 2 [(0, .ref a0), (1, .int x1)] := hl
  have C : CallFix p m c cX11_laid 2 s args TB RX11 := C
  have F : Fr g md_X11_laid I I := fr_rf
  refine lv_aload_n C.1 C.2.1 dX11_laid_0 rfl (lv_at hl 0 rfl) ?_
  refine lv_iconst (v := 0) C.1 C.2.1 dX11_laid_1 (by decide) ?_
  refine pi_X11_39 C M h0_ dX11_laid_2 (fun H locs I1 k3 f2 M => ?_)
  have F := fr_put F h0_ (Or.inr (by decide)) f2
  refine lv_iload_n C.1 C.2.1 dX11_laid_5 rfl (lv_at hl 1 rfl) ?_
  refine lv_iconst (v := 0) C.1 C.2.1 dX11_laid_6 (by decide) ?_
  refine lv_aload_n C.1 C.2.1 dX11_laid_7 rfl (lv_at hl 0 rfl) ?_
  have h4 := is_ref M h0_ 0 28 rfl rfl
  obtain ⟨u5, ku5⟩ : ∃ z : Int32, I1 (gr g a0 0) 715 = z := ⟨_, rfl⟩
  have tu5 : 3 ≤ u5.toInt ∧ u5.toInt ≤ 7 := m_rng M h4 715 ku5 rfl
  have em6 : (I1 (gr g a0 0) 715).toInt = u5.toInt := congrArg Int32.toInt ku5
  obtain ⟨u7, ku7⟩ : ∃ z : Int32, I1 (gr g a0 0) 717 = z := ⟨_, rfl⟩
  have tu7 : 0 ≤ u7.toInt ∧ u7.toInt ≤ 1 := m_rng M h4 717 ku7 rfl
  have em8 : (I1 (gr g a0 0) 717).toInt = u7.toInt := congrArg Int32.toInt ku7
  refine k_PI C M h0_ (by decide) rfl (ct_X11_disks l g I1 J a0 h0_) (cw_X11_147 C.2.2.2.2 (by decide)) rfl hl.1 rfl (Nat.le_of_ble_eq_true rfl) dX11_laid_8 ⟨Nat.le_refl _, Nat.le_refl _⟩ (fun r9 H locs p10r M => ?_)
  have p10 : r9.toInt = (I1 (gr g a0 0) 715).toInt + (I1 (gr g a0 0) 717).toInt := p10r
  simp only [em6, em8] at p10
  have p10 : r9.toInt = u5.toInt + u7.toInt := p10
  refine lv_iconst (v := 1) C.1 C.2.1 dX11_laid_11 (by decide) ?_
  refine n_isub C (Y := 1) dX11_laid_12 rfl rfl (by omega) (by omega) (fun v11 ev11 => ?_)
  refine ks_PI C M (ct_X11_within l g I1 J x1 0 v11) (cw_X11_114 C.2.2.2.2 (by decide)) rfl hl.1 rfl (Nat.le_of_ble_eq_true rfl) dX11_laid_13 ⟨Nat.le_refl _, Nat.le_refl _⟩ (fun r12 H locs p13r M => ?_)
  have p13 : 0 ≤ r12.toInt ∧ r12.toInt ≤ 1 ∧ (r12.toInt = 1 ↔ 0 ≤ x1.toInt ∧ x1.toInt ≤ v11.toInt) := p13r
  refine n_if_eq C (tgt := 32) dX11_laid_16 (by decide) rfl (fun q14 => ?_) (fun q14 => ?_)
  ·
    refine lv_iconst (v := -1) C.1 C.2.1 dX11_laid_32 (by decide) ?_
    exact r_PM C M (z := (-1)) hr hlk F rfl ⟨rfl, trivial⟩ dX11_laid_33
  ·
    refine lv_aload_n C.1 C.2.1 dX11_laid_19 rfl (lv_at hl 0 rfl) ?_
    refine gi_X11_7 C M h0_ dX11_laid_20 (fun h15 => ?_)
    refine lv_sipush (v := 708) C.1 C.2.1 dX11_laid_23 (by decide) ?_
    refine lv_iload_n C.1 C.2.1 dX11_laid_26 rfl (lv_at hl 1 rfl) ?_
    refine n_iadd C (X := 708) dX11_laid_27 rfl rfl (by omega) (by omega) (fun v16 ev16 => ?_)
    refine a_ld C M h4 (n := 729) rfl rfl rfl (by omega) (by omega) rfl dX11_laid_28 (fun v17 kv17 => ?_)
    refine lv_goto (tgt := 33) C.1 C.2.1 dX11_laid_29 (by decide) ?_
    exact r_PM C M hr hlk F rfl ⟨rfl, trivial⟩ dX11_laid_33

abbrev md_X11_word : List (Nat × Nat) := [(9, 10)]
set_option maxHeartbeats 4000000 in
set_option maxRecDepth 100000 in
theorem ct_X11_word (l : Launch) (g : Gs) (I : Ms) (J : Js) (a0 : Nat) (x1 : Int32) (x2 : Int32) (h0_ : Is g a0 9) : Ctr l yX11_word cX11_word 3 (Option.some Jvm.ClassFile.FieldType.int) 3 g [.ref a0, .int x1, .int x2] I J (PM g md_X11_word I (fun z I1 J1 => J1 = J ∧ (True))) := by
  refine m_start (by decide) (Nat.le_of_ble_eq_true rfl) ?_
  intro p e s m args below meth c C hr hlk M ls hl
  have hl : lv_has ls 3 [(0, .ref a0), (1, .int x1), (2, .int x2)] := hl
  have C : CallFix p m c cX11_word 3 s args TB RX11 := C
  have F : Fr g md_X11_word I I := fr_rf
  refine lv_aload_n C.1 C.2.1 dX11_word_0 rfl (lv_at hl 0 rfl) ?_
  refine lv_aload_n C.1 C.2.1 dX11_word_1 rfl (lv_at hl 0 rfl) ?_
  refine lv_iload_n C.1 C.2.1 dX11_word_2 rfl (lv_at hl 1 rfl) ?_
  refine lv_iload_n C.1 C.2.1 dX11_word_3 rfl (lv_at hl 2 rfl) ?_
  refine k_PI C M h0_ (by decide) rfl (ct_X11_isWord l g I J a0 x1 x2 h0_) (cw_X11_150 C.2.2.2.2 (by decide)) rfl hl.1 rfl (Nat.le_of_ble_eq_true rfl) dX11_word_4 ⟨Nat.le_refl _, Nat.le_refl _⟩ (fun r1 H locs p2r M => ?_)
  have p2 : 0 ≤ r1.toInt ∧ r1.toInt ≤ 1 ∧ (r1.toInt = 1 → 0 ≤ x1.toInt ∧ x1.toInt ≤ 7 ∧ 0 ≤ x2.toInt ∧ x2.toInt ≤ 39) := p2r
  refine n_if_eq C (tgt := 14) dX11_word_7 (by decide) rfl (fun q3 => ?_) (fun q3 => ?_)
  ·
    refine lv_iconst (v := 1) C.1 C.2.1 dX11_word_14 (by decide) ?_
    refine pi_X11_39 C M h0_ dX11_word_15 (fun H locs I4 k6 f5 M => ?_)
    have F := fr_put F h0_ (Or.inr (by decide)) f5
    refine lv_aload_n C.1 C.2.1 dX11_word_18 rfl (lv_at hl 0 rfl) ?_
    refine gk_X11_39 C M h0_ k6 dX11_word_19 ?_
    refine n_if_ne C (tgt := 40) (X := 1) dX11_word_22 (by decide) rfl (fun q7 => ?_) (fun q7 => ?_)
    ·
      refine lv_iconst (v := 0) C.1 C.2.1 dX11_word_40 (by decide) ?_
      exact r_PM C M (z := 0) hr hlk F rfl ⟨rfl, trivial⟩ dX11_word_41
    ·
      exact absurd q7 (by omega)
  ·
    refine lv_iconst (v := 0) C.1 C.2.1 dX11_word_10 (by decide) ?_
    refine lv_goto (tgt := 15) C.1 C.2.1 dX11_word_11 (by decide) ?_
    refine pi_X11_39 C M h0_ dX11_word_15 (fun H locs I8 k10 f9 M => ?_)
    have F := fr_put F h0_ (Or.inr (by decide)) f9
    refine lv_aload_n C.1 C.2.1 dX11_word_18 rfl (lv_at hl 0 rfl) ?_
    refine gk_X11_39 C M h0_ k10 dX11_word_19 ?_
    refine n_if_ne C (tgt := 40) (X := 0) dX11_word_22 (by decide) rfl (fun q11 => ?_) (fun q11 => ?_)
    ·
      exact absurd q11 (by omega)
    ·
      refine lv_aload_n C.1 C.2.1 dX11_word_25 rfl (lv_at hl 0 rfl) ?_
      refine gi_X11_7 C M h0_ dX11_word_26 (fun h12 => ?_)
      refine lv_iconst (v := 0) C.1 C.2.1 dX11_word_29 (by decide) ?_
      refine lv_iload_n C.1 C.2.1 dX11_word_30 rfl (lv_at hl 1 rfl) ?_
      refine lv_iload_n C.1 C.2.1 dX11_word_31 rfl (lv_at hl 2 rfl) ?_
      refine ks_PI C M (ct_X11_at l g I8 J x1 x2 (by omega) (by omega) (by omega) (by omega)) (cw_X11_50 C.2.2.2.2 (by decide)) rfl hl.1 rfl (Nat.le_of_ble_eq_true rfl) dX11_word_32 ⟨Nat.le_refl _, Nat.le_refl _⟩ (fun r13 H locs p14r M => ?_)
      have p14 : r13.toInt = 40 * x1.toInt + x2.toInt := p14r
      refine n_iadd C (X := 0) dX11_word_35 rfl rfl (by omega) (by omega) (fun v15 ev15 => ?_)
      refine a_ld C M h12 (n := 729) rfl rfl rfl (by omega) (by omega) rfl dX11_word_36 (fun v16 kv16 => ?_)
      refine lv_goto (tgt := 41) C.1 C.2.1 dX11_word_37 (by decide) ?_
      exact r_PM C M hr hlk F rfl ⟨rfl, trivial⟩ dX11_word_41

abbrev md_X11_badAt : List (Nat × Nat) := [(9, 10)]
set_option maxHeartbeats 4000000 in
set_option maxRecDepth 100000 in
theorem ct_X11_badAt (l : Launch) (g : Gs) (I : Ms) (J : Js) (a0 : Nat) (x1 : Int32) (h0_ : Is g a0 9) : Ctr l yX11_badAt cX11_badAt 5 (Option.some Jvm.ClassFile.FieldType.int) 2 g [.ref a0, .int x1] I J (PM g md_X11_badAt I (fun z I1 J1 => J1 = J ∧ (True))) := by
  refine m_start (by decide) (Nat.le_of_ble_eq_true rfl) ?_
  intro p e s m args below meth c C hr hlk M ls hl
  have hl : lv_has ls 5 [(0, .ref a0), (1, .int x1)] := hl
  have C : CallFix p m c cX11_badAt 5 s args TB RX11 := C
  have F : Fr g md_X11_badAt I I := fr_rf
  refine lv_aload_n C.1 C.2.1 dX11_badAt_0 rfl (lv_at hl 0 rfl) ?_
  refine lv_iconst (v := 0) C.1 C.2.1 dX11_badAt_1 (by decide) ?_
  refine pi_X11_39 C M h0_ dX11_badAt_2 (fun H locs I1 k3 f2 M => ?_)
  have F := fr_put F h0_ (Or.inr (by decide)) f2
  refine lv_iconst (v := 0) C.1 C.2.1 dX11_badAt_5 (by decide) ?_
  refine lv_istore_n (lv' := [(2, .int 0), (0, .ref a0), (1, .int x1)]) C.1 C.2.1 dX11_badAt_6 rfl hl (by decide) rfl (fun ls hl => ?_)
  refine lv_iconst (v := 0) C.1 C.2.1 dX11_badAt_7 (by decide) ?_
  refine lv_istore_n (lv' := [(3, .int 0), (2, .int 0), (0, .ref a0), (1, .int x1)]) C.1 C.2.1 dX11_badAt_8 rfl hl (by decide) rfl (fun ls hl => ?_)
  have L9 : ∀ (n9 : Nat) (y4 : Int32) (y5 : Int32) (H : Heap) (locs : List Loc) (ls : Array Slot), 0 ≤ y5.toInt → y5.toInt ≤ 40 → 40 - y5.toInt < (n9 : Int) → Mm g s I1 J H locs → lv_has ls 5 [(0, .ref a0), (1, .int x1), (2, .int y4), (3, .int y5)] → W p l e (rmL 2) s m args below meth c H locs 0 0 (MQg below g (PM g md_X11_badAt I (fun z I1 J1 => J1 = J ∧ (True))) args s) (F0 m 9 ls []) := by
    intro n9
    induction n9 with
    | zero =>
      intro y4 y5 H locs ls f6 f7 hm9 M hl
      exact absurd hm9 (by omega)
    | succ n9 ih9 =>
      intro y4 y5 H locs ls f6 f7 hm9 M hl
      refine lv_iload_n C.1 C.2.1 dX11_badAt_9 rfl (lv_at hl 3 rfl) ?_
      refine lv_aload_n C.1 C.2.1 dX11_badAt_10 rfl (lv_at hl 0 rfl) ?_
      refine gi_X11_7 C M h0_ dX11_badAt_11 (fun h8 => ?_)
      refine lv_sipush (v := 716) C.1 C.2.1 dX11_badAt_14 (by decide) ?_
      refine a_ld C M (X := 716) (j := 716) h8 (n := 729) rfl rfl rfl (by omega) (by omega) rfl dX11_badAt_17 (fun v9 kv9 => ?_)
      have tv9 := m_rng M h8 716 kv9 rfl
      have tv9 : 4 ≤ v9.toInt ∧ v9.toInt ≤ 40 := tv9
      refine n_icmp_ge C (tgt := 82) dX11_badAt_18 (by decide) rfl rfl (fun q10 => ?_) (fun q10 => ?_)
      ·
        refine lv_iload_n C.1 C.2.1 dX11_badAt_82 rfl (lv_at hl 1 rfl) ?_
        refine lv_iconst (v := -1) C.1 C.2.1 dX11_badAt_83 (by decide) ?_
        refine n_icmp_ne C (tgt := 91) (Y := (-1)) dX11_badAt_84 (by decide) rfl rfl (fun q11 => ?_) (fun q11 => ?_)
        ·
          refine lv_iconst (v := -1) C.1 C.2.1 dX11_badAt_91 (by decide) ?_
          exact r_PM C M (z := (-1)) hr hlk F rfl ⟨rfl, trivial⟩ dX11_badAt_92
        ·
          refine lv_iload_n C.1 C.2.1 dX11_badAt_87 rfl (lv_at hl 2 rfl) ?_
          refine lv_goto (tgt := 92) C.1 C.2.1 dX11_badAt_88 (by decide) ?_
          exact r_PM C M hr hlk F rfl ⟨rfl, trivial⟩ dX11_badAt_92
      ·
        refine lv_iconst (v := 0) C.1 C.2.1 dX11_badAt_21 (by decide) ?_
        refine lv_istore (lv' := [(4, .int 0), (0, .ref a0), (1, .int x1), (2, .int y4), (3, .int y5)]) C.1 C.2.1 dX11_badAt_22 hl (by decide) rfl (fun ls hl => ?_)
        have L24 : ∀ (n24 : Nat) (y12 : Int32) (y13 : Int32) (H : Heap) (locs : List Loc) (ls : Array Slot), 0 ≤ y13.toInt → y13.toInt ≤ 8 → 8 - y13.toInt < (n24 : Int) → Mm g s I1 J H locs → lv_has ls 5 [(0, .ref a0), (1, .int x1), (2, .int y12), (3, .int y5), (4, .int y13)] → W p l e (rmL 2) s m args below meth c H locs 0 0 (MQg below g (PM g md_X11_badAt I (fun z I1 J1 => J1 = J ∧ (True))) args s) (F0 m 24 ls []) := by
          intro n24
          induction n24 with
          | zero =>
            intro y12 y13 H locs ls f14 f15 hm24 M hl
            exact absurd hm24 (by omega)
          | succ n24 ih24 =>
            intro y12 y13 H locs ls f14 f15 hm24 M hl
            refine lv_iload C.1 C.2.1 dX11_badAt_24 (lv_at hl 4 rfl) ?_
            refine lv_aload_n C.1 C.2.1 dX11_badAt_26 rfl (lv_at hl 0 rfl) ?_
            obtain ⟨u16, ku16⟩ : ∃ z : Int32, I1 (gr g a0 0) 715 = z := ⟨_, rfl⟩
            have tu16 : 3 ≤ u16.toInt ∧ u16.toInt ≤ 7 := m_rng M h8 715 ku16 rfl
            have em17 : (I1 (gr g a0 0) 715).toInt = u16.toInt := congrArg Int32.toInt ku16
            obtain ⟨u18, ku18⟩ : ∃ z : Int32, I1 (gr g a0 0) 717 = z := ⟨_, rfl⟩
            have tu18 : 0 ≤ u18.toInt ∧ u18.toInt ≤ 1 := m_rng M h8 717 ku18 rfl
            have em19 : (I1 (gr g a0 0) 717).toInt = u18.toInt := congrArg Int32.toInt ku18
            refine k_PI C M h0_ (by decide) rfl (ct_X11_disks l g I1 J a0 h0_) (cw_X11_147 C.2.2.2.2 (by decide)) rfl hl.1 rfl (Nat.le_of_ble_eq_true rfl) dX11_badAt_27 ⟨Nat.le_refl _, Nat.le_refl _⟩ (fun r20 H locs p21r M => ?_)
            have p21 : r20.toInt = (I1 (gr g a0 0) 715).toInt + (I1 (gr g a0 0) 717).toInt := p21r
            simp only [em17, em19] at p21
            have p21 : r20.toInt = u16.toInt + u18.toInt := p21
            refine n_icmp_ge C (tgt := 76) dX11_badAt_30 (by decide) rfl rfl (fun q22 => ?_) (fun q22 => ?_)
            ·
              refine n_iinc C (k := 3) (N := 1) (lv' := fun v => [(3, .int v), (0, .ref a0), (1, .int x1), (2, .int y12), (4, .int y13)]) dX11_badAt_76 hl rfl (by decide) rfl rfl (by omega) (by omega) (fun _ => rfl) (fun v23 ls ev23 hl => ?_)
              refine lv_goto (tgt := 9) C.1 C.2.1 dX11_badAt_79 (by decide) ?_
              exact ih9 y12 v23 _ _ _ (by omega) (by omega) (by omega) M (lv_sub hl [1, 2, 3, 0] rfl)
            ·
              refine lv_aload_n C.1 C.2.1 dX11_badAt_33 rfl (lv_at hl 0 rfl) ?_
              refine gi_X11_7 C M h0_ dX11_badAt_34 (fun h24 => ?_)
              refine lv_sipush (v := 280) C.1 C.2.1 dX11_badAt_37 (by decide) ?_
              refine lv_iload C.1 C.2.1 dX11_badAt_40 (lv_at hl 4 rfl) ?_
              refine lv_iload_n C.1 C.2.1 dX11_badAt_42 rfl (lv_at hl 3 rfl) ?_
              refine ks_PI C M (ct_X11_at l g I1 J y13 y5 (by omega) (by omega) (by omega) (by omega)) (cw_X11_50 C.2.2.2.2 (by decide)) rfl hl.1 rfl (Nat.le_of_ble_eq_true rfl) dX11_badAt_43 ⟨Nat.le_refl _, Nat.le_refl _⟩ (fun r25 H locs p26r M => ?_)
              have p26 : r25.toInt = 40 * y13.toInt + y5.toInt := p26r
              refine n_iadd C (X := 280) dX11_badAt_46 rfl rfl (by omega) (by omega) (fun v27 ev27 => ?_)
              refine a_ld C M h8 (n := 729) rfl rfl rfl (by omega) (by omega) rfl dX11_badAt_47 (fun v28 kv28 => ?_)
              refine n_if_ne C (tgt := 54) dX11_badAt_48 (by decide) rfl (fun q29 => ?_) (fun q29 => ?_)
              ·
                refine lv_iload_n C.1 C.2.1 dX11_badAt_54 rfl (lv_at hl 2 rfl) ?_
                refine lv_iload_n C.1 C.2.1 dX11_badAt_55 rfl (lv_at hl 1 rfl) ?_
                refine n_icmp_ne C (tgt := 67) dX11_badAt_56 (by decide) rfl rfl (fun q30 => ?_) (fun q30 => ?_)
                ·
                  refine n_iincU C (k := 2) (lv' := fun v => [(2, .int v), (0, .ref a0), (1, .int x1), (3, .int y5), (4, .int y13)]) dX11_badAt_67 hl rfl (by decide) (fun _ => rfl) (fun v31 ls hl => ?_)
                  refine n_iinc C (k := 4) (N := 1) (lv' := fun v => [(4, .int v), (2, .int v31), (0, .ref a0), (1, .int x1), (3, .int y5)]) dX11_badAt_70 hl rfl (by decide) rfl rfl (by omega) (by omega) (fun _ => rfl) (fun v32 ls ev32 hl => ?_)
                  refine lv_goto (tgt := 24) C.1 C.2.1 dX11_badAt_73 (by decide) ?_
                  exact ih24 v31 v32 _ _ _ (by omega) (by omega) (by omega) M (lv_sub hl [2, 3, 1, 4, 0] rfl)
                ·
                  refine lv_bipush (v := 100) C.1 C.2.1 dX11_badAt_59 (by decide) ?_
                  refine lv_iload_n C.1 C.2.1 dX11_badAt_61 rfl (lv_at hl 3 rfl) ?_
                  refine n_imul C (X := 100) dX11_badAt_62 rfl rfl (by omega) (by omega) (fun v33 ev33 => ?_)
                  refine lv_iload C.1 C.2.1 dX11_badAt_63 (lv_at hl 4 rfl) ?_
                  refine n_iadd C dX11_badAt_65 rfl rfl (by omega) (by omega) (fun v34 ev34 => ?_)
                  exact r_PM C M hr hlk F rfl ⟨rfl, trivial⟩ dX11_badAt_66
              ·
                refine lv_goto (tgt := 70) C.1 C.2.1 dX11_badAt_51 (by decide) ?_
                refine n_iinc C (k := 4) (N := 1) (lv' := fun v => [(4, .int v), (0, .ref a0), (1, .int x1), (2, .int y12), (3, .int y5)]) dX11_badAt_70 hl rfl (by decide) rfl rfl (by omega) (by omega) (fun _ => rfl) (fun v35 ls ev35 hl => ?_)
                refine lv_goto (tgt := 24) C.1 C.2.1 dX11_badAt_73 (by decide) ?_
                exact ih24 y12 v35 _ _ _ (by omega) (by omega) (by omega) M (lv_sub hl [1, 2, 3, 4, 0] rfl)
        have cz36 : (0 : Int32).toInt = 0 := rfl
        exact L24 _ y4 0 _ _ _ (by omega) (by omega) (n_big _) M (lv_sub hl [1, 2, 3, 4, 0] rfl)
  have cz37 : (0 : Int32).toInt = 0 := rfl
  have cz38 : (0 : Int32).toInt = 0 := rfl
  exact L9 _ 0 0 _ _ _ (by omega) (by omega) (n_big _) M (lv_sub hl [2, 3, 1, 0] rfl)

abbrev md_X11_read : List (Nat × Nat) := [(9, 10), (9, 11), (9, 12)]
set_option maxHeartbeats 4000000 in
set_option maxRecDepth 100000 in
theorem ct_X11_read (l : Launch) (g : Gs) (I : Ms) (J : Js) (a0 : Nat) (x1 : Int32) (h0_ : Is g a0 9) (g0 : jm (I (gr g a0 0) 717).toInt (I (gr g a0 0) 715).toInt (I (gr g a0 0) 716).toInt (I (gr g a0 0) 722).toInt (I (gr g a0 0) 718).toInt (I (gr g a0 0) 719).toInt) : Ctr l yX11_read cX11_read 2 (Option.some Jvm.ClassFile.FieldType.int) 7 g [.ref a0, .int x1] I J (PM g md_X11_read I (fun z I1 J1 => J1 = J ∧ (True))) := by
  refine m_start (by decide) (Nat.le_of_ble_eq_true rfl) ?_
  intro p e s m args below meth c C hr hlk M ls hl
  have hl : lv_has ls 2 [(0, .ref a0), (1, .int x1)] := hl
  have C : CallFix p m c cX11_read 2 s args TB RX11 := C
  have F : Fr g md_X11_read I I := fr_rf
  have h1 := is_ref M h0_ 0 28 rfl rfl
  obtain ⟨i2, ki2⟩ : ∃ z : Int32, I (gr g a0 0) 717 = z := ⟨_, rfl⟩
  have ti2 : 0 ≤ i2.toInt ∧ i2.toInt ≤ 1 := m_rng M h1 717 ki2 rfl
  have ci2 : (I (gr g a0 0) 717).toInt = i2.toInt := congrArg Int32.toInt ki2
  obtain ⟨i3, ki3⟩ : ∃ z : Int32, I (gr g a0 0) 715 = z := ⟨_, rfl⟩
  have ti3 : 3 ≤ i3.toInt ∧ i3.toInt ≤ 7 := m_rng M h1 715 ki3 rfl
  have ci3 : (I (gr g a0 0) 715).toInt = i3.toInt := congrArg Int32.toInt ki3
  obtain ⟨i4, ki4⟩ : ∃ z : Int32, I (gr g a0 0) 716 = z := ⟨_, rfl⟩
  have ti4 : 4 ≤ i4.toInt ∧ i4.toInt ≤ 40 := m_rng M h1 716 ki4 rfl
  have ci4 : (I (gr g a0 0) 716).toInt = i4.toInt := congrArg Int32.toInt ki4
  obtain ⟨i5, ki5⟩ : ∃ z : Int32, I (gr g a0 0) 722 = z := ⟨_, rfl⟩
  have ti5 : 1 ≤ i5.toInt ∧ i5.toInt ≤ 4 := m_rng M h1 722 ki5 rfl
  have ci5 : (I (gr g a0 0) 722).toInt = i5.toInt := congrArg Int32.toInt ki5
  obtain ⟨i6, ki6⟩ : ∃ z : Int32, I (gr g a0 0) 718 = z := ⟨_, rfl⟩
  have ti6 : 0 ≤ i6.toInt ∧ i6.toInt ≤ 200 := m_rng M h1 718 ki6 rfl
  have ci6 : (I (gr g a0 0) 718).toInt = i6.toInt := congrArg Int32.toInt ki6
  obtain ⟨i7, ki7⟩ : ∃ z : Int32, I (gr g a0 0) 719 = z := ⟨_, rfl⟩
  have ti7 : 0 ≤ i7.toInt ∧ i7.toInt ≤ 200 := m_rng M h1 719 ki7 rfl
  have ci7 : (I (gr g a0 0) 719).toInt = i7.toInt := congrArg Int32.toInt ki7
  simp only [ci2, ci3, ci4, ci5, ci6, ci7] at g0
  have hj6 : i2.toInt = 1 → i3.toInt ≤ 6 := fun q => (g0 q).1
  refine lv_aload_n C.1 C.2.1 dX11_read_0 rfl (lv_at hl 0 rfl) ?_
  refine lv_aload_n C.1 C.2.1 dX11_read_1 rfl (lv_at hl 0 rfl) ?_
  refine lv_iload_n C.1 C.2.1 dX11_read_2 rfl (lv_at hl 1 rfl) ?_
  have em8 : (I (gr g a0 0) 715).toInt = i3.toInt := congrArg Int32.toInt ki3
  have em9 : (I (gr g a0 0) 716).toInt = i4.toInt := congrArg Int32.toInt ki4
  refine k_PI C M h0_ (by decide) rfl (ct_X11_isBlock l g I J a0 x1 h0_) (cw_X11_138 C.2.2.2.2 (by decide)) rfl hl.1 rfl (Nat.le_of_ble_eq_true rfl) dX11_read_3 ⟨Nat.le_refl _, Nat.le_refl _⟩ (fun r10 H locs p11r M => ?_)
  have p11 : 0 ≤ r10.toInt ∧ r10.toInt ≤ 1 ∧ (r10.toInt = 1 ↔ 0 ≤ x1.toInt ∧ x1.toInt < mBl (I (gr g a0 0) 716).toInt (I (gr g a0 0) 715).toInt) ∧ (r10.toInt = 1 → x1.toInt ≤ 239) := p11r
  simp only [em8, em9] at p11
  have p11 : 0 ≤ r10.toInt ∧ r10.toInt ≤ 1 ∧ (r10.toInt = 1 ↔ 0 ≤ x1.toInt ∧ x1.toInt < mBl i4.toInt i3.toInt) ∧ (r10.toInt = 1 → x1.toInt ≤ 239) := p11
  have J22 : ∀ (w12 : Int32) (I13 : Ms) (H : Heap) (locs : List Loc) (ls : Array Slot), 0 ≤ w12.toInt → w12.toInt ≤ 1 → I13 (gr g a0 0) 719 = i7 → I13 (gr g a0 0) 718 = i6 → I13 (gr g a0 0) 722 = i5 → I13 (gr g a0 0) 716 = i4 → I13 (gr g a0 0) 715 = i3 → I13 (gr g a0 0) 717 = i2 → Fr g md_X11_read I I13 → Mm g s I13 J H locs → lv_has ls 2 [(0, .ref a0)] → W p l e (rmL 7) s m args below meth c H locs 0 0 (MQg below g (PM g md_X11_read I (fun z I1 J1 => J1 = J ∧ (True))) args s) (F0 m 22 ls [.int w12, .ref a0]) := by
    intro w12 I13 H locs ls f20 f21 k14 k15 k16 k17 k18 k19 F M hl
    refine pi_X11_39 C M h0_ dX11_read_22 (fun H locs I22 k24 f23 M => ?_)
    have F := fr_put F h0_ (Or.inr (by decide)) f23
    refine lv_aload_n C.1 C.2.1 dX11_read_25 rfl (lv_at hl 0 rfl) ?_
    refine gk_X11_39 C M h0_ k24 dX11_read_26 ?_
    refine n_if_ne C (tgt := 39) dX11_read_29 (by decide) rfl (fun q25 => ?_) (fun q25 => ?_)
    ·
      refine lv_iconst (v := 0) C.1 C.2.1 dX11_read_39 (by decide) ?_
      exact r_PM C M (z := 0) hr hlk F rfl ⟨rfl, trivial⟩ dX11_read_40
    ·
      refine lv_aload_n C.1 C.2.1 dX11_read_32 rfl (lv_at hl 0 rfl) ?_
      refine gi_X11_53 C M h0_ dX11_read_33 (fun v26 kv26 => ?_)
      refine lv_goto (tgt := 40) C.1 C.2.1 dX11_read_36 (by decide) ?_
      exact r_PM C M hr hlk F rfl ⟨rfl, trivial⟩ dX11_read_40
  have J21 : ∀ (I27 : Ms) (H : Heap) (locs : List Loc) (ls : Array Slot), I27 (gr g a0 0) 719 = i7 → I27 (gr g a0 0) 718 = i6 → I27 (gr g a0 0) 722 = i5 → I27 (gr g a0 0) 716 = i4 → I27 (gr g a0 0) 715 = i3 → I27 (gr g a0 0) 717 = i2 → Fr g md_X11_read I I27 → Mm g s I27 J H locs → lv_has ls 2 [(0, .ref a0)] → W p l e (rmL 7) s m args below meth c H locs 0 0 (MQg below g (PM g md_X11_read I (fun z I1 J1 => J1 = J ∧ (True))) args s) (F0 m 21 ls [.ref a0]) := by
    intro I27 H locs ls k28 k29 k30 k31 k32 k33 F M hl
    refine lv_iconst (v := 1) C.1 C.2.1 dX11_read_21 (by decide) ?_
    have cz34 : (1 : Int32).toInt = 1 := rfl
    exact J22 1 I27 _ _ _ (by omega) (by omega) k28 k29 k30 k31 k32 k33 F M hl
  refine n_if_eq C (tgt := 21) dX11_read_6 (by decide) rfl (fun q35 => ?_) (fun q35 => ?_)
  ·
    exact J21 I _ _ _ ki7 ki6 ki5 ki4 ki3 ki2 F M (lv_sub hl [0] rfl)
  ·
    refine lv_aload_n C.1 C.2.1 dX11_read_9 rfl (lv_at hl 0 rfl) ?_
    refine lv_iload_n C.1 C.2.1 dX11_read_10 rfl (lv_at hl 1 rfl) ?_
    have em36 : (I (gr g a0 0) 717).toInt = i2.toInt := congrArg Int32.toInt ki2
    have em37 : (I (gr g a0 0) 715).toInt = i3.toInt := congrArg Int32.toInt ki3
    have em38 : (I (gr g a0 0) 716).toInt = i4.toInt := congrArg Int32.toInt ki4
    have em39 : (I (gr g a0 0) 722).toInt = i5.toInt := congrArg Int32.toInt ki5
    have em40 : (I (gr g a0 0) 718).toInt = i6.toInt := congrArg Int32.toInt ki6
    have em41 : (I (gr g a0 0) 719).toInt = i7.toInt := congrArg Int32.toInt ki7
    refine k_PM C M h0_ (by decide) rfl (ct_X11_readsBlock l g I J a0 x1 h0_ (by simp only [em36, em37, em38, em39, em40, em41]; first | assumption | omega) (by omega) (by omega)) (cw_X11_141 C.2.2.2.2 (by decide)) rfl hl.1 rfl (Nat.le_of_ble_eq_true rfl) dX11_read_11 ⟨Nat.le_refl _, Nat.le_refl _⟩ (fun r46 I42 J43 H locs G44 p45r M => ?_)
    obtain ⟨eJ43, p45⟩ : J43 = J ∧ (0 ≤ r46.toInt ∧ r46.toInt ≤ 1) := p45r
    have eJ43 := eJ43.symm
    subst eJ43
    have F := fr_call F G44 (by decide)
    refine n_if_eq C (tgt := 21) dX11_read_14 (by decide) rfl (fun q47 => ?_) (fun q47 => ?_)
    ·
      exact J21 I42 _ _ _ ((G44 (gr g a0 0) 28 719 h1 (by decide) (by decide)).trans ki7) ((G44 (gr g a0 0) 28 718 h1 (by decide) (by decide)).trans ki6) ((G44 (gr g a0 0) 28 722 h1 (by decide) (by decide)).trans ki5) ((G44 (gr g a0 0) 28 716 h1 (by decide) (by decide)).trans ki4) ((G44 (gr g a0 0) 28 715 h1 (by decide) (by decide)).trans ki3) ((G44 (gr g a0 0) 28 717 h1 (by decide) (by decide)).trans ki2) F M (lv_sub hl [0] rfl)
    ·
      refine lv_iconst (v := 0) C.1 C.2.1 dX11_read_17 (by decide) ?_
      refine lv_goto (tgt := 22) C.1 C.2.1 dX11_read_18 (by decide) ?_
      have cz48 : (0 : Int32).toInt = 0 := rfl
      exact J22 0 I42 _ _ _ (by omega) (by omega) ((G44 (gr g a0 0) 28 719 h1 (by decide) (by decide)).trans ki7) ((G44 (gr g a0 0) 28 718 h1 (by decide) (by decide)).trans ki6) ((G44 (gr g a0 0) 28 722 h1 (by decide) (by decide)).trans ki5) ((G44 (gr g a0 0) 28 716 h1 (by decide) (by decide)).trans ki4) ((G44 (gr g a0 0) 28 715 h1 (by decide) (by decide)).trans ki3) ((G44 (gr g a0 0) 28 717 h1 (by decide) (by decide)).trans ki2) F M (lv_sub hl [0] rfl)

abbrev md_X11_write : List (Nat × Nat) := [(9, 10), (9, 11), (9, 12), (28, 0)]
set_option maxHeartbeats 4000000 in
set_option maxRecDepth 100000 in
theorem ct_X11_write (l : Launch) (g : Gs) (I : Ms) (J : Js) (a0 : Nat) (x1 : Int32) (x2 : Int32) (h0_ : Is g a0 9) (g0 : jm (I (gr g a0 0) 717).toInt (I (gr g a0 0) 715).toInt (I (gr g a0 0) 716).toInt (I (gr g a0 0) 722).toInt (I (gr g a0 0) 718).toInt (I (gr g a0 0) 719).toInt) : Ctr l yX11_write cX11_write 3 (Option.some Jvm.ClassFile.FieldType.int) 7 g [.ref a0, .int x1, .int x2] I J (PM g md_X11_write I (fun z I1 J1 => J1 = J ∧ ((True) ∧ (∀ j, 715 ≤ j → I1 (gr g a0 0) j = I (gr g a0 0) j)))) := by
  refine m_start (by decide) (Nat.le_of_ble_eq_true rfl) ?_
  intro p e s m args below meth c C hr hlk M ls hl
  have hl : lv_has ls 3 [(0, .ref a0), (1, .int x1), (2, .int x2)] := hl
  have C : CallFix p m c cX11_write 3 s args TB RX11 := C
  have F : Fr g md_X11_write I I := fr_rf
  have hS0 := is_ref M h0_ 0 28 rfl rfl
  have Hi : ∀ j, 715 ≤ j → I (gr g a0 0) j = I (gr g a0 0) j := by intros; rfl
  have h1 := is_ref M h0_ 0 28 rfl rfl
  obtain ⟨i2, ki2⟩ : ∃ z : Int32, I (gr g a0 0) 717 = z := ⟨_, rfl⟩
  have ti2 : 0 ≤ i2.toInt ∧ i2.toInt ≤ 1 := m_rng M h1 717 ki2 rfl
  have ci2 : (I (gr g a0 0) 717).toInt = i2.toInt := congrArg Int32.toInt ki2
  obtain ⟨i3, ki3⟩ : ∃ z : Int32, I (gr g a0 0) 715 = z := ⟨_, rfl⟩
  have ti3 : 3 ≤ i3.toInt ∧ i3.toInt ≤ 7 := m_rng M h1 715 ki3 rfl
  have ci3 : (I (gr g a0 0) 715).toInt = i3.toInt := congrArg Int32.toInt ki3
  obtain ⟨i4, ki4⟩ : ∃ z : Int32, I (gr g a0 0) 716 = z := ⟨_, rfl⟩
  have ti4 : 4 ≤ i4.toInt ∧ i4.toInt ≤ 40 := m_rng M h1 716 ki4 rfl
  have ci4 : (I (gr g a0 0) 716).toInt = i4.toInt := congrArg Int32.toInt ki4
  obtain ⟨i5, ki5⟩ : ∃ z : Int32, I (gr g a0 0) 722 = z := ⟨_, rfl⟩
  have ti5 : 1 ≤ i5.toInt ∧ i5.toInt ≤ 4 := m_rng M h1 722 ki5 rfl
  have ci5 : (I (gr g a0 0) 722).toInt = i5.toInt := congrArg Int32.toInt ki5
  obtain ⟨i6, ki6⟩ : ∃ z : Int32, I (gr g a0 0) 718 = z := ⟨_, rfl⟩
  have ti6 : 0 ≤ i6.toInt ∧ i6.toInt ≤ 200 := m_rng M h1 718 ki6 rfl
  have ci6 : (I (gr g a0 0) 718).toInt = i6.toInt := congrArg Int32.toInt ki6
  obtain ⟨i7, ki7⟩ : ∃ z : Int32, I (gr g a0 0) 719 = z := ⟨_, rfl⟩
  have ti7 : 0 ≤ i7.toInt ∧ i7.toInt ≤ 200 := m_rng M h1 719 ki7 rfl
  have ci7 : (I (gr g a0 0) 719).toInt = i7.toInt := congrArg Int32.toInt ki7
  simp only [ci2, ci3, ci4, ci5, ci6, ci7] at g0
  have hj6 : i2.toInt = 1 → i3.toInt ≤ 6 := fun q => (g0 q).1
  refine lv_aload_n C.1 C.2.1 dX11_write_0 rfl (lv_at hl 0 rfl) ?_
  refine lv_iconst (v := 0) C.1 C.2.1 dX11_write_1 (by decide) ?_
  refine pi_X11_39 C M h0_ dX11_write_2 (fun H locs I8 k10 f9 M => ?_)
  have F := fr_put F h0_ (Or.inr (by decide)) f9
  have Hi : ∀ j, 715 ≤ j → I8 (gr g a0 0) j = I (gr g a0 0) j := fun j hj => (f9 (gr g a0 0) j (Or.inl (is_ne h0_ hS0 (by decide)))).trans (Hi j hj)
  refine lv_aload_n C.1 C.2.1 dX11_write_5 rfl (lv_at hl 0 rfl) ?_
  refine lv_iload_n C.1 C.2.1 dX11_write_6 rfl (lv_at hl 1 rfl) ?_
  have em11 : (I8 (gr g a0 0) 715).toInt = i3.toInt := congrArg Int32.toInt ((f9 (gr g a0 0) 715 (Or.inl (is_ne h0_ h1 (by decide)))).trans ki3)
  have em12 : (I8 (gr g a0 0) 716).toInt = i4.toInt := congrArg Int32.toInt ((f9 (gr g a0 0) 716 (Or.inl (is_ne h0_ h1 (by decide)))).trans ki4)
  refine k_PI C M h0_ (by decide) rfl (ct_X11_isBlock l g I8 J a0 x1 h0_) (cw_X11_138 C.2.2.2.2 (by decide)) rfl hl.1 rfl (Nat.le_of_ble_eq_true rfl) dX11_write_7 ⟨Nat.le_refl _, Nat.le_refl _⟩ (fun r13 H locs p14r M => ?_)
  have p14 : 0 ≤ r13.toInt ∧ r13.toInt ≤ 1 ∧ (r13.toInt = 1 ↔ 0 ≤ x1.toInt ∧ x1.toInt < mBl (I8 (gr g a0 0) 716).toInt (I8 (gr g a0 0) 715).toInt) ∧ (r13.toInt = 1 → x1.toInt ≤ 239) := p14r
  simp only [em11, em12] at p14
  have p14 : 0 ≤ r13.toInt ∧ r13.toInt ≤ 1 ∧ (r13.toInt = 1 ↔ 0 ≤ x1.toInt ∧ x1.toInt < mBl i4.toInt i3.toInt) ∧ (r13.toInt = 1 → x1.toInt ≤ 239) := p14
  refine n_if_eq C (tgt := 22) dX11_write_10 (by decide) rfl (fun q15 => ?_) (fun q15 => ?_)
  ·
    refine lv_iconst (v := -1) C.1 C.2.1 dX11_write_22 (by decide) ?_
    exact r_PM C M (z := (-1)) hr hlk F rfl ⟨rfl, ⟨trivial, Hi⟩⟩ dX11_write_23
  ·
    refine lv_aload_n C.1 C.2.1 dX11_write_13 rfl (lv_at hl 0 rfl) ?_
    refine lv_iload_n C.1 C.2.1 dX11_write_14 rfl (lv_at hl 1 rfl) ?_
    refine lv_iload_n C.1 C.2.1 dX11_write_15 rfl (lv_at hl 2 rfl) ?_
    have em16 : (I8 (gr g a0 0) 717).toInt = i2.toInt := congrArg Int32.toInt ((f9 (gr g a0 0) 717 (Or.inl (is_ne h0_ h1 (by decide)))).trans ki2)
    have em17 : (I8 (gr g a0 0) 715).toInt = i3.toInt := congrArg Int32.toInt ((f9 (gr g a0 0) 715 (Or.inl (is_ne h0_ h1 (by decide)))).trans ki3)
    have em18 : (I8 (gr g a0 0) 716).toInt = i4.toInt := congrArg Int32.toInt ((f9 (gr g a0 0) 716 (Or.inl (is_ne h0_ h1 (by decide)))).trans ki4)
    have em19 : (I8 (gr g a0 0) 722).toInt = i5.toInt := congrArg Int32.toInt ((f9 (gr g a0 0) 722 (Or.inl (is_ne h0_ h1 (by decide)))).trans ki5)
    have em20 : (I8 (gr g a0 0) 718).toInt = i6.toInt := congrArg Int32.toInt ((f9 (gr g a0 0) 718 (Or.inl (is_ne h0_ h1 (by decide)))).trans ki6)
    have em21 : (I8 (gr g a0 0) 719).toInt = i7.toInt := congrArg Int32.toInt ((f9 (gr g a0 0) 719 (Or.inl (is_ne h0_ h1 (by decide)))).trans ki7)
    refine k_PM C M h0_ (by decide) rfl (ct_X11_writesBlock l g I8 J a0 x1 x2 h0_ (by simp only [em16, em17, em18, em19, em20, em21]; first | assumption | omega) (by omega) (by omega)) (cw_X11_144 C.2.2.2.2 (by decide)) rfl hl.1 rfl (Nat.le_of_ble_eq_true rfl) dX11_write_16 ⟨Nat.le_refl _, Nat.le_refl _⟩ (fun r26 I22 J23 H locs G24 p25r M => ?_)
    obtain ⟨eJ23, ⟨p25, fx27⟩⟩ : J23 = J ∧ ((True) ∧ (∀ j, 715 ≤ j → I22 (gr g a0 0) j = I8 (gr g a0 0) j)) := p25r
    have eJ23 := eJ23.symm
    subst eJ23
    have Hi : ∀ j, 715 ≤ j → I22 (gr g a0 0) j = I (gr g a0 0) j := fun j hj => (fx27 j hj).trans (Hi j hj)
    have F := fr_call F G24 (by decide)
    refine lv_goto (tgt := 23) C.1 C.2.1 dX11_write_19 (by decide) ?_
    exact r_PM C M hr hlk F rfl ⟨rfl, ⟨trivial, Hi⟩⟩ dX11_write_23

abbrev md_X11_fill : List (Nat × Nat) := [(9, 10), (9, 11), (9, 12), (28, 0)]
set_option maxHeartbeats 4000000 in
set_option maxRecDepth 100000 in
theorem ct_X11_fill (l : Launch) (g : Gs) (I : Ms) (J : Js) (a0 : Nat) (x1 : Int32) (x2 : Int32) (x3 : Int32) (h0_ : Is g a0 9) (g0 : jm (I (gr g a0 0) 717).toInt (I (gr g a0 0) 715).toInt (I (gr g a0 0) 716).toInt (I (gr g a0 0) 722).toInt (I (gr g a0 0) 718).toInt (I (gr g a0 0) 719).toInt) : Ctr l yX11_fill cX11_fill 6 (Option.some Jvm.ClassFile.FieldType.int) 7 g [.ref a0, .int x1, .int x2, .int x3] I J (PM g md_X11_fill I (fun z I1 J1 => J1 = J ∧ ((True) ∧ (∀ j, 715 ≤ j → I1 (gr g a0 0) j = I (gr g a0 0) j)))) := by
  refine m_start (by decide) (Nat.le_of_ble_eq_true rfl) ?_
  intro p e s m args below meth c C hr hlk M ls hl
  have hl : lv_has ls 6 [(0, .ref a0), (1, .int x1), (2, .int x2), (3, .int x3)] := hl
  have C : CallFix p m c cX11_fill 6 s args TB RX11 := C
  have F : Fr g md_X11_fill I I := fr_rf
  have hS0 := is_ref M h0_ 0 28 rfl rfl
  have Hi : ∀ j, 715 ≤ j → I (gr g a0 0) j = I (gr g a0 0) j := by intros; rfl
  have h1 := is_ref M h0_ 0 28 rfl rfl
  obtain ⟨i2, ki2⟩ : ∃ z : Int32, I (gr g a0 0) 717 = z := ⟨_, rfl⟩
  have ti2 : 0 ≤ i2.toInt ∧ i2.toInt ≤ 1 := m_rng M h1 717 ki2 rfl
  have ci2 : (I (gr g a0 0) 717).toInt = i2.toInt := congrArg Int32.toInt ki2
  obtain ⟨i3, ki3⟩ : ∃ z : Int32, I (gr g a0 0) 715 = z := ⟨_, rfl⟩
  have ti3 : 3 ≤ i3.toInt ∧ i3.toInt ≤ 7 := m_rng M h1 715 ki3 rfl
  have ci3 : (I (gr g a0 0) 715).toInt = i3.toInt := congrArg Int32.toInt ki3
  obtain ⟨i4, ki4⟩ : ∃ z : Int32, I (gr g a0 0) 716 = z := ⟨_, rfl⟩
  have ti4 : 4 ≤ i4.toInt ∧ i4.toInt ≤ 40 := m_rng M h1 716 ki4 rfl
  have ci4 : (I (gr g a0 0) 716).toInt = i4.toInt := congrArg Int32.toInt ki4
  obtain ⟨i5, ki5⟩ : ∃ z : Int32, I (gr g a0 0) 722 = z := ⟨_, rfl⟩
  have ti5 : 1 ≤ i5.toInt ∧ i5.toInt ≤ 4 := m_rng M h1 722 ki5 rfl
  have ci5 : (I (gr g a0 0) 722).toInt = i5.toInt := congrArg Int32.toInt ki5
  obtain ⟨i6, ki6⟩ : ∃ z : Int32, I (gr g a0 0) 718 = z := ⟨_, rfl⟩
  have ti6 : 0 ≤ i6.toInt ∧ i6.toInt ≤ 200 := m_rng M h1 718 ki6 rfl
  have ci6 : (I (gr g a0 0) 718).toInt = i6.toInt := congrArg Int32.toInt ki6
  obtain ⟨i7, ki7⟩ : ∃ z : Int32, I (gr g a0 0) 719 = z := ⟨_, rfl⟩
  have ti7 : 0 ≤ i7.toInt ∧ i7.toInt ≤ 200 := m_rng M h1 719 ki7 rfl
  have ci7 : (I (gr g a0 0) 719).toInt = i7.toInt := congrArg Int32.toInt ki7
  simp only [ci2, ci3, ci4, ci5, ci6, ci7] at g0
  have hj6 : i2.toInt = 1 → i3.toInt ≤ 6 := fun q => (g0 q).1
  refine lv_aload_n C.1 C.2.1 dX11_fill_0 rfl (lv_at hl 0 rfl) ?_
  refine lv_iconst (v := 0) C.1 C.2.1 dX11_fill_1 (by decide) ?_
  refine pi_X11_39 C M h0_ dX11_fill_2 (fun H locs I8 k10 f9 M => ?_)
  have F := fr_put F h0_ (Or.inr (by decide)) f9
  have Hi : ∀ j, 715 ≤ j → I8 (gr g a0 0) j = I (gr g a0 0) j := fun j hj => (f9 (gr g a0 0) j (Or.inl (is_ne h0_ hS0 (by decide)))).trans (Hi j hj)
  refine lv_aload_n C.1 C.2.1 dX11_fill_5 rfl (lv_at hl 0 rfl) ?_
  refine lv_iload_n C.1 C.2.1 dX11_fill_6 rfl (lv_at hl 1 rfl) ?_
  have em11 : (I8 (gr g a0 0) 715).toInt = i3.toInt := congrArg Int32.toInt ((f9 (gr g a0 0) 715 (Or.inl (is_ne h0_ h1 (by decide)))).trans ki3)
  have em12 : (I8 (gr g a0 0) 716).toInt = i4.toInt := congrArg Int32.toInt ((f9 (gr g a0 0) 716 (Or.inl (is_ne h0_ h1 (by decide)))).trans ki4)
  refine k_PI C M h0_ (by decide) rfl (ct_X11_isBlock l g I8 J a0 x1 h0_) (cw_X11_138 C.2.2.2.2 (by decide)) rfl hl.1 rfl (Nat.le_of_ble_eq_true rfl) dX11_fill_7 ⟨Nat.le_refl _, Nat.le_refl _⟩ (fun r13 H locs p14r M => ?_)
  have p14 : 0 ≤ r13.toInt ∧ r13.toInt ≤ 1 ∧ (r13.toInt = 1 ↔ 0 ≤ x1.toInt ∧ x1.toInt < mBl (I8 (gr g a0 0) 716).toInt (I8 (gr g a0 0) 715).toInt) ∧ (r13.toInt = 1 → x1.toInt ≤ 239) := p14r
  simp only [em11, em12] at p14
  have p14 : 0 ≤ r13.toInt ∧ r13.toInt ≤ 1 ∧ (r13.toInt = 1 ↔ 0 ≤ x1.toInt ∧ x1.toInt < mBl i4.toInt i3.toInt) ∧ (r13.toInt = 1 → x1.toInt ≤ 239) := p14
  refine n_if_eq C (tgt := 36) dX11_fill_10 (by decide) rfl (fun q15 => ?_) (fun q15 => ?_)
  ·
    refine lv_iconst (v := -1) C.1 C.2.1 dX11_fill_36 (by decide) ?_
    exact r_PM C M (z := (-1)) hr hlk F rfl ⟨rfl, ⟨trivial, Hi⟩⟩ dX11_fill_37
  ·
    refine lv_iload_n C.1 C.2.1 dX11_fill_13 rfl (lv_at hl 2 rfl) ?_
    refine lv_iconst (v := 1) C.1 C.2.1 dX11_fill_14 (by decide) ?_
    refine lv_sipush (v := 200) C.1 C.2.1 dX11_fill_15 (by decide) ?_
    refine ks_PI C M (ct_X11_within l g I8 J x2 1 200) (cw_X11_114 C.2.2.2.2 (by decide)) rfl hl.1 rfl (Nat.le_of_ble_eq_true rfl) dX11_fill_18 ⟨Nat.le_refl _, Nat.le_refl _⟩ (fun r16 H locs p17r M => ?_)
    have p17 : 0 ≤ r16.toInt ∧ r16.toInt ≤ 1 ∧ (r16.toInt = 1 ↔ 1 ≤ x2.toInt ∧ x2.toInt ≤ 200) := p17r
    refine n_if_eq C (tgt := 36) dX11_fill_21 (by decide) rfl (fun q18 => ?_) (fun q18 => ?_)
    ·
      refine lv_iconst (v := -1) C.1 C.2.1 dX11_fill_36 (by decide) ?_
      exact r_PM C M (z := (-1)) hr hlk F rfl ⟨rfl, ⟨trivial, Hi⟩⟩ dX11_fill_37
    ·
      refine lv_aload_n C.1 C.2.1 dX11_fill_24 rfl (lv_at hl 0 rfl) ?_
      refine lv_iload_n C.1 C.2.1 dX11_fill_25 rfl (lv_at hl 1 rfl) ?_
      refine lv_iload_n C.1 C.2.1 dX11_fill_26 rfl (lv_at hl 2 rfl) ?_
      refine n_iadd C dX11_fill_27 rfl rfl (by omega) (by omega) (fun v19 ev19 => ?_)
      refine lv_iconst (v := 1) C.1 C.2.1 dX11_fill_28 (by decide) ?_
      refine n_isub C (Y := 1) dX11_fill_29 rfl rfl (by omega) (by omega) (fun v20 ev20 => ?_)
      have em21 : (I8 (gr g a0 0) 715).toInt = i3.toInt := congrArg Int32.toInt ((f9 (gr g a0 0) 715 (Or.inl (is_ne h0_ h1 (by decide)))).trans ki3)
      have em22 : (I8 (gr g a0 0) 716).toInt = i4.toInt := congrArg Int32.toInt ((f9 (gr g a0 0) 716 (Or.inl (is_ne h0_ h1 (by decide)))).trans ki4)
      refine k_PI C M h0_ (by decide) rfl (ct_X11_isBlock l g I8 J a0 v20 h0_) (cw_X11_138 C.2.2.2.2 (by decide)) rfl hl.1 rfl (Nat.le_of_ble_eq_true rfl) dX11_fill_30 ⟨Nat.le_refl _, Nat.le_refl _⟩ (fun r23 H locs p24r M => ?_)
      have p24 : 0 ≤ r23.toInt ∧ r23.toInt ≤ 1 ∧ (r23.toInt = 1 ↔ 0 ≤ v20.toInt ∧ v20.toInt < mBl (I8 (gr g a0 0) 716).toInt (I8 (gr g a0 0) 715).toInt) ∧ (r23.toInt = 1 → v20.toInt ≤ 239) := p24r
      simp only [em21, em22] at p24
      have p24 : 0 ≤ r23.toInt ∧ r23.toInt ≤ 1 ∧ (r23.toInt = 1 ↔ 0 ≤ v20.toInt ∧ v20.toInt < mBl i4.toInt i3.toInt) ∧ (r23.toInt = 1 → v20.toInt ≤ 239) := p24
      refine n_if_ne C (tgt := 38) dX11_fill_33 (by decide) rfl (fun q25 => ?_) (fun q25 => ?_)
      ·
        refine lv_iconst (v := 0) C.1 C.2.1 dX11_fill_38 (by decide) ?_
        refine lv_istore (lv' := [(4, .int 0), (0, .ref a0), (1, .int x1), (2, .int x2), (3, .int x3)]) C.1 C.2.1 dX11_fill_39 hl (by decide) rfl (fun ls hl => ?_)
        refine lv_iconst (v := 0) C.1 C.2.1 dX11_fill_41 (by decide) ?_
        refine lv_istore (lv' := [(5, .int 0), (4, .int 0), (0, .ref a0), (1, .int x1), (2, .int x2), (3, .int x3)]) C.1 C.2.1 dX11_fill_42 hl (by decide) rfl (fun ls hl => ?_)
        have L44 : ∀ (n44 : Nat) (y26 : Int32) (y27 : Int32) (I28 : Ms) (H : Heap) (locs : List Loc) (ls : Array Slot), I28 a0 9 = 0 → I28 (gr g a0 0) 719 = i7 → I28 (gr g a0 0) 718 = i6 → I28 (gr g a0 0) 722 = i5 → I28 (gr g a0 0) 716 = i4 → I28 (gr g a0 0) 715 = i3 → I28 (gr g a0 0) 717 = i2 → 0 ≤ y27.toInt → y27.toInt ≤ 200 → 200 - y27.toInt < (n44 : Int) → Fr g md_X11_fill I I28 → (∀ j, 715 ≤ j → I28 (gr g a0 0) j = I (gr g a0 0) j) → Mm g s I28 J H locs → lv_has ls 6 [(0, .ref a0), (1, .int x1), (2, .int x2), (3, .int x3), (4, .int y26), (5, .int y27)] → W p l e (rmL 7) s m args below meth c H locs 0 0 (MQg below g (PM g md_X11_fill I (fun z I1 J1 => J1 = J ∧ ((True) ∧ (∀ j, 715 ≤ j → I1 (gr g a0 0) j = I (gr g a0 0) j)))) args s) (F0 m 44 ls []) := by
          intro n44
          induction n44 with
          | zero =>
            intro y26 y27 I28 H locs ls k29 k30 k31 k32 k33 k34 k35 f36 f37 hm44 F Hi M hl
            exact absurd hm44 (by omega)
          | succ n44 ih44 =>
            intro y26 y27 I28 H locs ls k29 k30 k31 k32 k33 k34 k35 f36 f37 hm44 F Hi M hl
            refine lv_iload C.1 C.2.1 dX11_fill_44 (lv_at hl 5 rfl) ?_
            refine lv_iload_n C.1 C.2.1 dX11_fill_46 rfl (lv_at hl 2 rfl) ?_
            refine n_icmp_ge C (tgt := 75) dX11_fill_47 (by decide) rfl rfl (fun q38 => ?_) (fun q38 => ?_)
            ·
              refine lv_iload C.1 C.2.1 dX11_fill_75 (lv_at hl 4 rfl) ?_
              exact r_PM C M hr hlk F rfl ⟨rfl, ⟨trivial, Hi⟩⟩ dX11_fill_77
            ·
              refine lv_aload_n C.1 C.2.1 dX11_fill_50 rfl (lv_at hl 0 rfl) ?_
              refine lv_iload_n C.1 C.2.1 dX11_fill_51 rfl (lv_at hl 1 rfl) ?_
              refine lv_iload C.1 C.2.1 dX11_fill_52 (lv_at hl 5 rfl) ?_
              refine n_iadd C dX11_fill_54 rfl rfl (by omega) (by omega) (fun v39 ev39 => ?_)
              refine lv_iload_n C.1 C.2.1 dX11_fill_55 rfl (lv_at hl 3 rfl) ?_
              refine lv_iload C.1 C.2.1 dX11_fill_56 (lv_at hl 5 rfl) ?_
              refine n_iaddU C dX11_fill_58 (fun v40 => ?_)
              have em41 : (I28 (gr g a0 0) 717).toInt = i2.toInt := congrArg Int32.toInt k35
              have em42 : (I28 (gr g a0 0) 715).toInt = i3.toInt := congrArg Int32.toInt k34
              have em43 : (I28 (gr g a0 0) 716).toInt = i4.toInt := congrArg Int32.toInt k33
              have em44 : (I28 (gr g a0 0) 722).toInt = i5.toInt := congrArg Int32.toInt k32
              have em45 : (I28 (gr g a0 0) 718).toInt = i6.toInt := congrArg Int32.toInt k31
              have em46 : (I28 (gr g a0 0) 719).toInt = i7.toInt := congrArg Int32.toInt k30
              refine k_PM C M h0_ (by decide) rfl (ct_X11_writesBlock l g I28 J a0 v39 v40 h0_ (by simp only [em41, em42, em43, em44, em45, em46]; first | assumption | omega) (by omega) (by omega)) (cw_X11_144 C.2.2.2.2 (by decide)) rfl hl.1 rfl (Nat.le_of_ble_eq_true rfl) dX11_fill_59 ⟨Nat.le_refl _, Nat.le_refl _⟩ (fun r51 I47 J48 H locs G49 p50r M => ?_)
              obtain ⟨eJ48, ⟨p50, fx52⟩⟩ : J48 = J ∧ ((True) ∧ (∀ j, 715 ≤ j → I47 (gr g a0 0) j = I28 (gr g a0 0) j)) := p50r
              have eJ48 := eJ48.symm
              subst eJ48
              have Hi : ∀ j, 715 ≤ j → I47 (gr g a0 0) j = I (gr g a0 0) j := fun j hj => (fx52 j hj).trans (Hi j hj)
              have F := fr_call F G49 (by decide)
              refine lv_iconst (v := 1) C.1 C.2.1 dX11_fill_62 (by decide) ?_
              refine n_icmp_ne C (tgt := 69) (Y := 1) dX11_fill_63 (by decide) rfl rfl (fun q53 => ?_) (fun q53 => ?_)
              ·
                refine n_iinc C (k := 5) (N := 1) (lv' := fun v => [(5, .int v), (0, .ref a0), (1, .int x1), (2, .int x2), (3, .int x3), (4, .int y26)]) dX11_fill_69 hl rfl (by decide) rfl rfl (by omega) (by omega) (fun _ => rfl) (fun v54 ls ev54 hl => ?_)
                refine lv_goto (tgt := 44) C.1 C.2.1 dX11_fill_72 (by decide) ?_
                exact ih44 y26 v54 I47 _ _ _ ((G49 a0 9 9 h0_ (by decide) (by decide)).trans k29) ((fx52 719 (by decide)).trans k30) ((fx52 718 (by decide)).trans k31) ((fx52 722 (by decide)).trans k32) ((fx52 716 (by decide)).trans k33) ((fx52 715 (by decide)).trans k34) ((fx52 717 (by decide)).trans k35) (by omega) (by omega) (by omega) F Hi M (lv_sub hl [1, 2, 3, 4, 5, 0] rfl)
              ·
                refine n_iincU C (k := 4) (lv' := fun v => [(4, .int v), (0, .ref a0), (1, .int x1), (2, .int x2), (3, .int x3), (5, .int y27)]) dX11_fill_66 hl rfl (by decide) (fun _ => rfl) (fun v55 ls hl => ?_)
                refine n_iinc C (k := 5) (N := 1) (lv' := fun v => [(5, .int v), (4, .int v55), (0, .ref a0), (1, .int x1), (2, .int x2), (3, .int x3)]) dX11_fill_69 hl rfl (by decide) rfl rfl (by omega) (by omega) (fun _ => rfl) (fun v56 ls ev56 hl => ?_)
                refine lv_goto (tgt := 44) C.1 C.2.1 dX11_fill_72 (by decide) ?_
                exact ih44 v55 v56 I47 _ _ _ ((G49 a0 9 9 h0_ (by decide) (by decide)).trans k29) ((fx52 719 (by decide)).trans k30) ((fx52 718 (by decide)).trans k31) ((fx52 722 (by decide)).trans k32) ((fx52 716 (by decide)).trans k33) ((fx52 715 (by decide)).trans k34) ((fx52 717 (by decide)).trans k35) (by omega) (by omega) (by omega) F Hi M (lv_sub hl [2, 3, 4, 5, 1, 0] rfl)
        have cz57 : (0 : Int32).toInt = 0 := rfl
        have cz58 : (0 : Int32).toInt = 0 := rfl
        exact L44 _ 0 0 I8 _ _ _ k10 ((f9 (gr g a0 0) 719 (Or.inl (is_ne h0_ h1 (by decide)))).trans ki7) ((f9 (gr g a0 0) 718 (Or.inl (is_ne h0_ h1 (by decide)))).trans ki6) ((f9 (gr g a0 0) 722 (Or.inl (is_ne h0_ h1 (by decide)))).trans ki5) ((f9 (gr g a0 0) 716 (Or.inl (is_ne h0_ h1 (by decide)))).trans ki4) ((f9 (gr g a0 0) 715 (Or.inl (is_ne h0_ h1 (by decide)))).trans ki3) ((f9 (gr g a0 0) 717 (Or.inl (is_ne h0_ h1 (by decide)))).trans ki2) (by omega) (by omega) (n_big _) F Hi M (lv_sub hl [2, 3, 4, 5, 1, 0] rfl)
      ·
        refine lv_iconst (v := -1) C.1 C.2.1 dX11_fill_36 (by decide) ?_
        exact r_PM C M (z := (-1)) hr hlk F rfl ⟨rfl, ⟨trivial, Hi⟩⟩ dX11_fill_37

abbrev md_X11_scrub : List (Nat × Nat) := [(9, 10)]
set_option maxHeartbeats 4000000 in
set_option maxRecDepth 100000 in
theorem ct_X11_scrub (l : Launch) (g : Gs) (I : Ms) (J : Js) (a0 : Nat) (x1 : Int32) (h0_ : Is g a0 9) (g0 : jm (I (gr g a0 0) 717).toInt (I (gr g a0 0) 715).toInt (I (gr g a0 0) 716).toInt (I (gr g a0 0) 722).toInt (I (gr g a0 0) 718).toInt (I (gr g a0 0) 719).toInt) : Ctr l yX11_scrub cX11_scrub 4 (Option.some Jvm.ClassFile.FieldType.int) 5 g [.ref a0, .int x1] I J (PM g md_X11_scrub I (fun z I1 J1 => J1 = J ∧ (True))) := by
  refine m_start (by decide) (Nat.le_of_ble_eq_true rfl) ?_
  intro p e s m args below meth c C hr hlk M ls hl
  have hl : lv_has ls 4 [(0, .ref a0), (1, .int x1)] := hl
  have C : CallFix p m c cX11_scrub 4 s args TB RX11 := C
  have F : Fr g md_X11_scrub I I := fr_rf
  have h1 := is_ref M h0_ 0 28 rfl rfl
  obtain ⟨i2, ki2⟩ : ∃ z : Int32, I (gr g a0 0) 717 = z := ⟨_, rfl⟩
  have ti2 : 0 ≤ i2.toInt ∧ i2.toInt ≤ 1 := m_rng M h1 717 ki2 rfl
  have ci2 : (I (gr g a0 0) 717).toInt = i2.toInt := congrArg Int32.toInt ki2
  obtain ⟨i3, ki3⟩ : ∃ z : Int32, I (gr g a0 0) 715 = z := ⟨_, rfl⟩
  have ti3 : 3 ≤ i3.toInt ∧ i3.toInt ≤ 7 := m_rng M h1 715 ki3 rfl
  have ci3 : (I (gr g a0 0) 715).toInt = i3.toInt := congrArg Int32.toInt ki3
  obtain ⟨i4, ki4⟩ : ∃ z : Int32, I (gr g a0 0) 716 = z := ⟨_, rfl⟩
  have ti4 : 4 ≤ i4.toInt ∧ i4.toInt ≤ 40 := m_rng M h1 716 ki4 rfl
  have ci4 : (I (gr g a0 0) 716).toInt = i4.toInt := congrArg Int32.toInt ki4
  obtain ⟨i5, ki5⟩ : ∃ z : Int32, I (gr g a0 0) 722 = z := ⟨_, rfl⟩
  have ti5 : 1 ≤ i5.toInt ∧ i5.toInt ≤ 4 := m_rng M h1 722 ki5 rfl
  have ci5 : (I (gr g a0 0) 722).toInt = i5.toInt := congrArg Int32.toInt ki5
  obtain ⟨i6, ki6⟩ : ∃ z : Int32, I (gr g a0 0) 718 = z := ⟨_, rfl⟩
  have ti6 : 0 ≤ i6.toInt ∧ i6.toInt ≤ 200 := m_rng M h1 718 ki6 rfl
  have ci6 : (I (gr g a0 0) 718).toInt = i6.toInt := congrArg Int32.toInt ki6
  obtain ⟨i7, ki7⟩ : ∃ z : Int32, I (gr g a0 0) 719 = z := ⟨_, rfl⟩
  have ti7 : 0 ≤ i7.toInt ∧ i7.toInt ≤ 200 := m_rng M h1 719 ki7 rfl
  have ci7 : (I (gr g a0 0) 719).toInt = i7.toInt := congrArg Int32.toInt ki7
  simp only [ci2, ci3, ci4, ci5, ci6, ci7] at g0
  have hj6 : i2.toInt = 1 → i3.toInt ≤ 6 := fun q => (g0 q).1
  refine lv_aload_n C.1 C.2.1 dX11_scrub_0 rfl (lv_at hl 0 rfl) ?_
  refine lv_iconst (v := 0) C.1 C.2.1 dX11_scrub_1 (by decide) ?_
  refine pi_X11_39 C M h0_ dX11_scrub_2 (fun H locs I8 k10 f9 M => ?_)
  have F := fr_put F h0_ (Or.inr (by decide)) f9
  refine lv_iconst (v := 0) C.1 C.2.1 dX11_scrub_5 (by decide) ?_
  refine lv_istore_n (lv' := [(2, .int 0), (0, .ref a0), (1, .int x1)]) C.1 C.2.1 dX11_scrub_6 rfl hl (by decide) rfl (fun ls hl => ?_)
  refine lv_iconst (v := 0) C.1 C.2.1 dX11_scrub_7 (by decide) ?_
  refine lv_istore_n (lv' := [(3, .int 0), (2, .int 0), (0, .ref a0), (1, .int x1)]) C.1 C.2.1 dX11_scrub_8 rfl hl (by decide) rfl (fun ls hl => ?_)
  have L9 : ∀ (n9 : Nat) (y11 : Int32) (y12 : Int32) (H : Heap) (locs : List Loc) (ls : Array Slot), 0 ≤ y12.toInt → y12.toInt ≤ 40 → 40 - y12.toInt < (n9 : Int) → Mm g s I8 J H locs → lv_has ls 4 [(0, .ref a0), (1, .int x1), (2, .int y11), (3, .int y12)] → W p l e (rmL 5) s m args below meth c H locs 0 0 (MQg below g (PM g md_X11_scrub I (fun z I1 J1 => J1 = J ∧ (True))) args s) (F0 m 9 ls []) := by
    intro n9
    induction n9 with
    | zero =>
      intro y11 y12 H locs ls f13 f14 hm9 M hl
      exact absurd hm9 (by omega)
    | succ n9 ih9 =>
      intro y11 y12 H locs ls f13 f14 hm9 M hl
      refine lv_iload_n C.1 C.2.1 dX11_scrub_9 rfl (lv_at hl 3 rfl) ?_
      refine lv_aload_n C.1 C.2.1 dX11_scrub_10 rfl (lv_at hl 0 rfl) ?_
      refine gi_X11_7 C M h0_ dX11_scrub_11 (fun h15 => ?_)
      refine lv_sipush (v := 716) C.1 C.2.1 dX11_scrub_14 (by decide) ?_
      refine a_ldK C M (X := 716) (j := 716) h1 (n := 729) rfl rfl rfl (by omega) (by omega) rfl ((f9 (gr g a0 0) 716 (Or.inl (is_ne h0_ h1 (by decide)))).trans ki4) dX11_scrub_17 ?_
      refine n_icmp_ge C (tgt := 48) dX11_scrub_18 (by decide) rfl rfl (fun q16 => ?_) (fun q16 => ?_)
      ·
        refine lv_iload_n C.1 C.2.1 dX11_scrub_48 rfl (lv_at hl 1 rfl) ?_
        refine lv_iconst (v := -1) C.1 C.2.1 dX11_scrub_49 (by decide) ?_
        refine n_icmp_ne C (tgt := 57) (Y := (-1)) dX11_scrub_50 (by decide) rfl rfl (fun q17 => ?_) (fun q17 => ?_)
        ·
          refine lv_iconst (v := -1) C.1 C.2.1 dX11_scrub_57 (by decide) ?_
          exact r_PM C M (z := (-1)) hr hlk F rfl ⟨rfl, trivial⟩ dX11_scrub_58
        ·
          refine lv_iload_n C.1 C.2.1 dX11_scrub_53 rfl (lv_at hl 2 rfl) ?_
          refine lv_goto (tgt := 58) C.1 C.2.1 dX11_scrub_54 (by decide) ?_
          exact r_PM C M hr hlk F rfl ⟨rfl, trivial⟩ dX11_scrub_58
      ·
        refine lv_aload_n C.1 C.2.1 dX11_scrub_21 rfl (lv_at hl 0 rfl) ?_
        refine lv_iload_n C.1 C.2.1 dX11_scrub_22 rfl (lv_at hl 3 rfl) ?_
        have em18 : (I8 (gr g a0 0) 717).toInt = i2.toInt := congrArg Int32.toInt ((f9 (gr g a0 0) 717 (Or.inl (is_ne h0_ h1 (by decide)))).trans ki2)
        have em19 : (I8 (gr g a0 0) 715).toInt = i3.toInt := congrArg Int32.toInt ((f9 (gr g a0 0) 715 (Or.inl (is_ne h0_ h1 (by decide)))).trans ki3)
        have em20 : (I8 (gr g a0 0) 716).toInt = i4.toInt := congrArg Int32.toInt ((f9 (gr g a0 0) 716 (Or.inl (is_ne h0_ h1 (by decide)))).trans ki4)
        have em21 : (I8 (gr g a0 0) 722).toInt = i5.toInt := congrArg Int32.toInt ((f9 (gr g a0 0) 722 (Or.inl (is_ne h0_ h1 (by decide)))).trans ki5)
        have em22 : (I8 (gr g a0 0) 718).toInt = i6.toInt := congrArg Int32.toInt ((f9 (gr g a0 0) 718 (Or.inl (is_ne h0_ h1 (by decide)))).trans ki6)
        have em23 : (I8 (gr g a0 0) 719).toInt = i7.toInt := congrArg Int32.toInt ((f9 (gr g a0 0) 719 (Or.inl (is_ne h0_ h1 (by decide)))).trans ki7)
        refine k_PI C M h0_ (by decide) rfl (ct_X11_isOff l g I8 J a0 y12 h0_ (by simp only [em18, em19, em20, em21, em22, em23]; first | assumption | omega) (by omega) (by omega)) (cw_X11_173 C.2.2.2.2 (by decide)) rfl hl.1 rfl (Nat.le_of_ble_eq_true rfl) dX11_scrub_23 ⟨Nat.le_refl _, Nat.le_refl _⟩ (fun r24 H locs p25r M => ?_)
        have p25 : 0 ≤ r24.toInt ∧ r24.toInt ≤ 1 := p25r
        refine n_if_ne C (tgt := 32) dX11_scrub_26 (by decide) rfl (fun q26 => ?_) (fun q26 => ?_)
        ·
          refine lv_iload_n C.1 C.2.1 dX11_scrub_32 rfl (lv_at hl 2 rfl) ?_
          refine lv_iload_n C.1 C.2.1 dX11_scrub_33 rfl (lv_at hl 1 rfl) ?_
          refine n_icmp_ne C (tgt := 39) dX11_scrub_34 (by decide) rfl rfl (fun q27 => ?_) (fun q27 => ?_)
          ·
            refine n_iincU C (k := 2) (lv' := fun v => [(2, .int v), (0, .ref a0), (1, .int x1), (3, .int y12)]) dX11_scrub_39 hl rfl (by decide) (fun _ => rfl) (fun v28 ls hl => ?_)
            refine n_iinc C (k := 3) (N := 1) (lv' := fun v => [(3, .int v), (2, .int v28), (0, .ref a0), (1, .int x1)]) dX11_scrub_42 hl rfl (by decide) rfl rfl (by omega) (by omega) (fun _ => rfl) (fun v29 ls ev29 hl => ?_)
            refine lv_goto (tgt := 9) C.1 C.2.1 dX11_scrub_45 (by decide) ?_
            exact ih9 v28 v29 _ _ _ (by omega) (by omega) (by omega) M (lv_sub hl [2, 3, 1, 0] rfl)
          ·
            refine lv_iload_n C.1 C.2.1 dX11_scrub_37 rfl (lv_at hl 3 rfl) ?_
            exact r_PM C M hr hlk F rfl ⟨rfl, trivial⟩ dX11_scrub_38
        ·
          refine lv_goto (tgt := 42) C.1 C.2.1 dX11_scrub_29 (by decide) ?_
          refine n_iinc C (k := 3) (N := 1) (lv' := fun v => [(3, .int v), (0, .ref a0), (1, .int x1), (2, .int y11)]) dX11_scrub_42 hl rfl (by decide) rfl rfl (by omega) (by omega) (fun _ => rfl) (fun v30 ls ev30 hl => ?_)
          refine lv_goto (tgt := 9) C.1 C.2.1 dX11_scrub_45 (by decide) ?_
          exact ih9 y11 v30 _ _ _ (by omega) (by omega) (by omega) M (lv_sub hl [1, 2, 3, 0] rfl)
  have cz31 : (0 : Int32).toInt = 0 := rfl
  have cz32 : (0 : Int32).toInt = 0 := rfl
  exact L9 _ 0 0 _ _ _ (by omega) (by omega) (n_big _) M (lv_sub hl [2, 3, 1, 0] rfl)

abbrev md_X11_repair : List (Nat × Nat) := [(9, 10), (28, 0)]
set_option maxHeartbeats 4000000 in
set_option maxRecDepth 100000 in
theorem ct_X11_repair (l : Launch) (g : Gs) (I : Ms) (J : Js) (a0 : Nat) (h0_ : Is g a0 9) (g0 : jm (I (gr g a0 0) 717).toInt (I (gr g a0 0) 715).toInt (I (gr g a0 0) 716).toInt (I (gr g a0 0) 722).toInt (I (gr g a0 0) 718).toInt (I (gr g a0 0) 719).toInt) : Ctr l yX11_repair cX11_repair 7 (Option.some Jvm.ClassFile.FieldType.int) 5 g [.ref a0] I J (PM g md_X11_repair I (fun z I1 J1 => J1 = J ∧ ((True) ∧ (∀ j, 715 ≤ j → I1 (gr g a0 0) j = I (gr g a0 0) j)))) := by
  refine m_start (by decide) (Nat.le_of_ble_eq_true rfl) ?_
  intro p e s m args below meth c C hr hlk M ls hl
  have hl : lv_has ls 7 [(0, .ref a0)] := hl
  have C : CallFix p m c cX11_repair 7 s args TB RX11 := C
  have F : Fr g md_X11_repair I I := fr_rf
  have hS0 := is_ref M h0_ 0 28 rfl rfl
  have Hi : ∀ j, 715 ≤ j → I (gr g a0 0) j = I (gr g a0 0) j := by intros; rfl
  have h1 := is_ref M h0_ 0 28 rfl rfl
  obtain ⟨i2, ki2⟩ : ∃ z : Int32, I (gr g a0 0) 717 = z := ⟨_, rfl⟩
  have ti2 : 0 ≤ i2.toInt ∧ i2.toInt ≤ 1 := m_rng M h1 717 ki2 rfl
  have ci2 : (I (gr g a0 0) 717).toInt = i2.toInt := congrArg Int32.toInt ki2
  obtain ⟨i3, ki3⟩ : ∃ z : Int32, I (gr g a0 0) 715 = z := ⟨_, rfl⟩
  have ti3 : 3 ≤ i3.toInt ∧ i3.toInt ≤ 7 := m_rng M h1 715 ki3 rfl
  have ci3 : (I (gr g a0 0) 715).toInt = i3.toInt := congrArg Int32.toInt ki3
  obtain ⟨i4, ki4⟩ : ∃ z : Int32, I (gr g a0 0) 716 = z := ⟨_, rfl⟩
  have ti4 : 4 ≤ i4.toInt ∧ i4.toInt ≤ 40 := m_rng M h1 716 ki4 rfl
  have ci4 : (I (gr g a0 0) 716).toInt = i4.toInt := congrArg Int32.toInt ki4
  obtain ⟨i5, ki5⟩ : ∃ z : Int32, I (gr g a0 0) 722 = z := ⟨_, rfl⟩
  have ti5 : 1 ≤ i5.toInt ∧ i5.toInt ≤ 4 := m_rng M h1 722 ki5 rfl
  have ci5 : (I (gr g a0 0) 722).toInt = i5.toInt := congrArg Int32.toInt ki5
  obtain ⟨i6, ki6⟩ : ∃ z : Int32, I (gr g a0 0) 718 = z := ⟨_, rfl⟩
  have ti6 : 0 ≤ i6.toInt ∧ i6.toInt ≤ 200 := m_rng M h1 718 ki6 rfl
  have ci6 : (I (gr g a0 0) 718).toInt = i6.toInt := congrArg Int32.toInt ki6
  obtain ⟨i7, ki7⟩ : ∃ z : Int32, I (gr g a0 0) 719 = z := ⟨_, rfl⟩
  have ti7 : 0 ≤ i7.toInt ∧ i7.toInt ≤ 200 := m_rng M h1 719 ki7 rfl
  have ci7 : (I (gr g a0 0) 719).toInt = i7.toInt := congrArg Int32.toInt ki7
  simp only [ci2, ci3, ci4, ci5, ci6, ci7] at g0
  have hj6 : i2.toInt = 1 → i3.toInt ≤ 6 := fun q => (g0 q).1
  refine lv_aload_n C.1 C.2.1 dX11_repair_0 rfl (lv_at hl 0 rfl) ?_
  refine lv_iconst (v := 0) C.1 C.2.1 dX11_repair_1 (by decide) ?_
  refine pi_X11_39 C M h0_ dX11_repair_2 (fun H locs I8 k10 f9 M => ?_)
  have F := fr_put F h0_ (Or.inr (by decide)) f9
  have Hi : ∀ j, 715 ≤ j → I8 (gr g a0 0) j = I (gr g a0 0) j := fun j hj => (f9 (gr g a0 0) j (Or.inl (is_ne h0_ hS0 (by decide)))).trans (Hi j hj)
  refine lv_iconst (v := 0) C.1 C.2.1 dX11_repair_5 (by decide) ?_
  refine lv_istore_n (lv' := [(1, .int 0), (0, .ref a0)]) C.1 C.2.1 dX11_repair_6 rfl hl (by decide) rfl (fun ls hl => ?_)
  refine lv_iconst (v := 0) C.1 C.2.1 dX11_repair_7 (by decide) ?_
  refine lv_istore_n (lv' := [(2, .int 0), (1, .int 0), (0, .ref a0)]) C.1 C.2.1 dX11_repair_8 rfl hl (by decide) rfl (fun ls hl => ?_)
  have L9 : ∀ (n9 : Nat) (y11 : Int32) (y12 : Int32) (I13 : Ms) (H : Heap) (locs : List Loc) (ls : Array Slot), I13 a0 9 = 0 → I13 (gr g a0 0) 719 = i7 → I13 (gr g a0 0) 718 = i6 → I13 (gr g a0 0) 722 = i5 → I13 (gr g a0 0) 716 = i4 → I13 (gr g a0 0) 715 = i3 → I13 (gr g a0 0) 717 = i2 → 0 ≤ y12.toInt → y12.toInt ≤ 40 → 40 - y12.toInt < (n9 : Int) → Fr g md_X11_repair I I13 → (∀ j, 715 ≤ j → I13 (gr g a0 0) j = I (gr g a0 0) j) → Mm g s I13 J H locs → lv_has ls 7 [(0, .ref a0), (1, .int y11), (2, .int y12)] → W p l e (rmL 5) s m args below meth c H locs 0 0 (MQg below g (PM g md_X11_repair I (fun z I1 J1 => J1 = J ∧ ((True) ∧ (∀ j, 715 ≤ j → I1 (gr g a0 0) j = I (gr g a0 0) j)))) args s) (F0 m 9 ls []) := by
    intro n9
    induction n9 with
    | zero =>
      intro y11 y12 I13 H locs ls k14 k15 k16 k17 k18 k19 k20 f21 f22 hm9 F Hi M hl
      exact absurd hm9 (by omega)
    | succ n9 ih9 =>
      intro y11 y12 I13 H locs ls k14 k15 k16 k17 k18 k19 k20 f21 f22 hm9 F Hi M hl
      refine lv_iload_n C.1 C.2.1 dX11_repair_9 rfl (lv_at hl 2 rfl) ?_
      refine lv_aload_n C.1 C.2.1 dX11_repair_10 rfl (lv_at hl 0 rfl) ?_
      refine gi_X11_7 C M h0_ dX11_repair_11 (fun h23 => ?_)
      refine lv_sipush (v := 716) C.1 C.2.1 dX11_repair_14 (by decide) ?_
      refine a_ldK C M (X := 716) (j := 716) h1 (n := 729) rfl rfl rfl (by omega) (by omega) rfl k18 dX11_repair_17 ?_
      refine n_icmp_ge C (tgt := 141) dX11_repair_18 (by decide) rfl rfl (fun q24 => ?_) (fun q24 => ?_)
      ·
        refine lv_iload_n C.1 C.2.1 dX11_repair_141 rfl (lv_at hl 1 rfl) ?_
        exact r_PM C M hr hlk F rfl ⟨rfl, ⟨trivial, Hi⟩⟩ dX11_repair_142
      ·
        refine lv_aload_n C.1 C.2.1 dX11_repair_21 rfl (lv_at hl 0 rfl) ?_
        refine lv_iload_n C.1 C.2.1 dX11_repair_22 rfl (lv_at hl 2 rfl) ?_
        have em25 : (I13 (gr g a0 0) 717).toInt = i2.toInt := congrArg Int32.toInt k20
        have em26 : (I13 (gr g a0 0) 715).toInt = i3.toInt := congrArg Int32.toInt k19
        have em27 : (I13 (gr g a0 0) 716).toInt = i4.toInt := congrArg Int32.toInt k18
        have em28 : (I13 (gr g a0 0) 722).toInt = i5.toInt := congrArg Int32.toInt k17
        have em29 : (I13 (gr g a0 0) 718).toInt = i6.toInt := congrArg Int32.toInt k16
        have em30 : (I13 (gr g a0 0) 719).toInt = i7.toInt := congrArg Int32.toInt k15
        refine k_PI C M h0_ (by decide) rfl (ct_X11_isOff l g I13 J a0 y12 h0_ (by simp only [em25, em26, em27, em28, em29, em30]; first | assumption | omega) (by omega) (by omega)) (cw_X11_173 C.2.2.2.2 (by decide)) rfl hl.1 rfl (Nat.le_of_ble_eq_true rfl) dX11_repair_23 ⟨Nat.le_refl _, Nat.le_refl _⟩ (fun r31 H locs p32r M => ?_)
        have p32 : 0 ≤ r31.toInt ∧ r31.toInt ≤ 1 := p32r
        refine n_if_ne C (tgt := 32) dX11_repair_26 (by decide) rfl (fun q33 => ?_) (fun q33 => ?_)
        ·
          refine lv_aload_n C.1 C.2.1 dX11_repair_32 rfl (lv_at hl 0 rfl) ?_
          have em34 : (I13 (gr g a0 0) 717).toInt = i2.toInt := congrArg Int32.toInt k20
          refine k_PI C M h0_ (by decide) rfl (ct_X11_isGrown l g I13 J a0 h0_) (cw_X11_84 C.2.2.2.2 (by decide)) rfl hl.1 rfl (Nat.le_of_ble_eq_true rfl) dX11_repair_33 ⟨Nat.le_refl _, Nat.le_refl _⟩ (fun r35 H locs p36r M => ?_)
          have p36 : 0 ≤ r35.toInt ∧ r35.toInt ≤ 1 ∧ (r35.toInt = 1 ↔ (I13 (gr g a0 0) 717).toInt = 1) := p36r
          simp only [em34] at p36
          have p36 : 0 ≤ r35.toInt ∧ r35.toInt ≤ 1 ∧ (r35.toInt = 1 ↔ i2.toInt = 1) := p36
          have J72 : ∀ (w37 : Int32) (H : Heap) (locs : List Loc) (ls : Array Slot), 3 ≤ w37.toInt → w37.toInt ≤ 8 → w37.toInt ≤ 7 → Mm g s I13 J H locs → lv_has ls 7 [(0, .ref a0), (1, .int y11), (2, .int y12)] → W p l e (rmL 5) s m args below meth c H locs 0 0 (MQg below g (PM g md_X11_repair I (fun z I1 J1 => J1 = J ∧ ((True) ∧ (∀ j, 715 ≤ j → I1 (gr g a0 0) j = I (gr g a0 0) j)))) args s) (F0 m 72 ls [.int w37]) := by
            intro w37 H locs ls f38 f39 f40 M hl
            refine lv_istore_n (lv' := [(3, .int w37), (0, .ref a0), (1, .int y11), (2, .int y12)]) C.1 C.2.1 dX11_repair_72 rfl hl (by decide) rfl (fun ls hl => ?_)
            refine lv_iload_n C.1 C.2.1 dX11_repair_73 rfl (lv_at hl 0 rfl) ?_
            refine lv_iload_n C.1 C.2.1 dX11_repair_74 rfl (lv_at hl 3 rfl) ?_
            refine ks_PI C M (ct_X11_parityOf l g I13 J w37 y12 (by omega) (by omega) (by omega)) (cw_X11_46 C.2.2.2.2 (by decide)) rfl hl.1 rfl (Nat.le_of_ble_eq_true rfl) dX11_repair_75 ⟨Nat.le_refl _, Nat.le_refl _⟩ (fun r41 H locs p42r M => ?_)
            have p42 : 0 ≤ r41.toInt ∧ r41.toInt ≤ w37.toInt - 1 := p42r
            refine lv_istore (lv' := [(4, .int r41), (3, .int w37), (0, .ref a0), (1, .int y11), (2, .int y12)]) C.1 C.2.1 dX11_repair_78 hl (by decide) rfl (fun ls hl => ?_)
            refine lv_iconst (v := 0) C.1 C.2.1 dX11_repair_80 (by decide) ?_
            refine lv_istore (lv' := [(5, .int 0), (4, .int r41), (3, .int w37), (0, .ref a0), (1, .int y11), (2, .int y12)]) C.1 C.2.1 dX11_repair_81 hl (by decide) rfl (fun ls hl => ?_)
            refine lv_iconst (v := 0) C.1 C.2.1 dX11_repair_83 (by decide) ?_
            refine lv_istore (lv' := [(6, .int 0), (5, .int 0), (4, .int r41), (3, .int w37), (0, .ref a0), (1, .int y11), (2, .int y12)]) C.1 C.2.1 dX11_repair_84 hl (by decide) rfl (fun ls hl => ?_)
            have L86 : ∀ (n86 : Nat) (y43 : Int32) (y44 : Int32) (H : Heap) (locs : List Loc) (ls : Array Slot), 0 ≤ y44.toInt → y44.toInt ≤ 8 → 8 - y44.toInt < (n86 : Int) → Mm g s I13 J H locs → lv_has ls 7 [(0, .ref a0), (1, .int y11), (2, .int y12), (3, .int w37), (4, .int r41), (5, .int y43), (6, .int y44)] → W p l e (rmL 5) s m args below meth c H locs 0 0 (MQg below g (PM g md_X11_repair I (fun z I1 J1 => J1 = J ∧ ((True) ∧ (∀ j, 715 ≤ j → I1 (gr g a0 0) j = I (gr g a0 0) j)))) args s) (F0 m 86 ls []) := by
              intro n86
              induction n86 with
              | zero =>
                intro y43 y44 H locs ls f45 f46 hm86 M hl
                exact absurd hm86 (by omega)
              | succ n86 ih86 =>
                intro y43 y44 H locs ls f45 f46 hm86 M hl
                refine lv_iload C.1 C.2.1 dX11_repair_86 (lv_at hl 6 rfl) ?_
                refine lv_iload_n C.1 C.2.1 dX11_repair_88 rfl (lv_at hl 3 rfl) ?_
                refine n_icmp_ge C (tgt := 123) dX11_repair_89 (by decide) rfl rfl (fun q47 => ?_) (fun q47 => ?_)
                ·
                  refine lv_aload_n C.1 C.2.1 dX11_repair_123 rfl (lv_at hl 0 rfl) ?_
                  refine lv_iload C.1 C.2.1 dX11_repair_124 (lv_at hl 4 rfl) ?_
                  refine lv_iload_n C.1 C.2.1 dX11_repair_126 rfl (lv_at hl 2 rfl) ?_
                  refine lv_iload C.1 C.2.1 dX11_repair_127 (lv_at hl 5 rfl) ?_
                  refine k_PV C M h0_ (by decide) rfl (ct_X11_lays l g I13 J a0 r41 y12 y43 h0_ (by omega) (by omega) (by omega) (by omega) (by omega)) (cw_X11_110 C.2.2.2.2 (by decide)) rfl hl.1 rfl (Nat.le_of_ble_eq_true rfl) dX11_repair_129 ⟨Nat.le_refl _, Nat.le_refl _⟩ (fun I48 J49 H locs G50 p51r M => ?_)
                  obtain ⟨eJ49, ⟨p51, fx52⟩⟩ : J49 = J ∧ ((True) ∧ (∀ j, 715 ≤ j → I48 (gr g a0 0) j = I13 (gr g a0 0) j)) := p51r
                  have eJ49 := eJ49.symm
                  subst eJ49
                  have Hi : ∀ j, 715 ≤ j → I48 (gr g a0 0) j = I (gr g a0 0) j := fun j hj => (fx52 j hj).trans (Hi j hj)
                  have F := fr_call F G50 (by decide)
                  refine n_iincU C (k := 1) (lv' := fun v => [(1, .int v), (0, .ref a0), (2, .int y12), (3, .int w37), (4, .int r41), (5, .int y43), (6, .int y44)]) dX11_repair_132 hl rfl (by decide) (fun _ => rfl) (fun v53 ls hl => ?_)
                  refine n_iinc C (k := 2) (N := 1) (lv' := fun v => [(2, .int v), (1, .int v53), (0, .ref a0), (3, .int w37), (4, .int r41), (5, .int y43), (6, .int y44)]) dX11_repair_135 hl rfl (by decide) rfl rfl (by omega) (by omega) (fun _ => rfl) (fun v54 ls ev54 hl => ?_)
                  refine lv_goto (tgt := 9) C.1 C.2.1 dX11_repair_138 (by decide) ?_
                  exact ih9 v53 v54 I48 _ _ _ ((G50 a0 9 9 h0_ (by decide) (by decide)).trans k14) ((fx52 719 (by decide)).trans k15) ((fx52 718 (by decide)).trans k16) ((fx52 722 (by decide)).trans k17) ((fx52 716 (by decide)).trans k18) ((fx52 715 (by decide)).trans k19) ((fx52 717 (by decide)).trans k20) (by omega) (by omega) (by omega) F Hi M (lv_sub hl [2, 1, 0] rfl)
                ·
                  refine lv_iload C.1 C.2.1 dX11_repair_92 (lv_at hl 6 rfl) ?_
                  refine lv_iload C.1 C.2.1 dX11_repair_94 (lv_at hl 4 rfl) ?_
                  refine n_icmp_eq C (tgt := 117) dX11_repair_96 (by decide) rfl rfl (fun q55 => ?_) (fun q55 => ?_)
                  ·
                    refine n_iinc C (k := 6) (N := 1) (lv' := fun v => [(6, .int v), (0, .ref a0), (1, .int y11), (2, .int y12), (3, .int w37), (4, .int r41), (5, .int y43)]) dX11_repair_117 hl rfl (by decide) rfl rfl (by omega) (by omega) (fun _ => rfl) (fun v56 ls ev56 hl => ?_)
                    refine lv_goto (tgt := 86) C.1 C.2.1 dX11_repair_120 (by decide) ?_
                    exact ih86 y43 v56 _ _ _ (by omega) (by omega) (by omega) M (lv_sub hl [1, 2, 3, 4, 5, 6, 0] rfl)
                  ·
                    refine lv_iload C.1 C.2.1 dX11_repair_99 (lv_at hl 5 rfl) ?_
                    refine lv_aload_n C.1 C.2.1 dX11_repair_101 rfl (lv_at hl 0 rfl) ?_
                    refine gi_X11_7 C M h0_ dX11_repair_102 (fun h57 => ?_)
                    refine lv_iconst (v := 0) C.1 C.2.1 dX11_repair_105 (by decide) ?_
                    refine lv_iload C.1 C.2.1 dX11_repair_106 (lv_at hl 6 rfl) ?_
                    refine lv_iload_n C.1 C.2.1 dX11_repair_108 rfl (lv_at hl 2 rfl) ?_
                    refine ks_PI C M (ct_X11_at l g I13 J y44 y12 (by omega) (by omega) (by omega) (by omega)) (cw_X11_50 C.2.2.2.2 (by decide)) rfl hl.1 rfl (Nat.le_of_ble_eq_true rfl) dX11_repair_109 ⟨Nat.le_refl _, Nat.le_refl _⟩ (fun r58 H locs p59r M => ?_)
                    have p59 : r58.toInt = 40 * y44.toInt + y12.toInt := p59r
                    refine n_iadd C (X := 0) dX11_repair_112 rfl rfl (by omega) (by omega) (fun v60 ev60 => ?_)
                    refine a_ld C M h1 (n := 729) rfl rfl rfl (by omega) (by omega) rfl dX11_repair_113 (fun v61 kv61 => ?_)
                    refine n_ixorU C dX11_repair_114 (fun v62 => ?_)
                    refine lv_istore (lv' := [(5, .int v62), (0, .ref a0), (1, .int y11), (2, .int y12), (3, .int w37), (4, .int r41), (6, .int y44)]) C.1 C.2.1 dX11_repair_115 hl (by decide) rfl (fun ls hl => ?_)
                    refine n_iinc C (k := 6) (N := 1) (lv' := fun v => [(6, .int v), (5, .int v62), (0, .ref a0), (1, .int y11), (2, .int y12), (3, .int w37), (4, .int r41)]) dX11_repair_117 hl rfl (by decide) rfl rfl (by omega) (by omega) (fun _ => rfl) (fun v63 ls ev63 hl => ?_)
                    refine lv_goto (tgt := 86) C.1 C.2.1 dX11_repair_120 (by decide) ?_
                    exact ih86 v62 v63 _ _ _ (by omega) (by omega) (by omega) M (lv_sub hl [2, 3, 4, 5, 6, 1, 0] rfl)
            have cz64 : (0 : Int32).toInt = 0 := rfl
            have cz65 : (0 : Int32).toInt = 0 := rfl
            exact L86 _ 0 0 _ _ _ (by omega) (by omega) (n_big _) M (lv_sub hl [4, 5, 6, 3, 2, 1, 0] rfl)
          have J64 : ∀ (H : Heap) (locs : List Loc) (ls : Array Slot), Mm g s I13 J H locs → lv_has ls 7 [(0, .ref a0), (1, .int y11), (2, .int y12)] → W p l e (rmL 5) s m args below meth c H locs 0 0 (MQg below g (PM g md_X11_repair I (fun z I1 J1 => J1 = J ∧ ((True) ∧ (∀ j, 715 ≤ j → I1 (gr g a0 0) j = I (gr g a0 0) j)))) args s) (F0 m 64 ls []) := by
            intro H locs ls M hl
            refine lv_aload_n C.1 C.2.1 dX11_repair_64 rfl (lv_at hl 0 rfl) ?_
            refine gi_X11_7 C M h0_ dX11_repair_65 (fun h66 => ?_)
            refine lv_sipush (v := 715) C.1 C.2.1 dX11_repair_68 (by decide) ?_
            refine a_ldK C M (X := 715) (j := 715) h1 (n := 729) rfl rfl rfl (by omega) (by omega) rfl k19 dX11_repair_71 ?_
            exact J72 i3 _ _ _ (by omega) (by omega) (by omega) M hl
          refine n_if_eq C (tgt := 64) dX11_repair_36 (by decide) rfl (fun q67 => ?_) (fun q67 => ?_)
          ·
            exact J64 _ _ _ M hl
          ·
            refine lv_iload_n C.1 C.2.1 dX11_repair_39 rfl (lv_at hl 2 rfl) ?_
            refine lv_aload_n C.1 C.2.1 dX11_repair_40 rfl (lv_at hl 0 rfl) ?_
            refine gi_X11_7 C M h0_ dX11_repair_41 (fun h68 => ?_)
            refine lv_sipush (v := 718) C.1 C.2.1 dX11_repair_44 (by decide) ?_
            refine a_ldK C M (X := 718) (j := 718) h1 (n := 729) rfl rfl rfl (by omega) (by omega) rfl k16 dX11_repair_47 ?_
            refine n_icmp_ge C (tgt := 64) dX11_repair_48 (by decide) rfl rfl (fun q69 => ?_) (fun q69 => ?_)
            ·
              exact J64 _ _ _ M hl
            ·
              refine lv_aload_n C.1 C.2.1 dX11_repair_51 rfl (lv_at hl 0 rfl) ?_
              refine gi_X11_7 C M h0_ dX11_repair_52 (fun h70 => ?_)
              refine lv_sipush (v := 715) C.1 C.2.1 dX11_repair_55 (by decide) ?_
              refine a_ldK C M (X := 715) (j := 715) h1 (n := 729) rfl rfl rfl (by omega) (by omega) rfl k19 dX11_repair_58 ?_
              refine lv_iconst (v := 1) C.1 C.2.1 dX11_repair_59 (by decide) ?_
              refine n_iadd C (Y := 1) dX11_repair_60 rfl rfl (by omega) (by omega) (fun v71 ev71 => ?_)
              refine lv_goto (tgt := 72) C.1 C.2.1 dX11_repair_61 (by decide) ?_
              exact J72 v71 _ _ _ (by omega) (by omega) (by omega) M hl
        ·
          refine lv_goto (tgt := 135) C.1 C.2.1 dX11_repair_29 (by decide) ?_
          refine n_iinc C (k := 2) (N := 1) (lv' := fun v => [(2, .int v), (0, .ref a0), (1, .int y11)]) dX11_repair_135 hl rfl (by decide) rfl rfl (by omega) (by omega) (fun _ => rfl) (fun v72 ls ev72 hl => ?_)
          refine lv_goto (tgt := 9) C.1 C.2.1 dX11_repair_138 (by decide) ?_
          exact ih9 y11 v72 I13 _ _ _ k14 k15 k16 k17 k18 k19 k20 (by omega) (by omega) (by omega) F Hi M (lv_sub hl [1, 2, 0] rfl)
  have cz73 : (0 : Int32).toInt = 0 := rfl
  have cz74 : (0 : Int32).toInt = 0 := rfl
  exact L9 _ 0 0 I8 _ _ _ k10 ((f9 (gr g a0 0) 719 (Or.inl (is_ne h0_ h1 (by decide)))).trans ki7) ((f9 (gr g a0 0) 718 (Or.inl (is_ne h0_ h1 (by decide)))).trans ki6) ((f9 (gr g a0 0) 722 (Or.inl (is_ne h0_ h1 (by decide)))).trans ki5) ((f9 (gr g a0 0) 716 (Or.inl (is_ne h0_ h1 (by decide)))).trans ki4) ((f9 (gr g a0 0) 715 (Or.inl (is_ne h0_ h1 (by decide)))).trans ki3) ((f9 (gr g a0 0) 717 (Or.inl (is_ne h0_ h1 (by decide)))).trans ki2) (by omega) (by omega) (n_big _) F Hi M (lv_sub hl [2, 1, 0] rfl)

abbrev md_X11_replace : List (Nat × Nat) := [(9, 10), (9, 11), (9, 12), (28, 0)]
set_option maxHeartbeats 4000000 in
set_option maxRecDepth 100000 in
theorem ct_X11_replace (l : Launch) (g : Gs) (I : Ms) (J : Js) (a0 : Nat) (h0_ : Is g a0 9) (g0 : jm (I (gr g a0 0) 717).toInt (I (gr g a0 0) 715).toInt (I (gr g a0 0) 716).toInt (I (gr g a0 0) 722).toInt (I (gr g a0 0) 718).toInt (I (gr g a0 0) 719).toInt) : Ctr l yX11_replace cX11_replace 6 (Option.some Jvm.ClassFile.FieldType.int) 4 g [.ref a0] I J (PM g md_X11_replace I (fun z I1 J1 => J1 = J ∧ ((True) ∧ (∀ j, 715 ≤ j → j ≠ 721 → I1 (gr g a0 0) j = I (gr g a0 0) j)))) := by
  refine m_start (by decide) (Nat.le_of_ble_eq_true rfl) ?_
  intro p e s m args below meth c C hr hlk M ls hl
  have hl : lv_has ls 6 [(0, .ref a0)] := hl
  have C : CallFix p m c cX11_replace 6 s args TB RX11 := C
  have F : Fr g md_X11_replace I I := fr_rf
  have hS0 := is_ref M h0_ 0 28 rfl rfl
  have Hi : ∀ j, 715 ≤ j → j ≠ 721 → I (gr g a0 0) j = I (gr g a0 0) j := by intros; rfl
  have h1 := is_ref M h0_ 0 28 rfl rfl
  obtain ⟨i2, ki2⟩ : ∃ z : Int32, I (gr g a0 0) 717 = z := ⟨_, rfl⟩
  have ti2 : 0 ≤ i2.toInt ∧ i2.toInt ≤ 1 := m_rng M h1 717 ki2 rfl
  have ci2 : (I (gr g a0 0) 717).toInt = i2.toInt := congrArg Int32.toInt ki2
  obtain ⟨i3, ki3⟩ : ∃ z : Int32, I (gr g a0 0) 715 = z := ⟨_, rfl⟩
  have ti3 : 3 ≤ i3.toInt ∧ i3.toInt ≤ 7 := m_rng M h1 715 ki3 rfl
  have ci3 : (I (gr g a0 0) 715).toInt = i3.toInt := congrArg Int32.toInt ki3
  obtain ⟨i4, ki4⟩ : ∃ z : Int32, I (gr g a0 0) 716 = z := ⟨_, rfl⟩
  have ti4 : 4 ≤ i4.toInt ∧ i4.toInt ≤ 40 := m_rng M h1 716 ki4 rfl
  have ci4 : (I (gr g a0 0) 716).toInt = i4.toInt := congrArg Int32.toInt ki4
  obtain ⟨i5, ki5⟩ : ∃ z : Int32, I (gr g a0 0) 722 = z := ⟨_, rfl⟩
  have ti5 : 1 ≤ i5.toInt ∧ i5.toInt ≤ 4 := m_rng M h1 722 ki5 rfl
  have ci5 : (I (gr g a0 0) 722).toInt = i5.toInt := congrArg Int32.toInt ki5
  obtain ⟨i6, ki6⟩ : ∃ z : Int32, I (gr g a0 0) 718 = z := ⟨_, rfl⟩
  have ti6 : 0 ≤ i6.toInt ∧ i6.toInt ≤ 200 := m_rng M h1 718 ki6 rfl
  have ci6 : (I (gr g a0 0) 718).toInt = i6.toInt := congrArg Int32.toInt ki6
  obtain ⟨i7, ki7⟩ : ∃ z : Int32, I (gr g a0 0) 719 = z := ⟨_, rfl⟩
  have ti7 : 0 ≤ i7.toInt ∧ i7.toInt ≤ 200 := m_rng M h1 719 ki7 rfl
  have ci7 : (I (gr g a0 0) 719).toInt = i7.toInt := congrArg Int32.toInt ki7
  simp only [ci2, ci3, ci4, ci5, ci6, ci7] at g0
  have hj6 : i2.toInt = 1 → i3.toInt ≤ 6 := fun q => (g0 q).1
  refine lv_aload_n C.1 C.2.1 dX11_replace_0 rfl (lv_at hl 0 rfl) ?_
  refine lv_iconst (v := 0) C.1 C.2.1 dX11_replace_1 (by decide) ?_
  refine pi_X11_39 C M h0_ dX11_replace_2 (fun H locs I8 k10 f9 M => ?_)
  have F := fr_put F h0_ (Or.inr (by decide)) f9
  have Hi : ∀ j, 715 ≤ j → j ≠ 721 → I8 (gr g a0 0) j = I (gr g a0 0) j := fun j hj hn721 => (f9 (gr g a0 0) j (Or.inl (is_ne h0_ hS0 (by decide)))).trans (Hi j hj hn721)
  refine lv_aload_n C.1 C.2.1 dX11_replace_5 rfl (lv_at hl 0 rfl) ?_
  refine gi_X11_7 C M h0_ dX11_replace_6 (fun h11 => ?_)
  refine lv_sipush (v := 721) C.1 C.2.1 dX11_replace_9 (by decide) ?_
  refine a_ld C M (X := 721) (j := 721) h1 (n := 729) rfl rfl rfl (by omega) (by omega) rfl dX11_replace_12 (fun v12 kv12 => ?_)
  have tv12 := m_rng M h1 721 kv12 rfl
  have tv12 : -1 ≤ v12.toInt ∧ v12.toInt ≤ 6 := tv12
  refine n_if_lt C (tgt := 23) dX11_replace_13 (by decide) rfl (fun q13 => ?_) (fun q13 => ?_)
  ·
    refine lv_iconst (v := -1) C.1 C.2.1 dX11_replace_23 (by decide) ?_
    exact r_PM C M (z := (-1)) hr hlk F rfl ⟨rfl, ⟨trivial, Hi⟩⟩ dX11_replace_24
  ·
    refine lv_aload_n C.1 C.2.1 dX11_replace_16 rfl (lv_at hl 0 rfl) ?_
    have em14 : (I8 (gr g a0 0) 717).toInt = i2.toInt := congrArg Int32.toInt ((f9 (gr g a0 0) 717 (Or.inl (is_ne h0_ h1 (by decide)))).trans ki2)
    have em15 : (I8 (gr g a0 0) 719).toInt = i7.toInt := congrArg Int32.toInt ((f9 (gr g a0 0) 719 (Or.inl (is_ne h0_ h1 (by decide)))).trans ki7)
    refine k_PI C M h0_ (by decide) rfl (ct_X11_isMoving l g I8 J a0 h0_) (cw_X11_88 C.2.2.2.2 (by decide)) rfl hl.1 rfl (Nat.le_of_ble_eq_true rfl) dX11_replace_17 ⟨Nat.le_refl _, Nat.le_refl _⟩ (fun r16 H locs p17r M => ?_)
    have p17 : 0 ≤ r16.toInt ∧ r16.toInt ≤ 1 ∧ (r16.toInt = 1 ↔ (I8 (gr g a0 0) 717).toInt = 1 ∧ 0 < (I8 (gr g a0 0) 719).toInt) := p17r
    simp only [em14, em15] at p17
    have p17 : 0 ≤ r16.toInt ∧ r16.toInt ≤ 1 ∧ (r16.toInt = 1 ↔ i2.toInt = 1 ∧ 0 < i7.toInt) := p17
    refine n_if_eq C (tgt := 25) dX11_replace_20 (by decide) rfl (fun q18 => ?_) (fun q18 => ?_)
    ·
      refine lv_aload_n C.1 C.2.1 dX11_replace_25 rfl (lv_at hl 0 rfl) ?_
      refine gi_X11_7 C M h0_ dX11_replace_26 (fun h19 => ?_)
      refine lv_sipush (v := 721) C.1 C.2.1 dX11_replace_29 (by decide) ?_
      refine a_ldK C M (X := 721) (j := 721) h1 (n := 729) rfl rfl rfl (by omega) (by omega) rfl kv12 dX11_replace_32 ?_
      refine lv_istore_n (lv' := [(1, .int v12), (0, .ref a0)]) C.1 C.2.1 dX11_replace_33 rfl hl (by decide) rfl (fun ls hl => ?_)
      refine lv_iconst (v := 0) C.1 C.2.1 dX11_replace_34 (by decide) ?_
      refine lv_istore_n (lv' := [(2, .int 0), (1, .int v12), (0, .ref a0)]) C.1 C.2.1 dX11_replace_35 rfl hl (by decide) rfl (fun ls hl => ?_)
      refine lv_iconst (v := 0) C.1 C.2.1 dX11_replace_36 (by decide) ?_
      refine lv_istore_n (lv' := [(3, .int 0), (2, .int 0), (1, .int v12), (0, .ref a0)]) C.1 C.2.1 dX11_replace_37 rfl hl (by decide) rfl (fun ls hl => ?_)
      have L38 : ∀ (n38 : Nat) (y20 : Int32) (y21 : Int32) (I22 : Ms) (H : Heap) (locs : List Loc) (ls : Array Slot), I22 (gr g a0 0) 721 = v12 → I22 a0 9 = 0 → I22 (gr g a0 0) 719 = i7 → I22 (gr g a0 0) 718 = i6 → I22 (gr g a0 0) 722 = i5 → I22 (gr g a0 0) 716 = i4 → I22 (gr g a0 0) 715 = i3 → I22 (gr g a0 0) 717 = i2 → 0 ≤ y21.toInt → y21.toInt ≤ 40 → 40 - y21.toInt < (n38 : Int) → Fr g md_X11_replace I I22 → (∀ j, 715 ≤ j → j ≠ 721 → I22 (gr g a0 0) j = I (gr g a0 0) j) → Mm g s I22 J H locs → lv_has ls 6 [(0, .ref a0), (1, .int v12), (2, .int y20), (3, .int y21)] → W p l e (rmL 4) s m args below meth c H locs 0 0 (MQg below g (PM g md_X11_replace I (fun z I1 J1 => J1 = J ∧ ((True) ∧ (∀ j, 715 ≤ j → j ≠ 721 → I1 (gr g a0 0) j = I (gr g a0 0) j)))) args s) (F0 m 38 ls []) := by
        intro n38
        induction n38 with
        | zero =>
          intro y20 y21 I22 H locs ls k23 k24 k25 k26 k27 k28 k29 k30 f31 f32 hm38 F Hi M hl
          exact absurd hm38 (by omega)
        | succ n38 ih38 =>
          intro y20 y21 I22 H locs ls k23 k24 k25 k26 k27 k28 k29 k30 f31 f32 hm38 F Hi M hl
          refine lv_iload_n C.1 C.2.1 dX11_replace_38 rfl (lv_at hl 3 rfl) ?_
          refine lv_aload_n C.1 C.2.1 dX11_replace_39 rfl (lv_at hl 0 rfl) ?_
          refine gi_X11_7 C M h0_ dX11_replace_40 (fun h33 => ?_)
          refine lv_sipush (v := 716) C.1 C.2.1 dX11_replace_43 (by decide) ?_
          refine a_ldK C M (X := 716) (j := 716) h1 (n := 729) rfl rfl rfl (by omega) (by omega) rfl k28 dX11_replace_46 ?_
          refine n_icmp_ge C (tgt := 182) dX11_replace_47 (by decide) rfl rfl (fun q34 => ?_) (fun q34 => ?_)
          ·
            refine lv_aload_n C.1 C.2.1 dX11_replace_182 rfl (lv_at hl 0 rfl) ?_
            refine gi_X11_7 C M h0_ dX11_replace_183 (fun h35 => ?_)
            refine lv_sipush (v := 721) C.1 C.2.1 dX11_replace_186 (by decide) ?_
            refine lv_iconst (v := -1) C.1 C.2.1 dX11_replace_189 (by decide) ?_
            refine a_st C M (X := 721) (j := 721) (V := (-1)) h1 (n := 729) rfl rfl rfl (by omega) (by omega) rfl rfl (lo := -1) (hi := 6) rfl (by omega) (by omega) dX11_replace_190 (fun H locs I36 k38 f37 M => ?_)
            have F := fr_put F h1 (Or.inl (by decide)) f37
            have Hi : ∀ j, 715 ≤ j → j ≠ 721 → I36 (gr g a0 0) j = I (gr g a0 0) j := fun j hj hn721 => (f37 (gr g a0 0) j (Or.inr (by omega))).trans (Hi j hj hn721)
            refine lv_iload_n C.1 C.2.1 dX11_replace_191 rfl (lv_at hl 2 rfl) ?_
            exact r_PM C M hr hlk F rfl ⟨rfl, ⟨trivial, Hi⟩⟩ dX11_replace_192
          ·
            refine lv_aload_n C.1 C.2.1 dX11_replace_50 rfl (lv_at hl 0 rfl) ?_
            have em39 : (I22 (gr g a0 0) 717).toInt = i2.toInt := congrArg Int32.toInt k30
            refine k_PI C M h0_ (by decide) rfl (ct_X11_isGrown l g I22 J a0 h0_) (cw_X11_84 C.2.2.2.2 (by decide)) rfl hl.1 rfl (Nat.le_of_ble_eq_true rfl) dX11_replace_51 ⟨Nat.le_refl _, Nat.le_refl _⟩ (fun r40 H locs p41r M => ?_)
            have p41 : 0 ≤ r40.toInt ∧ r40.toInt ≤ 1 ∧ (r40.toInt = 1 ↔ (I22 (gr g a0 0) 717).toInt = 1) := p41r
            simp only [em39] at p41
            have p41 : 0 ≤ r40.toInt ∧ r40.toInt ≤ 1 ∧ (r40.toInt = 1 ↔ i2.toInt = 1) := p41
            have J90 : ∀ (w42 : Int32) (H : Heap) (locs : List Loc) (ls : Array Slot), 3 ≤ w42.toInt → w42.toInt ≤ 8 → Mm g s I22 J H locs → lv_has ls 6 [(0, .ref a0), (1, .int v12), (2, .int y20), (3, .int y21)] → W p l e (rmL 4) s m args below meth c H locs 0 0 (MQg below g (PM g md_X11_replace I (fun z I1 J1 => J1 = J ∧ ((True) ∧ (∀ j, 715 ≤ j → j ≠ 721 → I1 (gr g a0 0) j = I (gr g a0 0) j)))) args s) (F0 m 90 ls [.int w42]) := by
              intro w42 H locs ls f43 f44 M hl
              refine lv_istore (lv' := [(4, .int w42), (0, .ref a0), (1, .int v12), (2, .int y20), (3, .int y21)]) C.1 C.2.1 dX11_replace_90 hl (by decide) rfl (fun ls hl => ?_)
              refine lv_iconst (v := 1) C.1 C.2.1 dX11_replace_92 (by decide) ?_
              refine lv_istore (lv' := [(5, .int 1), (4, .int w42), (0, .ref a0), (1, .int v12), (2, .int y20), (3, .int y21)]) C.1 C.2.1 dX11_replace_93 hl (by decide) rfl (fun ls hl => ?_)
              refine lv_iload_n C.1 C.2.1 dX11_replace_95 rfl (lv_at hl 3 rfl) ?_
              refine lv_iload C.1 C.2.1 dX11_replace_96 (lv_at hl 1 rfl) ?_
              have J119 : ∀ (w45 : Int32) (I46 : Ms) (H : Heap) (locs : List Loc) (ls : Array Slot), 0 ≤ w45.toInt → w45.toInt ≤ 1 → I46 (gr g a0 0) 717 = i2 → I46 (gr g a0 0) 715 = i3 → I46 (gr g a0 0) 716 = i4 → I46 (gr g a0 0) 722 = i5 → I46 (gr g a0 0) 718 = i6 → I46 (gr g a0 0) 719 = i7 → I46 a0 9 = 0 → I46 (gr g a0 0) 721 = v12 → Fr g md_X11_replace I I46 → (∀ j, 715 ≤ j → j ≠ 721 → I46 (gr g a0 0) j = I (gr g a0 0) j) → Mm g s I46 J H locs → lv_has ls 6 [(0, .ref a0), (1, .int v12), (2, .int y20), (3, .int y21), (5, .int w45)] → W p l e (rmL 4) s m args below meth c H locs 0 0 (MQg below g (PM g md_X11_replace I (fun z I1 J1 => J1 = J ∧ ((True) ∧ (∀ j, 715 ≤ j → j ≠ 721 → I1 (gr g a0 0) j = I (gr g a0 0) j)))) args s) (F0 m 119 ls []) := by
                intro w45 I46 H locs ls f55 f56 k47 k48 k49 k50 k51 k52 k53 k54 F Hi M hl
                refine lv_aload_n C.1 C.2.1 dX11_replace_119 rfl (lv_at hl 0 rfl) ?_
                refine gi_X11_7 C M h0_ dX11_replace_120 (fun h57 => ?_)
                refine lv_iconst (v := 0) C.1 C.2.1 dX11_replace_123 (by decide) ?_
                refine lv_iload_n C.1 C.2.1 dX11_replace_124 rfl (lv_at hl 1 rfl) ?_
                refine lv_iload_n C.1 C.2.1 dX11_replace_125 rfl (lv_at hl 3 rfl) ?_
                refine ks_PI C M (ct_X11_at l g I46 J v12 y21 (by omega) (by omega) (by omega) (by omega)) (cw_X11_50 C.2.2.2.2 (by decide)) rfl hl.1 rfl (Nat.le_of_ble_eq_true rfl) dX11_replace_126 ⟨Nat.le_refl _, Nat.le_refl _⟩ (fun r58 H locs p59r M => ?_)
                have p59 : r58.toInt = 40 * v12.toInt + y21.toInt := p59r
                refine n_iadd C (X := 0) dX11_replace_129 rfl rfl (by omega) (by omega) (fun v60 ev60 => ?_)
                refine lv_iload C.1 C.2.1 dX11_replace_130 (lv_at hl 4 rfl) ?_
                have J143 : ∀ (w61 : Int32) (H : Heap) (locs : List Loc) (ls : Array Slot), Mm g s I46 J H locs → lv_has ls 6 [(0, .ref a0), (1, .int v12), (2, .int y20), (3, .int y21), (5, .int w45)] → W p l e (rmL 4) s m args below meth c H locs 0 0 (MQg below g (PM g md_X11_replace I (fun z I1 J1 => J1 = J ∧ ((True) ∧ (∀ j, 715 ≤ j → j ≠ 721 → I1 (gr g a0 0) j = I (gr g a0 0) j)))) args s) (F0 m 143 ls [.int w61, .int v60, .ref (gr g a0 0)]) := by
                  intro w61 H locs ls M hl
                  refine a_stU C M h1 (n := 729) rfl rfl rfl (by omega) (by omega) rfl (rng28_lo (by omega)) dX11_replace_143 (fun H locs I62 k64 f63 M => ?_)
                  have F := fr_put F h1 (Or.inl (by decide)) f63
                  have Hi : ∀ j, 715 ≤ j → j ≠ 721 → I62 (gr g a0 0) j = I (gr g a0 0) j := fun j hj hn721 => (f63 (gr g a0 0) j (Or.inr (by omega))).trans (Hi j hj hn721)
                  refine lv_aload_n C.1 C.2.1 dX11_replace_144 rfl (lv_at hl 0 rfl) ?_
                  refine gi_X11_7 C M h0_ dX11_replace_145 (fun h65 => ?_)
                  refine lv_sipush (v := 280) C.1 C.2.1 dX11_replace_148 (by decide) ?_
                  refine lv_iload_n C.1 C.2.1 dX11_replace_151 rfl (lv_at hl 1 rfl) ?_
                  refine lv_iload_n C.1 C.2.1 dX11_replace_152 rfl (lv_at hl 3 rfl) ?_
                  refine ks_PI C M (ct_X11_at l g I62 J v12 y21 (by omega) (by omega) (by omega) (by omega)) (cw_X11_50 C.2.2.2.2 (by decide)) rfl hl.1 rfl (Nat.le_of_ble_eq_true rfl) dX11_replace_153 ⟨Nat.le_refl _, Nat.le_refl _⟩ (fun r66 H locs p67r M => ?_)
                  have p67 : r66.toInt = 40 * v12.toInt + y21.toInt := p67r
                  refine n_iadd C (X := 280) dX11_replace_156 rfl rfl (by omega) (by omega) (fun v68 ev68 => ?_)
                  refine lv_iload C.1 C.2.1 dX11_replace_157 (lv_at hl 4 rfl) ?_
                  have J167 : ∀ (w69 : Int32) (H : Heap) (locs : List Loc) (ls : Array Slot), 0 ≤ w69.toInt → w69.toInt ≤ 1 → Mm g s I62 J H locs → lv_has ls 6 [(0, .ref a0), (1, .int v12), (2, .int y20), (3, .int y21), (5, .int w45)] → W p l e (rmL 4) s m args below meth c H locs 0 0 (MQg below g (PM g md_X11_replace I (fun z I1 J1 => J1 = J ∧ ((True) ∧ (∀ j, 715 ≤ j → j ≠ 721 → I1 (gr g a0 0) j = I (gr g a0 0) j)))) args s) (F0 m 167 ls [.int w69, .int v68, .ref (gr g a0 0)]) := by
                    intro w69 H locs ls f70 f71 M hl
                    refine a_stU C M h1 (n := 729) rfl rfl rfl (by omega) (by omega) rfl (rng28_lo (by omega)) dX11_replace_167 (fun H locs I72 k74 f73 M => ?_)
                    have F := fr_put F h1 (Or.inl (by decide)) f73
                    have Hi : ∀ j, 715 ≤ j → j ≠ 721 → I72 (gr g a0 0) j = I (gr g a0 0) j := fun j hj hn721 => (f73 (gr g a0 0) j (Or.inr (by omega))).trans (Hi j hj hn721)
                    refine lv_iload C.1 C.2.1 dX11_replace_168 (lv_at hl 4 rfl) ?_
                    refine n_if_ne C (tgt := 176) dX11_replace_170 (by decide) rfl (fun q75 => ?_) (fun q75 => ?_)
                    ·
                      refine n_iinc C (k := 3) (N := 1) (lv' := fun v => [(3, .int v), (0, .ref a0), (1, .int v12), (2, .int y20), (5, .int w45)]) dX11_replace_176 hl rfl (by decide) rfl rfl (by omega) (by omega) (fun _ => rfl) (fun v76 ls ev76 hl => ?_)
                      refine lv_goto (tgt := 38) C.1 C.2.1 dX11_replace_179 (by decide) ?_
                      exact ih38 y20 v76 I72 _ _ _ ((f73 (gr g a0 0) 721 (Or.inr (by omega))).trans ((f63 (gr g a0 0) 721 (Or.inr (by omega))).trans k54)) ((f73 a0 9 (Or.inl (is_ne h1 h0_ (by decide)))).trans ((f63 a0 9 (Or.inl (is_ne h1 h0_ (by decide)))).trans k53)) ((f73 (gr g a0 0) 719 (Or.inr (by omega))).trans ((f63 (gr g a0 0) 719 (Or.inr (by omega))).trans k52)) ((f73 (gr g a0 0) 718 (Or.inr (by omega))).trans ((f63 (gr g a0 0) 718 (Or.inr (by omega))).trans k51)) ((f73 (gr g a0 0) 722 (Or.inr (by omega))).trans ((f63 (gr g a0 0) 722 (Or.inr (by omega))).trans k50)) ((f73 (gr g a0 0) 716 (Or.inr (by omega))).trans ((f63 (gr g a0 0) 716 (Or.inr (by omega))).trans k49)) ((f73 (gr g a0 0) 715 (Or.inr (by omega))).trans ((f63 (gr g a0 0) 715 (Or.inr (by omega))).trans k48)) ((f73 (gr g a0 0) 717 (Or.inr (by omega))).trans ((f63 (gr g a0 0) 717 (Or.inr (by omega))).trans k47)) (by omega) (by omega) (by omega) F Hi M (lv_sub hl [1, 2, 3, 0] rfl)
                    ·
                      refine n_iincU C (k := 2) (lv' := fun v => [(2, .int v), (0, .ref a0), (1, .int v12), (3, .int y21), (5, .int w45)]) dX11_replace_173 hl rfl (by decide) (fun _ => rfl) (fun v77 ls hl => ?_)
                      refine n_iinc C (k := 3) (N := 1) (lv' := fun v => [(3, .int v), (2, .int v77), (0, .ref a0), (1, .int v12), (5, .int w45)]) dX11_replace_176 hl rfl (by decide) rfl rfl (by omega) (by omega) (fun _ => rfl) (fun v78 ls ev78 hl => ?_)
                      refine lv_goto (tgt := 38) C.1 C.2.1 dX11_replace_179 (by decide) ?_
                      exact ih38 v77 v78 I72 _ _ _ ((f73 (gr g a0 0) 721 (Or.inr (by omega))).trans ((f63 (gr g a0 0) 721 (Or.inr (by omega))).trans k54)) ((f73 a0 9 (Or.inl (is_ne h1 h0_ (by decide)))).trans ((f63 a0 9 (Or.inl (is_ne h1 h0_ (by decide)))).trans k53)) ((f73 (gr g a0 0) 719 (Or.inr (by omega))).trans ((f63 (gr g a0 0) 719 (Or.inr (by omega))).trans k52)) ((f73 (gr g a0 0) 718 (Or.inr (by omega))).trans ((f63 (gr g a0 0) 718 (Or.inr (by omega))).trans k51)) ((f73 (gr g a0 0) 722 (Or.inr (by omega))).trans ((f63 (gr g a0 0) 722 (Or.inr (by omega))).trans k50)) ((f73 (gr g a0 0) 716 (Or.inr (by omega))).trans ((f63 (gr g a0 0) 716 (Or.inr (by omega))).trans k49)) ((f73 (gr g a0 0) 715 (Or.inr (by omega))).trans ((f63 (gr g a0 0) 715 (Or.inr (by omega))).trans k48)) ((f73 (gr g a0 0) 717 (Or.inr (by omega))).trans ((f63 (gr g a0 0) 717 (Or.inr (by omega))).trans k47)) (by omega) (by omega) (by omega) F Hi M (lv_sub hl [2, 3, 1, 0] rfl)
                  refine n_if_eq C (tgt := 166) dX11_replace_159 (by decide) rfl (fun q79 => ?_) (fun q79 => ?_)
                  ·
                    refine lv_iconst (v := 1) C.1 C.2.1 dX11_replace_166 (by decide) ?_
                    have cz80 : (1 : Int32).toInt = 1 := rfl
                    exact J167 1 _ _ _ (by omega) (by omega) M hl
                  ·
                    refine lv_iconst (v := 0) C.1 C.2.1 dX11_replace_162 (by decide) ?_
                    refine lv_goto (tgt := 167) C.1 C.2.1 dX11_replace_163 (by decide) ?_
                    have cz81 : (0 : Int32).toInt = 0 := rfl
                    exact J167 0 _ _ _ (by omega) (by omega) M hl
                refine n_if_eq C (tgt := 142) dX11_replace_132 (by decide) rfl (fun q82 => ?_) (fun q82 => ?_)
                ·
                  refine lv_iconst (v := 0) C.1 C.2.1 dX11_replace_142 (by decide) ?_
                  have cz83 : (0 : Int32).toInt = 0 := rfl
                  exact J143 0 _ _ _ M hl
                ·
                  refine lv_aload_n C.1 C.2.1 dX11_replace_135 rfl (lv_at hl 0 rfl) ?_
                  refine gi_X11_53 C M h0_ dX11_replace_136 (fun v84 kv84 => ?_)
                  refine lv_goto (tgt := 143) C.1 C.2.1 dX11_replace_139 (by decide) ?_
                  exact J143 v84 _ _ _ M hl
              refine n_icmp_lt C (tgt := 109) dX11_replace_98 (by decide) rfl rfl (fun q85 => ?_) (fun q85 => ?_)
              ·
                refine lv_aload_n C.1 C.2.1 dX11_replace_109 rfl (lv_at hl 2 rfl) ?_
                refine lv_iload C.1 C.2.1 dX11_replace_110 (lv_at hl 1 rfl) ?_
                refine lv_iload_n C.1 C.2.1 dX11_replace_112 rfl (lv_at hl 3 rfl) ?_
                refine lv_iload_n C.1 C.2.1 dX11_replace_113 rfl (lv_at hl 5 rfl) ?_
                refine k_PM C M h0_ (by decide) rfl (ct_X11_reads l g I22 J a0 w42 v12 y21 h0_ (by omega) (by omega) (by omega) (by omega) (by omega) (by omega)) (cw_X11_97 C.2.2.2.2 (by decide)) rfl hl.1 rfl (Nat.le_of_ble_eq_true rfl) dX11_replace_114 ⟨Nat.le_refl _, Nat.le_refl _⟩ (fun r90 I86 J87 H locs G88 p89r M => ?_)
                obtain ⟨eJ87, p89⟩ : J87 = J ∧ (0 ≤ r90.toInt ∧ r90.toInt ≤ 1) := p89r
                have eJ87 := eJ87.symm
                subst eJ87
                have Hi : ∀ j, 715 ≤ j → j ≠ 721 → I86 (gr g a0 0) j = I (gr g a0 0) j := fun j hj hn721 => (G88 (gr g a0 0) 28 j hS0 (by decide) (by simp)).trans (Hi j hj hn721)
                have F := fr_call F G88 (by decide)
                refine lv_istore (lv' := [(5, .int r90), (4, .int w42), (0, .ref a0), (1, .int v12), (2, .int y20), (3, .int y21)]) C.1 C.2.1 dX11_replace_117 hl (by decide) rfl (fun ls hl => ?_)
                exact J119 r90 I86 _ _ _ (by omega) (by omega) ((G88 (gr g a0 0) 28 717 h1 (by decide) (by decide)).trans k30) ((G88 (gr g a0 0) 28 715 h1 (by decide) (by decide)).trans k29) ((G88 (gr g a0 0) 28 716 h1 (by decide) (by decide)).trans k28) ((G88 (gr g a0 0) 28 722 h1 (by decide) (by decide)).trans k27) ((G88 (gr g a0 0) 28 718 h1 (by decide) (by decide)).trans k26) ((G88 (gr g a0 0) 28 719 h1 (by decide) (by decide)).trans k25) ((G88 a0 9 9 h0_ (by decide) (by decide)).trans k24) ((G88 (gr g a0 0) 28 721 h1 (by decide) (by decide)).trans k23) F Hi M (lv_sub hl [2, 3, 4, 5, 0] rfl)
              ·
                refine lv_aload_n C.1 C.2.1 dX11_replace_101 rfl (lv_at hl 2 rfl) ?_
                refine lv_iconst (v := 0) C.1 C.2.1 dX11_replace_102 (by decide) ?_
                refine pi_X11_53 C M h0_ dX11_replace_103 (fun H locs I91 k93 f92 M => ?_)
                have F := fr_put F h0_ (Or.inr (by decide)) f92
                have Hi : ∀ j, 715 ≤ j → j ≠ 721 → I91 (gr g a0 0) j = I (gr g a0 0) j := fun j hj hn721 => (f92 (gr g a0 0) j (Or.inl (is_ne h0_ hS0 (by decide)))).trans (Hi j hj hn721)
                refine lv_goto (tgt := 119) C.1 C.2.1 dX11_replace_106 (by decide) ?_
                have cz94 : (1 : Int32).toInt = 1 := rfl
                exact J119 1 I91 _ _ _ (by omega) (by omega) ((f92 (gr g a0 0) 717 (Or.inl (is_ne h0_ h1 (by decide)))).trans k30) ((f92 (gr g a0 0) 715 (Or.inl (is_ne h0_ h1 (by decide)))).trans k29) ((f92 (gr g a0 0) 716 (Or.inl (is_ne h0_ h1 (by decide)))).trans k28) ((f92 (gr g a0 0) 722 (Or.inl (is_ne h0_ h1 (by decide)))).trans k27) ((f92 (gr g a0 0) 718 (Or.inl (is_ne h0_ h1 (by decide)))).trans k26) ((f92 (gr g a0 0) 719 (Or.inl (is_ne h0_ h1 (by decide)))).trans k25) ((f92 a0 9 (Or.inr (by decide))).trans k24) ((f92 (gr g a0 0) 721 (Or.inl (is_ne h0_ h1 (by decide)))).trans k23) F Hi M (lv_sub hl [2, 3, 4, 5, 0] rfl)
            have J82 : ∀ (H : Heap) (locs : List Loc) (ls : Array Slot), Mm g s I22 J H locs → lv_has ls 6 [(0, .ref a0), (1, .int v12), (2, .int y20), (3, .int y21)] → W p l e (rmL 4) s m args below meth c H locs 0 0 (MQg below g (PM g md_X11_replace I (fun z I1 J1 => J1 = J ∧ ((True) ∧ (∀ j, 715 ≤ j → j ≠ 721 → I1 (gr g a0 0) j = I (gr g a0 0) j)))) args s) (F0 m 82 ls []) := by
              intro H locs ls M hl
              refine lv_aload_n C.1 C.2.1 dX11_replace_82 rfl (lv_at hl 0 rfl) ?_
              refine gi_X11_7 C M h0_ dX11_replace_83 (fun h95 => ?_)
              refine lv_sipush (v := 715) C.1 C.2.1 dX11_replace_86 (by decide) ?_
              refine a_ldK C M (X := 715) (j := 715) h1 (n := 729) rfl rfl rfl (by omega) (by omega) rfl k29 dX11_replace_89 ?_
              exact J90 i3 _ _ _ (by omega) (by omega) M hl
            refine n_if_eq C (tgt := 82) dX11_replace_54 (by decide) rfl (fun q96 => ?_) (fun q96 => ?_)
            ·
              exact J82 _ _ _ M hl
            ·
              refine lv_iload_n C.1 C.2.1 dX11_replace_57 rfl (lv_at hl 3 rfl) ?_
              refine lv_aload_n C.1 C.2.1 dX11_replace_58 rfl (lv_at hl 0 rfl) ?_
              refine gi_X11_7 C M h0_ dX11_replace_59 (fun h97 => ?_)
              refine lv_sipush (v := 718) C.1 C.2.1 dX11_replace_62 (by decide) ?_
              refine a_ldK C M (X := 718) (j := 718) h1 (n := 729) rfl rfl rfl (by omega) (by omega) rfl k26 dX11_replace_65 ?_
              refine n_icmp_ge C (tgt := 82) dX11_replace_66 (by decide) rfl rfl (fun q98 => ?_) (fun q98 => ?_)
              ·
                exact J82 _ _ _ M hl
              ·
                refine lv_aload_n C.1 C.2.1 dX11_replace_69 rfl (lv_at hl 0 rfl) ?_
                refine gi_X11_7 C M h0_ dX11_replace_70 (fun h99 => ?_)
                refine lv_sipush (v := 715) C.1 C.2.1 dX11_replace_73 (by decide) ?_
                refine a_ldK C M (X := 715) (j := 715) h1 (n := 729) rfl rfl rfl (by omega) (by omega) rfl k29 dX11_replace_76 ?_
                refine lv_iconst (v := 1) C.1 C.2.1 dX11_replace_77 (by decide) ?_
                refine n_iadd C (Y := 1) dX11_replace_78 rfl rfl (by omega) (by omega) (fun v100 ev100 => ?_)
                refine lv_goto (tgt := 90) C.1 C.2.1 dX11_replace_79 (by decide) ?_
                exact J90 v100 _ _ _ (by omega) (by omega) M hl
      have cz101 : (0 : Int32).toInt = 0 := rfl
      have cz102 : (0 : Int32).toInt = 0 := rfl
      exact L38 _ 0 0 I8 _ _ _ kv12 k10 ((f9 (gr g a0 0) 719 (Or.inl (is_ne h0_ h1 (by decide)))).trans ki7) ((f9 (gr g a0 0) 718 (Or.inl (is_ne h0_ h1 (by decide)))).trans ki6) ((f9 (gr g a0 0) 722 (Or.inl (is_ne h0_ h1 (by decide)))).trans ki5) ((f9 (gr g a0 0) 716 (Or.inl (is_ne h0_ h1 (by decide)))).trans ki4) ((f9 (gr g a0 0) 715 (Or.inl (is_ne h0_ h1 (by decide)))).trans ki3) ((f9 (gr g a0 0) 717 (Or.inl (is_ne h0_ h1 (by decide)))).trans ki2) (by omega) (by omega) (n_big _) F Hi M (lv_sub hl [3, 2, 1, 0] rfl)
    ·
      refine lv_iconst (v := -1) C.1 C.2.1 dX11_replace_23 (by decide) ?_
      exact r_PM C M (z := (-1)) hr hlk F rfl ⟨rfl, ⟨trivial, Hi⟩⟩ dX11_replace_24

abbrev md_X11_of : List (Nat × Nat) := [(9, 10), (9, 11), (9, 12)]
set_option maxHeartbeats 4000000 in
set_option maxRecDepth 100000 in
theorem ct_X11_of (l : Launch) (g : Gs) (I : Ms) (J : Js) (a0 : Nat) (x1 : Int32) (x2 : Int32) (h0_ : Is g a0 9) (g0 : jm (I (gr g a0 0) 717).toInt (I (gr g a0 0) 715).toInt (I (gr g a0 0) 716).toInt (I (gr g a0 0) 722).toInt (I (gr g a0 0) 718).toInt (I (gr g a0 0) 719).toInt) : Ctr l yX11_of cX11_of 4 (Option.some Jvm.ClassFile.FieldType.int) 7 g [.ref a0, .int x1, .int x2] I J (PM g md_X11_of I (fun z I1 J1 => J1 = J ∧ (True))) := by
  refine m_start (by decide) (Nat.le_of_ble_eq_true rfl) ?_
  intro p e s m args below meth c C hr hlk M ls hl
  have hl : lv_has ls 4 [(0, .ref a0), (1, .int x1), (2, .int x2)] := hl
  have C : CallFix p m c cX11_of 4 s args TB RX11 := C
  have F : Fr g md_X11_of I I := fr_rf
  have h1 := is_ref M h0_ 0 28 rfl rfl
  obtain ⟨i2, ki2⟩ : ∃ z : Int32, I (gr g a0 0) 717 = z := ⟨_, rfl⟩
  have ti2 : 0 ≤ i2.toInt ∧ i2.toInt ≤ 1 := m_rng M h1 717 ki2 rfl
  have ci2 : (I (gr g a0 0) 717).toInt = i2.toInt := congrArg Int32.toInt ki2
  obtain ⟨i3, ki3⟩ : ∃ z : Int32, I (gr g a0 0) 715 = z := ⟨_, rfl⟩
  have ti3 : 3 ≤ i3.toInt ∧ i3.toInt ≤ 7 := m_rng M h1 715 ki3 rfl
  have ci3 : (I (gr g a0 0) 715).toInt = i3.toInt := congrArg Int32.toInt ki3
  obtain ⟨i4, ki4⟩ : ∃ z : Int32, I (gr g a0 0) 716 = z := ⟨_, rfl⟩
  have ti4 : 4 ≤ i4.toInt ∧ i4.toInt ≤ 40 := m_rng M h1 716 ki4 rfl
  have ci4 : (I (gr g a0 0) 716).toInt = i4.toInt := congrArg Int32.toInt ki4
  obtain ⟨i5, ki5⟩ : ∃ z : Int32, I (gr g a0 0) 722 = z := ⟨_, rfl⟩
  have ti5 : 1 ≤ i5.toInt ∧ i5.toInt ≤ 4 := m_rng M h1 722 ki5 rfl
  have ci5 : (I (gr g a0 0) 722).toInt = i5.toInt := congrArg Int32.toInt ki5
  obtain ⟨i6, ki6⟩ : ∃ z : Int32, I (gr g a0 0) 718 = z := ⟨_, rfl⟩
  have ti6 : 0 ≤ i6.toInt ∧ i6.toInt ≤ 200 := m_rng M h1 718 ki6 rfl
  have ci6 : (I (gr g a0 0) 718).toInt = i6.toInt := congrArg Int32.toInt ki6
  obtain ⟨i7, ki7⟩ : ∃ z : Int32, I (gr g a0 0) 719 = z := ⟨_, rfl⟩
  have ti7 : 0 ≤ i7.toInt ∧ i7.toInt ≤ 200 := m_rng M h1 719 ki7 rfl
  have ci7 : (I (gr g a0 0) 719).toInt = i7.toInt := congrArg Int32.toInt ki7
  simp only [ci2, ci3, ci4, ci5, ci6, ci7] at g0
  have hj6 : i2.toInt = 1 → i3.toInt ≤ 6 := fun q => (g0 q).1
  refine lv_aload_n C.1 C.2.1 dX11_of_0 rfl (lv_at hl 0 rfl) ?_
  refine lv_iconst (v := 0) C.1 C.2.1 dX11_of_1 (by decide) ?_
  refine pi_X11_39 C M h0_ dX11_of_2 (fun H locs I8 k10 f9 M => ?_)
  have F := fr_put F h0_ (Or.inr (by decide)) f9
  refine lv_aload_n C.1 C.2.1 dX11_of_5 rfl (lv_at hl 0 rfl) ?_
  refine lv_iload_n C.1 C.2.1 dX11_of_6 rfl (lv_at hl 1 rfl) ?_
  have em11 : (I8 (gr g a0 0) 715).toInt = i3.toInt := congrArg Int32.toInt ((f9 (gr g a0 0) 715 (Or.inl (is_ne h0_ h1 (by decide)))).trans ki3)
  have em12 : (I8 (gr g a0 0) 716).toInt = i4.toInt := congrArg Int32.toInt ((f9 (gr g a0 0) 716 (Or.inl (is_ne h0_ h1 (by decide)))).trans ki4)
  refine k_PI C M h0_ (by decide) rfl (ct_X11_isBlock l g I8 J a0 x1 h0_) (cw_X11_138 C.2.2.2.2 (by decide)) rfl hl.1 rfl (Nat.le_of_ble_eq_true rfl) dX11_of_7 ⟨Nat.le_refl _, Nat.le_refl _⟩ (fun r13 H locs p14r M => ?_)
  have p14 : 0 ≤ r13.toInt ∧ r13.toInt ≤ 1 ∧ (r13.toInt = 1 ↔ 0 ≤ x1.toInt ∧ x1.toInt < mBl (I8 (gr g a0 0) 716).toInt (I8 (gr g a0 0) 715).toInt) ∧ (r13.toInt = 1 → x1.toInt ≤ 239) := p14r
  simp only [em11, em12] at p14
  have p14 : 0 ≤ r13.toInt ∧ r13.toInt ≤ 1 ∧ (r13.toInt = 1 ↔ 0 ≤ x1.toInt ∧ x1.toInt < mBl i4.toInt i3.toInt) ∧ (r13.toInt = 1 → x1.toInt ≤ 239) := p14
  refine n_if_ne C (tgt := 15) dX11_of_10 (by decide) rfl (fun q15 => ?_) (fun q15 => ?_)
  ·
    refine lv_aload_n C.1 C.2.1 dX11_of_15 rfl (lv_at hl 0 rfl) ?_
    refine lv_iload_n C.1 C.2.1 dX11_of_16 rfl (lv_at hl 1 rfl) ?_
    have em16 : (I8 (gr g a0 0) 717).toInt = i2.toInt := congrArg Int32.toInt ((f9 (gr g a0 0) 717 (Or.inl (is_ne h0_ h1 (by decide)))).trans ki2)
    have em17 : (I8 (gr g a0 0) 715).toInt = i3.toInt := congrArg Int32.toInt ((f9 (gr g a0 0) 715 (Or.inl (is_ne h0_ h1 (by decide)))).trans ki3)
    have em18 : (I8 (gr g a0 0) 718).toInt = i6.toInt := congrArg Int32.toInt ((f9 (gr g a0 0) 718 (Or.inl (is_ne h0_ h1 (by decide)))).trans ki6)
    refine k_PI C M h0_ (by decide) rfl (ct_X11_layoutOf l g I8 J a0 x1 h0_) (cw_X11_135 C.2.2.2.2 (by decide)) rfl hl.1 rfl (Nat.le_of_ble_eq_true rfl) dX11_of_17 ⟨Nat.le_refl _, Nat.le_refl _⟩ (fun r19 H locs p20r M => ?_)
    have p20 : r19.toInt = (I8 (gr g a0 0) 715).toInt ∨ (r19.toInt = (I8 (gr g a0 0) 715).toInt + 1 ∧ (I8 (gr g a0 0) 717).toInt = 1) := p20r
    simp only [em16, em17, em18] at p20
    have p20 : r19.toInt = i3.toInt ∨ (r19.toInt = i3.toInt + 1 ∧ i2.toInt = 1) := p20
    refine lv_istore_n (lv' := [(3, .int r19), (0, .ref a0), (1, .int x1), (2, .int x2)]) C.1 C.2.1 dX11_of_20 rfl hl (by decide) rfl (fun ls hl => ?_)
    refine lv_iload_n C.1 C.2.1 dX11_of_21 rfl (lv_at hl 3 rfl) ?_
    by_cases q21 : x2.toInt = 0
    ·
      refine n_tabk (off := 34) (tgt := 56) C 0 dX11_of_22 q21 (by decide) (by decide) (by decide) (by decide) ?_
      refine lv_aload_n C.1 C.2.1 dX11_of_56 rfl (lv_at hl 1 rfl) ?_
      refine lv_iload_n C.1 C.2.1 dX11_of_57 rfl (lv_at hl 2 rfl) ?_
      have em22 : (I8 (gr g a0 0) 717).toInt = i2.toInt := congrArg Int32.toInt ((f9 (gr g a0 0) 717 (Or.inl (is_ne h0_ h1 (by decide)))).trans ki2)
      have em23 : (I8 (gr g a0 0) 715).toInt = i3.toInt := congrArg Int32.toInt ((f9 (gr g a0 0) 715 (Or.inl (is_ne h0_ h1 (by decide)))).trans ki3)
      have em24 : (I8 (gr g a0 0) 718).toInt = i6.toInt := congrArg Int32.toInt ((f9 (gr g a0 0) 718 (Or.inl (is_ne h0_ h1 (by decide)))).trans ki6)
      refine k_PI C M h0_ (by decide) rfl (ct_X11_isNew l g I8 J a0 x1 h0_) (cw_X11_126 C.2.2.2.2 (by decide)) rfl hl.1 rfl (Nat.le_of_ble_eq_true rfl) dX11_of_58 ⟨Nat.le_refl _, Nat.le_refl _⟩ (fun r25 H locs p26r M => ?_)
      have p26 : 0 ≤ r25.toInt ∧ r25.toInt ≤ 1 ∧ (r25.toInt = 1 → (I8 (gr g a0 0) 717).toInt = 1) := p26r
      simp only [em22, em23, em24] at p26
      have p26 : 0 ≤ r25.toInt ∧ r25.toInt ≤ 1 ∧ (r25.toInt = 1 → i2.toInt = 1) := p26
      refine n_if_eq C (tgt := 68) dX11_of_61 (by decide) rfl (fun q27 => ?_) (fun q27 => ?_)
      ·
        refine lv_iconst (v := 0) C.1 C.2.1 dX11_of_68 (by decide) ?_
        exact r_PM C M (z := 0) hr hlk F rfl ⟨rfl, trivial⟩ dX11_of_69
      ·
        refine lv_iconst (v := 1) C.1 C.2.1 dX11_of_64 (by decide) ?_
        refine lv_goto (tgt := 69) C.1 C.2.1 dX11_of_65 (by decide) ?_
        exact r_PM C M (z := 1) hr hlk F rfl ⟨rfl, trivial⟩ dX11_of_69
    by_cases q28 : x2.toInt = 1
    ·
      refine n_tabk (off := 48) (tgt := 70) C 1 dX11_of_22 q28 (by decide) (by decide) (by decide) (by decide) ?_
      refine lv_iload_n C.1 C.2.1 dX11_of_70 rfl (lv_at hl 0 rfl) ?_
      refine lv_iload_n C.1 C.2.1 dX11_of_71 rfl (lv_at hl 2 rfl) ?_
      refine ks_PI C M (ct_X11_diskOf l g I8 J r19 x1 (by omega) (by omega) (by omega) (by omega)) (cw_X11_91 C.2.2.2.2 (by decide)) rfl hl.1 rfl (Nat.le_of_ble_eq_true rfl) dX11_of_72 ⟨Nat.le_refl _, Nat.le_refl _⟩ (fun r29 H locs p30r M => ?_)
      have p30 : 0 ≤ r29.toInt ∧ r29.toInt ≤ r19.toInt - 1 := p30r
      exact r_PM C M hr hlk F rfl ⟨rfl, trivial⟩ dX11_of_75
    by_cases q31 : x2.toInt = 2
    ·
      refine n_tabk (off := 54) (tgt := 76) C 2 dX11_of_22 q31 (by decide) (by decide) (by decide) (by decide) ?_
      refine lv_iload_n C.1 C.2.1 dX11_of_76 rfl (lv_at hl 0 rfl) ?_
      refine lv_iload_n C.1 C.2.1 dX11_of_77 rfl (lv_at hl 2 rfl) ?_
      refine ks_PI C M (ct_X11_rowOf l g I8 J r19 x1 (by omega) (by omega) (by omega) (by omega)) (cw_X11_94 C.2.2.2.2 (by decide)) rfl hl.1 rfl (Nat.le_of_ble_eq_true rfl) dX11_of_78 ⟨Nat.le_refl _, Nat.le_refl _⟩ (fun r32 H locs p33r M => ?_)
      have p33 : r32.toInt = x1.toInt / (r19.toInt - 1) ∧ 0 ≤ r32.toInt ∧ 2 * r32.toInt ≤ x1.toInt := p33r
      exact r_PM C M hr hlk F rfl ⟨rfl, trivial⟩ dX11_of_81
    by_cases q34 : x2.toInt = 3
    ·
      refine n_tabk (off := 60) (tgt := 82) C 3 dX11_of_22 q34 (by decide) (by decide) (by decide) (by decide) ?_
      refine lv_aload_n C.1 C.2.1 dX11_of_82 rfl (lv_at hl 1 rfl) ?_
      refine lv_iload_n C.1 C.2.1 dX11_of_83 rfl (lv_at hl 2 rfl) ?_
      have em35 : (I8 (gr g a0 0) 717).toInt = i2.toInt := congrArg Int32.toInt ((f9 (gr g a0 0) 717 (Or.inl (is_ne h0_ h1 (by decide)))).trans ki2)
      have em36 : (I8 (gr g a0 0) 715).toInt = i3.toInt := congrArg Int32.toInt ((f9 (gr g a0 0) 715 (Or.inl (is_ne h0_ h1 (by decide)))).trans ki3)
      have em37 : (I8 (gr g a0 0) 716).toInt = i4.toInt := congrArg Int32.toInt ((f9 (gr g a0 0) 716 (Or.inl (is_ne h0_ h1 (by decide)))).trans ki4)
      have em38 : (I8 (gr g a0 0) 722).toInt = i5.toInt := congrArg Int32.toInt ((f9 (gr g a0 0) 722 (Or.inl (is_ne h0_ h1 (by decide)))).trans ki5)
      have em39 : (I8 (gr g a0 0) 718).toInt = i6.toInt := congrArg Int32.toInt ((f9 (gr g a0 0) 718 (Or.inl (is_ne h0_ h1 (by decide)))).trans ki6)
      have em40 : (I8 (gr g a0 0) 719).toInt = i7.toInt := congrArg Int32.toInt ((f9 (gr g a0 0) 719 (Or.inl (is_ne h0_ h1 (by decide)))).trans ki7)
      refine k_PI C M h0_ (by decide) rfl (ct_X11_isInBatch l g I8 J a0 x1 h0_ (by simp only [em35, em36, em37, em38, em39, em40]; first | assumption | omega)) (cw_X11_129 C.2.2.2.2 (by decide)) rfl hl.1 rfl (Nat.le_of_ble_eq_true rfl) dX11_of_84 ⟨Nat.le_refl _, Nat.le_refl _⟩ (fun r41 H locs p42r M => ?_)
      have p42 : 0 ≤ r41.toInt ∧ r41.toInt ≤ 1 ∧ (r41.toInt = 1 → (I8 (gr g a0 0) 717).toInt = 1 ∧ 0 < (I8 (gr g a0 0) 719).toInt ∧ (I8 (gr g a0 0) 718).toInt * (I8 (gr g a0 0) 715).toInt ≤ x1.toInt ∧ x1.toInt < (I8 (gr g a0 0) 718).toInt * (I8 (gr g a0 0) 715).toInt + mRd (I8 (gr g a0 0) 716).toInt (I8 (gr g a0 0) 715).toInt (I8 (gr g a0 0) 722).toInt (I8 (gr g a0 0) 718).toInt) := p42r
      simp only [em35, em36, em37, em38, em39, em40] at p42
      have p42 : 0 ≤ r41.toInt ∧ r41.toInt ≤ 1 ∧ (r41.toInt = 1 → i2.toInt = 1 ∧ 0 < i7.toInt ∧ i6.toInt * i3.toInt ≤ x1.toInt ∧ x1.toInt < i6.toInt * i3.toInt + mRd i4.toInt i3.toInt i5.toInt i6.toInt) := p42
      refine n_if_eq C (tgt := 94) dX11_of_87 (by decide) rfl (fun q43 => ?_) (fun q43 => ?_)
      ·
        refine lv_iconst (v := 0) C.1 C.2.1 dX11_of_94 (by decide) ?_
        exact r_PM C M (z := 0) hr hlk F rfl ⟨rfl, trivial⟩ dX11_of_95
      ·
        refine lv_iconst (v := 1) C.1 C.2.1 dX11_of_90 (by decide) ?_
        refine lv_goto (tgt := 95) C.1 C.2.1 dX11_of_91 (by decide) ?_
        exact r_PM C M (z := 1) hr hlk F rfl ⟨rfl, trivial⟩ dX11_of_95
    by_cases q44 : x2.toInt = 4
    ·
      refine n_tabk (off := 74) (tgt := 96) C 4 dX11_of_22 q44 (by decide) (by decide) (by decide) (by decide) ?_
      refine lv_aload_n C.1 C.2.1 dX11_of_96 rfl (lv_at hl 1 rfl) ?_
      refine lv_iload_n C.1 C.2.1 dX11_of_97 rfl (lv_at hl 2 rfl) ?_
      have em45 : (I8 (gr g a0 0) 717).toInt = i2.toInt := congrArg Int32.toInt ((f9 (gr g a0 0) 717 (Or.inl (is_ne h0_ h1 (by decide)))).trans ki2)
      have em46 : (I8 (gr g a0 0) 715).toInt = i3.toInt := congrArg Int32.toInt ((f9 (gr g a0 0) 715 (Or.inl (is_ne h0_ h1 (by decide)))).trans ki3)
      have em47 : (I8 (gr g a0 0) 716).toInt = i4.toInt := congrArg Int32.toInt ((f9 (gr g a0 0) 716 (Or.inl (is_ne h0_ h1 (by decide)))).trans ki4)
      have em48 : (I8 (gr g a0 0) 722).toInt = i5.toInt := congrArg Int32.toInt ((f9 (gr g a0 0) 722 (Or.inl (is_ne h0_ h1 (by decide)))).trans ki5)
      have em49 : (I8 (gr g a0 0) 718).toInt = i6.toInt := congrArg Int32.toInt ((f9 (gr g a0 0) 718 (Or.inl (is_ne h0_ h1 (by decide)))).trans ki6)
      have em50 : (I8 (gr g a0 0) 719).toInt = i7.toInt := congrArg Int32.toInt ((f9 (gr g a0 0) 719 (Or.inl (is_ne h0_ h1 (by decide)))).trans ki7)
      refine k_PM C M h0_ (by decide) rfl (ct_X11_readsBlock l g I8 J a0 x1 h0_ (by simp only [em45, em46, em47, em48, em49, em50]; first | assumption | omega) (by omega) (by omega)) (cw_X11_141 C.2.2.2.2 (by decide)) rfl hl.1 rfl (Nat.le_of_ble_eq_true rfl) dX11_of_98 ⟨Nat.le_refl _, Nat.le_refl _⟩ (fun r55 I51 J52 H locs G53 p54r M => ?_)
      obtain ⟨eJ52, p54⟩ : J52 = J ∧ (0 ≤ r55.toInt ∧ r55.toInt ≤ 1) := p54r
      have eJ52 := eJ52.symm
      subst eJ52
      have F := fr_call F G53 (by decide)
      refine n_if_eq C (tgt := 111) dX11_of_101 (by decide) rfl (fun q56 => ?_) (fun q56 => ?_)
      ·
        refine lv_iconst (v := 0) C.1 C.2.1 dX11_of_111 (by decide) ?_
        exact r_PM C M (z := 0) hr hlk F rfl ⟨rfl, trivial⟩ dX11_of_112
      ·
        refine lv_aload_n C.1 C.2.1 dX11_of_104 rfl (lv_at hl 1 rfl) ?_
        refine gi_X11_56 C M h0_ dX11_of_105 (fun v57 kv57 => ?_)
        refine lv_goto (tgt := 112) C.1 C.2.1 dX11_of_108 (by decide) ?_
        exact r_PM C M hr hlk F rfl ⟨rfl, trivial⟩ dX11_of_112
    refine n_tabo (tgt := 113) C dX11_of_22 rfl (by omega) (by decide) ?_
    refine lv_iconst (v := -1) C.1 C.2.1 dX11_of_113 (by decide) ?_
    exact r_PM C M (z := (-1)) hr hlk F rfl ⟨rfl, trivial⟩ dX11_of_114
  ·
    refine lv_iconst (v := -1) C.1 C.2.1 dX11_of_13 (by decide) ?_
    exact r_PM C M (z := (-1)) hr hlk F rfl ⟨rfl, trivial⟩ dX11_of_14

abbrev md_X11_notesBlocks : List (Nat × Nat) := [(9, 11), (9, 12), (34, 0), (35, 0)]
set_option maxHeartbeats 4000000 in
set_option maxRecDepth 100000 in
theorem ct_X11_notesBlocks (l : Launch) (g : Gs) (I : Ms) (J : Js) (a0 : Nat) (h0_ : Is g a0 9) (g0 : jm (I (gr g a0 0) 717).toInt (I (gr g a0 0) 715).toInt (I (gr g a0 0) 716).toInt (I (gr g a0 0) 722).toInt (I (gr g a0 0) 718).toInt (I (gr g a0 0) 719).toInt) : Ctr l yX11_notesBlocks cX11_notesBlocks 2 (Option.none : Option Jvm.ClassFile.FieldType) 7 g [.ref a0] I J (PV g md_X11_notesBlocks I (fun I1 J1 => J1 = J ∧ (True))) := by
  refine m_start (by decide) (Nat.le_of_ble_eq_true rfl) ?_
  intro p e s m args below meth c C hr hlk M ls hl
  have hl : lv_has ls 2 [(0, .ref a0)] := hl
  have C : CallFix p m c cX11_notesBlocks 2 s args TB RX11 := C
  have F : Fr g md_X11_notesBlocks I I := fr_rf
  have h1 := is_ref M h0_ 0 28 rfl rfl
  obtain ⟨i2, ki2⟩ : ∃ z : Int32, I (gr g a0 0) 717 = z := ⟨_, rfl⟩
  have ti2 : 0 ≤ i2.toInt ∧ i2.toInt ≤ 1 := m_rng M h1 717 ki2 rfl
  have ci2 : (I (gr g a0 0) 717).toInt = i2.toInt := congrArg Int32.toInt ki2
  obtain ⟨i3, ki3⟩ : ∃ z : Int32, I (gr g a0 0) 715 = z := ⟨_, rfl⟩
  have ti3 : 3 ≤ i3.toInt ∧ i3.toInt ≤ 7 := m_rng M h1 715 ki3 rfl
  have ci3 : (I (gr g a0 0) 715).toInt = i3.toInt := congrArg Int32.toInt ki3
  obtain ⟨i4, ki4⟩ : ∃ z : Int32, I (gr g a0 0) 716 = z := ⟨_, rfl⟩
  have ti4 : 4 ≤ i4.toInt ∧ i4.toInt ≤ 40 := m_rng M h1 716 ki4 rfl
  have ci4 : (I (gr g a0 0) 716).toInt = i4.toInt := congrArg Int32.toInt ki4
  obtain ⟨i5, ki5⟩ : ∃ z : Int32, I (gr g a0 0) 722 = z := ⟨_, rfl⟩
  have ti5 : 1 ≤ i5.toInt ∧ i5.toInt ≤ 4 := m_rng M h1 722 ki5 rfl
  have ci5 : (I (gr g a0 0) 722).toInt = i5.toInt := congrArg Int32.toInt ki5
  obtain ⟨i6, ki6⟩ : ∃ z : Int32, I (gr g a0 0) 718 = z := ⟨_, rfl⟩
  have ti6 : 0 ≤ i6.toInt ∧ i6.toInt ≤ 200 := m_rng M h1 718 ki6 rfl
  have ci6 : (I (gr g a0 0) 718).toInt = i6.toInt := congrArg Int32.toInt ki6
  obtain ⟨i7, ki7⟩ : ∃ z : Int32, I (gr g a0 0) 719 = z := ⟨_, rfl⟩
  have ti7 : 0 ≤ i7.toInt ∧ i7.toInt ≤ 200 := m_rng M h1 719 ki7 rfl
  have ci7 : (I (gr g a0 0) 719).toInt = i7.toInt := congrArg Int32.toInt ki7
  simp only [ci2, ci3, ci4, ci5, ci6, ci7] at g0
  have hj6 : i2.toInt = 1 → i3.toInt ≤ 6 := fun q => (g0 q).1
  refine lv_iconst (v := 0) C.1 C.2.1 dX11_notesBlocks_0 (by decide) ?_
  refine lv_istore_n (lv' := [(1, .int 0), (0, .ref a0)]) C.1 C.2.1 dX11_notesBlocks_1 rfl hl (by decide) rfl (fun ls hl => ?_)
  have L2 : ∀ (n2 : Nat) (y8 : Int32) (I9 : Ms) (H : Heap) (locs : List Loc) (ls : Array Slot), I9 (gr g a0 0) 719 = i7 → I9 (gr g a0 0) 718 = i6 → I9 (gr g a0 0) 722 = i5 → I9 (gr g a0 0) 716 = i4 → I9 (gr g a0 0) 715 = i3 → I9 (gr g a0 0) 717 = i2 → 0 ≤ y8.toInt → y8.toInt ≤ 240 → 240 - y8.toInt < (n2 : Int) → Fr g md_X11_notesBlocks I I9 → Mm g s I9 J H locs → lv_has ls 2 [(0, .ref a0), (1, .int y8)] → W p l e (rmL 7) s m args below meth c H locs 0 0 (MQg below g (PV g md_X11_notesBlocks I (fun I1 J1 => J1 = J ∧ (True))) args s) (F0 m 2 ls []) := by
    intro n2
    induction n2 with
    | zero =>
      intro y8 I9 H locs ls k10 k11 k12 k13 k14 k15 f16 f17 hm2 F M hl
      exact absurd hm2 (by omega)
    | succ n2 ih2 =>
      intro y8 I9 H locs ls k10 k11 k12 k13 k14 k15 f16 f17 hm2 F M hl
      refine lv_iload_n C.1 C.2.1 dX11_notesBlocks_2 rfl (lv_at hl 1 rfl) ?_
      refine lv_aload_n C.1 C.2.1 dX11_notesBlocks_3 rfl (lv_at hl 0 rfl) ?_
      have em18 : (I9 (gr g a0 0) 715).toInt = i3.toInt := congrArg Int32.toInt k14
      have em19 : (I9 (gr g a0 0) 716).toInt = i4.toInt := congrArg Int32.toInt k13
      refine k_PI C M h0_ (by decide) rfl (ct_X11_blocks l g I9 J a0 h0_) (cw_X11_63 C.2.2.2.2 (by decide)) rfl hl.1 rfl (Nat.le_of_ble_eq_true rfl) dX11_notesBlocks_4 ⟨Nat.le_refl _, Nat.le_refl _⟩ (fun r20 H locs p21r M => ?_)
      have p21 : r20.toInt = mBl (I9 (gr g a0 0) 716).toInt (I9 (gr g a0 0) 715).toInt ∧ 8 ≤ r20.toInt ∧ r20.toInt ≤ 240 := p21r
      simp only [em18, em19] at p21
      have p21 : r20.toInt = mBl i4.toInt i3.toInt ∧ 8 ≤ r20.toInt ∧ r20.toInt ≤ 240 := p21
      refine n_icmp_ge C (tgt := 37) dX11_notesBlocks_7 (by decide) rfl rfl (fun q22 => ?_) (fun q22 => ?_)
      ·
        exact r_PV C M hr hlk F ⟨rfl, trivial⟩ dX11_notesBlocks_37
      ·
        refine lv_aload_n C.1 C.2.1 dX11_notesBlocks_10 rfl (lv_at hl 0 rfl) ?_
        refine gi_X11_32 C M h0_ dX11_notesBlocks_11 (fun h23 => ?_)
        refine lv_iload_n C.1 C.2.1 dX11_notesBlocks_14 rfl (lv_at hl 1 rfl) ?_
        refine lv_aload_n C.1 C.2.1 dX11_notesBlocks_15 rfl (lv_at hl 0 rfl) ?_
        refine lv_iload_n C.1 C.2.1 dX11_notesBlocks_16 rfl (lv_at hl 1 rfl) ?_
        have em24 : (I9 (gr g a0 0) 717).toInt = i2.toInt := congrArg Int32.toInt k15
        have em25 : (I9 (gr g a0 0) 715).toInt = i3.toInt := congrArg Int32.toInt k14
        have em26 : (I9 (gr g a0 0) 716).toInt = i4.toInt := congrArg Int32.toInt k13
        have em27 : (I9 (gr g a0 0) 722).toInt = i5.toInt := congrArg Int32.toInt k12
        have em28 : (I9 (gr g a0 0) 718).toInt = i6.toInt := congrArg Int32.toInt k11
        have em29 : (I9 (gr g a0 0) 719).toInt = i7.toInt := congrArg Int32.toInt k10
        refine k_PM C M h0_ (by decide) rfl (ct_X11_readsBlock l g I9 J a0 y8 h0_ (by simp only [em24, em25, em26, em27, em28, em29]; first | assumption | omega) (by omega) (by omega)) (cw_X11_141 C.2.2.2.2 (by decide)) rfl hl.1 rfl (Nat.le_of_ble_eq_true rfl) dX11_notesBlocks_17 ⟨Nat.le_refl _, Nat.le_refl _⟩ (fun r34 I30 J31 H locs G32 p33r M => ?_)
        obtain ⟨eJ31, p33⟩ : J31 = J ∧ (0 ≤ r34.toInt ∧ r34.toInt ≤ 1) := p33r
        have eJ31 := eJ31.symm
        subst eJ31
        have F := fr_call F G32 (by decide)
        refine a_stZ C M h23 (n := 240) (by decide) (by decide) rfl rfl rfl (by omega) (by omega) rfl rfl (by omega) (by omega) rfl dX11_notesBlocks_20 (fun H locs I35 k37 f36 M => ?_)
        have F := fr_put F h23 (Or.inl (by decide)) f36
        refine lv_aload_n C.1 C.2.1 dX11_notesBlocks_21 rfl (lv_at hl 0 rfl) ?_
        refine gi_X11_29 C M h0_ dX11_notesBlocks_22 (fun h38 => ?_)
        refine lv_iload_n C.1 C.2.1 dX11_notesBlocks_25 rfl (lv_at hl 1 rfl) ?_
        refine lv_aload_n C.1 C.2.1 dX11_notesBlocks_26 rfl (lv_at hl 0 rfl) ?_
        refine gi_X11_53 C M h0_ dX11_notesBlocks_27 (fun v39 kv39 => ?_)
        refine a_stU C M h38 (n := 240) rfl rfl rfl (by omega) (by omega) rfl rfl dX11_notesBlocks_30 (fun H locs I40 k42 f41 M => ?_)
        have F := fr_put F h38 (Or.inl (by decide)) f41
        refine n_iinc C (k := 1) (N := 1) (lv' := fun v => [(1, .int v), (0, .ref a0)]) dX11_notesBlocks_31 hl rfl (by decide) rfl rfl (by omega) (by omega) (fun _ => rfl) (fun v43 ls ev43 hl => ?_)
        refine lv_goto (tgt := 2) C.1 C.2.1 dX11_notesBlocks_34 (by decide) ?_
        exact ih2 v43 I40 _ _ _ ((f41 (gr g a0 0) 719 (Or.inl (is_ne h38 h1 (by decide)))).trans ((f36 (gr g a0 0) 719 (Or.inl (is_ne h23 h1 (by decide)))).trans ((G32 (gr g a0 0) 28 719 h1 (by decide) (by decide)).trans k10))) ((f41 (gr g a0 0) 718 (Or.inl (is_ne h38 h1 (by decide)))).trans ((f36 (gr g a0 0) 718 (Or.inl (is_ne h23 h1 (by decide)))).trans ((G32 (gr g a0 0) 28 718 h1 (by decide) (by decide)).trans k11))) ((f41 (gr g a0 0) 722 (Or.inl (is_ne h38 h1 (by decide)))).trans ((f36 (gr g a0 0) 722 (Or.inl (is_ne h23 h1 (by decide)))).trans ((G32 (gr g a0 0) 28 722 h1 (by decide) (by decide)).trans k12))) ((f41 (gr g a0 0) 716 (Or.inl (is_ne h38 h1 (by decide)))).trans ((f36 (gr g a0 0) 716 (Or.inl (is_ne h23 h1 (by decide)))).trans ((G32 (gr g a0 0) 28 716 h1 (by decide) (by decide)).trans k13))) ((f41 (gr g a0 0) 715 (Or.inl (is_ne h38 h1 (by decide)))).trans ((f36 (gr g a0 0) 715 (Or.inl (is_ne h23 h1 (by decide)))).trans ((G32 (gr g a0 0) 28 715 h1 (by decide) (by decide)).trans k14))) ((f41 (gr g a0 0) 717 (Or.inl (is_ne h38 h1 (by decide)))).trans ((f36 (gr g a0 0) 717 (Or.inl (is_ne h23 h1 (by decide)))).trans ((G32 (gr g a0 0) 28 717 h1 (by decide) (by decide)).trans k15))) (by omega) (by omega) (by omega) F M (lv_sub hl [1, 0] rfl)
  have cz44 : (0 : Int32).toInt = 0 := rfl
  exact L2 _ 0 I _ _ _ ki7 ki6 ki5 ki4 ki3 ki2 (by omega) (by omega) (n_big _) F M (lv_sub hl [1, 0] rfl)

abbrev md_X11_unlike : List (Nat × Nat) := [(9, 11), (9, 12)]
set_option maxHeartbeats 4000000 in
set_option maxRecDepth 100000 in
theorem ct_X11_unlike (l : Launch) (g : Gs) (I : Ms) (J : Js) (a0 : Nat) (h0_ : Is g a0 9) (g0 : jm (I (gr g a0 0) 717).toInt (I (gr g a0 0) 715).toInt (I (gr g a0 0) 716).toInt (I (gr g a0 0) 722).toInt (I (gr g a0 0) 718).toInt (I (gr g a0 0) 719).toInt) : Ctr l yX11_unlike cX11_unlike 3 (Option.some Jvm.ClassFile.FieldType.int) 7 g [.ref a0] I J (PM g md_X11_unlike I (fun z I1 J1 => J1 = J ∧ (True))) := by
  refine m_start (by decide) (Nat.le_of_ble_eq_true rfl) ?_
  intro p e s m args below meth c C hr hlk M ls hl
  have hl : lv_has ls 3 [(0, .ref a0)] := hl
  have C : CallFix p m c cX11_unlike 3 s args TB RX11 := C
  have F : Fr g md_X11_unlike I I := fr_rf
  have h1 := is_ref M h0_ 0 28 rfl rfl
  obtain ⟨i2, ki2⟩ : ∃ z : Int32, I (gr g a0 0) 717 = z := ⟨_, rfl⟩
  have ti2 : 0 ≤ i2.toInt ∧ i2.toInt ≤ 1 := m_rng M h1 717 ki2 rfl
  have ci2 : (I (gr g a0 0) 717).toInt = i2.toInt := congrArg Int32.toInt ki2
  obtain ⟨i3, ki3⟩ : ∃ z : Int32, I (gr g a0 0) 715 = z := ⟨_, rfl⟩
  have ti3 : 3 ≤ i3.toInt ∧ i3.toInt ≤ 7 := m_rng M h1 715 ki3 rfl
  have ci3 : (I (gr g a0 0) 715).toInt = i3.toInt := congrArg Int32.toInt ki3
  obtain ⟨i4, ki4⟩ : ∃ z : Int32, I (gr g a0 0) 716 = z := ⟨_, rfl⟩
  have ti4 : 4 ≤ i4.toInt ∧ i4.toInt ≤ 40 := m_rng M h1 716 ki4 rfl
  have ci4 : (I (gr g a0 0) 716).toInt = i4.toInt := congrArg Int32.toInt ki4
  obtain ⟨i5, ki5⟩ : ∃ z : Int32, I (gr g a0 0) 722 = z := ⟨_, rfl⟩
  have ti5 : 1 ≤ i5.toInt ∧ i5.toInt ≤ 4 := m_rng M h1 722 ki5 rfl
  have ci5 : (I (gr g a0 0) 722).toInt = i5.toInt := congrArg Int32.toInt ki5
  obtain ⟨i6, ki6⟩ : ∃ z : Int32, I (gr g a0 0) 718 = z := ⟨_, rfl⟩
  have ti6 : 0 ≤ i6.toInt ∧ i6.toInt ≤ 200 := m_rng M h1 718 ki6 rfl
  have ci6 : (I (gr g a0 0) 718).toInt = i6.toInt := congrArg Int32.toInt ki6
  obtain ⟨i7, ki7⟩ : ∃ z : Int32, I (gr g a0 0) 719 = z := ⟨_, rfl⟩
  have ti7 : 0 ≤ i7.toInt ∧ i7.toInt ≤ 200 := m_rng M h1 719 ki7 rfl
  have ci7 : (I (gr g a0 0) 719).toInt = i7.toInt := congrArg Int32.toInt ki7
  simp only [ci2, ci3, ci4, ci5, ci6, ci7] at g0
  have hj6 : i2.toInt = 1 → i3.toInt ≤ 6 := fun q => (g0 q).1
  refine lv_iconst (v := 0) C.1 C.2.1 dX11_unlike_0 (by decide) ?_
  refine lv_istore_n (lv' := [(1, .int 0), (0, .ref a0)]) C.1 C.2.1 dX11_unlike_1 rfl hl (by decide) rfl (fun ls hl => ?_)
  refine lv_iconst (v := 0) C.1 C.2.1 dX11_unlike_2 (by decide) ?_
  refine lv_istore_n (lv' := [(2, .int 0), (1, .int 0), (0, .ref a0)]) C.1 C.2.1 dX11_unlike_3 rfl hl (by decide) rfl (fun ls hl => ?_)
  have L4 : ∀ (n4 : Nat) (y8 : Int32) (y9 : Int32) (I10 : Ms) (H : Heap) (locs : List Loc) (ls : Array Slot), I10 (gr g a0 0) 719 = i7 → I10 (gr g a0 0) 718 = i6 → I10 (gr g a0 0) 722 = i5 → I10 (gr g a0 0) 716 = i4 → I10 (gr g a0 0) 715 = i3 → I10 (gr g a0 0) 717 = i2 → 0 ≤ y9.toInt → y9.toInt ≤ 240 → 240 - y9.toInt < (n4 : Int) → Fr g md_X11_unlike I I10 → Mm g s I10 J H locs → lv_has ls 3 [(0, .ref a0), (1, .int y8), (2, .int y9)] → W p l e (rmL 7) s m args below meth c H locs 0 0 (MQg below g (PM g md_X11_unlike I (fun z I1 J1 => J1 = J ∧ (True))) args s) (F0 m 4 ls []) := by
    intro n4
    induction n4 with
    | zero =>
      intro y8 y9 I10 H locs ls k11 k12 k13 k14 k15 k16 f17 f18 hm4 F M hl
      exact absurd hm4 (by omega)
    | succ n4 ih4 =>
      intro y8 y9 I10 H locs ls k11 k12 k13 k14 k15 k16 f17 f18 hm4 F M hl
      refine lv_iload_n C.1 C.2.1 dX11_unlike_4 rfl (lv_at hl 2 rfl) ?_
      refine lv_aload_n C.1 C.2.1 dX11_unlike_5 rfl (lv_at hl 0 rfl) ?_
      have em19 : (I10 (gr g a0 0) 715).toInt = i3.toInt := congrArg Int32.toInt k15
      have em20 : (I10 (gr g a0 0) 716).toInt = i4.toInt := congrArg Int32.toInt k14
      refine k_PI C M h0_ (by decide) rfl (ct_X11_blocks l g I10 J a0 h0_) (cw_X11_63 C.2.2.2.2 (by decide)) rfl hl.1 rfl (Nat.le_of_ble_eq_true rfl) dX11_unlike_6 ⟨Nat.le_refl _, Nat.le_refl _⟩ (fun r21 H locs p22r M => ?_)
      have p22 : r21.toInt = mBl (I10 (gr g a0 0) 716).toInt (I10 (gr g a0 0) 715).toInt ∧ 8 ≤ r21.toInt ∧ r21.toInt ≤ 240 := p22r
      simp only [em19, em20] at p22
      have p22 : r21.toInt = mBl i4.toInt i3.toInt ∧ 8 ≤ r21.toInt ∧ r21.toInt ≤ 240 := p22
      refine n_icmp_ge C (tgt := 54) dX11_unlike_9 (by decide) rfl rfl (fun q23 => ?_) (fun q23 => ?_)
      ·
        refine lv_iload_n C.1 C.2.1 dX11_unlike_54 rfl (lv_at hl 1 rfl) ?_
        exact r_PM C M hr hlk F rfl ⟨rfl, trivial⟩ dX11_unlike_55
      ·
        refine lv_aload_n C.1 C.2.1 dX11_unlike_12 rfl (lv_at hl 0 rfl) ?_
        refine gi_X11_32 C M h0_ dX11_unlike_13 (fun h24 => ?_)
        refine lv_iload_n C.1 C.2.1 dX11_unlike_16 rfl (lv_at hl 2 rfl) ?_
        refine a_ldZ C M h24 (n := 240) (by decide) (by decide) rfl rfl rfl (by omega) (by omega) rfl dX11_unlike_17 (fun v25 kv25 => ?_)
        have tv25 : 0 ≤ v25.toInt ∧ v25.toInt ≤ 1 := m_rng M h24 y9.toInt.toNat kv25 rfl
        refine n_if_ne C (tgt := 24) dX11_unlike_18 (by decide) rfl (fun q26 => ?_) (fun q26 => ?_)
        ·
          refine lv_aload_n C.1 C.2.1 dX11_unlike_24 rfl (lv_at hl 0 rfl) ?_
          refine lv_iload_n C.1 C.2.1 dX11_unlike_25 rfl (lv_at hl 2 rfl) ?_
          have em27 : (I10 (gr g a0 0) 717).toInt = i2.toInt := congrArg Int32.toInt k16
          have em28 : (I10 (gr g a0 0) 715).toInt = i3.toInt := congrArg Int32.toInt k15
          have em29 : (I10 (gr g a0 0) 716).toInt = i4.toInt := congrArg Int32.toInt k14
          have em30 : (I10 (gr g a0 0) 722).toInt = i5.toInt := congrArg Int32.toInt k13
          have em31 : (I10 (gr g a0 0) 718).toInt = i6.toInt := congrArg Int32.toInt k12
          have em32 : (I10 (gr g a0 0) 719).toInt = i7.toInt := congrArg Int32.toInt k11
          refine k_PM C M h0_ (by decide) rfl (ct_X11_readsBlock l g I10 J a0 y9 h0_ (by simp only [em27, em28, em29, em30, em31, em32]; first | assumption | omega) (by omega) (by omega)) (cw_X11_141 C.2.2.2.2 (by decide)) rfl hl.1 rfl (Nat.le_of_ble_eq_true rfl) dX11_unlike_26 ⟨Nat.le_refl _, Nat.le_refl _⟩ (fun r37 I33 J34 H locs G35 p36r M => ?_)
          obtain ⟨eJ34, p36⟩ : J34 = J ∧ (0 ≤ r37.toInt ∧ r37.toInt ≤ 1) := p36r
          have eJ34 := eJ34.symm
          subst eJ34
          have F := fr_call F G35 (by decide)
          refine n_if_eq C (tgt := 45) dX11_unlike_29 (by decide) rfl (fun q38 => ?_) (fun q38 => ?_)
          ·
            refine n_iincU C (k := 1) (lv' := fun v => [(1, .int v), (0, .ref a0), (2, .int y9)]) dX11_unlike_45 hl rfl (by decide) (fun _ => rfl) (fun v39 ls hl => ?_)
            refine n_iinc C (k := 2) (N := 1) (lv' := fun v => [(2, .int v), (1, .int v39), (0, .ref a0)]) dX11_unlike_48 hl rfl (by decide) rfl rfl (by omega) (by omega) (fun _ => rfl) (fun v40 ls ev40 hl => ?_)
            refine lv_goto (tgt := 4) C.1 C.2.1 dX11_unlike_51 (by decide) ?_
            exact ih4 v39 v40 I33 _ _ _ ((G35 (gr g a0 0) 28 719 h1 (by decide) (by decide)).trans k11) ((G35 (gr g a0 0) 28 718 h1 (by decide) (by decide)).trans k12) ((G35 (gr g a0 0) 28 722 h1 (by decide) (by decide)).trans k13) ((G35 (gr g a0 0) 28 716 h1 (by decide) (by decide)).trans k14) ((G35 (gr g a0 0) 28 715 h1 (by decide) (by decide)).trans k15) ((G35 (gr g a0 0) 28 717 h1 (by decide) (by decide)).trans k16) (by omega) (by omega) (by omega) F M (lv_sub hl [2, 1, 0] rfl)
          ·
            refine lv_aload_n C.1 C.2.1 dX11_unlike_32 rfl (lv_at hl 0 rfl) ?_
            refine gi_X11_53 C M h0_ dX11_unlike_33 (fun v41 kv41 => ?_)
            refine lv_aload_n C.1 C.2.1 dX11_unlike_36 rfl (lv_at hl 0 rfl) ?_
            refine gi_X11_29 C M h0_ dX11_unlike_37 (fun h42 => ?_)
            refine lv_iload_n C.1 C.2.1 dX11_unlike_40 rfl (lv_at hl 2 rfl) ?_
            refine a_ld C M h42 (n := 240) rfl rfl rfl (by omega) (by omega) rfl dX11_unlike_41 (fun v43 kv43 => ?_)
            refine n_icmp_eq C (tgt := 48) dX11_unlike_42 (by decide) rfl rfl (fun q44 => ?_) (fun q44 => ?_)
            ·
              refine n_iinc C (k := 2) (N := 1) (lv' := fun v => [(2, .int v), (0, .ref a0), (1, .int y8)]) dX11_unlike_48 hl rfl (by decide) rfl rfl (by omega) (by omega) (fun _ => rfl) (fun v45 ls ev45 hl => ?_)
              refine lv_goto (tgt := 4) C.1 C.2.1 dX11_unlike_51 (by decide) ?_
              exact ih4 y8 v45 I33 _ _ _ ((G35 (gr g a0 0) 28 719 h1 (by decide) (by decide)).trans k11) ((G35 (gr g a0 0) 28 718 h1 (by decide) (by decide)).trans k12) ((G35 (gr g a0 0) 28 722 h1 (by decide) (by decide)).trans k13) ((G35 (gr g a0 0) 28 716 h1 (by decide) (by decide)).trans k14) ((G35 (gr g a0 0) 28 715 h1 (by decide) (by decide)).trans k15) ((G35 (gr g a0 0) 28 717 h1 (by decide) (by decide)).trans k16) (by omega) (by omega) (by omega) F M (lv_sub hl [1, 2, 0] rfl)
            ·
              refine n_iincU C (k := 1) (lv' := fun v => [(1, .int v), (0, .ref a0), (2, .int y9)]) dX11_unlike_45 hl rfl (by decide) (fun _ => rfl) (fun v46 ls hl => ?_)
              refine n_iinc C (k := 2) (N := 1) (lv' := fun v => [(2, .int v), (1, .int v46), (0, .ref a0)]) dX11_unlike_48 hl rfl (by decide) rfl rfl (by omega) (by omega) (fun _ => rfl) (fun v47 ls ev47 hl => ?_)
              refine lv_goto (tgt := 4) C.1 C.2.1 dX11_unlike_51 (by decide) ?_
              exact ih4 v46 v47 I33 _ _ _ ((G35 (gr g a0 0) 28 719 h1 (by decide) (by decide)).trans k11) ((G35 (gr g a0 0) 28 718 h1 (by decide) (by decide)).trans k12) ((G35 (gr g a0 0) 28 722 h1 (by decide) (by decide)).trans k13) ((G35 (gr g a0 0) 28 716 h1 (by decide) (by decide)).trans k14) ((G35 (gr g a0 0) 28 715 h1 (by decide) (by decide)).trans k15) ((G35 (gr g a0 0) 28 717 h1 (by decide) (by decide)).trans k16) (by omega) (by omega) (by omega) F M (lv_sub hl [2, 1, 0] rfl)
        ·
          refine lv_goto (tgt := 48) C.1 C.2.1 dX11_unlike_21 (by decide) ?_
          refine n_iinc C (k := 2) (N := 1) (lv' := fun v => [(2, .int v), (0, .ref a0), (1, .int y8)]) dX11_unlike_48 hl rfl (by decide) rfl rfl (by omega) (by omega) (fun _ => rfl) (fun v48 ls ev48 hl => ?_)
          refine lv_goto (tgt := 4) C.1 C.2.1 dX11_unlike_51 (by decide) ?_
          exact ih4 y8 v48 I10 _ _ _ k11 k12 k13 k14 k15 k16 (by omega) (by omega) (by omega) F M (lv_sub hl [1, 2, 0] rfl)
  have cz49 : (0 : Int32).toInt = 0 := rfl
  have cz50 : (0 : Int32).toInt = 0 := rfl
  exact L4 _ 0 0 I _ _ _ ki7 ki6 ki5 ki4 ki3 ki2 (by omega) (by omega) (n_big _) F M (lv_sub hl [2, 1, 0] rfl)

abbrev md_X11_unreadable : List (Nat × Nat) := [(9, 11), (9, 12)]
set_option maxHeartbeats 4000000 in
set_option maxRecDepth 100000 in
theorem ct_X11_unreadable (l : Launch) (g : Gs) (I : Ms) (J : Js) (a0 : Nat) (h0_ : Is g a0 9) (g0 : jm (I (gr g a0 0) 717).toInt (I (gr g a0 0) 715).toInt (I (gr g a0 0) 716).toInt (I (gr g a0 0) 722).toInt (I (gr g a0 0) 718).toInt (I (gr g a0 0) 719).toInt) : Ctr l yX11_unreadable cX11_unreadable 3 (Option.some Jvm.ClassFile.FieldType.int) 7 g [.ref a0] I J (PM g md_X11_unreadable I (fun z I1 J1 => J1 = J ∧ (True))) := by
  refine m_start (by decide) (Nat.le_of_ble_eq_true rfl) ?_
  intro p e s m args below meth c C hr hlk M ls hl
  have hl : lv_has ls 3 [(0, .ref a0)] := hl
  have C : CallFix p m c cX11_unreadable 3 s args TB RX11 := C
  have F : Fr g md_X11_unreadable I I := fr_rf
  have h1 := is_ref M h0_ 0 28 rfl rfl
  obtain ⟨i2, ki2⟩ : ∃ z : Int32, I (gr g a0 0) 717 = z := ⟨_, rfl⟩
  have ti2 : 0 ≤ i2.toInt ∧ i2.toInt ≤ 1 := m_rng M h1 717 ki2 rfl
  have ci2 : (I (gr g a0 0) 717).toInt = i2.toInt := congrArg Int32.toInt ki2
  obtain ⟨i3, ki3⟩ : ∃ z : Int32, I (gr g a0 0) 715 = z := ⟨_, rfl⟩
  have ti3 : 3 ≤ i3.toInt ∧ i3.toInt ≤ 7 := m_rng M h1 715 ki3 rfl
  have ci3 : (I (gr g a0 0) 715).toInt = i3.toInt := congrArg Int32.toInt ki3
  obtain ⟨i4, ki4⟩ : ∃ z : Int32, I (gr g a0 0) 716 = z := ⟨_, rfl⟩
  have ti4 : 4 ≤ i4.toInt ∧ i4.toInt ≤ 40 := m_rng M h1 716 ki4 rfl
  have ci4 : (I (gr g a0 0) 716).toInt = i4.toInt := congrArg Int32.toInt ki4
  obtain ⟨i5, ki5⟩ : ∃ z : Int32, I (gr g a0 0) 722 = z := ⟨_, rfl⟩
  have ti5 : 1 ≤ i5.toInt ∧ i5.toInt ≤ 4 := m_rng M h1 722 ki5 rfl
  have ci5 : (I (gr g a0 0) 722).toInt = i5.toInt := congrArg Int32.toInt ki5
  obtain ⟨i6, ki6⟩ : ∃ z : Int32, I (gr g a0 0) 718 = z := ⟨_, rfl⟩
  have ti6 : 0 ≤ i6.toInt ∧ i6.toInt ≤ 200 := m_rng M h1 718 ki6 rfl
  have ci6 : (I (gr g a0 0) 718).toInt = i6.toInt := congrArg Int32.toInt ki6
  obtain ⟨i7, ki7⟩ : ∃ z : Int32, I (gr g a0 0) 719 = z := ⟨_, rfl⟩
  have ti7 : 0 ≤ i7.toInt ∧ i7.toInt ≤ 200 := m_rng M h1 719 ki7 rfl
  have ci7 : (I (gr g a0 0) 719).toInt = i7.toInt := congrArg Int32.toInt ki7
  simp only [ci2, ci3, ci4, ci5, ci6, ci7] at g0
  have hj6 : i2.toInt = 1 → i3.toInt ≤ 6 := fun q => (g0 q).1
  refine lv_iconst (v := 0) C.1 C.2.1 dX11_unreadable_0 (by decide) ?_
  refine lv_istore_n (lv' := [(1, .int 0), (0, .ref a0)]) C.1 C.2.1 dX11_unreadable_1 rfl hl (by decide) rfl (fun ls hl => ?_)
  refine lv_iconst (v := 0) C.1 C.2.1 dX11_unreadable_2 (by decide) ?_
  refine lv_istore_n (lv' := [(2, .int 0), (1, .int 0), (0, .ref a0)]) C.1 C.2.1 dX11_unreadable_3 rfl hl (by decide) rfl (fun ls hl => ?_)
  have L4 : ∀ (n4 : Nat) (y8 : Int32) (y9 : Int32) (I10 : Ms) (H : Heap) (locs : List Loc) (ls : Array Slot), I10 (gr g a0 0) 719 = i7 → I10 (gr g a0 0) 718 = i6 → I10 (gr g a0 0) 722 = i5 → I10 (gr g a0 0) 716 = i4 → I10 (gr g a0 0) 715 = i3 → I10 (gr g a0 0) 717 = i2 → 0 ≤ y9.toInt → y9.toInt ≤ 240 → 240 - y9.toInt < (n4 : Int) → Fr g md_X11_unreadable I I10 → Mm g s I10 J H locs → lv_has ls 3 [(0, .ref a0), (1, .int y8), (2, .int y9)] → W p l e (rmL 7) s m args below meth c H locs 0 0 (MQg below g (PM g md_X11_unreadable I (fun z I1 J1 => J1 = J ∧ (True))) args s) (F0 m 4 ls []) := by
    intro n4
    induction n4 with
    | zero =>
      intro y8 y9 I10 H locs ls k11 k12 k13 k14 k15 k16 f17 f18 hm4 F M hl
      exact absurd hm4 (by omega)
    | succ n4 ih4 =>
      intro y8 y9 I10 H locs ls k11 k12 k13 k14 k15 k16 f17 f18 hm4 F M hl
      refine lv_iload_n C.1 C.2.1 dX11_unreadable_4 rfl (lv_at hl 2 rfl) ?_
      refine lv_aload_n C.1 C.2.1 dX11_unreadable_5 rfl (lv_at hl 0 rfl) ?_
      have em19 : (I10 (gr g a0 0) 715).toInt = i3.toInt := congrArg Int32.toInt k15
      have em20 : (I10 (gr g a0 0) 716).toInt = i4.toInt := congrArg Int32.toInt k14
      refine k_PI C M h0_ (by decide) rfl (ct_X11_blocks l g I10 J a0 h0_) (cw_X11_63 C.2.2.2.2 (by decide)) rfl hl.1 rfl (Nat.le_of_ble_eq_true rfl) dX11_unreadable_6 ⟨Nat.le_refl _, Nat.le_refl _⟩ (fun r21 H locs p22r M => ?_)
      have p22 : r21.toInt = mBl (I10 (gr g a0 0) 716).toInt (I10 (gr g a0 0) 715).toInt ∧ 8 ≤ r21.toInt ∧ r21.toInt ≤ 240 := p22r
      simp only [em19, em20] at p22
      have p22 : r21.toInt = mBl i4.toInt i3.toInt ∧ 8 ≤ r21.toInt ∧ r21.toInt ≤ 240 := p22
      refine n_icmp_ge C (tgt := 29) dX11_unreadable_9 (by decide) rfl rfl (fun q23 => ?_) (fun q23 => ?_)
      ·
        refine lv_iload_n C.1 C.2.1 dX11_unreadable_29 rfl (lv_at hl 1 rfl) ?_
        exact r_PM C M hr hlk F rfl ⟨rfl, trivial⟩ dX11_unreadable_30
      ·
        refine lv_aload_n C.1 C.2.1 dX11_unreadable_12 rfl (lv_at hl 0 rfl) ?_
        refine lv_iload_n C.1 C.2.1 dX11_unreadable_13 rfl (lv_at hl 2 rfl) ?_
        have em24 : (I10 (gr g a0 0) 717).toInt = i2.toInt := congrArg Int32.toInt k16
        have em25 : (I10 (gr g a0 0) 715).toInt = i3.toInt := congrArg Int32.toInt k15
        have em26 : (I10 (gr g a0 0) 716).toInt = i4.toInt := congrArg Int32.toInt k14
        have em27 : (I10 (gr g a0 0) 722).toInt = i5.toInt := congrArg Int32.toInt k13
        have em28 : (I10 (gr g a0 0) 718).toInt = i6.toInt := congrArg Int32.toInt k12
        have em29 : (I10 (gr g a0 0) 719).toInt = i7.toInt := congrArg Int32.toInt k11
        refine k_PM C M h0_ (by decide) rfl (ct_X11_readsBlock l g I10 J a0 y9 h0_ (by simp only [em24, em25, em26, em27, em28, em29]; first | assumption | omega) (by omega) (by omega)) (cw_X11_141 C.2.2.2.2 (by decide)) rfl hl.1 rfl (Nat.le_of_ble_eq_true rfl) dX11_unreadable_14 ⟨Nat.le_refl _, Nat.le_refl _⟩ (fun r34 I30 J31 H locs G32 p33r M => ?_)
        obtain ⟨eJ31, p33⟩ : J31 = J ∧ (0 ≤ r34.toInt ∧ r34.toInt ≤ 1) := p33r
        have eJ31 := eJ31.symm
        subst eJ31
        have F := fr_call F G32 (by decide)
        refine n_if_ne C (tgt := 23) dX11_unreadable_17 (by decide) rfl (fun q35 => ?_) (fun q35 => ?_)
        ·
          refine n_iinc C (k := 2) (N := 1) (lv' := fun v => [(2, .int v), (0, .ref a0), (1, .int y8)]) dX11_unreadable_23 hl rfl (by decide) rfl rfl (by omega) (by omega) (fun _ => rfl) (fun v36 ls ev36 hl => ?_)
          refine lv_goto (tgt := 4) C.1 C.2.1 dX11_unreadable_26 (by decide) ?_
          exact ih4 y8 v36 I30 _ _ _ ((G32 (gr g a0 0) 28 719 h1 (by decide) (by decide)).trans k11) ((G32 (gr g a0 0) 28 718 h1 (by decide) (by decide)).trans k12) ((G32 (gr g a0 0) 28 722 h1 (by decide) (by decide)).trans k13) ((G32 (gr g a0 0) 28 716 h1 (by decide) (by decide)).trans k14) ((G32 (gr g a0 0) 28 715 h1 (by decide) (by decide)).trans k15) ((G32 (gr g a0 0) 28 717 h1 (by decide) (by decide)).trans k16) (by omega) (by omega) (by omega) F M (lv_sub hl [1, 2, 0] rfl)
        ·
          refine n_iincU C (k := 1) (lv' := fun v => [(1, .int v), (0, .ref a0), (2, .int y9)]) dX11_unreadable_20 hl rfl (by decide) (fun _ => rfl) (fun v37 ls hl => ?_)
          refine n_iinc C (k := 2) (N := 1) (lv' := fun v => [(2, .int v), (1, .int v37), (0, .ref a0)]) dX11_unreadable_23 hl rfl (by decide) rfl rfl (by omega) (by omega) (fun _ => rfl) (fun v38 ls ev38 hl => ?_)
          refine lv_goto (tgt := 4) C.1 C.2.1 dX11_unreadable_26 (by decide) ?_
          exact ih4 v37 v38 I30 _ _ _ ((G32 (gr g a0 0) 28 719 h1 (by decide) (by decide)).trans k11) ((G32 (gr g a0 0) 28 718 h1 (by decide) (by decide)).trans k12) ((G32 (gr g a0 0) 28 722 h1 (by decide) (by decide)).trans k13) ((G32 (gr g a0 0) 28 716 h1 (by decide) (by decide)).trans k14) ((G32 (gr g a0 0) 28 715 h1 (by decide) (by decide)).trans k15) ((G32 (gr g a0 0) 28 717 h1 (by decide) (by decide)).trans k16) (by omega) (by omega) (by omega) F M (lv_sub hl [2, 1, 0] rfl)
  have cz39 : (0 : Int32).toInt = 0 := rfl
  have cz40 : (0 : Int32).toInt = 0 := rfl
  exact L4 _ 0 0 I _ _ _ ki7 ki6 ki5 ki4 ki3 ki2 (by omega) (by omega) (n_big _) F M (lv_sub hl [2, 1, 0] rfl)

abbrev md_X11_exposed : List (Nat × Nat) := [(9, 10), (9, 11), (9, 12), (28, 722), (34, 0), (35, 0)]
set_option maxHeartbeats 4000000 in
set_option maxRecDepth 100000 in
theorem ct_X11_exposed (l : Launch) (g : Gs) (I : Ms) (J : Js) (a0 : Nat) (x1 : Int32) (h0_ : Is g a0 9) (g0 : jm (I (gr g a0 0) 717).toInt (I (gr g a0 0) 715).toInt (I (gr g a0 0) 716).toInt (I (gr g a0 0) 722).toInt (I (gr g a0 0) 718).toInt (I (gr g a0 0) 719).toInt) : Ctr l yX11_exposed cX11_exposed 3 (Option.some Jvm.ClassFile.FieldType.int) 8 g [.ref a0, .int x1] I J (PM g md_X11_exposed I (fun z I1 J1 => J1 = J ∧ ((True) ∧ (∀ j, 715 ≤ j → j ≠ 721 → I1 (gr g a0 0) j = I (gr g a0 0) j)))) := by
  refine m_start (by decide) (Nat.le_of_ble_eq_true rfl) ?_
  intro p e s m args below meth c C hr hlk M ls hl
  have hl : lv_has ls 3 [(0, .ref a0), (1, .int x1)] := hl
  have C : CallFix p m c cX11_exposed 3 s args TB RX11 := C
  have F : Fr g md_X11_exposed I I := fr_rf
  have hS0 := is_ref M h0_ 0 28 rfl rfl
  have Hi : ∀ j, 715 ≤ j → j ≠ 721 → I (gr g a0 0) j = I (gr g a0 0) j := by intros; rfl
  have h1 := is_ref M h0_ 0 28 rfl rfl
  obtain ⟨i2, ki2⟩ : ∃ z : Int32, I (gr g a0 0) 717 = z := ⟨_, rfl⟩
  have ti2 : 0 ≤ i2.toInt ∧ i2.toInt ≤ 1 := m_rng M h1 717 ki2 rfl
  have ci2 : (I (gr g a0 0) 717).toInt = i2.toInt := congrArg Int32.toInt ki2
  obtain ⟨i3, ki3⟩ : ∃ z : Int32, I (gr g a0 0) 715 = z := ⟨_, rfl⟩
  have ti3 : 3 ≤ i3.toInt ∧ i3.toInt ≤ 7 := m_rng M h1 715 ki3 rfl
  have ci3 : (I (gr g a0 0) 715).toInt = i3.toInt := congrArg Int32.toInt ki3
  obtain ⟨i4, ki4⟩ : ∃ z : Int32, I (gr g a0 0) 716 = z := ⟨_, rfl⟩
  have ti4 : 4 ≤ i4.toInt ∧ i4.toInt ≤ 40 := m_rng M h1 716 ki4 rfl
  have ci4 : (I (gr g a0 0) 716).toInt = i4.toInt := congrArg Int32.toInt ki4
  obtain ⟨i5, ki5⟩ : ∃ z : Int32, I (gr g a0 0) 722 = z := ⟨_, rfl⟩
  have ti5 : 1 ≤ i5.toInt ∧ i5.toInt ≤ 4 := m_rng M h1 722 ki5 rfl
  have ci5 : (I (gr g a0 0) 722).toInt = i5.toInt := congrArg Int32.toInt ki5
  obtain ⟨i6, ki6⟩ : ∃ z : Int32, I (gr g a0 0) 718 = z := ⟨_, rfl⟩
  have ti6 : 0 ≤ i6.toInt ∧ i6.toInt ≤ 200 := m_rng M h1 718 ki6 rfl
  have ci6 : (I (gr g a0 0) 718).toInt = i6.toInt := congrArg Int32.toInt ki6
  obtain ⟨i7, ki7⟩ : ∃ z : Int32, I (gr g a0 0) 719 = z := ⟨_, rfl⟩
  have ti7 : 0 ≤ i7.toInt ∧ i7.toInt ≤ 200 := m_rng M h1 719 ki7 rfl
  have ci7 : (I (gr g a0 0) 719).toInt = i7.toInt := congrArg Int32.toInt ki7
  simp only [ci2, ci3, ci4, ci5, ci6, ci7] at g0
  have hj6 : i2.toInt = 1 → i3.toInt ≤ 6 := fun q => (g0 q).1
  refine lv_aload_n C.1 C.2.1 dX11_exposed_0 rfl (lv_at hl 0 rfl) ?_
  refine lv_iconst (v := 0) C.1 C.2.1 dX11_exposed_1 (by decide) ?_
  refine pi_X11_39 C M h0_ dX11_exposed_2 (fun H locs I8 k10 f9 M => ?_)
  have F := fr_put F h0_ (Or.inr (by decide)) f9
  have Hi : ∀ j, 715 ≤ j → j ≠ 721 → I8 (gr g a0 0) j = I (gr g a0 0) j := fun j hj hn721 => (f9 (gr g a0 0) j (Or.inl (is_ne h0_ hS0 (by decide)))).trans (Hi j hj hn721)
  refine lv_iload_n C.1 C.2.1 dX11_exposed_5 rfl (lv_at hl 1 rfl) ?_
  refine lv_iconst (v := 0) C.1 C.2.1 dX11_exposed_6 (by decide) ?_
  refine lv_aload_n C.1 C.2.1 dX11_exposed_7 rfl (lv_at hl 0 rfl) ?_
  have em11 : (I8 (gr g a0 0) 715).toInt = i3.toInt := congrArg Int32.toInt ((f9 (gr g a0 0) 715 (Or.inl (is_ne h0_ h1 (by decide)))).trans ki3)
  have em12 : (I8 (gr g a0 0) 717).toInt = i2.toInt := congrArg Int32.toInt ((f9 (gr g a0 0) 717 (Or.inl (is_ne h0_ h1 (by decide)))).trans ki2)
  refine k_PI C M h0_ (by decide) rfl (ct_X11_disks l g I8 J a0 h0_) (cw_X11_147 C.2.2.2.2 (by decide)) rfl hl.1 rfl (Nat.le_of_ble_eq_true rfl) dX11_exposed_8 ⟨Nat.le_refl _, Nat.le_refl _⟩ (fun r13 H locs p14r M => ?_)
  have p14 : r13.toInt = (I8 (gr g a0 0) 715).toInt + (I8 (gr g a0 0) 717).toInt := p14r
  simp only [em11, em12] at p14
  have p14 : r13.toInt = i3.toInt + i2.toInt := p14
  refine lv_iconst (v := 1) C.1 C.2.1 dX11_exposed_11 (by decide) ?_
  refine n_isub C (Y := 1) dX11_exposed_12 rfl rfl (by omega) (by omega) (fun v15 ev15 => ?_)
  refine ks_PI C M (ct_X11_within l g I8 J x1 0 v15) (cw_X11_114 C.2.2.2.2 (by decide)) rfl hl.1 rfl (Nat.le_of_ble_eq_true rfl) dX11_exposed_13 ⟨Nat.le_refl _, Nat.le_refl _⟩ (fun r16 H locs p17r M => ?_)
  have p17 : 0 ≤ r16.toInt ∧ r16.toInt ≤ 1 ∧ (r16.toInt = 1 ↔ 0 ≤ x1.toInt ∧ x1.toInt ≤ v15.toInt) := p17r
  refine n_if_ne C (tgt := 21) dX11_exposed_16 (by decide) rfl (fun q18 => ?_) (fun q18 => ?_)
  ·
    refine lv_aload_n C.1 C.2.1 dX11_exposed_21 rfl (lv_at hl 0 rfl) ?_
    refine gi_X11_7 C M h0_ dX11_exposed_22 (fun h19 => ?_)
    refine lv_sipush (v := 721) C.1 C.2.1 dX11_exposed_25 (by decide) ?_
    refine a_ld C M (X := 721) (j := 721) h1 (n := 729) rfl rfl rfl (by omega) (by omega) rfl dX11_exposed_28 (fun v20 kv20 => ?_)
    have tv20 := m_rng M h1 721 kv20 rfl
    have tv20 : -1 ≤ v20.toInt ∧ v20.toInt ≤ 6 := tv20
    refine n_if_lt C (tgt := 34) dX11_exposed_29 (by decide) rfl (fun q21 => ?_) (fun q21 => ?_)
    ·
      refine lv_aload_n C.1 C.2.1 dX11_exposed_34 rfl (lv_at hl 0 rfl) ?_
      have em22 : (I8 (gr g a0 0) 717).toInt = i2.toInt := congrArg Int32.toInt ((f9 (gr g a0 0) 717 (Or.inl (is_ne h0_ h1 (by decide)))).trans ki2)
      have em23 : (I8 (gr g a0 0) 715).toInt = i3.toInt := congrArg Int32.toInt ((f9 (gr g a0 0) 715 (Or.inl (is_ne h0_ h1 (by decide)))).trans ki3)
      have em24 : (I8 (gr g a0 0) 716).toInt = i4.toInt := congrArg Int32.toInt ((f9 (gr g a0 0) 716 (Or.inl (is_ne h0_ h1 (by decide)))).trans ki4)
      have em25 : (I8 (gr g a0 0) 722).toInt = i5.toInt := congrArg Int32.toInt ((f9 (gr g a0 0) 722 (Or.inl (is_ne h0_ h1 (by decide)))).trans ki5)
      have em26 : (I8 (gr g a0 0) 718).toInt = i6.toInt := congrArg Int32.toInt ((f9 (gr g a0 0) 718 (Or.inl (is_ne h0_ h1 (by decide)))).trans ki6)
      have em27 : (I8 (gr g a0 0) 719).toInt = i7.toInt := congrArg Int32.toInt ((f9 (gr g a0 0) 719 (Or.inl (is_ne h0_ h1 (by decide)))).trans ki7)
      refine k_PV C M h0_ (by decide) rfl (ct_X11_notesBlocks l g I8 J a0 h0_ (by simp only [em22, em23, em24, em25, em26, em27]; first | assumption | omega)) (cw_X11_182 C.2.2.2.2 (by decide)) rfl hl.1 rfl (Nat.le_of_ble_eq_true rfl) dX11_exposed_35 ⟨Nat.le_refl _, Nat.le_refl _⟩ (fun I28 J29 H locs G30 p31r M => ?_)
      obtain ⟨eJ29, p31⟩ : J29 = J ∧ (True) := p31r
      have eJ29 := eJ29.symm
      subst eJ29
      have Hi : ∀ j, 715 ≤ j → j ≠ 721 → I28 (gr g a0 0) j = I (gr g a0 0) j := fun j hj hn721 => (G30 (gr g a0 0) 28 j hS0 (by decide) (by simp)).trans (Hi j hj hn721)
      have F := fr_call F G30 (by decide)
      refine lv_aload_n C.1 C.2.1 dX11_exposed_38 rfl (lv_at hl 0 rfl) ?_
      refine gi_X11_7 C M h0_ dX11_exposed_39 (fun h32 => ?_)
      refine lv_sipush (v := 721) C.1 C.2.1 dX11_exposed_42 (by decide) ?_
      refine lv_iload_n C.1 C.2.1 dX11_exposed_45 rfl (lv_at hl 1 rfl) ?_
      refine a_st C M (X := 721) (j := 721) h1 (n := 729) rfl rfl rfl (by omega) (by omega) rfl rfl (lo := -1) (hi := 6) rfl (by omega) (by omega) dX11_exposed_46 (fun H locs I33 k35 f34 M => ?_)
      have F := fr_put F h1 (Or.inr (by decide)) f34
      have Hi : ∀ j, 715 ≤ j → j ≠ 721 → I33 (gr g a0 0) j = I (gr g a0 0) j := fun j hj hn721 => (f34 (gr g a0 0) j (Or.inr (by omega))).trans (Hi j hj hn721)
      refine lv_aload_n C.1 C.2.1 dX11_exposed_47 rfl (lv_at hl 0 rfl) ?_
      have em36 : (I33 (gr g a0 0) 717).toInt = i2.toInt := congrArg Int32.toInt ((f34 (gr g a0 0) 717 (Or.inr (by decide))).trans ((G30 (gr g a0 0) 28 717 h1 (by decide) (by decide)).trans ((f9 (gr g a0 0) 717 (Or.inl (is_ne h0_ h1 (by decide)))).trans ki2)))
      have em37 : (I33 (gr g a0 0) 715).toInt = i3.toInt := congrArg Int32.toInt ((f34 (gr g a0 0) 715 (Or.inr (by decide))).trans ((G30 (gr g a0 0) 28 715 h1 (by decide) (by decide)).trans ((f9 (gr g a0 0) 715 (Or.inl (is_ne h0_ h1 (by decide)))).trans ki3)))
      have em38 : (I33 (gr g a0 0) 716).toInt = i4.toInt := congrArg Int32.toInt ((f34 (gr g a0 0) 716 (Or.inr (by decide))).trans ((G30 (gr g a0 0) 28 716 h1 (by decide) (by decide)).trans ((f9 (gr g a0 0) 716 (Or.inl (is_ne h0_ h1 (by decide)))).trans ki4)))
      have em39 : (I33 (gr g a0 0) 722).toInt = i5.toInt := congrArg Int32.toInt ((f34 (gr g a0 0) 722 (Or.inr (by decide))).trans ((G30 (gr g a0 0) 28 722 h1 (by decide) (by decide)).trans ((f9 (gr g a0 0) 722 (Or.inl (is_ne h0_ h1 (by decide)))).trans ki5)))
      have em40 : (I33 (gr g a0 0) 718).toInt = i6.toInt := congrArg Int32.toInt ((f34 (gr g a0 0) 718 (Or.inr (by decide))).trans ((G30 (gr g a0 0) 28 718 h1 (by decide) (by decide)).trans ((f9 (gr g a0 0) 718 (Or.inl (is_ne h0_ h1 (by decide)))).trans ki6)))
      have em41 : (I33 (gr g a0 0) 719).toInt = i7.toInt := congrArg Int32.toInt ((f34 (gr g a0 0) 719 (Or.inr (by decide))).trans ((G30 (gr g a0 0) 28 719 h1 (by decide) (by decide)).trans ((f9 (gr g a0 0) 719 (Or.inl (is_ne h0_ h1 (by decide)))).trans ki7)))
      refine k_PM C M h0_ (by decide) rfl (ct_X11_unlike l g I33 J a0 h0_ (by simp only [em36, em37, em38, em39, em40, em41]; first | assumption | omega)) (cw_X11_185 C.2.2.2.2 (by decide)) rfl hl.1 rfl (Nat.le_of_ble_eq_true rfl) dX11_exposed_48 ⟨Nat.le_refl _, Nat.le_refl _⟩ (fun r46 I42 J43 H locs G44 p45r M => ?_)
      obtain ⟨eJ43, p45⟩ : J43 = J ∧ (True) := p45r
      have eJ43 := eJ43.symm
      subst eJ43
      have Hi : ∀ j, 715 ≤ j → j ≠ 721 → I42 (gr g a0 0) j = I (gr g a0 0) j := fun j hj hn721 => (G44 (gr g a0 0) 28 j hS0 (by decide) (by simp)).trans (Hi j hj hn721)
      have F := fr_call F G44 (by decide)
      refine lv_istore_n (lv' := [(2, .int r46), (0, .ref a0), (1, .int x1)]) C.1 C.2.1 dX11_exposed_51 rfl hl (by decide) rfl (fun ls hl => ?_)
      refine lv_aload_n C.1 C.2.1 dX11_exposed_52 rfl (lv_at hl 1 rfl) ?_
      refine gi_X11_7 C M h0_ dX11_exposed_53 (fun h47 => ?_)
      refine lv_sipush (v := 721) C.1 C.2.1 dX11_exposed_56 (by decide) ?_
      refine lv_iconst (v := -1) C.1 C.2.1 dX11_exposed_59 (by decide) ?_
      refine a_st C M (X := 721) (j := 721) (V := (-1)) h1 (n := 729) rfl rfl rfl (by omega) (by omega) rfl rfl (lo := -1) (hi := 6) rfl (by omega) (by omega) dX11_exposed_60 (fun H locs I48 k50 f49 M => ?_)
      have F := fr_put F h1 (Or.inr (by decide)) f49
      have Hi : ∀ j, 715 ≤ j → j ≠ 721 → I48 (gr g a0 0) j = I (gr g a0 0) j := fun j hj hn721 => (f49 (gr g a0 0) j (Or.inr (by omega))).trans (Hi j hj hn721)
      refine lv_iload_n C.1 C.2.1 dX11_exposed_61 rfl (lv_at hl 0 rfl) ?_
      exact r_PM C M hr hlk F rfl ⟨rfl, ⟨trivial, Hi⟩⟩ dX11_exposed_62
    ·
      refine lv_iconst (v := 0) C.1 C.2.1 dX11_exposed_32 (by decide) ?_
      exact r_PM C M (z := 0) hr hlk F rfl ⟨rfl, ⟨trivial, Hi⟩⟩ dX11_exposed_33
  ·
    refine lv_iconst (v := -1) C.1 C.2.1 dX11_exposed_19 (by decide) ?_
    exact r_PM C M (z := (-1)) hr hlk F rfl ⟨rfl, ⟨trivial, Hi⟩⟩ dX11_exposed_20

abbrev md_X11_count : List (Nat × Nat) := [(9, 10), (9, 11), (9, 12)]
set_option maxHeartbeats 4000000 in
set_option maxRecDepth 100000 in
theorem ct_X11_count (l : Launch) (g : Gs) (I : Ms) (J : Js) (a0 : Nat) (x1 : Int32) (h0_ : Is g a0 9) (g0 : jm (I (gr g a0 0) 717).toInt (I (gr g a0 0) 715).toInt (I (gr g a0 0) 716).toInt (I (gr g a0 0) 722).toInt (I (gr g a0 0) 718).toInt (I (gr g a0 0) 719).toInt) : Ctr l yX11_count cX11_count 2 (Option.some Jvm.ClassFile.FieldType.int) 8 g [.ref a0, .int x1] I J (PM g md_X11_count I (fun z I1 J1 => J1 = J ∧ (True))) := by
  refine m_start (by decide) (Nat.le_of_ble_eq_true rfl) ?_
  intro p e s m args below meth c C hr hlk M ls hl
  have hl : lv_has ls 2 [(0, .ref a0), (1, .int x1)] := hl
  have C : CallFix p m c cX11_count 2 s args TB RX11 := C
  have F : Fr g md_X11_count I I := fr_rf
  have h1 := is_ref M h0_ 0 28 rfl rfl
  obtain ⟨i2, ki2⟩ : ∃ z : Int32, I (gr g a0 0) 717 = z := ⟨_, rfl⟩
  have ti2 : 0 ≤ i2.toInt ∧ i2.toInt ≤ 1 := m_rng M h1 717 ki2 rfl
  have ci2 : (I (gr g a0 0) 717).toInt = i2.toInt := congrArg Int32.toInt ki2
  obtain ⟨i3, ki3⟩ : ∃ z : Int32, I (gr g a0 0) 715 = z := ⟨_, rfl⟩
  have ti3 : 3 ≤ i3.toInt ∧ i3.toInt ≤ 7 := m_rng M h1 715 ki3 rfl
  have ci3 : (I (gr g a0 0) 715).toInt = i3.toInt := congrArg Int32.toInt ki3
  obtain ⟨i4, ki4⟩ : ∃ z : Int32, I (gr g a0 0) 716 = z := ⟨_, rfl⟩
  have ti4 : 4 ≤ i4.toInt ∧ i4.toInt ≤ 40 := m_rng M h1 716 ki4 rfl
  have ci4 : (I (gr g a0 0) 716).toInt = i4.toInt := congrArg Int32.toInt ki4
  obtain ⟨i5, ki5⟩ : ∃ z : Int32, I (gr g a0 0) 722 = z := ⟨_, rfl⟩
  have ti5 : 1 ≤ i5.toInt ∧ i5.toInt ≤ 4 := m_rng M h1 722 ki5 rfl
  have ci5 : (I (gr g a0 0) 722).toInt = i5.toInt := congrArg Int32.toInt ki5
  obtain ⟨i6, ki6⟩ : ∃ z : Int32, I (gr g a0 0) 718 = z := ⟨_, rfl⟩
  have ti6 : 0 ≤ i6.toInt ∧ i6.toInt ≤ 200 := m_rng M h1 718 ki6 rfl
  have ci6 : (I (gr g a0 0) 718).toInt = i6.toInt := congrArg Int32.toInt ki6
  obtain ⟨i7, ki7⟩ : ∃ z : Int32, I (gr g a0 0) 719 = z := ⟨_, rfl⟩
  have ti7 : 0 ≤ i7.toInt ∧ i7.toInt ≤ 200 := m_rng M h1 719 ki7 rfl
  have ci7 : (I (gr g a0 0) 719).toInt = i7.toInt := congrArg Int32.toInt ki7
  simp only [ci2, ci3, ci4, ci5, ci6, ci7] at g0
  have hj6 : i2.toInt = 1 → i3.toInt ≤ 6 := fun q => (g0 q).1
  refine lv_aload_n C.1 C.2.1 dX11_count_0 rfl (lv_at hl 0 rfl) ?_
  refine lv_iconst (v := 0) C.1 C.2.1 dX11_count_1 (by decide) ?_
  refine pi_X11_39 C M h0_ dX11_count_2 (fun H locs I8 k10 f9 M => ?_)
  have F := fr_put F h0_ (Or.inr (by decide)) f9
  refine lv_iload_n C.1 C.2.1 dX11_count_5 rfl (lv_at hl 1 rfl) ?_
  by_cases q11 : x1.toInt = 0
  ·
    refine n_tabk (off := 82) (tgt := 88) C 0 dX11_count_6 q11 (by decide) (by decide) (by decide) (by decide) ?_
    refine lv_aload_n C.1 C.2.1 dX11_count_88 rfl (lv_at hl 0 rfl) ?_
    have em12 : (I8 (gr g a0 0) 715).toInt = i3.toInt := congrArg Int32.toInt ((f9 (gr g a0 0) 715 (Or.inl (is_ne h0_ h1 (by decide)))).trans ki3)
    have em13 : (I8 (gr g a0 0) 717).toInt = i2.toInt := congrArg Int32.toInt ((f9 (gr g a0 0) 717 (Or.inl (is_ne h0_ h1 (by decide)))).trans ki2)
    refine k_PI C M h0_ (by decide) rfl (ct_X11_disks l g I8 J a0 h0_) (cw_X11_147 C.2.2.2.2 (by decide)) rfl hl.1 rfl (Nat.le_of_ble_eq_true rfl) dX11_count_89 ⟨Nat.le_refl _, Nat.le_refl _⟩ (fun r14 H locs p15r M => ?_)
    have p15 : r14.toInt = (I8 (gr g a0 0) 715).toInt + (I8 (gr g a0 0) 717).toInt := p15r
    simp only [em12, em13] at p15
    have p15 : r14.toInt = i3.toInt + i2.toInt := p15
    exact r_PM C M hr hlk F rfl ⟨rfl, trivial⟩ dX11_count_92
  by_cases q16 : x1.toInt = 1
  ·
    refine n_tabk (off := 87) (tgt := 93) C 1 dX11_count_6 q16 (by decide) (by decide) (by decide) (by decide) ?_
    refine lv_aload_n C.1 C.2.1 dX11_count_93 rfl (lv_at hl 0 rfl) ?_
    refine gi_X11_7 C M h0_ dX11_count_94 (fun h17 => ?_)
    refine lv_sipush (v := 716) C.1 C.2.1 dX11_count_97 (by decide) ?_
    refine a_ldK C M (X := 716) (j := 716) h1 (n := 729) rfl rfl rfl (by omega) (by omega) rfl ((f9 (gr g a0 0) 716 (Or.inl (is_ne h0_ h1 (by decide)))).trans ki4) dX11_count_100 ?_
    exact r_PM C M hr hlk F rfl ⟨rfl, trivial⟩ dX11_count_101
  by_cases q18 : x1.toInt = 2
  ·
    refine n_tabk (off := 96) (tgt := 102) C 2 dX11_count_6 q18 (by decide) (by decide) (by decide) (by decide) ?_
    refine lv_aload_n C.1 C.2.1 dX11_count_102 rfl (lv_at hl 0 rfl) ?_
    have em19 : (I8 (gr g a0 0) 715).toInt = i3.toInt := congrArg Int32.toInt ((f9 (gr g a0 0) 715 (Or.inl (is_ne h0_ h1 (by decide)))).trans ki3)
    have em20 : (I8 (gr g a0 0) 716).toInt = i4.toInt := congrArg Int32.toInt ((f9 (gr g a0 0) 716 (Or.inl (is_ne h0_ h1 (by decide)))).trans ki4)
    refine k_PI C M h0_ (by decide) rfl (ct_X11_blocks l g I8 J a0 h0_) (cw_X11_63 C.2.2.2.2 (by decide)) rfl hl.1 rfl (Nat.le_of_ble_eq_true rfl) dX11_count_103 ⟨Nat.le_refl _, Nat.le_refl _⟩ (fun r21 H locs p22r M => ?_)
    have p22 : r21.toInt = mBl (I8 (gr g a0 0) 716).toInt (I8 (gr g a0 0) 715).toInt ∧ 8 ≤ r21.toInt ∧ r21.toInt ≤ 240 := p22r
    simp only [em19, em20] at p22
    have p22 : r21.toInt = mBl i4.toInt i3.toInt ∧ 8 ≤ r21.toInt ∧ r21.toInt ≤ 240 := p22
    exact r_PM C M hr hlk F rfl ⟨rfl, trivial⟩ dX11_count_106
  by_cases q23 : x1.toInt = 3
  ·
    refine n_tabk (off := 101) (tgt := 107) C 3 dX11_count_6 q23 (by decide) (by decide) (by decide) (by decide) ?_
    refine lv_aload_n C.1 C.2.1 dX11_count_107 rfl (lv_at hl 0 rfl) ?_
    refine gi_X11_7 C M h0_ dX11_count_108 (fun h24 => ?_)
    refine lv_sipush (v := 717) C.1 C.2.1 dX11_count_111 (by decide) ?_
    refine a_ldK C M (X := 717) (j := 717) h1 (n := 729) rfl rfl rfl (by omega) (by omega) rfl ((f9 (gr g a0 0) 717 (Or.inl (is_ne h0_ h1 (by decide)))).trans ki2) dX11_count_114 ?_
    exact r_PM C M hr hlk F rfl ⟨rfl, trivial⟩ dX11_count_115
  by_cases q25 : x1.toInt = 4
  ·
    refine n_tabk (off := 110) (tgt := 116) C 4 dX11_count_6 q25 (by decide) (by decide) (by decide) (by decide) ?_
    refine lv_aload_n C.1 C.2.1 dX11_count_116 rfl (lv_at hl 0 rfl) ?_
    refine gi_X11_7 C M h0_ dX11_count_117 (fun h26 => ?_)
    refine lv_sipush (v := 718) C.1 C.2.1 dX11_count_120 (by decide) ?_
    refine a_ldK C M (X := 718) (j := 718) h1 (n := 729) rfl rfl rfl (by omega) (by omega) rfl ((f9 (gr g a0 0) 718 (Or.inl (is_ne h0_ h1 (by decide)))).trans ki6) dX11_count_123 ?_
    exact r_PM C M hr hlk F rfl ⟨rfl, trivial⟩ dX11_count_124
  by_cases q27 : x1.toInt = 5
  ·
    refine n_tabk (off := 119) (tgt := 125) C 5 dX11_count_6 q27 (by decide) (by decide) (by decide) (by decide) ?_
    refine lv_aload_n C.1 C.2.1 dX11_count_125 rfl (lv_at hl 0 rfl) ?_
    refine gi_X11_7 C M h0_ dX11_count_126 (fun h28 => ?_)
    refine lv_sipush (v := 726) C.1 C.2.1 dX11_count_129 (by decide) ?_
    refine a_ld C M (X := 726) (j := 726) h1 (n := 729) rfl rfl rfl (by omega) (by omega) rfl dX11_count_132 (fun v29 kv29 => ?_)
    exact r_PM C M hr hlk F rfl ⟨rfl, trivial⟩ dX11_count_133
  by_cases q30 : x1.toInt = 6
  ·
    refine n_tabk (off := 128) (tgt := 134) C 6 dX11_count_6 q30 (by decide) (by decide) (by decide) (by decide) ?_
    refine lv_aload_n C.1 C.2.1 dX11_count_134 rfl (lv_at hl 0 rfl) ?_
    have em31 : (I8 (gr g a0 0) 717).toInt = i2.toInt := congrArg Int32.toInt ((f9 (gr g a0 0) 717 (Or.inl (is_ne h0_ h1 (by decide)))).trans ki2)
    refine k_PI C M h0_ (by decide) rfl (ct_X11_isGrown l g I8 J a0 h0_) (cw_X11_84 C.2.2.2.2 (by decide)) rfl hl.1 rfl (Nat.le_of_ble_eq_true rfl) dX11_count_135 ⟨Nat.le_refl _, Nat.le_refl _⟩ (fun r32 H locs p33r M => ?_)
    have p33 : 0 ≤ r32.toInt ∧ r32.toInt ≤ 1 ∧ (r32.toInt = 1 ↔ (I8 (gr g a0 0) 717).toInt = 1) := p33r
    simp only [em31] at p33
    have p33 : 0 ≤ r32.toInt ∧ r32.toInt ≤ 1 ∧ (r32.toInt = 1 ↔ i2.toInt = 1) := p33
    refine n_if_eq C (tgt := 148) dX11_count_138 (by decide) rfl (fun q34 => ?_) (fun q34 => ?_)
    ·
      refine lv_iconst (v := -1) C.1 C.2.1 dX11_count_148 (by decide) ?_
      exact r_PM C M (z := (-1)) hr hlk F rfl ⟨rfl, trivial⟩ dX11_count_149
    ·
      refine lv_aload_n C.1 C.2.1 dX11_count_141 rfl (lv_at hl 0 rfl) ?_
      have em35 : (I8 (gr g a0 0) 715).toInt = i3.toInt := congrArg Int32.toInt ((f9 (gr g a0 0) 715 (Or.inl (is_ne h0_ h1 (by decide)))).trans ki3)
      have em36 : (I8 (gr g a0 0) 716).toInt = i4.toInt := congrArg Int32.toInt ((f9 (gr g a0 0) 716 (Or.inl (is_ne h0_ h1 (by decide)))).trans ki4)
      refine k_PI C M h0_ (by decide) rfl (ct_X11_newStripes l g I8 J a0 h0_) (cw_X11_67 C.2.2.2.2 (by decide)) rfl hl.1 rfl (Nat.le_of_ble_eq_true rfl) dX11_count_142 ⟨Nat.le_refl _, Nat.le_refl _⟩ (fun r37 H locs p38r M => ?_)
      have p38 : r37.toInt = mNs (I8 (gr g a0 0) 716).toInt (I8 (gr g a0 0) 715).toInt ∧ 1 ≤ r37.toInt ∧ r37.toInt ≤ (I8 (gr g a0 0) 716).toInt := p38r
      simp only [em35, em36] at p38
      have p38 : r37.toInt = mNs i4.toInt i3.toInt ∧ 1 ≤ r37.toInt ∧ r37.toInt ≤ i4.toInt := p38
      refine lv_goto (tgt := 149) C.1 C.2.1 dX11_count_145 (by decide) ?_
      exact r_PM C M hr hlk F rfl ⟨rfl, trivial⟩ dX11_count_149
  by_cases q39 : x1.toInt = 7
  ·
    refine n_tabk (off := 144) (tgt := 150) C 7 dX11_count_6 q39 (by decide) (by decide) (by decide) (by decide) ?_
    refine lv_aload_n C.1 C.2.1 dX11_count_150 rfl (lv_at hl 0 rfl) ?_
    refine gi_X11_7 C M h0_ dX11_count_151 (fun h40 => ?_)
    refine lv_sipush (v := 721) C.1 C.2.1 dX11_count_154 (by decide) ?_
    refine a_ld C M (X := 721) (j := 721) h1 (n := 729) rfl rfl rfl (by omega) (by omega) rfl dX11_count_157 (fun v41 kv41 => ?_)
    have tv41 := m_rng M h1 721 kv41 rfl
    have tv41 : -1 ≤ v41.toInt ∧ v41.toInt ≤ 6 := tv41
    exact r_PM C M hr hlk F rfl ⟨rfl, trivial⟩ dX11_count_158
  by_cases q42 : x1.toInt = 8
  ·
    refine n_tabk (off := 153) (tgt := 159) C 8 dX11_count_6 q42 (by decide) (by decide) (by decide) (by decide) ?_
    refine lv_aload_n C.1 C.2.1 dX11_count_159 rfl (lv_at hl 0 rfl) ?_
    refine lv_iconst (v := -1) C.1 C.2.1 dX11_count_160 (by decide) ?_
    refine k_PM C M h0_ (by decide) rfl (ct_X11_badAt l g I8 J a0 (-1) h0_) (cw_X11_351 C.2.2.2.2 (by decide)) rfl hl.1 rfl (Nat.le_of_ble_eq_true rfl) dX11_count_161 ⟨Nat.le_refl _, Nat.le_refl _⟩ (fun r47 I43 J44 H locs G45 p46r M => ?_)
    obtain ⟨eJ44, p46⟩ : J44 = J ∧ (True) := p46r
    have eJ44 := eJ44.symm
    subst eJ44
    have F := fr_call F G45 (by decide)
    exact r_PM C M hr hlk F rfl ⟨rfl, trivial⟩ dX11_count_164
  by_cases q48 : x1.toInt = 9
  ·
    refine n_tabk (off := 159) (tgt := 165) C 9 dX11_count_6 q48 (by decide) (by decide) (by decide) (by decide) ?_
    refine lv_aload_n C.1 C.2.1 dX11_count_165 rfl (lv_at hl 0 rfl) ?_
    refine gi_X11_7 C M h0_ dX11_count_166 (fun h49 => ?_)
    refine lv_sipush (v := 727) C.1 C.2.1 dX11_count_169 (by decide) ?_
    refine a_ld C M (X := 727) (j := 727) h1 (n := 729) rfl rfl rfl (by omega) (by omega) rfl dX11_count_172 (fun v50 kv50 => ?_)
    exact r_PM C M hr hlk F rfl ⟨rfl, trivial⟩ dX11_count_173
  by_cases q51 : x1.toInt = 10
  ·
    refine n_tabk (off := 168) (tgt := 174) C 10 dX11_count_6 q51 (by decide) (by decide) (by decide) (by decide) ?_
    refine lv_aload_n C.1 C.2.1 dX11_count_174 rfl (lv_at hl 0 rfl) ?_
    refine gi_X11_7 C M h0_ dX11_count_175 (fun h52 => ?_)
    refine lv_sipush (v := 728) C.1 C.2.1 dX11_count_178 (by decide) ?_
    refine a_ld C M (X := 728) (j := 728) h1 (n := 729) rfl rfl rfl (by omega) (by omega) rfl dX11_count_181 (fun v53 kv53 => ?_)
    exact r_PM C M hr hlk F rfl ⟨rfl, trivial⟩ dX11_count_182
  by_cases q54 : x1.toInt = 11
  ·
    refine n_tabk (off := 177) (tgt := 183) C 11 dX11_count_6 q54 (by decide) (by decide) (by decide) (by decide) ?_
    refine lv_aload_n C.1 C.2.1 dX11_count_183 rfl (lv_at hl 0 rfl) ?_
    refine gi_X11_7 C M h0_ dX11_count_184 (fun h55 => ?_)
    refine lv_sipush (v := 722) C.1 C.2.1 dX11_count_187 (by decide) ?_
    refine a_ldK C M (X := 722) (j := 722) h1 (n := 729) rfl rfl rfl (by omega) (by omega) rfl ((f9 (gr g a0 0) 722 (Or.inl (is_ne h0_ h1 (by decide)))).trans ki5) dX11_count_190 ?_
    exact r_PM C M hr hlk F rfl ⟨rfl, trivial⟩ dX11_count_191
  by_cases q56 : x1.toInt = 12
  ·
    refine n_tabk (off := 186) (tgt := 192) C 12 dX11_count_6 q56 (by decide) (by decide) (by decide) (by decide) ?_
    refine lv_aload_n C.1 C.2.1 dX11_count_192 rfl (lv_at hl 0 rfl) ?_
    refine gi_X11_7 C M h0_ dX11_count_193 (fun h57 => ?_)
    refine lv_sipush (v := 723) C.1 C.2.1 dX11_count_196 (by decide) ?_
    refine a_ld C M (X := 723) (j := 723) h1 (n := 729) rfl rfl rfl (by omega) (by omega) rfl dX11_count_199 (fun v58 kv58 => ?_)
    have tv58 := m_rng M h1 723 kv58 rfl
    have tv58 : 0 ≤ v58.toInt ∧ v58.toInt ≤ 20 := tv58
    exact r_PM C M hr hlk F rfl ⟨rfl, trivial⟩ dX11_count_200
  by_cases q59 : x1.toInt = 13
  ·
    refine n_tabk (off := 195) (tgt := 201) C 13 dX11_count_6 q59 (by decide) (by decide) (by decide) (by decide) ?_
    refine lv_aload_n C.1 C.2.1 dX11_count_201 rfl (lv_at hl 0 rfl) ?_
    refine gi_X11_7 C M h0_ dX11_count_202 (fun h60 => ?_)
    refine lv_sipush (v := 724) C.1 C.2.1 dX11_count_205 (by decide) ?_
    refine a_ld C M (X := 724) (j := 724) h1 (n := 729) rfl rfl rfl (by omega) (by omega) rfl dX11_count_208 (fun v61 kv61 => ?_)
    have tv61 := m_rng M h1 724 kv61 rfl
    have tv61 : 1 ≤ v61.toInt ∧ v61.toInt ≤ 60 := tv61
    exact r_PM C M hr hlk F rfl ⟨rfl, trivial⟩ dX11_count_209
  by_cases q62 : x1.toInt = 14
  ·
    refine n_tabk (off := 204) (tgt := 210) C 14 dX11_count_6 q62 (by decide) (by decide) (by decide) (by decide) ?_
    refine lv_aload_n C.1 C.2.1 dX11_count_210 rfl (lv_at hl 0 rfl) ?_
    have em63 : (I8 (gr g a0 0) 717).toInt = i2.toInt := congrArg Int32.toInt ((f9 (gr g a0 0) 717 (Or.inl (is_ne h0_ h1 (by decide)))).trans ki2)
    have em64 : (I8 (gr g a0 0) 715).toInt = i3.toInt := congrArg Int32.toInt ((f9 (gr g a0 0) 715 (Or.inl (is_ne h0_ h1 (by decide)))).trans ki3)
    have em65 : (I8 (gr g a0 0) 716).toInt = i4.toInt := congrArg Int32.toInt ((f9 (gr g a0 0) 716 (Or.inl (is_ne h0_ h1 (by decide)))).trans ki4)
    have em66 : (I8 (gr g a0 0) 722).toInt = i5.toInt := congrArg Int32.toInt ((f9 (gr g a0 0) 722 (Or.inl (is_ne h0_ h1 (by decide)))).trans ki5)
    have em67 : (I8 (gr g a0 0) 718).toInt = i6.toInt := congrArg Int32.toInt ((f9 (gr g a0 0) 718 (Or.inl (is_ne h0_ h1 (by decide)))).trans ki6)
    have em68 : (I8 (gr g a0 0) 719).toInt = i7.toInt := congrArg Int32.toInt ((f9 (gr g a0 0) 719 (Or.inl (is_ne h0_ h1 (by decide)))).trans ki7)
    refine k_PM C M h0_ (by decide) rfl (ct_X11_unreadable l g I8 J a0 h0_ (by simp only [em63, em64, em65, em66, em67, em68]; first | assumption | omega)) (cw_X11_354 C.2.2.2.2 (by decide)) rfl hl.1 rfl (Nat.le_of_ble_eq_true rfl) dX11_count_211 ⟨Nat.le_refl _, Nat.le_refl _⟩ (fun r73 I69 J70 H locs G71 p72r M => ?_)
    obtain ⟨eJ70, p72⟩ : J70 = J ∧ (True) := p72r
    have eJ70 := eJ70.symm
    subst eJ70
    have F := fr_call F G71 (by decide)
    exact r_PM C M hr hlk F rfl ⟨rfl, trivial⟩ dX11_count_214
  by_cases q74 : x1.toInt = 15
  ·
    refine n_tabk (off := 209) (tgt := 215) C 15 dX11_count_6 q74 (by decide) (by decide) (by decide) (by decide) ?_
    refine lv_aload_n C.1 C.2.1 dX11_count_215 rfl (lv_at hl 0 rfl) ?_
    refine gi_X11_7 C M h0_ dX11_count_216 (fun h75 => ?_)
    refine lv_sipush (v := 725) C.1 C.2.1 dX11_count_219 (by decide) ?_
    refine a_ld C M (X := 725) (j := 725) h1 (n := 729) rfl rfl rfl (by omega) (by omega) rfl dX11_count_222 (fun v76 kv76 => ?_)
    have tv76 := m_rng M h1 725 kv76 rfl
    have tv76 : 0 ≤ v76.toInt ∧ v76.toInt ≤ 20 := tv76
    exact r_PM C M hr hlk F rfl ⟨rfl, trivial⟩ dX11_count_223
  by_cases q77 : x1.toInt = 16
  ·
    refine n_tabk (off := 218) (tgt := 224) C 16 dX11_count_6 q77 (by decide) (by decide) (by decide) (by decide) ?_
    refine lv_aload_n C.1 C.2.1 dX11_count_224 rfl (lv_at hl 0 rfl) ?_
    refine gi_X11_188 C M h0_ dX11_count_225 (fun v78 kv78 tv78 uv78 => ?_)
    exact r_PM C M hr hlk F rfl ⟨rfl, trivial⟩ dX11_count_228
  refine n_tabo (tgt := 229) C dX11_count_6 rfl (by omega) (by decide) ?_
  refine lv_iconst (v := -1) C.1 C.2.1 dX11_count_229 (by decide) ?_
  exact r_PM C M (z := (-1)) hr hlk F rfl ⟨rfl, trivial⟩ dX11_count_230

abbrev md_X11_eight : List (Nat × Nat) := [(9, 9), (33, 0)]
set_option maxHeartbeats 4000000 in
set_option maxRecDepth 100000 in
theorem ct_X11_eight (l : Launch) (g : Gs) (I : Ms) (J : Js) (a0 : Nat) (l1 : Int64) (h0_ : Is g a0 9) (g0 : (I a0 8).toInt ≤ 256) : Ctr l yX11_eight cX11_eight 4 (Option.none : Option Jvm.ClassFile.FieldType) 1 g [.ref a0, .long l1] I J (PV g md_X11_eight I (fun I1 J1 => J1 = J ∧ ((I1 a0 8).toInt = (I a0 8).toInt + 8))) := by
  refine m_start (by decide) (Nat.le_of_ble_eq_true rfl) ?_
  intro p e s m args below meth c C hr hlk M ls hl
  have hl : lv_has ls 4 [(0, .ref a0), (1, .long l1)] := hl
  have C : CallFix p m c cX11_eight 4 s args TB RX11 := C
  have F : Fr g md_X11_eight I I := fr_rf
  obtain ⟨i1, ki1⟩ : ∃ z : Int32, I a0 8 = z := ⟨_, rfl⟩
  have ti1 : 0 ≤ i1.toInt ∧ i1.toInt ≤ 264 := m_rng M h0_ 8 ki1 rfl
  have ci1 : (I a0 8).toInt = i1.toInt := congrArg Int32.toInt ki1
  simp only [ci1] at g0
  refine lv_bipush (v := 56) C.1 C.2.1 dX11_eight_0 (by decide) ?_
  refine lv_istore_n (lv' := [(3, .int 56), (0, .ref a0), (1, .long l1)]) C.1 C.2.1 dX11_eight_2 rfl hl (by decide) rfl (fun ls hl => ?_)
  have L3 : ∀ (n3 : Nat) (y2 : Int32) (I3 : Ms) (H : Heap) (locs : List Loc) (ls : Array Slot), (-8) ≤ y2.toInt → y2.toInt ≤ 56 → 8 * (I3 a0 8).toInt + y2.toInt = 8 * i1.toInt + 56 → y2.toInt + 8 < (n3 : Int) → Fr g md_X11_eight I I3 → Mm g s I3 J H locs → lv_has ls 4 [(0, .ref a0), (1, .long l1), (3, .int y2)] → W p l e (rmL 1) s m args below meth c H locs 0 0 (MQg below g (PV g md_X11_eight I (fun I1 J1 => J1 = J ∧ ((I1 a0 8).toInt = (I a0 8).toInt + 8))) args s) (F0 m 3 ls []) := by
    intro n3
    induction n3 with
    | zero =>
      intro y2 I3 H locs ls f4 f5 f6 hm3 F M hl
      exact absurd hm3 (by omega)
    | succ n3 ih3 =>
      intro y2 I3 H locs ls f4 f5 f6 hm3 F M hl
      refine lv_iload_n C.1 C.2.1 dX11_eight_3 rfl (lv_at hl 2 rfl) ?_
      refine n_if_lt C (tgt := 40) dX11_eight_4 (by decide) rfl (fun q7 => ?_) (fun q7 => ?_)
      ·
        obtain ⟨u8, ku8⟩ : ∃ z : Int32, I3 a0 8 = z := ⟨_, rfl⟩
        have tu8 : 0 ≤ u8.toInt ∧ u8.toInt ≤ 264 := m_rng M h0_ 8 ku8 rfl
        have rk9 : (I3 a0 8).toInt = u8.toInt := congrArg Int32.toInt ku8
        exact r_PV C M hr hlk F ⟨rfl, (by simp only [ci1, rk9]; omega)⟩ dX11_eight_40
      ·
        refine lv_aload_n C.1 C.2.1 dX11_eight_7 rfl (lv_at hl 0 rfl) ?_
        refine gi_X11_26 C M h0_ dX11_eight_8 (fun h10 => ?_)
        refine lv_aload_n C.1 C.2.1 dX11_eight_11 rfl (lv_at hl 0 rfl) ?_
        refine gi_X11_188 C M h0_ dX11_eight_12 (fun v11 kv11 tv11 uv11 => ?_)
        have cv11 : (I3 a0 8).toInt = v11.toInt := congrArg Int32.toInt kv11
        refine lv_lload_n C.1 C.2.1 dX11_eight_15 rfl (lv_at hl 1 rfl) ?_
        refine lv_iload_n C.1 C.2.1 dX11_eight_16 rfl (lv_at hl 2 rfl) ?_
        refine lv_lshr C.1 C.2.1 dX11_eight_17 rfl ?_
        refine lv_topl (fun l12 _ => ?_)
        refine lv_l2i C.1 C.2.1 dX11_eight_18 rfl ?_
        refine lv_topi (fun v13 _ => ?_)
        refine lv_sipush (v := 255) C.1 C.2.1 dX11_eight_19 (by decide) ?_
        refine n_iand255 C dX11_eight_22 (fun v14 lv14 uv14 => ?_)
        refine a_st C M h10 (n := 264) rfl rfl rfl (by omega) (by omega) rfl rfl (lo := 0) (hi := 255) rfl (by omega) (by omega) dX11_eight_23 (fun H locs I15 k17 f16 M => ?_)
        have F := fr_put F h10 (Or.inl (by decide)) f16
        refine lv_aload_n C.1 C.2.1 dX11_eight_24 rfl (lv_at hl 0 rfl) ?_
        refine lv_dup C.1 C.2.1 dX11_eight_25 rfl ?_
        refine gk_X11_188 C M h0_ ((f16 a0 8 (Or.inl (is_ne h10 h0_ (by decide)))).trans kv11) dX11_eight_26 ?_
        refine lv_iconst (v := 1) C.1 C.2.1 dX11_eight_29 (by decide) ?_
        refine n_iadd C (Y := 1) dX11_eight_30 rfl rfl (by omega) (by omega) (fun v18 ev18 => ?_)
        refine pi_X11_188 C M h0_ dX11_eight_31 rfl (by omega) (by omega) (fun H locs I19 k21 f20 M => ?_)
        have F := fr_put F h0_ (Or.inr (by decide)) f20
        refine n_iinc C (k := 2) (N := -8) (lv' := fun v => [(3, .int v), (0, .ref a0), (1, .long l1)]) dX11_eight_34 hl rfl (by decide) rfl rfl (by omega) (by omega) (fun _ => rfl) (fun v22 ls ev22 hl => ?_)
        refine lv_goto (tgt := 3) C.1 C.2.1 dX11_eight_37 (by decide) ?_
        have jc23 : (I19 a0 8).toInt = v18.toInt := congrArg Int32.toInt k21
        exact ih3 v22 I19 _ _ _ (by omega) (by omega) (by omega) (by omega) F M (lv_sub hl [1, 2, 0] rfl)
  have cz24 : (56 : Int32).toInt = 56 := rfl
  have jc25 : (I a0 8).toInt = i1.toInt := congrArg Int32.toInt ki1
  exact L3 _ 56 I _ _ _ (by omega) (by omega) (by omega) (n_big _) F M (lv_sub hl [1, 2, 0] rfl)

abbrev md_X11_feed : List (Nat × Nat) := [(9, 9), (9, 10), (33, 0)]
set_option maxHeartbeats 4000000 in
set_option maxRecDepth 100000 in
theorem ct_X11_feed (l : Launch) (g : Gs) (I : Ms) (J : Js) (a0 : Nat) (l1 : Int64) (l3 : Int64) (l5 : Int64) (h0_ : Is g a0 9) : Ctr l yX11_feed cX11_feed 7 (Option.some Jvm.ClassFile.FieldType.int) 2 g [.ref a0, .long l1, .long l3, .long l5] I J (PM g md_X11_feed I (fun z I1 J1 => J1 = J ∧ (True))) := by
  refine m_start (by decide) (Nat.le_of_ble_eq_true rfl) ?_
  intro p e s m args below meth c C hr hlk M ls hl
  have hl : lv_has ls 7 [(0, .ref a0), (1, .long l1), (3, .long l3), (5, .long l5)] := hl
  have C : CallFix p m c cX11_feed 7 s args TB RX11 := C
  have F : Fr g md_X11_feed I I := fr_rf
  refine lv_aload_n C.1 C.2.1 dX11_feed_0 rfl (lv_at hl 0 rfl) ?_
  refine lv_iconst (v := 0) C.1 C.2.1 dX11_feed_1 (by decide) ?_
  refine pi_X11_39 C M h0_ dX11_feed_2 (fun H locs I1 k3 f2 M => ?_)
  have F := fr_put F h0_ (Or.inr (by decide)) f2
  refine lv_aload_n C.1 C.2.1 dX11_feed_5 rfl (lv_at hl 0 rfl) ?_
  refine gi_X11_188 C M h0_ dX11_feed_6 (fun v4 kv4 tv4 uv4 => ?_)
  refine lv_bipush (v := 24) C.1 C.2.1 dX11_feed_9 (by decide) ?_
  refine n_iadd C (Y := 24) dX11_feed_11 rfl rfl (by omega) (by omega) (fun v5 ev5 => ?_)
  refine lv_sipush (v := 264) C.1 C.2.1 dX11_feed_12 (by decide) ?_
  refine n_icmp_le C (tgt := 20) (Y := 264) dX11_feed_15 (by decide) rfl rfl (fun q6 => ?_) (fun q6 => ?_)
  ·
    refine lv_aload_n C.1 C.2.1 dX11_feed_20 rfl (lv_at hl 0 rfl) ?_
    refine lv_lload_n C.1 C.2.1 dX11_feed_21 rfl (lv_at hl 1 rfl) ?_
    have em7 : (I1 a0 8).toInt = v4.toInt := congrArg Int32.toInt kv4
    refine k_PV C M h0_ (by decide) rfl (ct_X11_eight l g I1 J a0 l1 h0_ (by simp only [em7]; first | assumption | omega)) (cw_X11_191 C.2.2.2.2 (by decide)) rfl hl.1 rfl (Nat.le_of_ble_eq_true rfl) dX11_feed_22 ⟨Nat.le_refl _, Nat.le_refl _⟩ (fun I8 J9 H locs G10 p11r M => ?_)
    obtain ⟨eJ9, p11⟩ : J9 = J ∧ ((I8 a0 8).toInt = (I1 a0 8).toInt + 8) := p11r
    have eJ9 := eJ9.symm
    subst eJ9
    obtain ⟨u12, ku12⟩ : ∃ z : Int32, I8 a0 8 = z := ⟨_, rfl⟩
    have tu12 : 0 ≤ u12.toInt ∧ u12.toInt ≤ 264 := m_rng M h0_ 8 ku12 rfl
    have em13 : (I8 a0 8).toInt = u12.toInt := congrArg Int32.toInt ku12
    simp only [em7, em13] at p11
    have F := fr_call F G10 (by decide)
    refine lv_aload_n C.1 C.2.1 dX11_feed_25 rfl (lv_at hl 0 rfl) ?_
    refine lv_lload_n C.1 C.2.1 dX11_feed_26 rfl (lv_at hl 2 rfl) ?_
    have em14 : (I8 a0 8).toInt = u12.toInt := congrArg Int32.toInt ku12
    refine k_PV C M h0_ (by decide) rfl (ct_X11_eight l g I8 J a0 l3 h0_ (by simp only [em14]; first | assumption | omega)) (cw_X11_191 C.2.2.2.2 (by decide)) rfl hl.1 rfl (Nat.le_of_ble_eq_true rfl) dX11_feed_27 ⟨Nat.le_refl _, Nat.le_refl _⟩ (fun I15 J16 H locs G17 p18r M => ?_)
    obtain ⟨eJ16, p18⟩ : J16 = J ∧ ((I15 a0 8).toInt = (I8 a0 8).toInt + 8) := p18r
    have eJ16 := eJ16.symm
    subst eJ16
    obtain ⟨u19, ku19⟩ : ∃ z : Int32, I15 a0 8 = z := ⟨_, rfl⟩
    have tu19 : 0 ≤ u19.toInt ∧ u19.toInt ≤ 264 := m_rng M h0_ 8 ku19 rfl
    have em20 : (I15 a0 8).toInt = u19.toInt := congrArg Int32.toInt ku19
    simp only [em14, em20] at p18
    have F := fr_call F G17 (by decide)
    refine lv_aload_n C.1 C.2.1 dX11_feed_30 rfl (lv_at hl 0 rfl) ?_
    refine lv_lload C.1 C.2.1 dX11_feed_31 (lv_at hl 3 rfl) ?_
    have em21 : (I15 a0 8).toInt = u19.toInt := congrArg Int32.toInt ku19
    refine k_PV C M h0_ (by decide) rfl (ct_X11_eight l g I15 J a0 l5 h0_ (by simp only [em21]; first | assumption | omega)) (cw_X11_191 C.2.2.2.2 (by decide)) rfl hl.1 rfl (Nat.le_of_ble_eq_true rfl) dX11_feed_33 ⟨Nat.le_refl _, Nat.le_refl _⟩ (fun I22 J23 H locs G24 p25r M => ?_)
    obtain ⟨eJ23, p25⟩ : J23 = J ∧ ((I22 a0 8).toInt = (I15 a0 8).toInt + 8) := p25r
    have eJ23 := eJ23.symm
    subst eJ23
    obtain ⟨u26, ku26⟩ : ∃ z : Int32, I22 a0 8 = z := ⟨_, rfl⟩
    have tu26 : 0 ≤ u26.toInt ∧ u26.toInt ≤ 264 := m_rng M h0_ 8 ku26 rfl
    have em27 : (I22 a0 8).toInt = u26.toInt := congrArg Int32.toInt ku26
    simp only [em21, em27] at p25
    have F := fr_call F G24 (by decide)
    refine lv_aload_n C.1 C.2.1 dX11_feed_36 rfl (lv_at hl 0 rfl) ?_
    refine gk_X11_188 C M h0_ ku26 dX11_feed_37 ?_
    exact r_PM C M hr hlk F rfl ⟨rfl, trivial⟩ dX11_feed_40
  ·
    refine lv_iconst (v := -1) C.1 C.2.1 dX11_feed_18 (by decide) ?_
    exact r_PM C M (z := (-1)) hr hlk F rfl ⟨rfl, trivial⟩ dX11_feed_19

abbrev md_X11_end : List (Nat × Nat) := [(9, 9), (9, 10)]
set_option maxHeartbeats 4000000 in
set_option maxRecDepth 100000 in
theorem ct_X11_end (l : Launch) (g : Gs) (I : Ms) (J : Js) (a0 : Nat) (x1 : Int32) (h0_ : Is g a0 9) : Ctr l yX11_end cX11_end 2 (Option.some Jvm.ClassFile.FieldType.int) 2 g [.ref a0, .int x1] I J (PM g md_X11_end I (fun z I1 J1 => J1 = J ∧ (True))) := by
  refine m_start (by decide) (Nat.le_of_ble_eq_true rfl) ?_
  intro p e s m args below meth c C hr hlk M ls hl
  have hl : lv_has ls 2 [(0, .ref a0), (1, .int x1)] := hl
  have C : CallFix p m c cX11_end 2 s args TB RX11 := C
  have F : Fr g md_X11_end I I := fr_rf
  refine lv_aload_n C.1 C.2.1 dX11_end_0 rfl (lv_at hl 0 rfl) ?_
  refine lv_iconst (v := 0) C.1 C.2.1 dX11_end_1 (by decide) ?_
  refine pi_X11_39 C M h0_ dX11_end_2 (fun H locs I1 k3 f2 M => ?_)
  have F := fr_put F h0_ (Or.inr (by decide)) f2
  refine lv_iload_n C.1 C.2.1 dX11_end_5 rfl (lv_at hl 1 rfl) ?_
  refine lv_iconst (v := 0) C.1 C.2.1 dX11_end_6 (by decide) ?_
  refine lv_aload_n C.1 C.2.1 dX11_end_7 rfl (lv_at hl 0 rfl) ?_
  refine gi_X11_188 C M h0_ dX11_end_8 (fun v4 kv4 tv4 uv4 => ?_)
  refine ks_PI C M (ct_X11_within l g I1 J x1 0 v4) (cw_X11_114 C.2.2.2.2 (by decide)) rfl hl.1 rfl (Nat.le_of_ble_eq_true rfl) dX11_end_11 ⟨Nat.le_refl _, Nat.le_refl _⟩ (fun r5 H locs p6r M => ?_)
  have p6 : 0 ≤ r5.toInt ∧ r5.toInt ≤ 1 ∧ (r5.toInt = 1 ↔ 0 ≤ x1.toInt ∧ x1.toInt ≤ v4.toInt) := p6r
  refine n_if_ne C (tgt := 19) dX11_end_14 (by decide) rfl (fun q7 => ?_) (fun q7 => ?_)
  ·
    refine lv_aload_n C.1 C.2.1 dX11_end_19 rfl (lv_at hl 0 rfl) ?_
    refine lv_iload_n C.1 C.2.1 dX11_end_20 rfl (lv_at hl 1 rfl) ?_
    refine pi_X11_188 C M h0_ dX11_end_21 rfl (by omega) (by omega) (fun H locs I8 k10 f9 M => ?_)
    have F := fr_put F h0_ (Or.inr (by decide)) f9
    refine lv_iload_n C.1 C.2.1 dX11_end_24 rfl (lv_at hl 1 rfl) ?_
    exact r_PM C M hr hlk F rfl ⟨rfl, trivial⟩ dX11_end_25
  ·
    refine lv_iconst (v := -1) C.1 C.2.1 dX11_end_17 (by decide) ?_
    exact r_PM C M (z := (-1)) hr hlk F rfl ⟨rfl, trivial⟩ dX11_end_18
