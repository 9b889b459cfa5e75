abbrev md_X4_begin : List (Nat × Nat) := [(1, 4), (1, 5), (1, 6), (2, 9), (2, 10), (2, 11), (2, 12), (2, 13), (2, 14), (2, 15), (2, 16), (2, 17), (4, 2), (4, 3), (16, 0), (17, 0), (18, 0)]
set_option maxHeartbeats 4000000 in
set_option maxRecDepth 100000 in
theorem ct_X4_begin (l : Launch) (g : Gs) (I : Ms) (J : Js) (a0 : Nat) (x1 : Int32) (x2 : Int32) (h0_ : Is g a0 2) (g0 : 3 ≤ x1.toInt) (g1 : x1.toInt ≤ 7) (g2 : 4 ≤ x2.toInt) (g3 : x2.toInt ≤ 40) (hR : RHs g I J) : Ctr l yX4_begin cX4_begin 3 (Option.none : Option Jvm.ClassFile.FieldType) 3 g [.ref a0, .int x1, .int x2] I J (PV g md_X4_begin I (fun I1 J1 => J1.2 = J.2 ∧ (((I1 (gr g a0 0) 4).toInt = x2.toInt ∧ J1.1 a0 6 = gr g (gr g a0 2) x1.toInt.toNat) ∧ RHs g I1 J1))) := by
  refine m_start (by decide) (Nat.le_of_ble_eq_true rfl) ?_
  intro p e s m args below meth c C hr hlk M ls hl
  have hl : lv_has ls 3 [(0, .ref a0), (1, .int x1), (2, .int x2)] := hl
  have C : CallFix p m c cX4_begin 3 s args TB RX4 := C
  have F : Fr g md_X4_begin I I := fr_rf
  have hj2 : J.2 = J.2 := rfl
  have hQ0 := M.2.2.2.2.2.2.2
  refine lv_aload_n C.1 C.2.1 dX4_begin_0 rfl (lv_at hl 0 rfl) ?_
  refine gi_X4_12 C M h0_ dX4_begin_1 (fun h1 => ?_)
  refine lv_iload_n C.1 C.2.1 dX4_begin_4 rfl (lv_at hl 1 rfl) ?_
  refine lv_iload_n C.1 C.2.1 dX4_begin_5 rfl (lv_at hl 2 rfl) ?_
  refine k_PV C M h1 (by decide) rfl (ct_X3_clear l g I J (gr g a0 0) x1 x2 h1 (by omega) (by omega) (by omega) (by omega)) (cw_X4_52 C.2.2.2.2 (by decide)) rfl hl.1 rfl (Nat.le_of_ble_eq_true rfl) dX4_begin_6 ⟨Nat.le_refl _, Nat.le_refl _⟩ (fun I2 J3 H locs G4 p5r M => ?_)
  obtain ⟨eJ3, ⟨p5, fx6⟩⟩ : J3 = J ∧ (((I2 (gr g a0 0) 3).toInt = x1.toInt ∧ (I2 (gr g a0 0) 4).toInt = x2.toInt) ∧ (∀ b, Is g b 1 → b ≠ (gr g a0 0) → I2 b 4 = I b 4)) := p5r
  have eJ3 := eJ3.symm
  subst eJ3
  have F := fr_call F G4 (by decide)
  obtain ⟨u7, ku7⟩ : ∃ z : Int32, I2 (gr g a0 0) 4 = z := ⟨_, rfl⟩
  have tu7 : 4 ≤ u7.toInt ∧ u7.toInt ≤ 40 := m_rng M h1 4 ku7 rfl
  have cu7 : (I2 (gr g a0 0) 4).toInt = u7.toInt := congrArg Int32.toInt ku7
  refine lv_aload_n C.1 C.2.1 dX4_begin_9 rfl (lv_at hl 0 rfl) ?_
  refine gi_X4_21 C M h0_ dX4_begin_10 (fun h8 => ?_)
  refine lv_iconst (v := 0) C.1 C.2.1 dX4_begin_13 (by decide) ?_
  refine pi_X4_55 C M (X := 0) h8 dX4_begin_14 rfl (by omega) (by omega) (fun H locs I9 k11 f10 M => ?_)
  have F := fr_put F h8 (Or.inr (by decide)) f10
  refine lv_aload_n C.1 C.2.1 dX4_begin_17 rfl (lv_at hl 0 rfl) ?_
  refine gi_X4_21 C M h0_ dX4_begin_18 (fun h12 => ?_)
  refine lv_iconst (v := 0) C.1 C.2.1 dX4_begin_21 (by decide) ?_
  refine pi_X4_59 C M h8 dX4_begin_22 (fun H locs I13 k15 f14 M => ?_)
  have F := fr_put F h8 (Or.inr (by decide)) f14
  refine lv_aload_n C.1 C.2.1 dX4_begin_25 rfl (lv_at hl 0 rfl) ?_
  refine lv_aload_n C.1 C.2.1 dX4_begin_26 rfl (lv_at hl 0 rfl) ?_
  refine lv_iload_n C.1 C.2.1 dX4_begin_27 rfl (lv_at hl 1 rfl) ?_
  refine k_PR C M h0_ (by decide) rfl (ct_X4_layoutOf l g I13 J a0 x1 h0_) (cw_X4_62 C.2.2.2.2 (by decide)) rfl hl.1 rfl (Nat.le_of_ble_eq_true rfl) dX4_begin_28 ⟨Nat.le_refl _, Nat.le_refl _⟩ (fun b16 H locs h17 p18r M => ?_)
  have p18 : (0 ≤ x1.toInt → x1.toInt ≤ 7 → b16 = gr g (gr g a0 2) x1.toInt.toNat) := p18r
  refine m_putq C M h0_ 6 (by decide) fl_X4_66 h17 dX4_begin_31 (fun H locs J19 k21 f20 ej22 M => ?_)
  have hj2 : J19.2 = J.2 := ej22.trans hj2
  refine lv_aload_n C.1 C.2.1 dX4_begin_34 rfl (lv_at hl 0 rfl) ?_
  refine lv_aload_n C.1 C.2.1 dX4_begin_35 rfl (lv_at hl 0 rfl) ?_
  refine gk_X4_66 C M h0_ k21 dX4_begin_36 ?_
  refine m_putq C M h0_ 7 (by decide) fl_X4_70 h17 dX4_begin_39 (fun H locs J23 k25 f24 ej26 M => ?_)
  have hj2 : J23.2 = J.2 := ej26.trans hj2
  refine lv_aload_n C.1 C.2.1 dX4_begin_42 rfl (lv_at hl 0 rfl) ?_
  refine lv_iconst (v := 0) C.1 C.2.1 dX4_begin_43 (by decide) ?_
  refine pi_X4_73 C M (X := 0) h0_ dX4_begin_44 rfl (by omega) (by omega) (fun H locs I27 k29 f28 M => ?_)
  have F := fr_put F h0_ (Or.inr (by decide)) f28
  refine lv_aload_n C.1 C.2.1 dX4_begin_47 rfl (lv_at hl 0 rfl) ?_
  refine lv_iconst (v := 0) C.1 C.2.1 dX4_begin_48 (by decide) ?_
  refine pi_X4_77 C M (X := 0) h0_ dX4_begin_49 rfl (by omega) (by omega) (fun H locs I30 k32 f31 M => ?_)
  have F := fr_put F h0_ (Or.inr (by decide)) f31
  refine lv_aload_n C.1 C.2.1 dX4_begin_52 rfl (lv_at hl 0 rfl) ?_
  refine lv_iconst (v := 2) C.1 C.2.1 dX4_begin_53 (by decide) ?_
  refine pi_X4_80 C M (X := 2) h0_ dX4_begin_54 rfl (by omega) (by omega) (fun H locs I33 k35 f34 M => ?_)
  have F := fr_put F h0_ (Or.inr (by decide)) f34
  refine lv_aload_n C.1 C.2.1 dX4_begin_57 rfl (lv_at hl 0 rfl) ?_
  refine lv_iconst (v := 0) C.1 C.2.1 dX4_begin_58 (by decide) ?_
  refine pi_X4_81 C M h0_ dX4_begin_59 (fun H locs I36 k38 f37 M => ?_)
  have F := fr_put F h0_ (Or.inr (by decide)) f37
  refine lv_aload_n C.1 C.2.1 dX4_begin_62 rfl (lv_at hl 0 rfl) ?_
  refine lv_iconst (v := 0) C.1 C.2.1 dX4_begin_63 (by decide) ?_
  refine pi_X4_84 C M (X := 0) h0_ dX4_begin_64 rfl (by omega) (by omega) (fun H locs I39 k41 f40 M => ?_)
  have F := fr_put F h0_ (Or.inr (by decide)) f40
  refine lv_aload_n C.1 C.2.1 dX4_begin_67 rfl (lv_at hl 0 rfl) ?_
  refine lv_iconst (v := 2) C.1 C.2.1 dX4_begin_68 (by decide) ?_
  refine pi_X4_87 C M (X := 2) h0_ dX4_begin_69 rfl (by omega) (by omega) (fun H locs I42 k44 f43 M => ?_)
  have F := fr_put F h0_ (Or.inr (by decide)) f43
  refine lv_aload_n C.1 C.2.1 dX4_begin_72 rfl (lv_at hl 0 rfl) ?_
  refine lv_bipush (v := 20) C.1 C.2.1 dX4_begin_73 (by decide) ?_
  refine pi_X4_90 C M (X := 20) h0_ dX4_begin_75 rfl (by omega) (by omega) (fun H locs I45 k47 f46 M => ?_)
  have F := fr_put F h0_ (Or.inr (by decide)) f46
  refine lv_aload_n C.1 C.2.1 dX4_begin_78 rfl (lv_at hl 0 rfl) ?_
  refine lv_iconst (v := 0) C.1 C.2.1 dX4_begin_79 (by decide) ?_
  refine pi_X4_93 C M h0_ dX4_begin_80 (fun H locs I48 k50 f49 M => ?_)
  have F := fr_put F h0_ (Or.inr (by decide)) f49
  refine lv_aload_n C.1 C.2.1 dX4_begin_83 rfl (lv_at hl 0 rfl) ?_
  refine lv_iconst (v := 0) C.1 C.2.1 dX4_begin_84 (by decide) ?_
  refine pi_X4_96 C M h0_ dX4_begin_85 (fun H locs I51 k53 f52 M => ?_)
  have F := fr_put F h0_ (Or.inr (by decide)) f52
  have rh54 : RHs g I51 J23 := rh_of hR M.2.2.2.2.2.1 hQ0 M.2.2.2.2.2.2.2 h0_ (fun b hb => F b 3 1 hb (by decide) (by decide)) (fun b hb hn => ((f52 b 9 (Or.inr (by decide))).trans ((f49 b 9 (Or.inr (by decide))).trans ((f46 b 9 (Or.inr (by decide))).trans ((f43 b 9 (Or.inr (by decide))).trans ((f40 b 9 (Or.inr (by decide))).trans ((f37 b 9 (Or.inr (by decide))).trans ((f34 b 9 (Or.inr (by decide))).trans ((f31 b 9 (Or.inl hn)).trans ((f28 b 9 (Or.inr (by decide))).trans ((f14 b 9 (Or.inl (is_ne h8 hb (by decide)))).trans ((f10 b 9 (Or.inl (is_ne h8 hb (by decide)))).trans ((G4 b 2 9 hb (by decide) (by decide)).trans rfl))))))))))))) (fun b hb hn => ((f52 b 4 (Or.inl (is_ne h0_ hb (by decide)))).trans ((f49 b 4 (Or.inl (is_ne h0_ hb (by decide)))).trans ((f46 b 4 (Or.inl (is_ne h0_ hb (by decide)))).trans ((f43 b 4 (Or.inl (is_ne h0_ hb (by decide)))).trans ((f40 b 4 (Or.inl (is_ne h0_ hb (by decide)))).trans ((f37 b 4 (Or.inl (is_ne h0_ hb (by decide)))).trans ((f34 b 4 (Or.inl (is_ne h0_ hb (by decide)))).trans ((f31 b 4 (Or.inl (is_ne h0_ hb (by decide)))).trans ((f28 b 4 (Or.inl (is_ne h0_ hb (by decide)))).trans ((f14 b 4 (Or.inl (is_ne h8 hb (by decide)))).trans ((f10 b 4 (Or.inl (is_ne h8 hb (by decide)))).trans ((fx6 b hb hn).trans rfl))))))))))))) (fun b hn => ⟨((f24 b 6 (Or.inl hn)).trans ((f20 b 6 (Or.inl hn)).trans rfl)), ((f24 b 7 (Or.inl hn)).trans ((f20 b 7 (Or.inl hn)).trans rfl))⟩) (rh_zero M h0_ ((f52 a0 9 (Or.inr (by decide))).trans ((f49 a0 9 (Or.inr (by decide))).trans ((f46 a0 9 (Or.inr (by decide))).trans ((f43 a0 9 (Or.inr (by decide))).trans ((f40 a0 9 (Or.inr (by decide))).trans ((f37 a0 9 (Or.inr (by decide))).trans ((f34 a0 9 (Or.inr (by decide))).trans k32))))))) rfl)
  have rk55 : (I51 (gr g a0 0) 4).toInt = u7.toInt := congrArg Int32.toInt ((f52 (gr g a0 0) 4 (Or.inl (is_ne h0_ h1 (by decide)))).trans ((f49 (gr g a0 0) 4 (Or.inl (is_ne h0_ h1 (by decide)))).trans ((f46 (gr g a0 0) 4 (Or.inl (is_ne h0_ h1 (by decide)))).trans ((f43 (gr g a0 0) 4 (Or.inl (is_ne h0_ h1 (by decide)))).trans ((f40 (gr g a0 0) 4 (Or.inl (is_ne h0_ h1 (by decide)))).trans ((f37 (gr g a0 0) 4 (Or.inl (is_ne h0_ h1 (by decide)))).trans ((f34 (gr g a0 0) 4 (Or.inl (is_ne h0_ h1 (by decide)))).trans ((f31 (gr g a0 0) 4 (Or.inl (is_ne h0_ h1 (by decide)))).trans ((f28 (gr g a0 0) 4 (Or.inl (is_ne h0_ h1 (by decide)))).trans ((f14 (gr g a0 0) 4 (Or.inl (is_ne h8 h1 (by decide)))).trans ((f10 (gr g a0 0) 4 (Or.inl (is_ne h8 h1 (by decide)))).trans ku7)))))))))))
  exact r_PV C M hr hlk F ⟨hj2, ⟨⟨by omega, ((f24 a0 6 (Or.inr (by decide))).trans k21).trans (p18 (by omega) (by omega))⟩, rh54⟩⟩ dX4_begin_88

abbrev md_X4_beginGrowth : List (Nat × Nat) := [(0, 1), (0, 2), (0, 3), (0, 4), (0, 5), (0, 6), (0, 7), (1, 4), (2, 9), (2, 10), (2, 12), (2, 13)]
set_option maxHeartbeats 4000000 in
set_option maxRecDepth 100000 in
theorem ct_X4_beginGrowth (l : Launch) (g : Gs) (I : Ms) (J : Js) (a0 : Nat) (h0_ : Is g a0 2) (hR : RHs g I J) : Ctr l yX4_beginGrowth cX4_beginGrowth 1 (Option.some Jvm.ClassFile.FieldType.int) 3 g [.ref a0] I J (PM g md_X4_beginGrowth I (fun z I1 J1 => J1.2 = J.2 ∧ ((True) ∧ RHs g I1 J1))) := by
  refine m_start (by decide) (Nat.le_of_ble_eq_true rfl) ?_
  intro p e s m args below meth c C hr hlk M ls hl
  have hl : lv_has ls 1 [(0, .ref a0)] := hl
  have C : CallFix p m c cX4_beginGrowth 1 s args TB RX4 := C
  have F : Fr g md_X4_beginGrowth I I := fr_rf
  have hj2 : J.2 = J.2 := rfl
  have hQ0 := M.2.2.2.2.2.2.2
  refine lv_aload_n C.1 C.2.1 dX4_beginGrowth_0 rfl (lv_at hl 0 rfl) ?_
  refine gi_X4_73 C M h0_ dX4_beginGrowth_1 (fun v1 kv1 tv1 uv1 => ?_)
  refine n_if_ne C (tgt := 30) dX4_beginGrowth_4 (by decide) rfl (fun q2 => ?_) (fun q2 => ?_)
  ·
    refine lv_iconst (v := -1) C.1 C.2.1 dX4_beginGrowth_30 (by decide) ?_
    exact r_PM C M (z := (-1)) hr hlk F rfl ⟨hj2, ⟨trivial, hR⟩⟩ dX4_beginGrowth_31
  ·
    refine lv_aload_n C.1 C.2.1 dX4_beginGrowth_7 rfl (lv_at hl 0 rfl) ?_
    refine gi_X4_12 C M h0_ dX4_beginGrowth_8 (fun h3 => ?_)
    refine gi_X4_186 C M h3 dX4_beginGrowth_11 (fun v4 kv4 tv4 uv4 => ?_)
    refine lv_bipush (v := 7) C.1 C.2.1 dX4_beginGrowth_14 (by decide) ?_
    refine n_icmp_ge C (tgt := 30) (Y := 7) dX4_beginGrowth_16 (by decide) rfl rfl (fun q5 => ?_) (fun q5 => ?_)
    ·
      refine lv_iconst (v := -1) C.1 C.2.1 dX4_beginGrowth_30 (by decide) ?_
      exact r_PM C M (z := (-1)) hr hlk F rfl ⟨hj2, ⟨trivial, hR⟩⟩ dX4_beginGrowth_31
    ·
      refine lv_aload_n C.1 C.2.1 dX4_beginGrowth_19 rfl (lv_at hl 0 rfl) ?_
      refine gi_X4_12 C M h0_ dX4_beginGrowth_20 (fun h6 => ?_)
      refine gi_X4_189 C M h3 dX4_beginGrowth_23 (fun v7 kv7 tv7 uv7 => ?_)
      refine lv_iconst (v := -1) C.1 C.2.1 dX4_beginGrowth_26 (by decide) ?_
      refine n_icmp_eq C (tgt := 32) (Y := (-1)) dX4_beginGrowth_27 (by decide) rfl rfl (fun q8 => ?_) (fun q8 => ?_)
      ·
        refine lv_aload_n C.1 C.2.1 dX4_beginGrowth_32 rfl (lv_at hl 0 rfl) ?_
        refine gi_X4_12 C M h0_ dX4_beginGrowth_33 (fun h9 => ?_)
        refine k_PV C M h3 (by decide) rfl (ct_X3_addDisk l g I J (gr g a0 0) h3) (cw_X4_192 C.2.2.2.2 (by decide)) rfl hl.1 rfl (Nat.le_of_ble_eq_true rfl) dX4_beginGrowth_36 ⟨Nat.le_refl _, Nat.le_refl _⟩ (fun I10 J11 H locs G12 p13r M => ?_)
        obtain ⟨eJ11, p13⟩ : J11 = J ∧ (True) := p13r
        have eJ11 := eJ11.symm
        subst eJ11
        have F := fr_call F G12 (by decide)
        refine lv_aload_n C.1 C.2.1 dX4_beginGrowth_39 rfl (lv_at hl 0 rfl) ?_
        refine lv_aload_n C.1 C.2.1 dX4_beginGrowth_40 rfl (lv_at hl 0 rfl) ?_
        refine lv_aload_n C.1 C.2.1 dX4_beginGrowth_41 rfl (lv_at hl 0 rfl) ?_
        refine gi_X4_12 C M h0_ dX4_beginGrowth_42 (fun h14 => ?_)
        refine gi_X4_186 C M h3 dX4_beginGrowth_45 (fun v15 kv15 tv15 uv15 => ?_)
        refine k_PR C M h0_ (by decide) rfl (ct_X4_layoutOf l g I10 J a0 v15 h0_) (cw_X4_62 C.2.2.2.2 (by decide)) rfl hl.1 rfl (Nat.le_of_ble_eq_true rfl) dX4_beginGrowth_48 ⟨Nat.le_refl _, Nat.le_refl _⟩ (fun b16 H locs h17 p18r M => ?_)
        have p18 : (0 ≤ v15.toInt → v15.toInt ≤ 7 → b16 = gr g (gr g a0 2) v15.toInt.toNat) := p18r
        refine m_putq C M h0_ 7 (by decide) fl_X4_70 h17 dX4_beginGrowth_51 (fun H locs J19 k21 f20 ej22 M => ?_)
        have hj2 : J19.2 = J.2 := ej22.trans hj2
        refine lv_aload_n C.1 C.2.1 dX4_beginGrowth_54 rfl (lv_at hl 0 rfl) ?_
        refine lv_iconst (v := 1) C.1 C.2.1 dX4_beginGrowth_55 (by decide) ?_
        refine pi_X4_73 C M (X := 1) h0_ dX4_beginGrowth_56 rfl (by omega) (by omega) (fun H locs I23 k25 f24 M => ?_)
        have F := fr_put F h0_ (Or.inr (by decide)) f24
        refine lv_aload_n C.1 C.2.1 dX4_beginGrowth_59 rfl (lv_at hl 0 rfl) ?_
        refine lv_iconst (v := 0) C.1 C.2.1 dX4_beginGrowth_60 (by decide) ?_
        refine pi_X4_77 C M (X := 0) h0_ dX4_beginGrowth_61 rfl (by omega) (by omega) (fun H locs I26 k28 f27 M => ?_)
        have F := fr_put F h0_ (Or.inr (by decide)) f27
        refine lv_aload_n C.1 C.2.1 dX4_beginGrowth_64 rfl (lv_at hl 0 rfl) ?_
        refine lv_iconst (v := 0) C.1 C.2.1 dX4_beginGrowth_65 (by decide) ?_
        refine pi_X4_81 C M h0_ dX4_beginGrowth_66 (fun H locs I29 k31 f30 M => ?_)
        have F := fr_put F h0_ (Or.inr (by decide)) f30
        refine lv_aload_n C.1 C.2.1 dX4_beginGrowth_69 rfl (lv_at hl 0 rfl) ?_
        refine lv_iconst (v := 0) C.1 C.2.1 dX4_beginGrowth_70 (by decide) ?_
        refine pi_X4_84 C M (X := 0) h0_ dX4_beginGrowth_71 rfl (by omega) (by omega) (fun H locs I32 k34 f33 M => ?_)
        have F := fr_put F h0_ (Or.inr (by decide)) f33
        have rh35 : RHs g I32 J19 := rh_of hR M.2.2.2.2.2.1 hQ0 M.2.2.2.2.2.2.2 h0_ (fun b hb => F b 3 1 hb (by decide) (by decide)) (fun b hb hn => ((f33 b 9 (Or.inr (by decide))).trans ((f30 b 9 (Or.inr (by decide))).trans ((f27 b 9 (Or.inl hn)).trans ((f24 b 9 (Or.inr (by decide))).trans ((G12 b 2 9 hb (by decide) (by decide)).trans rfl)))))) (fun b hb hn => ((f33 b 4 (Or.inl (is_ne h0_ hb (by decide)))).trans ((f30 b 4 (Or.inl (is_ne h0_ hb (by decide)))).trans ((f27 b 4 (Or.inl (is_ne h0_ hb (by decide)))).trans ((f24 b 4 (Or.inl (is_ne h0_ hb (by decide)))).trans ((G12 b 1 4 hb (by decide) (by decide)).trans rfl)))))) (fun b hn => ⟨((f20 b 6 (Or.inl hn)).trans rfl), ((f20 b 7 (Or.inl hn)).trans rfl)⟩) (rh_zero M h0_ ((f33 a0 9 (Or.inr (by decide))).trans ((f30 a0 9 (Or.inr (by decide))).trans k28)) rfl)
        refine lv_aload_n C.1 C.2.1 dX4_beginGrowth_74 rfl (lv_at hl 0 rfl) ?_
        refine k_PV C M h0_ (by decide) rfl (ct_X4_planBatch l g I32 J19 a0 h0_ rh35) (cw_X4_112 C.2.2.2.2 (by decide)) rfl hl.1 rfl (Nat.le_of_ble_eq_true rfl) dX4_beginGrowth_75 ⟨Nat.le_refl _, Nat.le_refl _⟩ (fun I36 J37 H locs G38 p39r M => ?_)
        obtain ⟨eJ37, p39⟩ : J37 = J19 ∧ (True) := p39r
        have eJ37 := eJ37.symm
        subst eJ37
        have F := fr_call F G38 (by decide)
        refine lv_aload_n C.1 C.2.1 dX4_beginGrowth_78 rfl (lv_at hl 0 rfl) ?_
        refine k_PI C M h0_ (by decide) rfl (ct_X4_newStripes l g I36 J19 a0 h0_) (cw_X4_195 C.2.2.2.2 (by decide)) rfl hl.1 rfl (Nat.le_of_ble_eq_true rfl) dX4_beginGrowth_79 ⟨Nat.le_refl _, Nat.le_refl _⟩ (fun r40 H locs p41r M => ?_)
        have p41 : r40.toInt = nsI (I36 (gr g a0 0) 4).toInt (I36 (J19.1 a0 6) 1).toInt (I36 (J19.1 a0 7) 1).toInt := p41r
        exact r_PM C M hr hlk F rfl ⟨hj2, ⟨trivial, (rh_fr M.2.2.2.2.2.1 M.2.2.2.2.2.2.2 G38 (by decide) rh35)⟩⟩ dX4_beginGrowth_82
      ·
        refine lv_iconst (v := -1) C.1 C.2.1 dX4_beginGrowth_30 (by decide) ?_
        exact r_PM C M (z := (-1)) hr hlk F rfl ⟨hj2, ⟨trivial, hR⟩⟩ dX4_beginGrowth_31

abbrev md_X4_copyFrom : List (Nat × Nat) := [(0, 1), (0, 2), (0, 3), (0, 4), (0, 5), (0, 6), (0, 7), (1, 4), (1, 5), (1, 6), (2, 9), (2, 10), (2, 11), (2, 12), (2, 13), (2, 14), (2, 15), (2, 16), (2, 17), (4, 2), (4, 3), (16, 0), (17, 0), (18, 0), (19, 0), (21, 0)]
set_option maxHeartbeats 4000000 in
set_option maxRecDepth 100000 in
theorem ct_X4_copyFrom (l : Launch) (g : Gs) (I : Ms) (J : Js) (a0 : Nat) (a1 : Nat) (h0_ : Is g a0 2) (h1_ : Is g a1 2) (hR : RHs g I J) : Ctr l yX4_copyFrom cX4_copyFrom 2 (Option.none : Option Jvm.ClassFile.FieldType) 3 g [.ref a0, .ref a1] I J (PV g md_X4_copyFrom I (fun I1 J1 => J1.2 = J.2 ∧ ((True) ∧ RHs g I1 J1))) := by
  refine m_start (by decide) (Nat.le_of_ble_eq_true rfl) ?_
  intro p e s m args below meth c C hr hlk M ls hl
  have hl : lv_has ls 2 [(0, .ref a0), (1, .ref a1)] := hl
  have C : CallFix p m c cX4_copyFrom 2 s args TB RX4 := C
  have F : Fr g md_X4_copyFrom I I := fr_rf
  have hj2 : J.2 = J.2 := rfl
  have hQ0 := M.2.2.2.2.2.2.2
  obtain ⟨o6, ko6⟩ : ∃ z : Nat, J.1 a1 6 = z := ⟨_, rfl⟩
  have ho6 : Is g o6 3 := ko6 ▸ is_old M h1_
  obtain ⟨o7, ko7⟩ : ∃ z : Nat, J.1 a1 7 = z := ⟨_, rfl⟩
  have ho7 : Is g o7 3 := ko7 ▸ is_next M h1_
  obtain ⟨i1, ki1⟩ : ∃ z : Int32, I a1 9 = z := ⟨_, rfl⟩
  have ti1 : 0 ≤ i1.toInt ∧ i1.toInt ≤ 200 := m_rng M h1_ 9 ki1 rfl
  have ci1 : (I a1 9).toInt = i1.toInt := congrArg Int32.toInt ki1
  have h2 := is_ref M h1_ 0 1 rfl rfl
  obtain ⟨i3, ki3⟩ : ∃ z : Int32, I (gr g a1 0) 4 = z := ⟨_, rfl⟩
  have ti3 : 4 ≤ i3.toInt ∧ i3.toInt ≤ 40 := m_rng M h2 4 ki3 rfl
  have ci3 : (I (gr g a1 0) 4).toInt = i3.toInt := congrArg Int32.toInt ki3
  refine lv_aload_n C.1 C.2.1 dX4_copyFrom_0 rfl (lv_at hl 0 rfl) ?_
  refine gi_X4_12 C M h0_ dX4_copyFrom_1 (fun h4 => ?_)
  refine lv_aload_n C.1 C.2.1 dX4_copyFrom_4 rfl (lv_at hl 1 rfl) ?_
  refine gi_X4_12 C M h1_ dX4_copyFrom_5 (fun h5 => ?_)
  refine k_PV C M h4 (by decide) rfl (ct_X3_copyFrom l g I J (gr g a0 0) (gr g a1 0) h4 h2) (cw_X4_99 C.2.2.2.2 (by decide)) rfl hl.1 rfl (Nat.le_of_ble_eq_true rfl) dX4_copyFrom_8 ⟨Nat.le_refl _, Nat.le_refl _⟩ (fun I6 J7 H locs G8 p9r M => ?_)
  obtain ⟨eJ7, ⟨p9, fx10⟩⟩ : J7 = J ∧ (((I6 (gr g a0 0) 4).toInt = (I (gr g a1 0) 4).toInt) ∧ (∀ b, Is g b 1 → b ≠ (gr g a0 0) → I6 b 4 = I b 4)) := p9r
  have eJ7 := eJ7.symm
  subst eJ7
  have F := fr_call F G8 (by decide)
  obtain ⟨u11, ku11⟩ : ∃ z : Int32, I6 (gr g a0 0) 4 = z := ⟨_, rfl⟩
  have tu11 : 4 ≤ u11.toInt ∧ u11.toInt ≤ 40 := m_rng M h4 4 ku11 rfl
  have cu11 : (I6 (gr g a0 0) 4).toInt = u11.toInt := congrArg Int32.toInt ku11
  refine lv_aload_n C.1 C.2.1 dX4_copyFrom_11 rfl (lv_at hl 0 rfl) ?_
  refine gi_X4_21 C M h0_ dX4_copyFrom_12 (fun h12 => ?_)
  refine lv_aload_n C.1 C.2.1 dX4_copyFrom_15 rfl (lv_at hl 1 rfl) ?_
  refine gi_X4_21 C M h1_ dX4_copyFrom_16 (fun h13 => ?_)
  refine k_PV C M h12 (by decide) rfl (ct_X6_copyFrom l g I6 J (gr g a0 1) (gr g a1 1) h12 h13) (cw_X4_103 C.2.2.2.2 (by decide)) rfl hl.1 rfl (Nat.le_of_ble_eq_true rfl) dX4_copyFrom_19 ⟨Nat.le_refl _, Nat.le_refl _⟩ (fun I14 J15 H locs G16 p17r M => ?_)
  obtain ⟨eJ15, p17⟩ : J15 = J ∧ (True) := p17r
  have eJ15 := eJ15.symm
  subst eJ15
  have F := fr_call F G16 (by decide)
  refine lv_aload_n C.1 C.2.1 dX4_copyFrom_22 rfl (lv_at hl 1 rfl) ?_
  refine gi_X4_31 C M h1_ dX4_copyFrom_23 (fun h18 => ?_)
  refine lv_iconst (v := 0) C.1 C.2.1 dX4_copyFrom_26 (by decide) ?_
  refine lv_aload_n C.1 C.2.1 dX4_copyFrom_27 rfl (lv_at hl 0 rfl) ?_
  refine gi_X4_31 C M h0_ dX4_copyFrom_28 (fun h19 => ?_)
  refine lv_iconst (v := 0) C.1 C.2.1 dX4_copyFrom_31 (by decide) ?_
  refine lv_aload_n C.1 C.2.1 dX4_copyFrom_32 rfl (lv_at hl 0 rfl) ?_
  refine gi_X4_31 C M h0_ dX4_copyFrom_33 (fun h20 => ?_)
  refine a_ln C M h19 rfl (v := 24) rfl dX4_copyFrom_36 ?_
  refine a_cp (D := 2) (SP := 0) (DP := 0) (N := 24) C M h18 h19 (n0 := 24) (n1 := 24) rfl rfl rfl rfl (fun _ => rfl) hl.1 ml_X4_106 ac_nat ac_sta ac_ini rfl rfl rfl (by omega) (by omega) (by omega) (by omega) (by omega) (Nat.le_of_ble_eq_true rfl) dX4_copyFrom_37 (fun H locs I21 eI21 G22 M => ?_)
  have F := fr_call F G22 (by decide)
  refine lv_aload_n C.1 C.2.1 dX4_copyFrom_40 rfl (lv_at hl 0 rfl) ?_
  refine lv_aload_n C.1 C.2.1 dX4_copyFrom_41 rfl (lv_at hl 1 rfl) ?_
  refine gk_X4_66 C M h1_ ko6 dX4_copyFrom_42 ?_
  refine m_putq C M h0_ 6 (by decide) fl_X4_66 ho6 dX4_copyFrom_45 (fun H locs J23 k25 f24 ej26 M => ?_)
  have hj2 : J23.2 = J.2 := ej26.trans hj2
  refine lv_aload_n C.1 C.2.1 dX4_copyFrom_48 rfl (lv_at hl 0 rfl) ?_
  refine lv_aload_n C.1 C.2.1 dX4_copyFrom_49 rfl (lv_at hl 1 rfl) ?_
  refine gk_X4_70 C M h1_ ((f24 a1 7 (Or.inr (by decide))).trans ko7) dX4_copyFrom_50 ?_
  refine m_putq C M h0_ 7 (by decide) fl_X4_70 ho7 dX4_copyFrom_53 (fun H locs J27 k29 f28 ej30 M => ?_)
  have hj2 : J27.2 = J.2 := ej30.trans hj2
  refine lv_aload_n C.1 C.2.1 dX4_copyFrom_56 rfl (lv_at hl 0 rfl) ?_
  refine lv_aload_n C.1 C.2.1 dX4_copyFrom_57 rfl (lv_at hl 1 rfl) ?_
  refine gi_X4_73 C M h1_ dX4_copyFrom_58 (fun v31 kv31 tv31 uv31 => ?_)
  refine pi_X4_73 C M h0_ dX4_copyFrom_61 rfl (by omega) (by omega) (fun H locs I32 k34 f33 M => ?_)
  have F := fr_put F h0_ (Or.inr (by decide)) f33
  refine lv_aload_n C.1 C.2.1 dX4_copyFrom_64 rfl (lv_at hl 0 rfl) ?_
  refine lv_aload_n C.1 C.2.1 dX4_copyFrom_65 rfl (lv_at hl 1 rfl) ?_
  refine gk_X4_77 C M h1_ ((f33 a1 9 (Or.inr (by decide))).trans ((G22 a1 2 9 h1_ (by decide) (by decide)).trans ((G16 a1 2 9 h1_ (by decide) (by decide)).trans ((G8 a1 2 9 h1_ (by decide) (by decide)).trans ki1)))) dX4_copyFrom_66 ?_
  refine pi_X4_77 C M h0_ dX4_copyFrom_69 rfl (by omega) (by omega) (fun H locs I35 k37 f36 M => ?_)
  have F := fr_put F h0_ (Or.inr (by decide)) f36
  refine lv_aload_n C.1 C.2.1 dX4_copyFrom_72 rfl (lv_at hl 0 rfl) ?_
  refine lv_aload_n C.1 C.2.1 dX4_copyFrom_73 rfl (lv_at hl 1 rfl) ?_
  refine gi_X4_80 C M h1_ dX4_copyFrom_74 (fun v38 kv38 tv38 uv38 => ?_)
  refine pi_X4_80 C M h0_ dX4_copyFrom_77 rfl (by omega) (by omega) (fun H locs I39 k41 f40 M => ?_)
  have F := fr_put F h0_ (Or.inr (by decide)) f40
  refine lv_aload_n C.1 C.2.1 dX4_copyFrom_80 rfl (lv_at hl 0 rfl) ?_
  refine lv_aload_n C.1 C.2.1 dX4_copyFrom_81 rfl (lv_at hl 1 rfl) ?_
  refine gi_X4_81 C M h1_ dX4_copyFrom_82 (fun v42 kv42 => ?_)
  refine pi_X4_81 C M h0_ dX4_copyFrom_85 (fun H locs I43 k45 f44 M => ?_)
  have F := fr_put F h0_ (Or.inr (by decide)) f44
  refine lv_aload_n C.1 C.2.1 dX4_copyFrom_88 rfl (lv_at hl 0 rfl) ?_
  refine lv_aload_n C.1 C.2.1 dX4_copyFrom_89 rfl (lv_at hl 1 rfl) ?_
  refine gi_X4_84 C M h1_ dX4_copyFrom_90 (fun v46 kv46 tv46 uv46 => ?_)
  refine pi_X4_84 C M h0_ dX4_copyFrom_93 rfl (by omega) (by omega) (fun H locs I47 k49 f48 M => ?_)
  have F := fr_put F h0_ (Or.inr (by decide)) f48
  refine lv_aload_n C.1 C.2.1 dX4_copyFrom_96 rfl (lv_at hl 0 rfl) ?_
  refine lv_aload_n C.1 C.2.1 dX4_copyFrom_97 rfl (lv_at hl 1 rfl) ?_
  refine gi_X4_87 C M h1_ dX4_copyFrom_98 (fun v50 kv50 tv50 uv50 => ?_)
  refine pi_X4_87 C M h0_ dX4_copyFrom_101 rfl (by omega) (by omega) (fun H locs I51 k53 f52 M => ?_)
  have F := fr_put F h0_ (Or.inr (by decide)) f52
  refine lv_aload_n C.1 C.2.1 dX4_copyFrom_104 rfl (lv_at hl 0 rfl) ?_
  refine lv_aload_n C.1 C.2.1 dX4_copyFrom_105 rfl (lv_at hl 1 rfl) ?_
  refine gi_X4_90 C M h1_ dX4_copyFrom_106 (fun v54 kv54 tv54 uv54 => ?_)
  refine pi_X4_90 C M h0_ dX4_copyFrom_109 rfl (by omega) (by omega) (fun H locs I55 k57 f56 M => ?_)
  have F := fr_put F h0_ (Or.inr (by decide)) f56
  refine lv_aload_n C.1 C.2.1 dX4_copyFrom_112 rfl (lv_at hl 0 rfl) ?_
  refine lv_aload_n C.1 C.2.1 dX4_copyFrom_113 rfl (lv_at hl 1 rfl) ?_
  refine gi_X4_93 C M h1_ dX4_copyFrom_114 (fun v58 kv58 => ?_)
  refine pi_X4_93 C M h0_ dX4_copyFrom_117 (fun H locs I59 k61 f60 M => ?_)
  have F := fr_put F h0_ (Or.inr (by decide)) f60
  refine lv_aload_n C.1 C.2.1 dX4_copyFrom_120 rfl (lv_at hl 0 rfl) ?_
  refine lv_aload_n C.1 C.2.1 dX4_copyFrom_121 rfl (lv_at hl 1 rfl) ?_
  refine gi_X4_96 C M h1_ dX4_copyFrom_122 (fun v62 kv62 => ?_)
  refine pi_X4_96 C M h0_ dX4_copyFrom_125 (fun H locs I63 k65 f64 M => ?_)
  have F := fr_put F h0_ (Or.inr (by decide)) f64
  have rh66 : RHs g I63 J27 := rh_of hR M.2.2.2.2.2.1 hQ0 M.2.2.2.2.2.2.2 h0_ (fun b hb => F b 3 1 hb (by decide) (by decide)) (fun b hb hn => ((f64 b 9 (Or.inr (by decide))).trans ((f60 b 9 (Or.inr (by decide))).trans ((f56 b 9 (Or.inr (by decide))).trans ((f52 b 9 (Or.inr (by decide))).trans ((f48 b 9 (Or.inr (by decide))).trans ((f44 b 9 (Or.inr (by decide))).trans ((f40 b 9 (Or.inr (by decide))).trans ((f36 b 9 (Or.inl hn)).trans ((f33 b 9 (Or.inr (by decide))).trans ((G22 b 2 9 hb (by decide) (by decide)).trans ((G16 b 2 9 hb (by decide) (by decide)).trans ((G8 b 2 9 hb (by decide) (by decide)).trans rfl))))))))))))) (fun b hb hn => ((f64 b 4 (Or.inl (is_ne h0_ hb (by decide)))).trans ((f60 b 4 (Or.inl (is_ne h0_ hb (by decide)))).trans ((f56 b 4 (Or.inl (is_ne h0_ hb (by decide)))).trans ((f52 b 4 (Or.inl (is_ne h0_ hb (by decide)))).trans ((f48 b 4 (Or.inl (is_ne h0_ hb (by decide)))).trans ((f44 b 4 (Or.inl (is_ne h0_ hb (by decide)))).trans ((f40 b 4 (Or.inl (is_ne h0_ hb (by decide)))).trans ((f36 b 4 (Or.inl (is_ne h0_ hb (by decide)))).trans ((f33 b 4 (Or.inl (is_ne h0_ hb (by decide)))).trans ((G22 b 1 4 hb (by decide) (by decide)).trans ((G16 b 1 4 hb (by decide) (by decide)).trans ((fx10 b hb hn).trans rfl))))))))))))) (fun b hn => ⟨((f28 b 6 (Or.inl hn)).trans ((f24 b 6 (Or.inl hn)).trans rfl)), ((f28 b 7 (Or.inl hn)).trans ((f24 b 7 (Or.inl hn)).trans rfl))⟩) (by have e9 := hR.1 a1 h1_; unfold RH at e9 ⊢; rw [ko6, ko7, ci1, ci3] at e9; have e8 : u11.toInt = i3.toInt := (by omega); rw [((f64 a0 9 (Or.inr (by decide))).trans ((f60 a0 9 (Or.inr (by decide))).trans ((f56 a0 9 (Or.inr (by decide))).trans ((f52 a0 9 (Or.inr (by decide))).trans ((f48 a0 9 (Or.inr (by decide))).trans ((f44 a0 9 (Or.inr (by decide))).trans ((f40 a0 9 (Or.inr (by decide))).trans k37))))))), ((f28 a0 6 (Or.inr (by decide))).trans k25), k29, ((f64 (gr g a0 0) 4 (Or.inl (is_ne h0_ h4 (by decide)))).trans ((f60 (gr g a0 0) 4 (Or.inl (is_ne h0_ h4 (by decide)))).trans ((f56 (gr g a0 0) 4 (Or.inl (is_ne h0_ h4 (by decide)))).trans ((f52 (gr g a0 0) 4 (Or.inl (is_ne h0_ h4 (by decide)))).trans ((f48 (gr g a0 0) 4 (Or.inl (is_ne h0_ h4 (by decide)))).trans ((f44 (gr g a0 0) 4 (Or.inl (is_ne h0_ h4 (by decide)))).trans ((f40 (gr g a0 0) 4 (Or.inl (is_ne h0_ h4 (by decide)))).trans ((f36 (gr g a0 0) 4 (Or.inl (is_ne h0_ h4 (by decide)))).trans ((f33 (gr g a0 0) 4 (Or.inl (is_ne h0_ h4 (by decide)))).trans ((G22 (gr g a0 0) 1 4 h4 (by decide) (by decide)).trans ((G16 (gr g a0 0) 1 4 h4 (by decide) (by decide)).trans ku11))))))))))), F o6 3 1 ho6 (by decide) (by decide), F o7 3 1 ho7 (by decide) (by decide), e8]; exact e9)
  refine lv_aload_n C.1 C.2.1 dX4_copyFrom_128 rfl (lv_at hl 0 rfl) ?_
  refine k_PV C M h0_ (by decide) rfl (ct_X4_planBatch l g I63 J27 a0 h0_ rh66) (cw_X4_112 C.2.2.2.2 (by decide)) rfl hl.1 rfl (Nat.le_of_ble_eq_true rfl) dX4_copyFrom_129 ⟨Nat.le_refl _, Nat.le_refl _⟩ (fun I67 J68 H locs G69 p70r M => ?_)
  obtain ⟨eJ68, p70⟩ : J68 = J27 ∧ (True) := p70r
  have eJ68 := eJ68.symm
  subst eJ68
  have F := fr_call F G69 (by decide)
  exact r_PV C M hr hlk F ⟨hj2, ⟨trivial, (rh_fr M.2.2.2.2.2.1 M.2.2.2.2.2.2.2 G69 (by decide) rh66)⟩⟩ dX4_copyFrom_132

set_option maxHeartbeats 4000000 in
set_option maxRecDepth 100000 in
theorem ct_X4_movedXored (l : Launch) (g : Gs) (I : Ms) (J : Js) (a0 : Nat) (x1 : Int32) (h0_ : Is g a0 2) : Ctr l yX4_movedXored cX4_movedXored 4 (Option.some Jvm.ClassFile.FieldType.int) 1 g [.ref a0, .int x1] I J (PI I J (fun z => True)) := by
  refine m_start (by decide) (Nat.le_of_ble_eq_true rfl) ?_
  intro p e s m args below meth c C hr hlk M ls hl
  have hl : lv_has ls 4 [(0, .ref a0), (1, .int x1)] := hl
  have C : CallFix p m c cX4_movedXored 4 s args TB RX4 := C
  obtain ⟨o7, ko7⟩ : ∃ z : Nat, J.1 a0 7 = z := ⟨_, rfl⟩
  have ho7 : Is g o7 3 := ko7 ▸ is_next M h0_
  obtain ⟨i1, ki1⟩ : ∃ z : Int32, I o7 1 = z := ⟨_, rfl⟩
  have ti1 : 2 ≤ i1.toInt ∧ i1.toInt ≤ 7 := m_rng M ho7 1 ki1 rfl
  have ci1 : (I o7 1).toInt = i1.toInt := congrArg Int32.toInt ki1
  refine lv_iconst (v := 0) C.1 C.2.1 dX4_movedXored_0 (by decide) ?_
  refine lv_istore_n (lv' := [(2, .int 0), (0, .ref a0), (1, .int x1)]) C.1 C.2.1 dX4_movedXored_1 rfl hl (by decide) rfl (fun ls hl => ?_)
  refine lv_iload_n C.1 C.2.1 dX4_movedXored_2 rfl (lv_at hl 2 rfl) ?_
  refine lv_istore_n (lv' := [(3, .int x1), (2, .int 0), (0, .ref a0), (1, .int x1)]) C.1 C.2.1 dX4_movedXored_3 rfl hl (by decide) rfl (fun ls hl => ?_)
  have L4 : ∀ (n4 : Nat) (y2 : Int32) (y3 : Int32) (H : Heap) (locs : List Loc) (ls : Array Slot), (((x1 + i1).toInt - y3.toInt).toNat : Int) < (n4 : Int) → Mm g s I J H locs → lv_has ls 4 [(0, .ref a0), (1, .int x1), (2, .int y2), (3, .int y3)] → W p l e (rmL 1) s m args below meth c H locs 0 0 (MQg below g (PI I J (fun z => True)) args s) (F0 m 4 ls []) := by
    intro n4
    induction n4 with
    | zero =>
      intro y2 y3 H locs ls hm4 M hl
      exact absurd hm4 (by omega)
    | succ n4 ih4 =>
      intro y2 y3 H locs ls hm4 M hl
      refine lv_iload_n C.1 C.2.1 dX4_movedXored_4 rfl (lv_at hl 3 rfl) ?_
      refine lv_iload_n C.1 C.2.1 dX4_movedXored_5 rfl (lv_at hl 1 rfl) ?_
      refine lv_aload_n C.1 C.2.1 dX4_movedXored_6 rfl (lv_at hl 0 rfl) ?_
      refine gk_X4_70 C M h0_ ko7 dX4_movedXored_7 ?_
      refine gk_X4_122 C M ho7 ki1 dX4_movedXored_10 ?_
      refine lv_iadd C.1 C.2.1 dX4_movedXored_13 ?_
      refine lv_topi (fun v4 ev4 => ?_)
      have cv4 : v4.toInt = (x1 + i1).toInt := by rw [ev4]
      refine n_icmp_ge C (tgt := 49) dX4_movedXored_14 (by decide) rfl rfl (fun q5 => ?_) (fun q5 => ?_)
      ·
        refine lv_iload_n C.1 C.2.1 dX4_movedXored_49 rfl (lv_at hl 2 rfl) ?_
        exact r_PI C M hr hlk rfl trivial dX4_movedXored_50
      ·
        refine lv_iload_n C.1 C.2.1 dX4_movedXored_17 rfl (lv_at hl 2 rfl) ?_
        refine lv_iload_n C.1 C.2.1 dX4_movedXored_18 rfl (lv_at hl 3 rfl) ?_
        refine n_if_lt C (tgt := 40) dX4_movedXored_19 (by decide) rfl (fun q6 => ?_) (fun q6 => ?_)
        ·
          refine lv_iconst (v := 0) C.1 C.2.1 dX4_movedXored_40 (by decide) ?_
          refine n_ixorU C dX4_movedXored_41 (fun v7 => ?_)
          refine lv_istore_n (lv' := [(2, .int v7), (0, .ref a0), (1, .int x1), (3, .int y3)]) C.1 C.2.1 dX4_movedXored_42 rfl hl (by decide) rfl (fun ls hl => ?_)
          have hb9 := i_hi (x1 + i1)
          have il9 := i_lo y3
          have ih10 := i_hi y3
          refine n_iinc C (k := 3) (N := 1) (lv' := fun v => [(3, .int v), (2, .int v7), (0, .ref a0), (1, .int x1)]) dX4_movedXored_43 hl rfl (by decide) rfl rfl (by omega) (by omega) (fun _ => rfl) (fun v8 ls ev8 hl => ?_)
          refine lv_goto (tgt := 4) C.1 C.2.1 dX4_movedXored_46 (by decide) ?_
          exact ih4 v7 v8 _ _ _ (by omega) M (lv_sub hl [2, 3, 1, 0] rfl)
        ·
          refine lv_iload_n C.1 C.2.1 dX4_movedXored_22 rfl (lv_at hl 3 rfl) ?_
          refine lv_aload_n C.1 C.2.1 dX4_movedXored_23 rfl (lv_at hl 0 rfl) ?_
          refine gi_X4_31 C M h0_ dX4_movedXored_24 (fun h11 => ?_)
          refine a_ln C M h11 rfl (v := 24) rfl dX4_movedXored_27 ?_
          refine n_icmp_ge C (tgt := 40) (Y := 24) dX4_movedXored_28 (by decide) rfl rfl (fun q12 => ?_) (fun q12 => ?_)
          ·
            refine lv_iconst (v := 0) C.1 C.2.1 dX4_movedXored_40 (by decide) ?_
            refine n_ixorU C dX4_movedXored_41 (fun v13 => ?_)
            refine lv_istore_n (lv' := [(2, .int v13), (0, .ref a0), (1, .int x1), (3, .int y3)]) C.1 C.2.1 dX4_movedXored_42 rfl hl (by decide) rfl (fun ls hl => ?_)
            have hb9 := i_hi (x1 + i1)
            have il15 := i_lo y3
            have ih16 := i_hi y3
            refine n_iinc C (k := 3) (N := 1) (lv' := fun v => [(3, .int v), (2, .int v13), (0, .ref a0), (1, .int x1)]) dX4_movedXored_43 hl rfl (by decide) rfl rfl (by omega) (by omega) (fun _ => rfl) (fun v14 ls ev14 hl => ?_)
            refine lv_goto (tgt := 4) C.1 C.2.1 dX4_movedXored_46 (by decide) ?_
            exact ih4 v13 v14 _ _ _ (by omega) M (lv_sub hl [2, 3, 1, 0] rfl)
          ·
            refine lv_aload_n C.1 C.2.1 dX4_movedXored_31 rfl (lv_at hl 0 rfl) ?_
            refine gi_X4_31 C M h0_ dX4_movedXored_32 (fun h17 => ?_)
            refine lv_iload_n C.1 C.2.1 dX4_movedXored_35 rfl (lv_at hl 3 rfl) ?_
            refine a_ld C M h11 (n := 24) rfl rfl rfl (by omega) (by omega) rfl dX4_movedXored_36 (fun v18 kv18 => ?_)
            refine lv_goto (tgt := 41) C.1 C.2.1 dX4_movedXored_37 (by decide) ?_
            refine n_ixorU C dX4_movedXored_41 (fun v19 => ?_)
            refine lv_istore_n (lv' := [(2, .int v19), (0, .ref a0), (1, .int x1), (3, .int y3)]) C.1 C.2.1 dX4_movedXored_42 rfl hl (by decide) rfl (fun ls hl => ?_)
            have hb9 := i_hi (x1 + i1)
            refine n_iinc C (k := 3) (N := 1) (lv' := fun v => [(3, .int v), (2, .int v19), (0, .ref a0), (1, .int x1)]) dX4_movedXored_43 hl rfl (by decide) rfl rfl (by omega) (by omega) (fun _ => rfl) (fun v20 ls ev20 hl => ?_)
            refine lv_goto (tgt := 4) C.1 C.2.1 dX4_movedXored_46 (by decide) ?_
            exact ih4 v19 v20 _ _ _ (by omega) M (lv_sub hl [2, 3, 1, 0] rfl)
  have cz21 : (0 : Int32).toInt = 0 := rfl
  exact L4 _ 0 x1 _ _ _ (n_big _) M (lv_sub hl [2, 3, 1, 0] rfl)

set_option maxHeartbeats 4000000 in
set_option maxRecDepth 100000 in
theorem ct_X4_isStuck (l : Launch) (g : Gs) (I : Ms) (J : Js) (a0 : Nat) (h0_ : Is g a0 2) : Ctr l yX4_isStuck cX4_isStuck 1 (Option.some Jvm.ClassFile.FieldType.boolean) 4 g [.ref a0] I J (PI I J (fun z => 0 ≤ z ∧ z ≤ 1)) := by
  refine m_start (by decide) (Nat.le_of_ble_eq_true rfl) ?_
  intro p e s m args below meth c C hr hlk M ls hl
  have hl : lv_has ls 1 [(0, .ref a0)] := hl
  have C : CallFix p m c cX4_isStuck 1 s args TB RX4 := C
  refine lv_aload_n C.1 C.2.1 dX4_isStuck_0 rfl (lv_at hl 0 rfl) ?_
  refine gi_X4_81 C M h0_ dX4_isStuck_1 (fun v1 kv1 => ?_)
  refine lv_aload_n C.1 C.2.1 dX4_isStuck_4 rfl (lv_at hl 0 rfl) ?_
  refine gi_X4_38 C M h0_ dX4_isStuck_5 (fun h2 => ?_)
  refine gi_X4_143 C M h2 dX4_isStuck_8 (fun v3 kv3 tv3 uv3 => ?_)
  refine n_icmp_ge C (tgt := 37) dX4_isStuck_11 (by decide) rfl rfl (fun q4 => ?_) (fun q4 => ?_)
  ·
    refine lv_iconst (v := 0) C.1 C.2.1 dX4_isStuck_37 (by decide) ?_
    exact r_PIz C M (z := 0) hr hlk rfl (by omega) (by omega) (by omega) dX4_isStuck_38
  ·
    refine lv_aload_n C.1 C.2.1 dX4_isStuck_14 rfl (lv_at hl 0 rfl) ?_
    refine lv_aload_n C.1 C.2.1 dX4_isStuck_15 rfl (lv_at hl 0 rfl) ?_
    refine gi_X4_38 C M h0_ dX4_isStuck_16 (fun h5 => ?_)
    refine gi_X4_133 C M h2 dX4_isStuck_19 (fun v6 kv6 tv6 uv6 => ?_)
    refine lv_aload_n C.1 C.2.1 dX4_isStuck_22 rfl (lv_at hl 0 rfl) ?_
    refine gk_X4_81 C M h0_ kv1 dX4_isStuck_23 ?_
    have il8 := i_lo v1
    have ih9 := i_hi v1
    refine n_iadd C dX4_isStuck_26 rfl rfl (by omega) (by omega) (fun v7 ev7 => ?_)
    refine k_PI C M h0_ (by decide) rfl (ct_X4_readsFor l g I J a0 v7 h0_) (cw_X4_166 C.2.2.2.2 (by decide)) rfl hl.1 rfl (Nat.le_of_ble_eq_true rfl) dX4_isStuck_27 ⟨Nat.le_refl _, Nat.le_refl _⟩ (fun r10 H locs p11r M => ?_)
    have p11 : True := p11r
    refine n_if_ne C (tgt := 37) dX4_isStuck_30 (by decide) rfl (fun q12 => ?_) (fun q12 => ?_)
    ·
      refine lv_iconst (v := 0) C.1 C.2.1 dX4_isStuck_37 (by decide) ?_
      exact r_PIz C M (z := 0) hr hlk rfl (by omega) (by omega) (by omega) dX4_isStuck_38
    ·
      refine lv_iconst (v := 1) C.1 C.2.1 dX4_isStuck_33 (by decide) ?_
      refine lv_goto (tgt := 38) C.1 C.2.1 dX4_isStuck_34 (by decide) ?_
      exact r_PIz C M (z := 1) hr hlk rfl (by omega) (by omega) (by omega) dX4_isStuck_38

abbrev md_X4_readNext : List (Nat × Nat) := [(21, 0)]
set_option maxHeartbeats 4000000 in
set_option maxRecDepth 100000 in
theorem ct_X4_readNext (l : Launch) (g : Gs) (I : Ms) (J : Js) (a0 : Nat) (x1 : Int32) (h0_ : Is g a0 2) : Ctr l yX4_readNext cX4_readNext 3 (Option.none : Option Jvm.ClassFile.FieldType) 3 g [.ref a0, .int x1] I J (PV g md_X4_readNext I (fun I1 J1 => J1 = J ∧ (True))) := by
  refine m_start (by decide) (Nat.le_of_ble_eq_true rfl) ?_
  intro p e s m args below meth c C hr hlk M ls hl
  have hl : lv_has ls 3 [(0, .ref a0), (1, .int x1)] := hl
  have C : CallFix p m c cX4_readNext 3 s args TB RX4 := C
  have F : Fr g md_X4_readNext I I := fr_rf
  refine lv_iload_n C.1 C.2.1 dX4_readNext_0 rfl (lv_at hl 1 rfl) ?_
  have J12 : ∀ (I1 : Ms) (H : Heap) (locs : List Loc) (ls : Array Slot), Fr g md_X4_readNext I I1 → Mm g s I1 J H locs → lv_has ls 3 [(0, .ref a0), (1, .int x1)] → W p l e (rmL 3) s m args below meth c H locs 0 0 (MQg below g (PV g md_X4_readNext I (fun I1 J1 => J1 = J ∧ (True))) args s) (F0 m 12 ls []) := by
    intro I1 H locs ls F M hl
    refine lv_iload_n C.1 C.2.1 dX4_readNext_12 rfl (lv_at hl 1 rfl) ?_
    refine n_if_lt C (tgt := 68) dX4_readNext_13 (by decide) rfl (fun q2 => ?_) (fun q2 => ?_)
    ·
      exact r_PV C M hr hlk F ⟨rfl, trivial⟩ dX4_readNext_68
    ·
      refine lv_iload_n C.1 C.2.1 dX4_readNext_16 rfl (lv_at hl 1 rfl) ?_
      refine lv_aload_n C.1 C.2.1 dX4_readNext_17 rfl (lv_at hl 0 rfl) ?_
      refine gi_X4_31 C M h0_ dX4_readNext_18 (fun h3 => ?_)
      refine a_ln C M h3 rfl (v := 24) rfl dX4_readNext_21 ?_
      refine n_icmp_ge C (tgt := 68) (Y := 24) dX4_readNext_22 (by decide) rfl rfl (fun q4 => ?_) (fun q4 => ?_)
      ·
        exact r_PV C M hr hlk F ⟨rfl, trivial⟩ dX4_readNext_68
      ·
        refine lv_aload_n C.1 C.2.1 dX4_readNext_25 rfl (lv_at hl 0 rfl) ?_
        refine gi_X4_38 C M h0_ dX4_readNext_26 (fun h5 => ?_)
        refine gi_X4_133 C M h5 dX4_readNext_29 (fun v6 kv6 tv6 uv6 => ?_)
        refine lv_iload_n C.1 C.2.1 dX4_readNext_32 rfl (lv_at hl 1 rfl) ?_
        refine n_iadd C dX4_readNext_33 rfl rfl (by omega) (by omega) (fun v7 ev7 => ?_)
        refine lv_istore_n (lv' := [(2, .int v7), (0, .ref a0), (1, .int x1)]) C.1 C.2.1 dX4_readNext_34 rfl hl (by decide) rfl (fun ls hl => ?_)
        refine lv_aload_n C.1 C.2.1 dX4_readNext_35 rfl (lv_at hl 1 rfl) ?_
        refine gi_X4_31 C M h0_ dX4_readNext_36 (fun h8 => ?_)
        refine lv_iload_n C.1 C.2.1 dX4_readNext_39 rfl (lv_at hl 2 rfl) ?_
        refine lv_aload_n C.1 C.2.1 dX4_readNext_40 rfl (lv_at hl 1 rfl) ?_
        refine gi_X4_12 C M h0_ dX4_readNext_41 (fun h9 => ?_)
        refine lv_aload_n C.1 C.2.1 dX4_readNext_44 rfl (lv_at hl 1 rfl) ?_
        refine gi_X4_66 C M h0_ dX4_readNext_45 (fun b10 kb10 h11 => ?_)
        refine lv_aload_n C.1 C.2.1 dX4_readNext_48 rfl (lv_at hl 1 rfl) ?_
        refine gk_X4_66 C M h0_ kb10 dX4_readNext_49 ?_
        refine lv_iload_n C.1 C.2.1 dX4_readNext_52 rfl (lv_at hl 0 rfl) ?_
        refine k_PI C M h11 (by decide) rfl (ct_X5_diskOf l g I1 J b10 v7 h11) (cw_X4_152 C.2.2.2.2 (by decide)) rfl hl.1 rfl (Nat.le_of_ble_eq_true rfl) dX4_readNext_53 ⟨Nat.le_refl _, Nat.le_refl _⟩ (fun r12 H locs p13r M => ?_)
        have p13 : True := p13r
        refine lv_aload_n C.1 C.2.1 dX4_readNext_56 rfl (lv_at hl 1 rfl) ?_
        refine gk_X4_66 C M h0_ kb10 dX4_readNext_57 ?_
        refine lv_iload_n C.1 C.2.1 dX4_readNext_60 rfl (lv_at hl 0 rfl) ?_
        refine k_PI C M h11 (by decide) rfl (ct_X5_rowOf l g I1 J b10 v7 h11) (cw_X4_156 C.2.2.2.2 (by decide)) rfl hl.1 rfl (Nat.le_of_ble_eq_true rfl) dX4_readNext_61 ⟨Nat.le_refl _, Nat.le_refl _⟩ (fun r14 H locs p15r M => ?_)
        have p15 : True := p15r
        refine k_PI C M h9 (by decide) rfl (ct_X3_valueOf l g I1 J (gr g a0 0) b10 r12 r14 h9 h11) (cw_X4_168 C.2.2.2.2 (by decide)) rfl hl.1 rfl (Nat.le_of_ble_eq_true rfl) dX4_readNext_64 ⟨Nat.le_refl _, Nat.le_refl _⟩ (fun r16 H locs p17r M => ?_)
        have p17 : True := p17r
        refine a_stU C M h3 (n := 24) rfl rfl rfl (by omega) (by omega) rfl rfl dX4_readNext_67 (fun H locs I18 k20 f19 M => ?_)
        have F := fr_put F h3 (Or.inl (by decide)) f19
        exact r_PV C M hr hlk F ⟨rfl, trivial⟩ dX4_readNext_68
  refine n_if_ne C (tgt := 12) dX4_readNext_1 (by decide) rfl (fun q21 => ?_) (fun q21 => ?_)
  ·
    exact J12 I _ _ _ F M hl
  ·
    refine lv_aload_n C.1 C.2.1 dX4_readNext_4 rfl (lv_at hl 0 rfl) ?_
    refine gi_X4_31 C M h0_ dX4_readNext_5 (fun h22 => ?_)
    refine lv_iconst (v := 0) C.1 C.2.1 dX4_readNext_8 (by decide) ?_
    refine ks_PV C M (ct_J7_fill_53178_k21 l g I J (gr g a0 3) 0 h22) (cw_X4_219 C.2.2.2.2 (by decide)) rfl hl.1 rfl (Nat.le_of_ble_eq_true rfl) dX4_readNext_9 ⟨Nat.le_refl _, Nat.le_refl _⟩ (fun I23 J24 H locs G25 p26r M => ?_)
    obtain ⟨eJ24, p26⟩ : J24 = J ∧ (True) := p26r
    have eJ24 := eJ24.symm
    subst eJ24
    have F := fr_call F G25 (by decide)
    exact J12 I23 _ _ _ F M hl

abbrev md_X4_writeNext : List (Nat × Nat) := [(16, 0), (17, 0), (18, 0)]
set_option maxHeartbeats 4000000 in
set_option maxRecDepth 100000 in
theorem ct_X4_writeNext (l : Launch) (g : Gs) (I : Ms) (J : Js) (a0 : Nat) (x1 : Int32) (h0_ : Is g a0 2) : Ctr l yX4_writeNext cX4_writeNext 7 (Option.none : Option Jvm.ClassFile.FieldType) 3 g [.ref a0, .int x1] I J (PV g md_X4_writeNext I (fun I1 J1 => J1 = J ∧ (True))) := by
  refine m_start (by decide) (Nat.le_of_ble_eq_true rfl) ?_
  intro p e s m args below meth c C hr hlk M ls hl
  have hl : lv_has ls 7 [(0, .ref a0), (1, .int x1)] := hl
  have C : CallFix p m c cX4_writeNext 7 s args TB RX4 := C
  have F : Fr g md_X4_writeNext I I := fr_rf
  refine lv_iload_n C.1 C.2.1 dX4_writeNext_0 rfl (lv_at hl 1 rfl) ?_
  refine lv_aload_n C.1 C.2.1 dX4_writeNext_1 rfl (lv_at hl 0 rfl) ?_
  refine gi_X4_70 C M h0_ dX4_writeNext_2 (fun b1 kb1 h2 => ?_)
  refine gi_X4_225 C M h2 dX4_writeNext_5 (fun v3 kv3 tv3 uv3 => ?_)
  refine n_idivU C dX4_writeNext_8 rfl (by omega) (fun v4 => ?_)
  refine lv_istore_n (lv' := [(2, .int v4), (0, .ref a0), (1, .int x1)]) C.1 C.2.1 dX4_writeNext_9 rfl hl (by decide) rfl (fun ls hl => ?_)
  refine lv_iload_n C.1 C.2.1 dX4_writeNext_10 rfl (lv_at hl 2 rfl) ?_
  refine lv_aload_n C.1 C.2.1 dX4_writeNext_11 rfl (lv_at hl 1 rfl) ?_
  refine gk_X4_70 C M h0_ kb1 dX4_writeNext_12 ?_
  refine gk_X4_225 C M h2 kv3 dX4_writeNext_15 ?_
  refine n_iremP C dX4_writeNext_18 rfl (by omega) (fun v5 lv5 uv5 => ?_)
  refine lv_istore_n (lv' := [(3, .int v5), (2, .int v4), (0, .ref a0), (1, .int x1)]) C.1 C.2.1 dX4_writeNext_19 rfl hl (by decide) rfl (fun ls hl => ?_)
  refine lv_aload_n C.1 C.2.1 dX4_writeNext_20 rfl (lv_at hl 2 rfl) ?_
  refine gi_X4_77 C M h0_ dX4_writeNext_21 (fun v6 kv6 tv6 uv6 => ?_)
  refine lv_iload_n C.1 C.2.1 dX4_writeNext_24 rfl (lv_at hl 1 rfl) ?_
  refine n_iaddU C dX4_writeNext_25 (fun v7 => ?_)
  refine lv_istore (lv' := [(4, .int v7), (3, .int v5), (2, .int v4), (0, .ref a0), (1, .int x1)]) C.1 C.2.1 dX4_writeNext_26 hl (by decide) rfl (fun ls hl => ?_)
  refine lv_iload_n C.1 C.2.1 dX4_writeNext_28 rfl (lv_at hl 2 rfl) ?_
  refine lv_aload_n C.1 C.2.1 dX4_writeNext_29 rfl (lv_at hl 3 rfl) ?_
  refine gk_X4_70 C M h0_ kb1 dX4_writeNext_30 ?_
  refine gi_X4_122 C M h2 dX4_writeNext_33 (fun v8 kv8 tv8 uv8 => ?_)
  refine n_imulU C dX4_writeNext_36 (fun v9 => ?_)
  refine lv_istore (lv' := [(5, .int v9), (4, .int v7), (3, .int v5), (2, .int v4), (0, .ref a0), (1, .int x1)]) C.1 C.2.1 dX4_writeNext_37 hl (by decide) rfl (fun ls hl => ?_)
  refine lv_aload_n C.1 C.2.1 dX4_writeNext_39 rfl (lv_at hl 4 rfl) ?_
  refine gk_X4_70 C M h0_ kb1 dX4_writeNext_40 ?_
  refine lv_iload C.1 C.2.1 dX4_writeNext_43 (lv_at hl 1 rfl) ?_
  refine k_PI C M h2 (by decide) rfl (ct_X5_parityDisk l g I J b1 v7 h2) (cw_X4_227 C.2.2.2.2 (by decide)) rfl hl.1 rfl (Nat.le_of_ble_eq_true rfl) dX4_writeNext_45 ⟨Nat.le_refl _, Nat.le_refl _⟩ (fun r10 H locs p11r M => ?_)
  have p11 : True := p11r
  refine lv_istore (lv' := [(6, .int r10), (5, .int v9), (4, .int v7), (3, .int v5), (2, .int v4), (0, .ref a0), (1, .int x1)]) C.1 C.2.1 dX4_writeNext_48 hl (by decide) rfl (fun ls hl => ?_)
  refine lv_iload_n C.1 C.2.1 dX4_writeNext_50 rfl (lv_at hl 3 rfl) ?_
  refine lv_aload_n C.1 C.2.1 dX4_writeNext_51 rfl (lv_at hl 5 rfl) ?_
  refine gk_X4_70 C M h0_ kb1 dX4_writeNext_52 ?_
  refine gk_X4_122 C M h2 kv8 dX4_writeNext_55 ?_
  refine n_icmp_ne C (tgt := 81) dX4_writeNext_58 (by decide) rfl rfl (fun q12 => ?_) (fun q12 => ?_)
  ·
    refine lv_iload C.1 C.2.1 dX4_writeNext_81 (lv_at hl 1 rfl) ?_
    refine lv_iload_n C.1 C.2.1 dX4_writeNext_83 rfl (lv_at hl 3 rfl) ?_
    refine lv_iadd C.1 C.2.1 dX4_writeNext_84 ?_
    refine lv_topi (fun v13 ev13 => ?_)
    have cv13 : v13.toInt = (v9 + v5).toInt := by rw [ev13]
    refine n_if_lt C (tgt := 132) dX4_writeNext_85 (by decide) rfl (fun q14 => ?_) (fun q14 => ?_)
    ·
      exact r_PV C M hr hlk F ⟨rfl, trivial⟩ dX4_writeNext_132
    ·
      refine lv_iload C.1 C.2.1 dX4_writeNext_88 (lv_at hl 1 rfl) ?_
      refine lv_iload_n C.1 C.2.1 dX4_writeNext_90 rfl (lv_at hl 3 rfl) ?_
      refine lv_iadd C.1 C.2.1 dX4_writeNext_91 ?_
      refine lv_topi (fun v15 ev15 => ?_)
      have cv15 : v15.toInt = (v9 + v5).toInt := by rw [ev15]
      refine lv_aload_n C.1 C.2.1 dX4_writeNext_92 rfl (lv_at hl 5 rfl) ?_
      refine gi_X4_31 C M h0_ dX4_writeNext_93 (fun h16 => ?_)
      refine a_ln C M h16 rfl (v := 24) rfl dX4_writeNext_96 ?_
      refine n_icmp_ge C (tgt := 132) (Y := 24) dX4_writeNext_97 (by decide) rfl rfl (fun q17 => ?_) (fun q17 => ?_)
      ·
        exact r_PV C M hr hlk F ⟨rfl, trivial⟩ dX4_writeNext_132
      ·
        refine lv_aload_n C.1 C.2.1 dX4_writeNext_100 rfl (lv_at hl 5 rfl) ?_
        refine gi_X4_12 C M h0_ dX4_writeNext_101 (fun h18 => ?_)
        refine lv_iload C.1 C.2.1 dX4_writeNext_104 (lv_at hl 0 rfl) ?_
        refine lv_iconst (v := 1) C.1 C.2.1 dX4_writeNext_106 (by decide) ?_
        refine n_iaddU C dX4_writeNext_107 (fun v19 => ?_)
        refine lv_iload_n C.1 C.2.1 dX4_writeNext_108 rfl (lv_at hl 3 rfl) ?_
        refine n_iaddU C dX4_writeNext_109 (fun v20 => ?_)
        refine lv_aload_n C.1 C.2.1 dX4_writeNext_110 rfl (lv_at hl 5 rfl) ?_
        refine gk_X4_70 C M h0_ kb1 dX4_writeNext_111 ?_
        refine gk_X4_225 C M h2 kv3 dX4_writeNext_114 ?_
        refine n_iremP C dX4_writeNext_117 rfl (by omega) (fun v21 lv21 uv21 => ?_)
        refine lv_iload C.1 C.2.1 dX4_writeNext_118 (lv_at hl 2 rfl) ?_
        refine lv_aload_n C.1 C.2.1 dX4_writeNext_120 rfl (lv_at hl 5 rfl) ?_
        refine gi_X4_31 C M h0_ dX4_writeNext_121 (fun h22 => ?_)
        refine lv_iload C.1 C.2.1 dX4_writeNext_124 (lv_at hl 1 rfl) ?_
        refine lv_iload_n C.1 C.2.1 dX4_writeNext_126 rfl (lv_at hl 3 rfl) ?_
        refine lv_iadd C.1 C.2.1 dX4_writeNext_127 ?_
        refine lv_topi (fun v23 ev23 => ?_)
        have cv23 : v23.toInt = (v9 + v5).toInt := by rw [ev23]
        refine a_ld C M h16 (n := 24) rfl rfl rfl (by omega) (by omega) rfl dX4_writeNext_128 (fun v24 kv24 => ?_)
        refine k_PV C M h18 (by decide) rfl (ct_X3_lay l g I J (gr g a0 0) v21 v7 v24 h18) (cw_X4_233 C.2.2.2.2 (by decide)) rfl hl.1 rfl (Nat.le_of_ble_eq_true rfl) dX4_writeNext_129 ⟨Nat.le_refl _, Nat.le_refl _⟩ (fun I25 J26 H locs G27 p28r M => ?_)
        obtain ⟨eJ26, p28⟩ : J26 = J ∧ (True) := p28r
        have eJ26 := eJ26.symm
        subst eJ26
        have F := fr_call F G27 (by decide)
        exact r_PV C M hr hlk F ⟨rfl, trivial⟩ dX4_writeNext_132
  ·
    refine lv_aload_n C.1 C.2.1 dX4_writeNext_61 rfl (lv_at hl 5 rfl) ?_
    refine gi_X4_12 C M h0_ dX4_writeNext_62 (fun h29 => ?_)
    refine lv_iload C.1 C.2.1 dX4_writeNext_65 (lv_at hl 0 rfl) ?_
    refine lv_iload C.1 C.2.1 dX4_writeNext_67 (lv_at hl 2 rfl) ?_
    refine lv_aload_n C.1 C.2.1 dX4_writeNext_69 rfl (lv_at hl 5 rfl) ?_
    refine lv_iload C.1 C.2.1 dX4_writeNext_70 (lv_at hl 1 rfl) ?_
    refine k_PI C M h0_ (by decide) rfl (ct_X4_movedXored l g I J a0 v9 h0_) (cw_X4_230 C.2.2.2.2 (by decide)) rfl hl.1 rfl (Nat.le_of_ble_eq_true rfl) dX4_writeNext_72 ⟨Nat.le_refl _, Nat.le_refl _⟩ (fun r30 H locs p31r M => ?_)
    have p31 : True := p31r
    refine k_PV C M h29 (by decide) rfl (ct_X3_lay l g I J (gr g a0 0) r10 v7 r30 h29) (cw_X4_233 C.2.2.2.2 (by decide)) rfl hl.1 rfl (Nat.le_of_ble_eq_true rfl) dX4_writeNext_75 ⟨Nat.le_refl _, Nat.le_refl _⟩ (fun I32 J33 H locs G34 p35r M => ?_)
    obtain ⟨eJ33, p35⟩ : J33 = J ∧ (True) := p35r
    have eJ33 := eJ33.symm
    subst eJ33
    have F := fr_call F G34 (by decide)
    refine lv_goto (tgt := 132) C.1 C.2.1 dX4_writeNext_78 (by decide) ?_
    exact r_PV C M hr hlk F ⟨rfl, trivial⟩ dX4_writeNext_132

abbrev md_X4_checkpoint : List (Nat × Nat) := [(0, 1), (0, 2), (0, 3), (0, 4), (0, 5), (0, 6), (0, 7), (2, 9), (2, 10), (2, 12), (2, 13), (16, 0), (17, 0)]
set_option maxHeartbeats 4000000 in
set_option maxRecDepth 100000 in
theorem ct_X4_checkpoint (l : Launch) (g : Gs) (I : Ms) (J : Js) (a0 : Nat) (h0_ : Is g a0 2) (hR : RHs g I J) : Ctr l yX4_checkpoint cX4_checkpoint 2 (Option.none : Option Jvm.ClassFile.FieldType) 3 g [.ref a0] I J (PV g md_X4_checkpoint I (fun I1 J1 => J1.2 = J.2 ∧ ((True) ∧ RHs g I1 J1))) := by
  refine m_start (by decide) (Nat.le_of_ble_eq_true rfl) ?_
  intro p e s m args below meth c C hr hlk M ls hl
  have hl : lv_has ls 2 [(0, .ref a0)] := hl
  have C : CallFix p m c cX4_checkpoint 2 s args TB RX4 := C
  have F : Fr g md_X4_checkpoint I I := fr_rf
  have hj2 : J.2 = J.2 := rfl
  have hQ0 := M.2.2.2.2.2.2.2
  refine lv_aload_n C.1 C.2.1 dX4_checkpoint_0 rfl (lv_at hl 0 rfl) ?_
  refine lv_dup C.1 C.2.1 dX4_checkpoint_1 rfl ?_
  refine gi_X4_77 C M h0_ dX4_checkpoint_2 (fun v1 kv1 tv1 uv1 => ?_)
  refine lv_aload_n C.1 C.2.1 dX4_checkpoint_5 rfl (lv_at hl 0 rfl) ?_
  refine gi_X4_38 C M h0_ dX4_checkpoint_6 (fun h2 => ?_)
  refine gi_X4_237 C M h2 dX4_checkpoint_9 (fun v3 kv3 tv3 uv3 => ?_)
  have hsm := rh_small M h0_ hR kv1
  refine n_iadd C dX4_checkpoint_12 rfl rfl (by omega) (by omega) (fun v4 ev4 => ?_)
  refine pi_X4_77 C M h0_ dX4_checkpoint_13 rfl (by omega) (by omega) (fun H locs I5 k7 f6 M => ?_)
  have F := fr_put F h0_ (Or.inr (by decide)) f6
  refine lv_aload_n C.1 C.2.1 dX4_checkpoint_16 rfl (lv_at hl 0 rfl) ?_
  refine lv_iconst (v := 0) C.1 C.2.1 dX4_checkpoint_17 (by decide) ?_
  refine pi_X4_81 C M h0_ dX4_checkpoint_18 (fun H locs I8 k10 f9 M => ?_)
  have F := fr_put F h0_ (Or.inr (by decide)) f9
  refine lv_aload_n C.1 C.2.1 dX4_checkpoint_21 rfl (lv_at hl 0 rfl) ?_
  refine lv_iconst (v := 0) C.1 C.2.1 dX4_checkpoint_22 (by decide) ?_
  refine pi_X4_84 C M (X := 0) h0_ dX4_checkpoint_23 rfl (by omega) (by omega) (fun H locs I11 k13 f12 M => ?_)
  have F := fr_put F h0_ (Or.inr (by decide)) f12
  refine lv_aload_n C.1 C.2.1 dX4_checkpoint_26 rfl (lv_at hl 0 rfl) ?_
  refine k_PI C M h0_ (by decide) rfl (ct_X4_newStripes l g I11 J a0 h0_) (cw_X4_195 C.2.2.2.2 (by decide)) rfl hl.1 rfl (Nat.le_of_ble_eq_true rfl) dX4_checkpoint_27 ⟨Nat.le_refl _, Nat.le_refl _⟩ (fun r14 H locs p15r M => ?_)
  have p15 : r14.toInt = nsI (I11 (gr g a0 0) 4).toInt (I11 (J.1 a0 6) 1).toInt (I11 (J.1 a0 7) 1).toInt := p15r
  refine lv_istore_n (lv' := [(1, .int r14), (0, .ref a0)]) C.1 C.2.1 dX4_checkpoint_30 rfl hl (by decide) rfl (fun ls hl => ?_)
  refine lv_aload_n C.1 C.2.1 dX4_checkpoint_31 rfl (lv_at hl 1 rfl) ?_
  refine gk_X4_77 C M h0_ ((f12 a0 9 (Or.inr (by decide))).trans ((f9 a0 9 (Or.inr (by decide))).trans k7)) dX4_checkpoint_32 ?_
  refine lv_iload_n C.1 C.2.1 dX4_checkpoint_35 rfl (lv_at hl 0 rfl) ?_
  refine n_icmp_lt C (tgt := 65) dX4_checkpoint_36 (by decide) rfl rfl (fun q16 => ?_) (fun q16 => ?_)
  ·
    have rh17 : RHs g I11 J := rh_of hR M.2.2.2.2.2.1 hQ0 M.2.2.2.2.2.2.2 h0_ (fun b hb => F b 3 1 hb (by decide) (by decide)) (fun b hb hn => ((f12 b 9 (Or.inr (by decide))).trans ((f9 b 9 (Or.inr (by decide))).trans ((f6 b 9 (Or.inl hn)).trans rfl)))) (fun b hb hn => ((f12 b 4 (Or.inl (is_ne h0_ hb (by decide)))).trans ((f9 b 4 (Or.inl (is_ne h0_ hb (by decide)))).trans ((f6 b 4 (Or.inl (is_ne h0_ hb (by decide)))).trans rfl)))) (fun b hn => ⟨rfl, rfl⟩) (by first | exact rh_zero M h0_ ((f12 a0 9 (Or.inr (by decide))).trans ((f9 a0 9 (Or.inr (by decide))).trans k7)) rfl | (unfold RH; rw [((f12 a0 9 (Or.inr (by decide))).trans ((f9 a0 9 (Or.inr (by decide))).trans k7))]; omega))
    refine lv_aload_n C.1 C.2.1 dX4_checkpoint_65 rfl (lv_at hl 1 rfl) ?_
    refine k_PV C M h0_ (by decide) rfl (ct_X4_planBatch l g I11 J a0 h0_ rh17) (cw_X4_112 C.2.2.2.2 (by decide)) rfl hl.1 rfl (Nat.le_of_ble_eq_true rfl) dX4_checkpoint_66 ⟨Nat.le_refl _, Nat.le_refl _⟩ (fun I18 J19 H locs G20 p21r M => ?_)
    obtain ⟨eJ19, p21⟩ : J19 = J ∧ (True) := p21r
    have eJ19 := eJ19.symm
    subst eJ19
    have F := fr_call F G20 (by decide)
    exact r_PV C M hr hlk F ⟨hj2, ⟨trivial, (rh_fr M.2.2.2.2.2.1 M.2.2.2.2.2.2.2 G20 (by decide) rh17)⟩⟩ dX4_checkpoint_69
  ·
    refine lv_aload_n C.1 C.2.1 dX4_checkpoint_39 rfl (lv_at hl 1 rfl) ?_
    refine gi_X4_12 C M h0_ dX4_checkpoint_40 (fun h22 => ?_)
    refine lv_iload_n C.1 C.2.1 dX4_checkpoint_43 rfl (lv_at hl 0 rfl) ?_
    refine k_PV C M h22 (by decide) rfl (ct_X3_clearRowsFrom l g I11 J (gr g a0 0) r14 h22) (cw_X4_240 C.2.2.2.2 (by decide)) rfl hl.1 rfl (Nat.le_of_ble_eq_true rfl) dX4_checkpoint_44 ⟨Nat.le_refl _, Nat.le_refl _⟩ (fun I23 J24 H locs G25 p26r M => ?_)
    obtain ⟨eJ24, p26⟩ : J24 = J ∧ (True) := p26r
    have eJ24 := eJ24.symm
    subst eJ24
    have F := fr_call F G25 (by decide)
    refine lv_aload_n C.1 C.2.1 dX4_checkpoint_47 rfl (lv_at hl 1 rfl) ?_
    refine lv_aload_n C.1 C.2.1 dX4_checkpoint_48 rfl (lv_at hl 1 rfl) ?_
    refine gi_X4_70 C M h0_ dX4_checkpoint_49 (fun b27 kb27 h28 => ?_)
    refine m_putq C M h0_ 6 (by decide) fl_X4_66 h28 dX4_checkpoint_52 (fun H locs J29 k31 f30 ej32 M => ?_)
    have hj2 : J29.2 = J.2 := ej32.trans hj2
    refine lv_aload_n C.1 C.2.1 dX4_checkpoint_55 rfl (lv_at hl 1 rfl) ?_
    refine lv_iconst (v := 0) C.1 C.2.1 dX4_checkpoint_56 (by decide) ?_
    refine pi_X4_73 C M (X := 0) h0_ dX4_checkpoint_57 rfl (by omega) (by omega) (fun H locs I33 k35 f34 M => ?_)
    have F := fr_put F h0_ (Or.inr (by decide)) f34
    refine lv_aload_n C.1 C.2.1 dX4_checkpoint_60 rfl (lv_at hl 1 rfl) ?_
    refine lv_iconst (v := 0) C.1 C.2.1 dX4_checkpoint_61 (by decide) ?_
    refine pi_X4_77 C M (X := 0) h0_ dX4_checkpoint_62 rfl (by omega) (by omega) (fun H locs I36 k38 f37 M => ?_)
    have F := fr_put F h0_ (Or.inr (by decide)) f37
    have rh39 : RHs g I36 J29 := rh_of hR M.2.2.2.2.2.1 hQ0 M.2.2.2.2.2.2.2 h0_ (fun b hb => F b 3 1 hb (by decide) (by decide)) (fun b hb hn => ((f37 b 9 (Or.inl hn)).trans ((f34 b 9 (Or.inr (by decide))).trans ((G25 b 2 9 hb (by decide) (by decide)).trans ((f12 b 9 (Or.inr (by decide))).trans ((f9 b 9 (Or.inr (by decide))).trans ((f6 b 9 (Or.inl hn)).trans rfl))))))) (fun b hb hn => ((f37 b 4 (Or.inl (is_ne h0_ hb (by decide)))).trans ((f34 b 4 (Or.inl (is_ne h0_ hb (by decide)))).trans ((G25 b 1 4 hb (by decide) (by decide)).trans ((f12 b 4 (Or.inl (is_ne h0_ hb (by decide)))).trans ((f9 b 4 (Or.inl (is_ne h0_ hb (by decide)))).trans ((f6 b 4 (Or.inl (is_ne h0_ hb (by decide)))).trans rfl))))))) (fun b hn => ⟨((f30 b 6 (Or.inl hn)).trans rfl), ((f30 b 7 (Or.inl hn)).trans rfl)⟩) (by first | exact rh_zero M h0_ k38 rfl | (unfold RH; rw [k38]; omega))
    refine lv_aload_n C.1 C.2.1 dX4_checkpoint_65 rfl (lv_at hl 1 rfl) ?_
    refine k_PV C M h0_ (by decide) rfl (ct_X4_planBatch l g I36 J29 a0 h0_ rh39) (cw_X4_112 C.2.2.2.2 (by decide)) rfl hl.1 rfl (Nat.le_of_ble_eq_true rfl) dX4_checkpoint_66 ⟨Nat.le_refl _, Nat.le_refl _⟩ (fun I40 J41 H locs G42 p43r M => ?_)
    obtain ⟨eJ41, p43⟩ : J41 = J29 ∧ (True) := p43r
    have eJ41 := eJ41.symm
    subst eJ41
    have F := fr_call F G42 (by decide)
    exact r_PV C M hr hlk F ⟨hj2, ⟨trivial, (rh_fr M.2.2.2.2.2.1 M.2.2.2.2.2.2.2 G42 (by decide) rh39)⟩⟩ dX4_checkpoint_69

abbrev md_X4_goOneStep : List (Nat × Nat) := [(0, 1), (0, 2), (0, 3), (0, 4), (0, 5), (0, 6), (0, 7), (2, 9), (2, 10), (2, 12), (2, 13), (2, 17), (16, 0), (17, 0), (18, 0), (21, 0)]
set_option maxHeartbeats 4000000 in
set_option maxRecDepth 100000 in
theorem ct_X4_goOneStep (l : Launch) (g : Gs) (I : Ms) (J : Js) (a0 : Nat) (h0_ : Is g a0 2) (hR : RHs g I J) : Ctr l yX4_goOneStep cX4_goOneStep 2 (Option.none : Option Jvm.ClassFile.FieldType) 4 g [.ref a0] I J (PV g md_X4_goOneStep I (fun I1 J1 => J1.2 = J.2 ∧ ((True) ∧ RHs g I1 J1))) := by
  refine m_start (by decide) (Nat.le_of_ble_eq_true rfl) ?_
  intro p e s m args below meth c C hr hlk M ls hl
  have hl : lv_has ls 2 [(0, .ref a0)] := hl
  have C : CallFix p m c cX4_goOneStep 2 s args TB RX4 := C
  have F : Fr g md_X4_goOneStep I I := fr_rf
  have hj2 : J.2 = J.2 := rfl
  have hQ0 := M.2.2.2.2.2.2.2
  refine lv_aload_n C.1 C.2.1 dX4_goOneStep_0 rfl (lv_at hl 0 rfl) ?_
  refine lv_dup C.1 C.2.1 dX4_goOneStep_1 rfl ?_
  refine gi_X4_96 C M h0_ dX4_goOneStep_2 (fun v1 kv1 => ?_)
  refine lv_iconst (v := 1) C.1 C.2.1 dX4_goOneStep_5 (by decide) ?_
  refine n_iaddU C dX4_goOneStep_6 (fun v2 => ?_)
  refine pi_X4_96 C M h0_ dX4_goOneStep_7 (fun H locs I3 k5 f4 M => ?_)
  have F := fr_put F h0_ (Or.inr (by decide)) f4
  refine lv_aload_n C.1 C.2.1 dX4_goOneStep_10 rfl (lv_at hl 0 rfl) ?_
  refine gi_X4_81 C M h0_ dX4_goOneStep_11 (fun v6 kv6 => ?_)
  refine lv_istore_n (lv' := [(1, .int v6), (0, .ref a0)]) C.1 C.2.1 dX4_goOneStep_14 rfl hl (by decide) rfl (fun ls hl => ?_)
  refine lv_aload_n C.1 C.2.1 dX4_goOneStep_15 rfl (lv_at hl 1 rfl) ?_
  refine lv_dup C.1 C.2.1 dX4_goOneStep_16 rfl ?_
  refine gk_X4_81 C M h0_ kv6 dX4_goOneStep_17 ?_
  refine lv_iconst (v := 1) C.1 C.2.1 dX4_goOneStep_20 (by decide) ?_
  refine n_iaddU C dX4_goOneStep_21 (fun v7 => ?_)
  refine pi_X4_81 C M h0_ dX4_goOneStep_22 (fun H locs I8 k10 f9 M => ?_)
  have F := fr_put F h0_ (Or.inr (by decide)) f9
  refine lv_iload_n C.1 C.2.1 dX4_goOneStep_25 rfl (lv_at hl 0 rfl) ?_
  refine lv_aload_n C.1 C.2.1 dX4_goOneStep_26 rfl (lv_at hl 1 rfl) ?_
  refine gi_X4_38 C M h0_ dX4_goOneStep_27 (fun h11 => ?_)
  refine gi_X4_143 C M h11 dX4_goOneStep_30 (fun v12 kv12 tv12 uv12 => ?_)
  refine n_icmp_ge C (tgt := 44) dX4_goOneStep_33 (by decide) rfl rfl (fun q13 => ?_) (fun q13 => ?_)
  ·
    refine lv_iload_n C.1 C.2.1 dX4_goOneStep_44 rfl (lv_at hl 0 rfl) ?_
    refine lv_aload_n C.1 C.2.1 dX4_goOneStep_45 rfl (lv_at hl 1 rfl) ?_
    refine gi_X4_38 C M h0_ dX4_goOneStep_46 (fun h14 => ?_)
    refine gi_X4_207 C M h11 dX4_goOneStep_49 (fun v15 kv15 tv15 uv15 => ?_)
    refine lv_iconst (v := 1) C.1 C.2.1 dX4_goOneStep_52 (by decide) ?_
    refine n_isub C (Y := 1) dX4_goOneStep_53 rfl rfl (by omega) (by omega) (fun v16 ev16 => ?_)
    refine n_icmp_ne C (tgt := 64) dX4_goOneStep_54 (by decide) rfl rfl (fun q17 => ?_) (fun q17 => ?_)
    ·
      refine lv_iload_n C.1 C.2.1 dX4_goOneStep_64 rfl (lv_at hl 0 rfl) ?_
      refine lv_aload_n C.1 C.2.1 dX4_goOneStep_65 rfl (lv_at hl 1 rfl) ?_
      refine gi_X4_38 C M h0_ dX4_goOneStep_66 (fun h18 => ?_)
      refine gi_X4_213 C M h11 dX4_goOneStep_69 (fun v19 kv19 tv19 uv19 => ?_)
      refine n_icmp_lt C (tgt := 91) dX4_goOneStep_72 (by decide) rfl rfl (fun q20 => ?_) (fun q20 => ?_)
      ·
        refine lv_iload_n C.1 C.2.1 dX4_goOneStep_91 rfl (lv_at hl 0 rfl) ?_
        refine lv_aload_n C.1 C.2.1 dX4_goOneStep_92 rfl (lv_at hl 1 rfl) ?_
        refine gi_X4_38 C M h0_ dX4_goOneStep_93 (fun h21 => ?_)
        refine gk_X4_213 C M h11 kv19 dX4_goOneStep_96 ?_
        refine lv_iconst (v := 1) C.1 C.2.1 dX4_goOneStep_99 (by decide) ?_
        refine n_isub C (Y := 1) dX4_goOneStep_100 rfl rfl (by omega) (by omega) (fun v22 ev22 => ?_)
        refine n_icmp_ne C (tgt := 109) dX4_goOneStep_101 (by decide) rfl rfl (fun q23 => ?_) (fun q23 => ?_)
        ·
          exact r_PV C M hr hlk F ⟨hj2, ⟨trivial, (rh_put M.2.2.2.2.2.1 M.2.2.2.2.2.2.2 h0_ f9 ⟨Or.inr (by decide), Or.inl (by decide), by decide⟩ (rh_put M.2.2.2.2.2.1 M.2.2.2.2.2.2.2 h0_ f4 ⟨Or.inr (by decide), Or.inl (by decide), by decide⟩ hR))⟩⟩ dX4_goOneStep_109
        ·
          refine lv_aload_n C.1 C.2.1 dX4_goOneStep_104 rfl (lv_at hl 1 rfl) ?_
          refine lv_iconst (v := 1) C.1 C.2.1 dX4_goOneStep_105 (by decide) ?_
          refine pi_X4_84 C M (X := 1) h0_ dX4_goOneStep_106 rfl (by omega) (by omega) (fun H locs I24 k26 f25 M => ?_)
          have F := fr_put F h0_ (Or.inr (by decide)) f25
          exact r_PV C M hr hlk F ⟨hj2, ⟨trivial, (rh_put M.2.2.2.2.2.1 M.2.2.2.2.2.2.2 h0_ f25 ⟨Or.inr (by decide), Or.inl (by decide), by decide⟩ (rh_put M.2.2.2.2.2.1 M.2.2.2.2.2.2.2 h0_ f9 ⟨Or.inr (by decide), Or.inl (by decide), by decide⟩ (rh_put M.2.2.2.2.2.1 M.2.2.2.2.2.2.2 h0_ f4 ⟨Or.inr (by decide), Or.inl (by decide), by decide⟩ hR)))⟩⟩ dX4_goOneStep_109
      ·
        refine lv_aload_n C.1 C.2.1 dX4_goOneStep_75 rfl (lv_at hl 1 rfl) ?_
        refine lv_iload_n C.1 C.2.1 dX4_goOneStep_76 rfl (lv_at hl 0 rfl) ?_
        refine lv_aload_n C.1 C.2.1 dX4_goOneStep_77 rfl (lv_at hl 1 rfl) ?_
        refine gi_X4_38 C M h0_ dX4_goOneStep_78 (fun h27 => ?_)
        refine gk_X4_213 C M h11 kv19 dX4_goOneStep_81 ?_
        refine n_isubU C dX4_goOneStep_84 (fun v28 => ?_)
        refine k_PV C M h0_ (by decide) rfl (ct_X4_writeNext l g I8 J a0 v28 h0_) (cw_X4_216 C.2.2.2.2 (by decide)) rfl hl.1 rfl (Nat.le_of_ble_eq_true rfl) dX4_goOneStep_85 ⟨Nat.le_refl _, Nat.le_refl _⟩ (fun I29 J30 H locs G31 p32r M => ?_)
        obtain ⟨eJ30, p32⟩ : J30 = J ∧ (True) := p32r
        have eJ30 := eJ30.symm
        subst eJ30
        have F := fr_call F G31 (by decide)
        refine lv_goto (tgt := 109) C.1 C.2.1 dX4_goOneStep_88 (by decide) ?_
        exact r_PV C M hr hlk F ⟨hj2, ⟨trivial, (rh_fr M.2.2.2.2.2.1 M.2.2.2.2.2.2.2 G31 (by decide) (rh_put M.2.2.2.2.2.1 M.2.2.2.2.2.2.2 h0_ f9 ⟨Or.inr (by decide), Or.inl (by decide), by decide⟩ (rh_put M.2.2.2.2.2.1 M.2.2.2.2.2.2.2 h0_ f4 ⟨Or.inr (by decide), Or.inl (by decide), by decide⟩ hR)))⟩⟩ dX4_goOneStep_109
    ·
      refine lv_aload_n C.1 C.2.1 dX4_goOneStep_57 rfl (lv_at hl 1 rfl) ?_
      refine k_PV C M h0_ (by decide) rfl (ct_X4_checkpoint l g I8 J a0 h0_ (rh_put M.2.2.2.2.2.1 M.2.2.2.2.2.2.2 h0_ f9 ⟨Or.inr (by decide), Or.inl (by decide), by decide⟩ (rh_put M.2.2.2.2.2.1 M.2.2.2.2.2.2.2 h0_ f4 ⟨Or.inr (by decide), Or.inl (by decide), by decide⟩ hR))) (cw_X4_210 C.2.2.2.2 (by decide)) rfl hl.1 rfl (Nat.le_of_ble_eq_true rfl) dX4_goOneStep_58 ⟨Nat.le_refl _, Nat.le_refl _⟩ (fun I33 J34 H locs G35 p36r M => ?_)
      obtain ⟨eJ34, ⟨p36, rh37⟩⟩ : J34.2 = J.2 ∧ ((True) ∧ RHs g I33 J34) := p36r
      have hj2 : J34.2 = J.2 := eJ34.trans hj2
      have F := fr_call F G35 (by decide)
      refine lv_goto (tgt := 109) C.1 C.2.1 dX4_goOneStep_61 (by decide) ?_
      exact r_PV C M hr hlk F ⟨hj2, ⟨trivial, rh37⟩⟩ dX4_goOneStep_109
  ·
    refine lv_aload_n C.1 C.2.1 dX4_goOneStep_36 rfl (lv_at hl 1 rfl) ?_
    refine lv_iload_n C.1 C.2.1 dX4_goOneStep_37 rfl (lv_at hl 0 rfl) ?_
    refine k_PV C M h0_ (by decide) rfl (ct_X4_readNext l g I8 J a0 v6 h0_) (cw_X4_204 C.2.2.2.2 (by decide)) rfl hl.1 rfl (Nat.le_of_ble_eq_true rfl) dX4_goOneStep_38 ⟨Nat.le_refl _, Nat.le_refl _⟩ (fun I38 J39 H locs G40 p41r M => ?_)
    obtain ⟨eJ39, p41⟩ : J39 = J ∧ (True) := p41r
    have eJ39 := eJ39.symm
    subst eJ39
    have F := fr_call F G40 (by decide)
    refine lv_goto (tgt := 109) C.1 C.2.1 dX4_goOneStep_41 (by decide) ?_
    exact r_PV C M hr hlk F ⟨hj2, ⟨trivial, (rh_fr M.2.2.2.2.2.1 M.2.2.2.2.2.2.2 G40 (by decide) (rh_put M.2.2.2.2.2.1 M.2.2.2.2.2.2.2 h0_ f9 ⟨Or.inr (by decide), Or.inl (by decide), by decide⟩ (rh_put M.2.2.2.2.2.1 M.2.2.2.2.2.2.2 h0_ f4 ⟨Or.inr (by decide), Or.inl (by decide), by decide⟩ hR)))⟩⟩ dX4_goOneStep_109

abbrev md_X4_goSteps : List (Nat × Nat) := [(0, 1), (0, 2), (0, 3), (0, 4), (0, 5), (0, 6), (0, 7), (2, 9), (2, 10), (2, 12), (2, 13), (2, 17), (16, 0), (17, 0), (18, 0), (21, 0)]
set_option maxHeartbeats 4000000 in
set_option maxRecDepth 100000 in
theorem ct_X4_goSteps (l : Launch) (g : Gs) (I : Ms) (J : Js) (a0 : Nat) (x1 : Int32) (h0_ : Is g a0 2) (hR : RHs g I J) : Ctr l yX4_goSteps cX4_goSteps 3 (Option.some Jvm.ClassFile.FieldType.int) 5 g [.ref a0, .int x1] I J (PM g md_X4_goSteps I (fun z I1 J1 => J1.2 = J.2 ∧ ((True) ∧ RHs g I1 J1))) := by
  refine m_start (by decide) (Nat.le_of_ble_eq_true rfl) ?_
  intro p e s m args below meth c C hr hlk M ls hl
  have hl : lv_has ls 3 [(0, .ref a0), (1, .int x1)] := hl
  have C : CallFix p m c cX4_goSteps 3 s args TB RX4 := C
  have F : Fr g md_X4_goSteps I I := fr_rf
  have hj2 : J.2 = J.2 := rfl
  have hQ0 := M.2.2.2.2.2.2.2
  refine lv_iload_n C.1 C.2.1 dX4_goSteps_0 rfl (lv_at hl 1 rfl) ?_
  refine lv_iconst (v := 1) C.1 C.2.1 dX4_goSteps_1 (by decide) ?_
  refine n_icmp_lt C (tgt := 19) (Y := 1) dX4_goSteps_2 (by decide) rfl rfl (fun q1 => ?_) (fun q1 => ?_)
  ·
    refine lv_iconst (v := -1) C.1 C.2.1 dX4_goSteps_19 (by decide) ?_
    exact r_PM C M (z := (-1)) hr hlk F rfl ⟨hj2, ⟨trivial, hR⟩⟩ dX4_goSteps_20
  ·
    refine lv_iload_n C.1 C.2.1 dX4_goSteps_5 rfl (lv_at hl 1 rfl) ?_
    refine lv_sipush (v := 400) C.1 C.2.1 dX4_goSteps_6 (by decide) ?_
    refine n_icmp_gt C (tgt := 19) (Y := 400) dX4_goSteps_9 (by decide) rfl rfl (fun q2 => ?_) (fun q2 => ?_)
    ·
      refine lv_iconst (v := -1) C.1 C.2.1 dX4_goSteps_19 (by decide) ?_
      exact r_PM C M (z := (-1)) hr hlk F rfl ⟨hj2, ⟨trivial, hR⟩⟩ dX4_goSteps_20
    ·
      refine lv_aload_n C.1 C.2.1 dX4_goSteps_12 rfl (lv_at hl 0 rfl) ?_
      refine gi_X4_73 C M h0_ dX4_goSteps_13 (fun v3 kv3 tv3 uv3 => ?_)
      refine n_if_ne C (tgt := 21) dX4_goSteps_16 (by decide) rfl (fun q4 => ?_) (fun q4 => ?_)
      ·
        refine lv_iconst (v := 0) C.1 C.2.1 dX4_goSteps_21 (by decide) ?_
        refine lv_istore_n (lv' := [(2, .int 0), (0, .ref a0), (1, .int x1)]) C.1 C.2.1 dX4_goSteps_22 rfl hl (by decide) rfl (fun ls hl => ?_)
        have L23 : ∀ (n23 : Nat) (y5 : Int32) (I6 : Ms) (J7 : Js) (H : Heap) (locs : List Loc) (ls : Array Slot), RHs g I6 J7 → J7.2 = J.2 → 0 ≤ y5.toInt → y5.toInt ≤ 400 → 400 - y5.toInt < (n23 : Int) → Fr g md_X4_goSteps I I6 → Mm g s I6 J7 H locs → lv_has ls 3 [(0, .ref a0), (1, .int x1), (2, .int y5)] → W p l e (rmL 5) s m args below meth c H locs 0 0 (MQg below g (PM g md_X4_goSteps I (fun z I1 J1 => J1.2 = J.2 ∧ ((True) ∧ RHs g I1 J1))) args s) (F0 m 23 ls []) := by
          intro n23
          induction n23 with
          | zero =>
            intro y5 I6 J7 H locs ls rh8 hj2 f9 f10 hm23 F M hl
            exact absurd hm23 (by omega)
          | succ n23 ih23 =>
            intro y5 I6 J7 H locs ls rh8 hj2 f9 f10 hm23 F M hl
            refine lv_iload_n C.1 C.2.1 dX4_goSteps_23 rfl (lv_at hl 2 rfl) ?_
            refine lv_iload_n C.1 C.2.1 dX4_goSteps_24 rfl (lv_at hl 1 rfl) ?_
            refine n_icmp_ge C (tgt := 54) dX4_goSteps_25 (by decide) rfl rfl (fun q11 => ?_) (fun q11 => ?_)
            ·
              refine lv_iload_n C.1 C.2.1 dX4_goSteps_54 rfl (lv_at hl 1 rfl) ?_
              exact r_PM C M hr hlk F rfl ⟨hj2, ⟨trivial, rh8⟩⟩ dX4_goSteps_55
            ·
              refine lv_aload_n C.1 C.2.1 dX4_goSteps_28 rfl (lv_at hl 0 rfl) ?_
              refine gi_X4_73 C M h0_ dX4_goSteps_29 (fun v12 kv12 tv12 uv12 => ?_)
              refine n_if_eq C (tgt := 42) dX4_goSteps_32 (by decide) rfl (fun q13 => ?_) (fun q13 => ?_)
              ·
                refine lv_iload_n C.1 C.2.1 dX4_goSteps_42 rfl (lv_at hl 2 rfl) ?_
                exact r_PM C M hr hlk F rfl ⟨hj2, ⟨trivial, rh8⟩⟩ dX4_goSteps_43
              ·
                refine lv_aload_n C.1 C.2.1 dX4_goSteps_35 rfl (lv_at hl 0 rfl) ?_
                refine k_PI C M h0_ (by decide) rfl (ct_X4_isStuck l g I6 J7 a0 h0_) (cw_X4_198 C.2.2.2.2 (by decide)) rfl hl.1 rfl (Nat.le_of_ble_eq_true rfl) dX4_goSteps_36 ⟨Nat.le_refl _, Nat.le_refl _⟩ (fun r14 H locs p15r M => ?_)
                have p15 : 0 ≤ r14.toInt ∧ r14.toInt ≤ 1 := p15r
                refine n_if_eq C (tgt := 44) dX4_goSteps_39 (by decide) rfl (fun q16 => ?_) (fun q16 => ?_)
                ·
                  refine lv_aload_n C.1 C.2.1 dX4_goSteps_44 rfl (lv_at hl 0 rfl) ?_
                  refine k_PV C M h0_ (by decide) rfl (ct_X4_goOneStep l g I6 J7 a0 h0_ rh8) (cw_X4_201 C.2.2.2.2 (by decide)) rfl hl.1 rfl (Nat.le_of_ble_eq_true rfl) dX4_goSteps_45 ⟨Nat.le_refl _, Nat.le_refl _⟩ (fun I17 J18 H locs G19 p20r M => ?_)
                  obtain ⟨eJ18, ⟨p20, rh21⟩⟩ : J18.2 = J7.2 ∧ ((True) ∧ RHs g I17 J18) := p20r
                  have hj2 : J18.2 = J.2 := eJ18.trans hj2
                  have F := fr_call F G19 (by decide)
                  refine n_iinc C (k := 2) (N := 1) (lv' := fun v => [(2, .int v), (0, .ref a0), (1, .int x1)]) dX4_goSteps_48 hl rfl (by decide) rfl rfl (by omega) (by omega) (fun _ => rfl) (fun v22 ls ev22 hl => ?_)
                  refine lv_goto (tgt := 23) C.1 C.2.1 dX4_goSteps_51 (by decide) ?_
                  exact ih23 v22 I17 J18 _ _ _ rh21 hj2 (by omega) (by omega) (by omega) F M (lv_sub hl [1, 2, 0] rfl)
                ·
                  refine lv_iload_n C.1 C.2.1 dX4_goSteps_42 rfl (lv_at hl 2 rfl) ?_
                  exact r_PM C M hr hlk F rfl ⟨hj2, ⟨trivial, rh8⟩⟩ dX4_goSteps_43
        have cz23 : (0 : Int32).toInt = 0 := rfl
        exact L23 _ 0 I J _ _ _ hR hj2 (by omega) (by omega) (n_big _) F M (lv_sub hl [1, 2, 0] rfl)
      ·
        refine lv_iconst (v := -1) C.1 C.2.1 dX4_goSteps_19 (by decide) ?_
        exact r_PM C M (z := (-1)) hr hlk F rfl ⟨hj2, ⟨trivial, hR⟩⟩ dX4_goSteps_20

abbrev md_X4_fallOver : List (Nat × Nat) := [(2, 12), (4, 2)]
set_option maxHeartbeats 4000000 in
set_option maxRecDepth 100000 in
theorem ct_X4_fallOver (l : Launch) (g : Gs) (I : Ms) (J : Js) (a0 : Nat) (h0_ : Is g a0 2) : Ctr l yX4_fallOver cX4_fallOver 1 (Option.some Jvm.ClassFile.FieldType.boolean) 1 g [.ref a0] I J (PM g md_X4_fallOver I (fun z I1 J1 => J1 = J ∧ (0 ≤ z ∧ z ≤ 1))) := by
  refine m_start (by decide) (Nat.le_of_ble_eq_true rfl) ?_
  intro p e s m args below meth c C hr hlk M ls hl
  have hl : lv_has ls 1 [(0, .ref a0)] := hl
  have C : CallFix p m c cX4_fallOver 1 s args TB RX4 := C
  have F : Fr g md_X4_fallOver I I := fr_rf
  refine lv_aload_n C.1 C.2.1 dX4_fallOver_0 rfl (lv_at hl 0 rfl) ?_
  refine gi_X4_73 C M h0_ dX4_fallOver_1 (fun v1 kv1 tv1 uv1 => ?_)
  refine n_if_ne C (tgt := 9) dX4_fallOver_4 (by decide) rfl (fun q2 => ?_) (fun q2 => ?_)
  ·
    refine lv_aload_n C.1 C.2.1 dX4_fallOver_9 rfl (lv_at hl 0 rfl) ?_
    refine gi_X4_21 C M h0_ dX4_fallOver_10 (fun h3 => ?_)
    refine lv_iconst (v := 0) C.1 C.2.1 dX4_fallOver_13 (by decide) ?_
    refine pi_X4_55 C M (X := 0) h3 dX4_fallOver_14 rfl (by omega) (by omega) (fun H locs I4 k6 f5 M => ?_)
    have F := fr_put F h3 (Or.inr (by decide)) f5
    refine lv_aload_n C.1 C.2.1 dX4_fallOver_17 rfl (lv_at hl 0 rfl) ?_
    refine lv_aload_n C.1 C.2.1 dX4_fallOver_18 rfl (lv_at hl 0 rfl) ?_
    refine gi_X4_84 C M h0_ dX4_fallOver_19 (fun v7 kv7 tv7 uv7 => ?_)
    refine n_if_eq C (tgt := 35) dX4_fallOver_22 (by decide) rfl (fun q8 => ?_) (fun q8 => ?_)
    ·
      refine lv_iconst (v := 0) C.1 C.2.1 dX4_fallOver_35 (by decide) ?_
      refine pi_X4_81 C M h0_ dX4_fallOver_36 (fun H locs I9 k11 f10 M => ?_)
      have F := fr_put F h0_ (Or.inr (by decide)) f10
      refine lv_iconst (v := 1) C.1 C.2.1 dX4_fallOver_39 (by decide) ?_
      exact r_PMz C M (z := 1) hr hlk F rfl (by omega) (by omega) ⟨rfl, (by omega)⟩ dX4_fallOver_40
    ·
      refine lv_aload_n C.1 C.2.1 dX4_fallOver_25 rfl (lv_at hl 0 rfl) ?_
      refine gi_X4_38 C M h0_ dX4_fallOver_26 (fun h12 => ?_)
      refine gi_X4_213 C M h12 dX4_fallOver_29 (fun v13 kv13 tv13 uv13 => ?_)
      refine lv_goto (tgt := 36) C.1 C.2.1 dX4_fallOver_32 (by decide) ?_
      refine pi_X4_81 C M h0_ dX4_fallOver_36 (fun H locs I14 k16 f15 M => ?_)
      have F := fr_put F h0_ (Or.inr (by decide)) f15
      refine lv_iconst (v := 1) C.1 C.2.1 dX4_fallOver_39 (by decide) ?_
      exact r_PMz C M (z := 1) hr hlk F rfl (by omega) (by omega) ⟨rfl, (by omega)⟩ dX4_fallOver_40
  ·
    refine lv_iconst (v := 0) C.1 C.2.1 dX4_fallOver_7 (by decide) ?_
    exact r_PMz C M (z := 0) hr hlk F rfl (by omega) (by omega) ⟨rfl, (by omega)⟩ dX4_fallOver_8

abbrev md_X4_replaceLost : List (Nat × Nat) := [(1, 6), (16, 0), (17, 0)]
set_option maxHeartbeats 4000000 in
set_option maxRecDepth 100000 in
theorem ct_X4_replaceLost (l : Launch) (g : Gs) (I : Ms) (J : Js) (a0 : Nat) (h0_ : Is g a0 2) : Ctr l yX4_replaceLost cX4_replaceLost 3 (Option.some Jvm.ClassFile.FieldType.int) 3 g [.ref a0] I J (PM g md_X4_replaceLost I (fun z I1 J1 => J1 = J ∧ (True))) := by
  refine m_start (by decide) (Nat.le_of_ble_eq_true rfl) ?_
  intro p e s m args below meth c C hr hlk M ls hl
  have hl : lv_has ls 3 [(0, .ref a0)] := hl
  have C : CallFix p m c cX4_replaceLost 3 s args TB RX4 := C
  have F : Fr g md_X4_replaceLost I I := fr_rf
  refine lv_aload_n C.1 C.2.1 dX4_replaceLost_0 rfl (lv_at hl 0 rfl) ?_
  refine gi_X4_12 C M h0_ dX4_replaceLost_1 (fun h1 => ?_)
  refine gi_X4_189 C M h1 dX4_replaceLost_4 (fun v2 kv2 tv2 uv2 => ?_)
  refine lv_iconst (v := -1) C.1 C.2.1 dX4_replaceLost_7 (by decide) ?_
  refine n_icmp_eq C (tgt := 18) (Y := (-1)) dX4_replaceLost_8 (by decide) rfl rfl (fun q3 => ?_) (fun q3 => ?_)
  ·
    refine lv_iconst (v := -1) C.1 C.2.1 dX4_replaceLost_18 (by decide) ?_
    exact r_PM C M (z := (-1)) hr hlk F rfl ⟨rfl, trivial⟩ dX4_replaceLost_19
  ·
    refine lv_aload_n C.1 C.2.1 dX4_replaceLost_11 rfl (lv_at hl 0 rfl) ?_
    refine k_PI C M h0_ (by decide) rfl (ct_X4_anyMoving l g I J a0 h0_) (cw_X4_129 C.2.2.2.2 (by decide)) rfl hl.1 rfl (Nat.le_of_ble_eq_true rfl) dX4_replaceLost_12 ⟨Nat.le_refl _, Nat.le_refl _⟩ (fun r4 H locs p5r M => ?_)
    have p5 : 0 ≤ r4.toInt ∧ r4.toInt ≤ 1 := p5r
    refine n_if_eq C (tgt := 20) dX4_replaceLost_15 (by decide) rfl (fun q6 => ?_) (fun q6 => ?_)
    ·
      refine lv_iconst (v := 0) C.1 C.2.1 dX4_replaceLost_20 (by decide) ?_
      refine lv_istore_n (lv' := [(1, .int 0), (0, .ref a0)]) C.1 C.2.1 dX4_replaceLost_21 rfl hl (by decide) rfl (fun ls hl => ?_)
      refine lv_iconst (v := 0) C.1 C.2.1 dX4_replaceLost_22 (by decide) ?_
      refine lv_istore_n (lv' := [(2, .int 0), (1, .int 0), (0, .ref a0)]) C.1 C.2.1 dX4_replaceLost_23 rfl hl (by decide) rfl (fun ls hl => ?_)
      have L24 : ∀ (n24 : Nat) (y7 : Int32) (y8 : Int32) (I9 : Ms) (H : Heap) (locs : List Loc) (ls : Array Slot), I9 (gr g a0 0) 5 = v2 → 0 ≤ y8.toInt → y8.toInt ≤ 40 → 40 - y8.toInt < (n24 : Int) → Fr g md_X4_replaceLost I I9 → Mm g s I9 J H locs → lv_has ls 3 [(0, .ref a0), (1, .int y7), (2, .int y8)] → W p l e (rmL 3) s m args below meth c H locs 0 0 (MQg below g (PM g md_X4_replaceLost I (fun z I1 J1 => J1 = J ∧ (True))) args s) (F0 m 24 ls []) := by
        intro n24
        induction n24 with
        | zero =>
          intro y7 y8 I9 H locs ls k10 f11 f12 hm24 F M hl
          exact absurd hm24 (by omega)
        | succ n24 ih24 =>
          intro y7 y8 I9 H locs ls k10 f11 f12 hm24 F M hl
          refine lv_iload_n C.1 C.2.1 dX4_replaceLost_24 rfl (lv_at hl 2 rfl) ?_
          refine lv_aload_n C.1 C.2.1 dX4_replaceLost_25 rfl (lv_at hl 0 rfl) ?_
          refine gi_X4_12 C M h0_ dX4_replaceLost_26 (fun h13 => ?_)
          refine gi_X4_115 C M h1 dX4_replaceLost_29 (fun v14 kv14 tv14 uv14 => ?_)
          refine n_icmp_ge C (tgt := 60) dX4_replaceLost_32 (by decide) rfl rfl (fun q15 => ?_) (fun q15 => ?_)
          ·
            refine lv_aload_n C.1 C.2.1 dX4_replaceLost_60 rfl (lv_at hl 0 rfl) ?_
            refine gi_X4_12 C M h0_ dX4_replaceLost_61 (fun h16 => ?_)
            refine lv_iconst (v := -1) C.1 C.2.1 dX4_replaceLost_64 (by decide) ?_
            refine pi_X4_189 C M (X := (-1)) h1 dX4_replaceLost_65 rfl (by omega) (by omega) (fun H locs I17 k19 f18 M => ?_)
            have F := fr_put F h1 (Or.inr (by decide)) f18
            refine lv_iload_n C.1 C.2.1 dX4_replaceLost_68 rfl (lv_at hl 1 rfl) ?_
            exact r_PM C M hr hlk F rfl ⟨rfl, trivial⟩ dX4_replaceLost_69
          ·
            refine lv_aload_n C.1 C.2.1 dX4_replaceLost_35 rfl (lv_at hl 0 rfl) ?_
            refine gi_X4_12 C M h0_ dX4_replaceLost_36 (fun h20 => ?_)
            refine lv_aload_n C.1 C.2.1 dX4_replaceLost_39 rfl (lv_at hl 0 rfl) ?_
            refine lv_iload_n C.1 C.2.1 dX4_replaceLost_40 rfl (lv_at hl 2 rfl) ?_
            refine k_PR C M h0_ (by decide) rfl (ct_X4_layoutOfRow l g I9 J a0 y8 h0_) (cw_X4_243 C.2.2.2.2 (by decide)) rfl hl.1 rfl (Nat.le_of_ble_eq_true rfl) dX4_replaceLost_41 ⟨Nat.le_refl _, Nat.le_refl _⟩ (fun b21 H locs h22 p23r M => ?_)
            have p23 : True := p23r
            refine lv_iload_n C.1 C.2.1 dX4_replaceLost_44 rfl (lv_at hl 2 rfl) ?_
            refine k_PM C M h1 (by decide) rfl (ct_X3_rebuild l g I9 J (gr g a0 0) b21 y8 h1 h22) (cw_X4_246 C.2.2.2.2 (by decide)) rfl hl.1 rfl (Nat.le_of_ble_eq_true rfl) dX4_replaceLost_45 ⟨Nat.le_refl _, Nat.le_refl _⟩ (fun r28 I24 J25 H locs G26 p27r M => ?_)
            obtain ⟨eJ25, p27⟩ : J25 = J ∧ (0 ≤ r28.toInt ∧ r28.toInt ≤ 1) := p27r
            have eJ25 := eJ25.symm
            subst eJ25
            have F := fr_call F G26 (by decide)
            refine n_if_ne C (tgt := 54) dX4_replaceLost_48 (by decide) rfl (fun q29 => ?_) (fun q29 => ?_)
            ·
              refine n_iinc C (k := 2) (N := 1) (lv' := fun v => [(2, .int v), (0, .ref a0), (1, .int y7)]) dX4_replaceLost_54 hl rfl (by decide) rfl rfl (by omega) (by omega) (fun _ => rfl) (fun v30 ls ev30 hl => ?_)
              refine lv_goto (tgt := 24) C.1 C.2.1 dX4_replaceLost_57 (by decide) ?_
              exact ih24 y7 v30 I24 _ _ _ ((G26 (gr g a0 0) 1 5 h1 (by decide) (by decide)).trans k10) (by omega) (by omega) (by omega) F M (lv_sub hl [1, 2, 0] rfl)
            ·
              refine n_iincU C (k := 1) (lv' := fun v => [(1, .int v), (0, .ref a0), (2, .int y8)]) dX4_replaceLost_51 hl rfl (by decide) (fun _ => rfl) (fun v31 ls hl => ?_)
              refine n_iinc C (k := 2) (N := 1) (lv' := fun v => [(2, .int v), (1, .int v31), (0, .ref a0)]) dX4_replaceLost_54 hl rfl (by decide) rfl rfl (by omega) (by omega) (fun _ => rfl) (fun v32 ls ev32 hl => ?_)
              refine lv_goto (tgt := 24) C.1 C.2.1 dX4_replaceLost_57 (by decide) ?_
              exact ih24 v31 v32 I24 _ _ _ ((G26 (gr g a0 0) 1 5 h1 (by decide) (by decide)).trans k10) (by omega) (by omega) (by omega) F M (lv_sub hl [2, 1, 0] rfl)
      have cz33 : (0 : Int32).toInt = 0 := rfl
      have cz34 : (0 : Int32).toInt = 0 := rfl
      exact L24 _ 0 0 I _ _ _ kv2 (by omega) (by omega) (n_big _) F M (lv_sub hl [2, 1, 0] rfl)
    ·
      refine lv_iconst (v := -1) C.1 C.2.1 dX4_replaceLost_18 (by decide) ?_
      exact r_PM C M (z := (-1)) hr hlk F rfl ⟨rfl, trivial⟩ dX4_replaceLost_19

set_option maxHeartbeats 4000000 in
set_option maxRecDepth 100000 in
theorem ct_X4_fateOf (l : Launch) (g : Gs) (I : Ms) (J : Js) (a0 : Nat) (x1 : Int32) (h0_ : Is g a0 2) : Ctr l yX4_fateOf cX4_fateOf 3 (Option.some Jvm.ClassFile.FieldType.int) 5 g [.ref a0, .int x1] I J (PI I J (fun z => True)) := by
  refine m_start (by decide) (Nat.le_of_ble_eq_true rfl) ?_
  intro p e s m args below meth c C hr hlk M ls hl
  have hl : lv_has ls 3 [(0, .ref a0), (1, .int x1)] := hl
  have C : CallFix p m c cX4_fateOf 3 s args TB RX4 := C
  refine lv_aload_n C.1 C.2.1 dX4_fateOf_0 rfl (lv_at hl 0 rfl) ?_
  refine gi_X4_21 C M h0_ dX4_fateOf_1 (fun h1 => ?_)
  refine lv_iload_n C.1 C.2.1 dX4_fateOf_4 rfl (lv_at hl 1 rfl) ?_
  refine lv_iconst (v := 1) C.1 C.2.1 dX4_fateOf_5 (by decide) ?_
  refine k_PI C M h1 (by decide) rfl (ct_X6_part l g I J (gr g a0 1) x1 1 h1) (cw_X4_267 C.2.2.2.2 (by decide)) rfl hl.1 rfl (Nat.le_of_ble_eq_true rfl) dX4_fateOf_6 ⟨Nat.le_refl _, Nat.le_refl _⟩ (fun r2 H locs p3r M => ?_)
  have p3 : True := p3r
  refine lv_istore_n (lv' := [(2, .int r2), (0, .ref a0), (1, .int x1)]) C.1 C.2.1 dX4_fateOf_9 rfl hl (by decide) rfl (fun ls hl => ?_)
  refine lv_aload_n C.1 C.2.1 dX4_fateOf_10 rfl (lv_at hl 1 rfl) ?_
  refine gi_X4_21 C M h0_ dX4_fateOf_11 (fun h4 => ?_)
  refine lv_iload_n C.1 C.2.1 dX4_fateOf_14 rfl (lv_at hl 2 rfl) ?_
  refine lv_iconst (v := 3) C.1 C.2.1 dX4_fateOf_15 (by decide) ?_
  refine k_PI C M h1 (by decide) rfl (ct_X6_part l g I J (gr g a0 1) x1 3 h1) (cw_X4_267 C.2.2.2.2 (by decide)) rfl hl.1 rfl (Nat.le_of_ble_eq_true rfl) dX4_fateOf_16 ⟨Nat.le_refl _, Nat.le_refl _⟩ (fun r5 H locs p6r M => ?_)
  have p6 : True := p6r
  refine n_if_ne C (tgt := 36) dX4_fateOf_19 (by decide) rfl (fun q7 => ?_) (fun q7 => ?_)
  ·
    refine lv_aload_n C.1 C.2.1 dX4_fateOf_36 rfl (lv_at hl 1 rfl) ?_
    refine lv_iload_n C.1 C.2.1 dX4_fateOf_37 rfl (lv_at hl 0 rfl) ?_
    refine k_PI C M h0_ (by decide) rfl (ct_X4_isMoving l g I J a0 r2 h0_) (cw_X4_139 C.2.2.2.2 (by decide)) rfl hl.1 rfl (Nat.le_of_ble_eq_true rfl) dX4_fateOf_38 ⟨Nat.le_refl _, Nat.le_refl _⟩ (fun r8 H locs p9r M => ?_)
    have p9 : 0 ≤ r8.toInt ∧ r8.toInt ≤ 1 ∧ (r8.toInt = 1 → (I (gr g a0 4) 0).toInt ≤ r2.toInt ∧ r2.toInt ≤ 2100) := p9r
    refine n_if_eq C (tgt := 46) dX4_fateOf_41 (by decide) rfl (fun q10 => ?_) (fun q10 => ?_)
    ·
      refine lv_aload_n C.1 C.2.1 dX4_fateOf_46 rfl (lv_at hl 1 rfl) ?_
      refine gi_X4_12 C M h0_ dX4_fateOf_47 (fun h11 => ?_)
      refine lv_aload_n C.1 C.2.1 dX4_fateOf_50 rfl (lv_at hl 1 rfl) ?_
      refine lv_iload_n C.1 C.2.1 dX4_fateOf_51 rfl (lv_at hl 0 rfl) ?_
      refine k_PR C M h0_ (by decide) rfl (ct_X4_layoutAt l g I J a0 r2 h0_) (cw_X4_149 C.2.2.2.2 (by decide)) rfl hl.1 rfl (Nat.le_of_ble_eq_true rfl) dX4_fateOf_52 ⟨Nat.le_refl _, Nat.le_refl _⟩ (fun b12 H locs h13 p14r M => ?_)
      have p14 : True := p14r
      refine lv_iload_n C.1 C.2.1 dX4_fateOf_55 rfl (lv_at hl 0 rfl) ?_
      refine k_PI C M h11 (by decide) rfl (ct_X3_canStore l g I J (gr g a0 0) b12 r2 h11 h13) (cw_X4_174 C.2.2.2.2 (by decide)) rfl hl.1 rfl (Nat.le_of_ble_eq_true rfl) dX4_fateOf_56 ⟨Nat.le_refl _, Nat.le_refl _⟩ (fun r15 H locs p16r M => ?_)
      have p16 : 0 ≤ r15.toInt ∧ r15.toInt ≤ 1 := p16r
      refine n_if_eq C (tgt := 66) dX4_fateOf_59 (by decide) rfl (fun q17 => ?_) (fun q17 => ?_)
      ·
        refine lv_iconst (v := 2) C.1 C.2.1 dX4_fateOf_66 (by decide) ?_
        exact r_PI C M (z := 2) hr hlk rfl trivial dX4_fateOf_67
      ·
        refine lv_iconst (v := 1) C.1 C.2.1 dX4_fateOf_62 (by decide) ?_
        refine lv_goto (tgt := 67) C.1 C.2.1 dX4_fateOf_63 (by decide) ?_
        exact r_PI C M (z := 1) hr hlk rfl trivial dX4_fateOf_67
    ·
      refine lv_iconst (v := 3) C.1 C.2.1 dX4_fateOf_44 (by decide) ?_
      exact r_PI C M (z := 3) hr hlk rfl trivial dX4_fateOf_45
  ·
    refine lv_aload_n C.1 C.2.1 dX4_fateOf_22 rfl (lv_at hl 1 rfl) ?_
    refine lv_iload_n C.1 C.2.1 dX4_fateOf_23 rfl (lv_at hl 0 rfl) ?_
    refine k_PI C M h0_ (by decide) rfl (ct_X4_canRead l g I J a0 r2 h0_) (cw_X4_270 C.2.2.2.2 (by decide)) rfl hl.1 rfl (Nat.le_of_ble_eq_true rfl) dX4_fateOf_24 ⟨Nat.le_refl _, Nat.le_refl _⟩ (fun r18 H locs p19r M => ?_)
    have p19 : 0 ≤ r18.toInt ∧ r18.toInt ≤ 1 := p19r
    refine n_if_eq C (tgt := 34) dX4_fateOf_27 (by decide) rfl (fun q20 => ?_) (fun q20 => ?_)
    ·
      refine lv_iconst (v := 2) C.1 C.2.1 dX4_fateOf_34 (by decide) ?_
      exact r_PI C M (z := 2) hr hlk rfl trivial dX4_fateOf_35
    ·
      refine lv_iconst (v := 0) C.1 C.2.1 dX4_fateOf_30 (by decide) ?_
      refine lv_goto (tgt := 35) C.1 C.2.1 dX4_fateOf_31 (by decide) ?_
      exact r_PI C M (z := 0) hr hlk rfl trivial dX4_fateOf_35

set_option maxHeartbeats 4000000 in
set_option maxRecDepth 100000 in
theorem ct_X4_costOf (l : Launch) (g : Gs) (I : Ms) (J : Js) (a0 : Nat) (x1 : Int32) (x2 : Int32) (h0_ : Is g a0 2) : Ctr l yX4_costOf cX4_costOf 4 (Option.some Jvm.ClassFile.FieldType.int) 4 g [.ref a0, .int x1, .int x2] I J (PI I J (fun z => True)) := by
  refine m_start (by decide) (Nat.le_of_ble_eq_true rfl) ?_
  intro p e s m args below meth c C hr hlk M ls hl
  have hl : lv_has ls 4 [(0, .ref a0), (1, .int x1), (2, .int x2)] := hl
  have C : CallFix p m c cX4_costOf 4 s args TB RX4 := C
  refine lv_iload_n C.1 C.2.1 dX4_costOf_0 rfl (lv_at hl 2 rfl) ?_
  refine lv_iconst (v := 1) C.1 C.2.1 dX4_costOf_1 (by decide) ?_
  refine n_icmp_ne C (tgt := 7) (Y := 1) dX4_costOf_2 (by decide) rfl rfl (fun q1 => ?_) (fun q1 => ?_)
  ·
    refine lv_aload_n C.1 C.2.1 dX4_costOf_7 rfl (lv_at hl 0 rfl) ?_
    refine gi_X4_21 C M h0_ dX4_costOf_8 (fun h2 => ?_)
    refine lv_iload_n C.1 C.2.1 dX4_costOf_11 rfl (lv_at hl 1 rfl) ?_
    refine lv_iconst (v := 1) C.1 C.2.1 dX4_costOf_12 (by decide) ?_
    refine k_PI C M h2 (by decide) rfl (ct_X6_part l g I J (gr g a0 1) x1 1 h2) (cw_X4_267 C.2.2.2.2 (by decide)) rfl hl.1 rfl (Nat.le_of_ble_eq_true rfl) dX4_costOf_13 ⟨Nat.le_refl _, Nat.le_refl _⟩ (fun r3 H locs p4r M => ?_)
    have p4 : True := p4r
    refine lv_istore_n (lv' := [(3, .int r3), (0, .ref a0), (1, .int x1), (2, .int x2)]) C.1 C.2.1 dX4_costOf_16 rfl hl (by decide) rfl (fun ls hl => ?_)
    refine lv_iload_n C.1 C.2.1 dX4_costOf_17 rfl (lv_at hl 3 rfl) ?_
    refine lv_iconst (v := 2) C.1 C.2.1 dX4_costOf_18 (by decide) ?_
    refine n_icmp_eq C (tgt := 30) (Y := 2) dX4_costOf_19 (by decide) rfl rfl (fun q5 => ?_) (fun q5 => ?_)
    ·
      refine lv_iconst (v := 1) C.1 C.2.1 dX4_costOf_30 (by decide) ?_
      refine lv_goto (tgt := 39) C.1 C.2.1 dX4_costOf_31 (by decide) ?_
      exact r_PI C M (z := 1) hr hlk rfl trivial dX4_costOf_39
    ·
      refine lv_aload_n C.1 C.2.1 dX4_costOf_22 rfl (lv_at hl 1 rfl) ?_
      refine lv_iload_n C.1 C.2.1 dX4_costOf_23 rfl (lv_at hl 0 rfl) ?_
      refine k_PI C M h0_ (by decide) rfl (ct_X4_isHeld l g I J a0 r3 h0_) (cw_X4_163 C.2.2.2.2 (by decide)) rfl hl.1 rfl (Nat.le_of_ble_eq_true rfl) dX4_costOf_24 ⟨Nat.le_refl _, Nat.le_refl _⟩ (fun r6 H locs p7r M => ?_)
      have p7 : 0 ≤ r6.toInt ∧ r6.toInt ≤ 1 ∧ (r6.toInt = 1 → (I (gr g a0 4) 0).toInt ≤ r3.toInt ∧ r3.toInt ≤ (I (gr g a0 4) 0).toInt + 23) := p7r
      refine n_if_eq C (tgt := 34) dX4_costOf_27 (by decide) rfl (fun q8 => ?_) (fun q8 => ?_)
      ·
        refine lv_aload_n C.1 C.2.1 dX4_costOf_34 rfl (lv_at hl 1 rfl) ?_
        refine lv_iload_n C.1 C.2.1 dX4_costOf_35 rfl (lv_at hl 0 rfl) ?_
        refine k_PI C M h0_ (by decide) rfl (ct_X4_readsFor l g I J a0 r3 h0_) (cw_X4_166 C.2.2.2.2 (by decide)) rfl hl.1 rfl (Nat.le_of_ble_eq_true rfl) dX4_costOf_36 ⟨Nat.le_refl _, Nat.le_refl _⟩ (fun r9 H locs p10r M => ?_)
        have p10 : True := p10r
        exact r_PI C M hr hlk rfl trivial dX4_costOf_39
      ·
        refine lv_iconst (v := 1) C.1 C.2.1 dX4_costOf_30 (by decide) ?_
        refine lv_goto (tgt := 39) C.1 C.2.1 dX4_costOf_31 (by decide) ?_
        exact r_PI C M (z := 1) hr hlk rfl trivial dX4_costOf_39
  ·
    refine lv_iconst (v := 2) C.1 C.2.1 dX4_costOf_5 (by decide) ?_
    exact r_PI C M (z := 2) hr hlk rfl trivial dX4_costOf_6

abbrev md_X4_serve : List (Nat × Nat) := [(4, 2), (6, 2), (6, 3), (16, 0), (17, 0), (18, 0), (19, 0), (20, 0)]
set_option maxHeartbeats 4000000 in
set_option maxRecDepth 100000 in
theorem ct_X4_serve (l : Launch) (g : Gs) (I : Ms) (J : Js) (a0 : Nat) (x1 : Int32) (x2 : Int32) (a3 : Nat) (h0_ : Is g a0 2) (h3_ : Is g a3 6) : Ctr l yX4_serve cX4_serve 6 (Option.none : Option Jvm.ClassFile.FieldType) 5 g [.ref a0, .int x1, .int x2, .ref a3] I J (PV g md_X4_serve I (fun I1 J1 => J1 = J ∧ (True))) := by
  refine m_start (by decide) (Nat.le_of_ble_eq_true rfl) ?_
  intro p e s m args below meth c C hr hlk M ls hl
  have hl : lv_has ls 6 [(0, .ref a0), (1, .int x1), (2, .int x2), (3, .ref a3)] := hl
  have C : CallFix p m c cX4_serve 6 s args TB RX4 := C
  have F : Fr g md_X4_serve I I := fr_rf
  refine lv_aload_n C.1 C.2.1 dX4_serve_0 rfl (lv_at hl 0 rfl) ?_
  refine gi_X4_21 C M h0_ dX4_serve_1 (fun h1 => ?_)
  refine lv_iload_n C.1 C.2.1 dX4_serve_4 rfl (lv_at hl 1 rfl) ?_
  refine lv_iconst (v := 1) C.1 C.2.1 dX4_serve_5 (by decide) ?_
  refine k_PI C M h1 (by decide) rfl (ct_X6_part l g I J (gr g a0 1) x1 1 h1) (cw_X4_267 C.2.2.2.2 (by decide)) rfl hl.1 rfl (Nat.le_of_ble_eq_true rfl) dX4_serve_6 ⟨Nat.le_refl _, Nat.le_refl _⟩ (fun r2 H locs p3r M => ?_)
  have p3 : True := p3r
  refine lv_istore (lv' := [(4, .int r2), (0, .ref a0), (1, .int x1), (2, .int x2), (3, .ref a3)]) C.1 C.2.1 dX4_serve_9 hl (by decide) rfl (fun ls hl => ?_)
  refine lv_iconst (v := 0) C.1 C.2.1 dX4_serve_11 (by decide) ?_
  refine lv_istore (lv' := [(5, .int 0), (4, .int r2), (0, .ref a0), (1, .int x1), (2, .int x2), (3, .ref a3)]) C.1 C.2.1 dX4_serve_12 hl (by decide) rfl (fun ls hl => ?_)
  refine lv_iload_n C.1 C.2.1 dX4_serve_14 rfl (lv_at hl 4 rfl) ?_
  refine lv_iconst (v := 1) C.1 C.2.1 dX4_serve_15 (by decide) ?_
  have J62 : ∀ (w4 : Int32) (I5 : Ms) (H : Heap) (locs : List Loc) (ls : Array Slot), Fr g md_X4_serve I I5 → Mm g s I5 J H locs → lv_has ls 6 [(0, .ref a0), (1, .int x1), (2, .int x2), (3, .ref a3), (5, .int w4)] → W p l e (rmL 5) s m args below meth c H locs 0 0 (MQg below g (PV g md_X4_serve I (fun I1 J1 => J1 = J ∧ (True))) args s) (F0 m 62 ls []) := by
    intro w4 I5 H locs ls F M hl
    refine lv_aload_n C.1 C.2.1 dX4_serve_62 rfl (lv_at hl 3 rfl) ?_
    refine lv_aload_n C.1 C.2.1 dX4_serve_63 rfl (lv_at hl 0 rfl) ?_
    refine gi_X4_21 C M h0_ dX4_serve_64 (fun h6 => ?_)
    refine lv_iload_n C.1 C.2.1 dX4_serve_67 rfl (lv_at hl 1 rfl) ?_
    refine lv_iconst (v := 0) C.1 C.2.1 dX4_serve_68 (by decide) ?_
    refine k_PI C M h1 (by decide) rfl (ct_X6_part l g I5 J (gr g a0 1) x1 0 h1) (cw_X4_267 C.2.2.2.2 (by decide)) rfl hl.1 rfl (Nat.le_of_ble_eq_true rfl) dX4_serve_69 ⟨Nat.le_refl _, Nat.le_refl _⟩ (fun r7 H locs p8r M => ?_)
    have p8 : True := p8r
    refine lv_iload_n C.1 C.2.1 dX4_serve_72 rfl (lv_at hl 2 rfl) ?_
    refine lv_iload C.1 C.2.1 dX4_serve_73 (lv_at hl 4 rfl) ?_
    refine lv_aload_n C.1 C.2.1 dX4_serve_75 rfl (lv_at hl 0 rfl) ?_
    refine gi_X4_93 C M h0_ dX4_serve_76 (fun v9 kv9 => ?_)
    refine k_PV C M h3_ (by decide) rfl (ct_X8_record l g I5 J a3 r7 x2 w4 v9 h3_) (cw_X4_276 C.2.2.2.2 (by decide)) rfl hl.1 rfl (Nat.le_of_ble_eq_true rfl) dX4_serve_79 ⟨Nat.le_refl _, Nat.le_refl _⟩ (fun I10 J11 H locs G12 p13r M => ?_)
    obtain ⟨eJ11, p13⟩ : J11 = J ∧ (True) := p13r
    have eJ11 := eJ11.symm
    subst eJ11
    have F := fr_call F G12 (by decide)
    refine lv_aload_n C.1 C.2.1 dX4_serve_82 rfl (lv_at hl 0 rfl) ?_
    refine gi_X4_21 C M h0_ dX4_serve_83 (fun h14 => ?_)
    refine lv_iload_n C.1 C.2.1 dX4_serve_86 rfl (lv_at hl 1 rfl) ?_
    refine k_PV C M h1 (by decide) rfl (ct_X6_remove l g I10 J (gr g a0 1) x1 h1) (cw_X4_282 C.2.2.2.2 (by decide)) rfl hl.1 rfl (Nat.le_of_ble_eq_true rfl) dX4_serve_87 ⟨Nat.le_refl _, Nat.le_refl _⟩ (fun I15 J16 H locs G17 p18r M => ?_)
    obtain ⟨eJ16, p18⟩ : J16 = J ∧ (True) := p18r
    have eJ16 := eJ16.symm
    subst eJ16
    have F := fr_call F G17 (by decide)
    exact r_PV C M hr hlk F ⟨rfl, trivial⟩ dX4_serve_90
  refine n_icmp_ne C (tgt := 50) (Y := 1) dX4_serve_16 (by decide) rfl rfl (fun q19 => ?_) (fun q19 => ?_)
  ·
    refine lv_iload_n C.1 C.2.1 dX4_serve_50 rfl (lv_at hl 4 rfl) ?_
    refine n_if_ne C (tgt := 62) dX4_serve_51 (by decide) rfl (fun q20 => ?_) (fun q20 => ?_)
    ·
      have cz21 : (0 : Int32).toInt = 0 := rfl
      exact J62 0 I _ _ _ F M (lv_sub hl [2, 3, 4, 5, 0] rfl)
    ·
      refine lv_aload_n C.1 C.2.1 dX4_serve_54 rfl (lv_at hl 2 rfl) ?_
      refine lv_iload C.1 C.2.1 dX4_serve_55 (lv_at hl 1 rfl) ?_
      refine k_PI C M h0_ (by decide) rfl (ct_X4_wordOf l g I J a0 r2 h0_) (cw_X4_273 C.2.2.2.2 (by decide)) rfl hl.1 rfl (Nat.le_of_ble_eq_true rfl) dX4_serve_57 ⟨Nat.le_refl _, Nat.le_refl _⟩ (fun r22 H locs p23r M => ?_)
      have p23 : True := p23r
      refine lv_istore (lv' := [(5, .int r22), (4, .int r2), (0, .ref a0), (1, .int x1), (2, .int x2), (3, .ref a3)]) C.1 C.2.1 dX4_serve_60 hl (by decide) rfl (fun ls hl => ?_)
      exact J62 r22 I _ _ _ F M (lv_sub hl [2, 3, 4, 5, 0] rfl)
  ·
    refine lv_aload_n C.1 C.2.1 dX4_serve_19 rfl (lv_at hl 2 rfl) ?_
    refine gi_X4_21 C M h0_ dX4_serve_20 (fun h24 => ?_)
    refine lv_iload_n C.1 C.2.1 dX4_serve_23 rfl (lv_at hl 3 rfl) ?_
    refine lv_iconst (v := 4) C.1 C.2.1 dX4_serve_24 (by decide) ?_
    refine k_PI C M h1 (by decide) rfl (ct_X6_part l g I J (gr g a0 1) x1 4 h1) (cw_X4_267 C.2.2.2.2 (by decide)) rfl hl.1 rfl (Nat.le_of_ble_eq_true rfl) dX4_serve_25 ⟨Nat.le_refl _, Nat.le_refl _⟩ (fun r25 H locs p26r M => ?_)
    have p26 : True := p26r
    refine lv_istore (lv' := [(5, .int r25), (4, .int r2), (0, .ref a0), (1, .int x1), (2, .int x2), (3, .ref a3)]) C.1 C.2.1 dX4_serve_28 hl (by decide) rfl (fun ls hl => ?_)
    refine lv_aload_n C.1 C.2.1 dX4_serve_30 rfl (lv_at hl 2 rfl) ?_
    refine gi_X4_12 C M h0_ dX4_serve_31 (fun h27 => ?_)
    refine lv_aload_n C.1 C.2.1 dX4_serve_34 rfl (lv_at hl 2 rfl) ?_
    refine lv_iload C.1 C.2.1 dX4_serve_35 (lv_at hl 1 rfl) ?_
    refine k_PR C M h0_ (by decide) rfl (ct_X4_layoutAt l g I J a0 r2 h0_) (cw_X4_149 C.2.2.2.2 (by decide)) rfl hl.1 rfl (Nat.le_of_ble_eq_true rfl) dX4_serve_37 ⟨Nat.le_refl _, Nat.le_refl _⟩ (fun b28 H locs h29 p30r M => ?_)
    have p30 : True := p30r
    refine lv_iload C.1 C.2.1 dX4_serve_40 (lv_at hl 1 rfl) ?_
    refine lv_iload C.1 C.2.1 dX4_serve_42 (lv_at hl 0 rfl) ?_
    refine k_PV C M h27 (by decide) rfl (ct_X3_store l g I J (gr g a0 0) b28 r2 r25 h27 h29) (cw_X4_178 C.2.2.2.2 (by decide)) rfl hl.1 rfl (Nat.le_of_ble_eq_true rfl) dX4_serve_44 ⟨Nat.le_refl _, Nat.le_refl _⟩ (fun I31 J32 H locs G33 p34r M => ?_)
    obtain ⟨eJ32, p34⟩ : J32 = J ∧ (True) := p34r
    have eJ32 := eJ32.symm
    subst eJ32
    have F := fr_call F G33 (by decide)
    refine lv_goto (tgt := 62) C.1 C.2.1 dX4_serve_47 (by decide) ?_
    exact J62 r25 I31 _ _ _ F M (lv_sub hl [2, 3, 4, 5, 0] rfl)

abbrev md_X4_spend : List (Nat × Nat) := [(0, 1), (0, 2), (0, 3), (0, 4), (0, 5), (0, 6), (0, 7), (2, 9), (2, 10), (2, 12), (2, 13), (2, 16), (2, 17), (4, 2), (6, 2), (6, 3), (16, 0), (17, 0), (18, 0), (19, 0), (20, 0), (21, 0)]
set_option maxHeartbeats 4000000 in
set_option maxRecDepth 100000 in
theorem ct_X4_spend (l : Launch) (g : Gs) (I : Ms) (J : Js) (a0 : Nat) (x1 : Int32) (a2 : Nat) (h0_ : Is g a0 2) (h2_ : Is g a2 6) (hR : RHs g I J) : Ctr l yX4_spend cX4_spend 10 (Option.some Jvm.ClassFile.FieldType.int) 6 g [.ref a0, .int x1, .ref a2] I J (PM g md_X4_spend I (fun z I1 J1 => J1.2 = J.2 ∧ ((True) ∧ RHs g I1 J1))) := by
  refine m_start (by decide) (Nat.le_of_ble_eq_true rfl) ?_
  intro p e s m args below meth c C hr hlk M ls hl
  have hl : lv_has ls 10 [(0, .ref a0), (1, .int x1), (2, .ref a2)] := hl
  have C : CallFix p m c cX4_spend 10 s args TB RX4 := C
  have F : Fr g md_X4_spend I I := fr_rf
  have hj2 : J.2 = J.2 := rfl
  have hQ0 := M.2.2.2.2.2.2.2
  refine lv_iload_n C.1 C.2.1 dX4_spend_0 rfl (lv_at hl 1 rfl) ?_
  refine lv_iconst (v := 1) C.1 C.2.1 dX4_spend_1 (by decide) ?_
  refine n_icmp_lt C (tgt := 11) (Y := 1) dX4_spend_2 (by decide) rfl rfl (fun q1 => ?_) (fun q1 => ?_)
  ·
    refine lv_iconst (v := -1) C.1 C.2.1 dX4_spend_11 (by decide) ?_
    exact r_PM C M (z := (-1)) hr hlk F rfl ⟨hj2, ⟨trivial, hR⟩⟩ dX4_spend_12
  ·
    refine lv_iload_n C.1 C.2.1 dX4_spend_5 rfl (lv_at hl 1 rfl) ?_
    refine lv_bipush (v := 60) C.1 C.2.1 dX4_spend_6 (by decide) ?_
    refine n_icmp_le C (tgt := 13) (Y := 60) dX4_spend_8 (by decide) rfl rfl (fun q2 => ?_) (fun q2 => ?_)
    ·
      refine lv_aload_n C.1 C.2.1 dX4_spend_13 rfl (lv_at hl 0 rfl) ?_
      refine lv_dup C.1 C.2.1 dX4_spend_14 rfl ?_
      refine gi_X4_93 C M h0_ dX4_spend_15 (fun v3 kv3 => ?_)
      refine lv_iconst (v := 1) C.1 C.2.1 dX4_spend_18 (by decide) ?_
      refine n_iaddU C dX4_spend_19 (fun v4 => ?_)
      refine pi_X4_93 C M h0_ dX4_spend_20 (fun H locs I5 k7 f6 M => ?_)
      have F := fr_put F h0_ (Or.inr (by decide)) f6
      refine lv_aload_n C.1 C.2.1 dX4_spend_23 rfl (lv_at hl 0 rfl) ?_
      refine gi_X4_73 C M h0_ dX4_spend_24 (fun v8 kv8 tv8 uv8 => ?_)
      have J42 : ∀ (w9 : Int32) (H : Heap) (locs : List Loc) (ls : Array Slot), 0 ≤ w9.toInt → w9.toInt ≤ 20 → Mm g s I5 J H locs → lv_has ls 10 [(0, .ref a0), (1, .int x1), (2, .ref a2)] → W p l e (rmL 6) s m args below meth c H locs 0 0 (MQg below g (PM g md_X4_spend I (fun z I1 J1 => J1.2 = J.2 ∧ ((True) ∧ RHs g I1 J1))) args s) (F0 m 42 ls [.int w9]) := by
        intro w9 H locs ls f10 f11 M hl
        refine lv_istore_n (lv' := [(3, .int w9), (0, .ref a0), (1, .int x1), (2, .ref a2)]) C.1 C.2.1 dX4_spend_42 rfl hl (by decide) rfl (fun ls hl => ?_)
        refine lv_iload_n C.1 C.2.1 dX4_spend_43 rfl (lv_at hl 2 rfl) ?_
        refine lv_iload_n C.1 C.2.1 dX4_spend_44 rfl (lv_at hl 0 rfl) ?_
        refine n_isub C dX4_spend_45 rfl rfl (by omega) (by omega) (fun v12 ev12 => ?_)
        refine lv_istore (lv' := [(4, .int v12), (3, .int w9), (0, .ref a0), (1, .int x1), (2, .ref a2)]) C.1 C.2.1 dX4_spend_46 hl (by decide) rfl (fun ls hl => ?_)
        refine lv_aload_n C.1 C.2.1 dX4_spend_48 rfl (lv_at hl 2 rfl) ?_
        refine gi_X4_21 C M h0_ dX4_spend_49 (fun h13 => ?_)
        refine gi_X4_55 C M h13 dX4_spend_52 (fun v14 kv14 tv14 uv14 => ?_)
        refine lv_istore (lv' := [(5, .int v14), (4, .int v12), (3, .int w9), (0, .ref a0), (1, .int x1), (2, .ref a2)]) C.1 C.2.1 dX4_spend_55 hl (by decide) rfl (fun ls hl => ?_)
        refine lv_iconst (v := 0) C.1 C.2.1 dX4_spend_57 (by decide) ?_
        refine lv_istore (lv' := [(6, .int 0), (5, .int v14), (4, .int v12), (3, .int w9), (0, .ref a0), (1, .int x1), (2, .ref a2)]) C.1 C.2.1 dX4_spend_58 hl (by decide) rfl (fun ls hl => ?_)
        refine lv_iconst (v := 0) C.1 C.2.1 dX4_spend_60 (by decide) ?_
        refine lv_istore (lv' := [(7, .int 0), (6, .int 0), (5, .int v14), (4, .int v12), (3, .int w9), (0, .ref a0), (1, .int x1), (2, .ref a2)]) C.1 C.2.1 dX4_spend_61 hl (by decide) rfl (fun ls hl => ?_)
        have L63 : ∀ (n63 : Nat) (y15 : Int32) (y16 : Int32) (y17 : Int32) (I18 : Ms) (H : Heap) (locs : List Loc) (ls : Array Slot), I18 a0 8 = v8 → I18 a0 15 = v4 → RHs g I18 J → 0 ≤ y17.toInt → y17.toInt ≤ 20 → 20 - y17.toInt < (n63 : Int) → Fr g md_X4_spend I I18 → Mm g s I18 J H locs → lv_has ls 10 [(0, .ref a0), (2, .ref a2), (3, .int w9), (4, .int y15), (5, .int v14), (6, .int y16), (7, .int y17)] → W p l e (rmL 6) s m args below meth c H locs 0 0 (MQg below g (PM g md_X4_spend I (fun z I1 J1 => J1.2 = J.2 ∧ ((True) ∧ RHs g I1 J1))) args s) (F0 m 63 ls []) := by
          intro n63
          induction n63 with
          | zero =>
            intro y15 y16 y17 I18 H locs ls k19 k20 rh21 f22 f23 hm63 F M hl
            exact absurd hm63 (by omega)
          | succ n63 ih63 =>
            intro y15 y16 y17 I18 H locs ls k19 k20 rh21 f22 f23 hm63 F M hl
            refine lv_iload C.1 C.2.1 dX4_spend_63 (lv_at hl 6 rfl) ?_
            refine lv_iload C.1 C.2.1 dX4_spend_65 (lv_at hl 4 rfl) ?_
            have J132 : ∀ (H : Heap) (locs : List Loc) (ls : Array Slot), Mm g s I18 J H locs → lv_has ls 10 [(0, .ref a0), (3, .int w9), (4, .int y15), (5, .int v14)] → W p l e (rmL 6) s m args below meth c H locs 0 0 (MQg below g (PM g md_X4_spend I (fun z I1 J1 => J1.2 = J.2 ∧ ((True) ∧ RHs g I1 J1))) args s) (F0 m 132 ls []) := by
              intro H locs ls M hl
              refine lv_aload_n C.1 C.2.1 dX4_spend_132 rfl (lv_at hl 0 rfl) ?_
              refine lv_iload C.1 C.2.1 dX4_spend_133 (lv_at hl 2 rfl) ?_
              refine lv_iload_n C.1 C.2.1 dX4_spend_135 rfl (lv_at hl 1 rfl) ?_
              refine n_iaddU C dX4_spend_136 (fun v24 => ?_)
              refine lv_aload_n C.1 C.2.1 dX4_spend_137 rfl (lv_at hl 0 rfl) ?_
              refine gi_X4_90 C M h0_ dX4_spend_138 (fun v25 kv25 tv25 uv25 => ?_)
              refine n_mmin (D := 5) C dX4_spend_141 hl.1 ml_X4_249 rfl rfl (Nat.le_of_ble_eq_true rfl) (fun v26 ev26 => ?_)
              refine k_PM C M h0_ (by decide) rfl (ct_X4_goSteps l g I18 J a0 v26 h0_ rh21) (cw_X4_264 C.2.2.2.2 (by decide)) rfl hl.1 rfl (Nat.le_of_ble_eq_true rfl) dX4_spend_144 ⟨Nat.le_refl _, Nat.le_refl _⟩ (fun r31 I27 J28 H locs G29 p30r M => ?_)
              obtain ⟨eJ28, ⟨p30, rh32⟩⟩ : J28.2 = J.2 ∧ ((True) ∧ RHs g I27 J28) := p30r
              have hj2 : J28.2 = J.2 := eJ28.trans hj2
              have F := fr_call F G29 (by decide)
              refine lv_pop C.1 C.2.1 dX4_spend_147 rfl ?_
              refine lv_iload C.1 C.2.1 dX4_spend_148 (lv_at hl 3 rfl) ?_
              refine lv_aload_n C.1 C.2.1 dX4_spend_150 rfl (lv_at hl 0 rfl) ?_
              refine gi_X4_21 C M h0_ dX4_spend_151 (fun h33 => ?_)
              refine gi_X4_55 C M h13 dX4_spend_154 (fun v34 kv34 tv34 uv34 => ?_)
              refine n_isub C dX4_spend_157 rfl rfl (by omega) (by omega) (fun v35 ev35 => ?_)
              exact r_PM C M hr hlk F rfl ⟨hj2, ⟨trivial, rh32⟩⟩ dX4_spend_158
            refine n_icmp_ge C (tgt := 132) dX4_spend_67 (by decide) rfl rfl (fun q36 => ?_) (fun q36 => ?_)
            ·
              exact J132 _ _ _ M (lv_sub hl [0, 2, 3, 4] rfl)
            ·
              refine lv_aload_n C.1 C.2.1 dX4_spend_70 rfl (lv_at hl 0 rfl) ?_
              refine lv_iload C.1 C.2.1 dX4_spend_71 (lv_at hl 5 rfl) ?_
              refine k_PI C M h0_ (by decide) rfl (ct_X4_fateOf l g I18 J a0 y16 h0_) (cw_X4_254 C.2.2.2.2 (by decide)) rfl hl.1 rfl (Nat.le_of_ble_eq_true rfl) dX4_spend_73 ⟨Nat.le_refl _, Nat.le_refl _⟩ (fun r37 H locs p38r M => ?_)
              have p38 : True := p38r
              refine lv_istore (lv' := [(8, .int r37), (0, .ref a0), (2, .ref a2), (3, .int w9), (4, .int y15), (5, .int v14), (6, .int y16), (7, .int y17)]) C.1 C.2.1 dX4_spend_76 hl (by decide) rfl (fun ls hl => ?_)
              refine lv_iload C.1 C.2.1 dX4_spend_78 (lv_at hl 0 rfl) ?_
              refine lv_iconst (v := 3) C.1 C.2.1 dX4_spend_80 (by decide) ?_
              refine n_icmp_ne C (tgt := 90) (Y := 3) dX4_spend_81 (by decide) rfl rfl (fun q39 => ?_) (fun q39 => ?_)
              ·
                refine lv_aload_n C.1 C.2.1 dX4_spend_90 rfl (lv_at hl 1 rfl) ?_
                refine lv_iload C.1 C.2.1 dX4_spend_91 (lv_at hl 6 rfl) ?_
                refine lv_iload C.1 C.2.1 dX4_spend_93 (lv_at hl 0 rfl) ?_
                refine k_PI C M h0_ (by decide) rfl (ct_X4_costOf l g I18 J a0 y16 r37 h0_) (cw_X4_257 C.2.2.2.2 (by decide)) rfl hl.1 rfl (Nat.le_of_ble_eq_true rfl) dX4_spend_95 ⟨Nat.le_refl _, Nat.le_refl _⟩ (fun r40 H locs p41r M => ?_)
                have p41 : True := p41r
                refine lv_istore (lv' := [(9, .int r40), (8, .int r37), (0, .ref a0), (2, .ref a2), (3, .int w9), (4, .int y15), (5, .int v14), (6, .int y16), (7, .int y17)]) C.1 C.2.1 dX4_spend_98 hl (by decide) rfl (fun ls hl => ?_)
                refine lv_iload C.1 C.2.1 dX4_spend_100 (lv_at hl 0 rfl) ?_
                refine lv_iload C.1 C.2.1 dX4_spend_102 (lv_at hl 5 rfl) ?_
                refine n_icmp_le C (tgt := 110) dX4_spend_104 (by decide) rfl rfl (fun q42 => ?_) (fun q42 => ?_)
                ·
                  refine lv_iload C.1 C.2.1 dX4_spend_110 (lv_at hl 5 rfl) ?_
                  refine lv_iload C.1 C.2.1 dX4_spend_112 (lv_at hl 0 rfl) ?_
                  refine n_isubU C dX4_spend_114 (fun v43 => ?_)
                  refine lv_istore (lv' := [(4, .int v43), (9, .int r40), (8, .int r37), (0, .ref a0), (2, .ref a2), (3, .int w9), (5, .int v14), (6, .int y16), (7, .int y17)]) C.1 C.2.1 dX4_spend_115 hl (by decide) rfl (fun ls hl => ?_)
                  refine lv_aload_n C.1 C.2.1 dX4_spend_117 rfl (lv_at hl 3 rfl) ?_
                  refine lv_iload C.1 C.2.1 dX4_spend_118 (lv_at hl 7 rfl) ?_
                  refine lv_iload C.1 C.2.1 dX4_spend_120 (lv_at hl 2 rfl) ?_
                  refine lv_aload_n C.1 C.2.1 dX4_spend_122 rfl (lv_at hl 4 rfl) ?_
                  refine k_PV C M h0_ (by decide) rfl (ct_X4_serve l g I18 J a0 y16 r37 a2 h0_ h2_) (cw_X4_260 C.2.2.2.2 (by decide)) rfl hl.1 rfl (Nat.le_of_ble_eq_true rfl) dX4_spend_123 ⟨Nat.le_refl _, Nat.le_refl _⟩ (fun I44 J45 H locs G46 p47r M => ?_)
                  obtain ⟨eJ45, p47⟩ : J45 = J ∧ (True) := p47r
                  have eJ45 := eJ45.symm
                  subst eJ45
                  have F := fr_call F G46 (by decide)
                  refine n_iinc C (k := 8) (N := 1) (lv' := fun v => [(7, .int v), (4, .int v43), (9, .int r40), (8, .int r37), (0, .ref a0), (2, .ref a2), (3, .int w9), (5, .int v14), (6, .int y16)]) dX4_spend_126 hl rfl (by decide) rfl rfl (by omega) (by omega) (fun _ => rfl) (fun v48 ls ev48 hl => ?_)
                  refine lv_goto (tgt := 63) C.1 C.2.1 dX4_spend_129 (by decide) ?_
                  exact ih63 v43 y16 v48 I44 _ _ _ ((G46 a0 2 8 h0_ (by decide) (by decide)).trans k19) ((G46 a0 2 15 h0_ (by decide) (by decide)).trans k20) (rh_fr M.2.2.2.2.2.1 M.2.2.2.2.2.2.2 G46 (by decide) rh21) (by omega) (by omega) (by omega) F M (lv_sub hl [4, 5, 6, 1, 7, 8, 0] rfl)
                ·
                  refine lv_goto (tgt := 132) C.1 C.2.1 dX4_spend_107 (by decide) ?_
                  exact J132 _ _ _ M (lv_sub hl [2, 4, 5, 6] rfl)
              ·
                refine n_iincU C (k := 6) (lv' := fun v => [(6, .int v), (8, .int r37), (0, .ref a0), (2, .ref a2), (3, .int w9), (4, .int y15), (5, .int v14), (7, .int y17)]) dX4_spend_84 hl rfl (by decide) (fun _ => rfl) (fun v49 ls hl => ?_)
                refine lv_goto (tgt := 126) C.1 C.2.1 dX4_spend_87 (by decide) ?_
                refine n_iinc C (k := 7) (N := 1) (lv' := fun v => [(7, .int v), (6, .int v49), (8, .int r37), (0, .ref a0), (2, .ref a2), (3, .int w9), (4, .int y15), (5, .int v14)]) dX4_spend_126 hl rfl (by decide) rfl rfl (by omega) (by omega) (fun _ => rfl) (fun v50 ls ev50 hl => ?_)
                refine lv_goto (tgt := 63) C.1 C.2.1 dX4_spend_129 (by decide) ?_
                exact ih63 y15 v49 v50 I18 _ _ _ k19 k20 rh21 (by omega) (by omega) (by omega) F M (lv_sub hl [3, 4, 5, 6, 7, 1, 0] rfl)
        have cz51 : (0 : Int32).toInt = 0 := rfl
        have cz52 : (0 : Int32).toInt = 0 := rfl
        exact L63 _ v12 0 0 I5 _ _ _ kv8 k7 (rh_put M.2.2.2.2.2.1 M.2.2.2.2.2.2.2 h0_ f6 ⟨Or.inr (by decide), Or.inl (by decide), by decide⟩ hR) (by omega) (by omega) (n_big _) F M (lv_sub hl [5, 7, 4, 3, 2, 1, 0] rfl)
      refine n_if_eq C (tgt := 41) dX4_spend_27 (by decide) rfl (fun q53 => ?_) (fun q53 => ?_)
      ·
        refine lv_iconst (v := 0) C.1 C.2.1 dX4_spend_41 (by decide) ?_
        have cz54 : (0 : Int32).toInt = 0 := rfl
        exact J42 0 _ _ _ (by omega) (by omega) M hl
      ·
        refine lv_aload_n C.1 C.2.1 dX4_spend_30 rfl (lv_at hl 0 rfl) ?_
        refine gi_X4_87 C M h0_ dX4_spend_31 (fun v55 kv55 tv55 uv55 => ?_)
        refine lv_iload_n C.1 C.2.1 dX4_spend_34 rfl (lv_at hl 1 rfl) ?_
        refine n_mmin (D := 5) C dX4_spend_35 hl.1 ml_X4_249 rfl rfl (Nat.le_of_ble_eq_true rfl) (fun v56 ev56 => ?_)
        refine lv_goto (tgt := 42) C.1 C.2.1 dX4_spend_38 (by decide) ?_
        exact J42 v56 _ _ _ (by omega) (by omega) M hl
    ·
      refine lv_iconst (v := -1) C.1 C.2.1 dX4_spend_11 (by decide) ?_
      exact r_PM C M (z := (-1)) hr hlk F rfl ⟨hj2, ⟨trivial, hR⟩⟩ dX4_spend_12
