abbrev md_X3_clear : List (Nat × Nat) := [(1, 4), (1, 5), (1, 6), (16, 0), (17, 0), (18, 0)]
set_option maxHeartbeats 4000000 in
set_option maxRecDepth 100000 in
theorem ct_X3_clear (l : Launch) (g : Gs) (I : Ms) (J : Js) (a0 : Nat) (x1 : Int32) (x2 : Int32) (h0_ : Is g a0 1) (g0 : 3 ≤ x1.toInt) (g1 : x1.toInt ≤ 7) (g2 : 4 ≤ x2.toInt) (g3 : x2.toInt ≤ 40) : Ctr l yX3_clear cX3_clear 3 (Option.none : Option Jvm.ClassFile.FieldType) 2 g [.ref a0, .int x1, .int x2] I J (PV g md_X3_clear I (fun I1 J1 => J1 = J ∧ (((I1 a0 3).toInt = x1.toInt ∧ (I1 a0 4).toInt = x2.toInt) ∧ (∀ b, Is g b 1 → b ≠ a0 → I1 b 4 = I b 4)))) := by
  refine m_start (by decide) (Nat.le_of_ble_eq_true rfl) ?_
  intro p e s m args below meth c C hr hlk M ls hl
  have hl : lv_has ls 3 [(0, .ref a0), (1, .int x1), (2, .int x2)] := hl
  have C : CallFix p m c cX3_clear 3 s args TB RX3 := C
  have F : Fr g md_X3_clear I I := fr_rf
  refine lv_aload_n C.1 C.2.1 dX3_clear_0 rfl (lv_at hl 0 rfl) ?_
  refine gi_X3_9 C M h0_ dX3_clear_1 (fun h1 => ?_)
  refine lv_iconst (v := 0) C.1 C.2.1 dX3_clear_4 (by decide) ?_
  refine ks_PV C M (ct_J7_fill_53178_k16 l g I J (gr g a0 0) 0 h1) (cw_X3_25 C.2.2.2.2 (by decide)) rfl hl.1 rfl (Nat.le_of_ble_eq_true rfl) dX3_clear_5 ⟨Nat.le_refl _, Nat.le_refl _⟩ (fun I2 J3 H locs G4 p5r M => ?_)
  obtain ⟨eJ3, p5⟩ : J3 = J ∧ (True) := p5r
  have eJ3 := eJ3.symm
  subst eJ3
  have F := fr_call F G4 (by decide)
  refine lv_aload_n C.1 C.2.1 dX3_clear_8 rfl (lv_at hl 0 rfl) ?_
  refine gi_X3_15 C M h0_ dX3_clear_9 (fun h6 => ?_)
  refine lv_iconst (v := 0) C.1 C.2.1 dX3_clear_12 (by decide) ?_
  refine ks_PV C M (ct_J7_fill_53178_k17 l g I2 J (gr g a0 1) 0 h6) (cw_X3_25 C.2.2.2.2 (by decide)) rfl hl.1 rfl (Nat.le_of_ble_eq_true rfl) dX3_clear_13 ⟨Nat.le_refl _, Nat.le_refl _⟩ (fun I7 J8 H locs G9 p10r M => ?_)
  obtain ⟨eJ8, p10⟩ : J8 = J ∧ (True) := p10r
  have eJ8 := eJ8.symm
  subst eJ8
  have F := fr_call F G9 (by decide)
  refine lv_aload_n C.1 C.2.1 dX3_clear_16 rfl (lv_at hl 0 rfl) ?_
  refine gi_X3_18 C M h0_ dX3_clear_17 (fun h11 => ?_)
  refine lv_iconst (v := 0) C.1 C.2.1 dX3_clear_20 (by decide) ?_
  refine ks_PV C M (ct_J7_fill_53178_k18 l g I7 J (gr g a0 2) 0 h11) (cw_X3_25 C.2.2.2.2 (by decide)) rfl hl.1 rfl (Nat.le_of_ble_eq_true rfl) dX3_clear_21 ⟨Nat.le_refl _, Nat.le_refl _⟩ (fun I12 J13 H locs G14 p15r M => ?_)
  obtain ⟨eJ13, p15⟩ : J13 = J ∧ (True) := p15r
  have eJ13 := eJ13.symm
  subst eJ13
  have F := fr_call F G14 (by decide)
  refine lv_aload_n C.1 C.2.1 dX3_clear_24 rfl (lv_at hl 0 rfl) ?_
  refine lv_iload_n C.1 C.2.1 dX3_clear_25 rfl (lv_at hl 1 rfl) ?_
  refine pi_X3_31 C M h0_ dX3_clear_26 rfl (by omega) (by omega) (fun H locs I16 k18 f17 M => ?_)
  have F := fr_put F h0_ (Or.inr (by decide)) f17
  refine lv_aload_n C.1 C.2.1 dX3_clear_29 rfl (lv_at hl 0 rfl) ?_
  refine lv_iload_n C.1 C.2.1 dX3_clear_30 rfl (lv_at hl 2 rfl) ?_
  refine pi_X3_34 C M h0_ dX3_clear_31 rfl (by omega) (by omega) (fun H locs I19 k21 f20 M => ?_)
  have F := fr_put F h0_ (Or.inr (by decide)) f20
  refine lv_aload_n C.1 C.2.1 dX3_clear_34 rfl (lv_at hl 0 rfl) ?_
  refine lv_iconst (v := -1) C.1 C.2.1 dX3_clear_35 (by decide) ?_
  refine pi_X3_21 C M (X := (-1)) h0_ dX3_clear_36 rfl (by omega) (by omega) (fun H locs I22 k24 f23 M => ?_)
  have F := fr_put F h0_ (Or.inr (by decide)) f23
  have rk25 : (I22 a0 3).toInt = x1.toInt := congrArg Int32.toInt ((f23 a0 3 (Or.inr (by decide))).trans ((f20 a0 3 (Or.inr (by decide))).trans k18))
  have rk26 : (I22 a0 4).toInt = x2.toInt := congrArg Int32.toInt ((f23 a0 4 (Or.inr (by decide))).trans k21)
  exact r_PV C M hr hlk F ⟨rfl, ⟨(by omega), (fun b hb hn => ((f23 b 4 (Or.inr (by decide))).trans ((f20 b 4 (Or.inl hn)).trans ((f17 b 4 (Or.inr (by decide))).trans ((G14 b 1 4 hb (by decide) (by decide)).trans ((G9 b 1 4 hb (by decide) (by decide)).trans ((G4 b 1 4 hb (by decide) (by decide)).trans rfl)))))))⟩⟩ dX3_clear_39

abbrev md_X3_copyFrom : List (Nat × Nat) := [(1, 4), (1, 5), (1, 6), (16, 0), (17, 0), (18, 0)]
set_option maxHeartbeats 4000000 in
set_option maxRecDepth 100000 in
theorem ct_X3_copyFrom (l : Launch) (g : Gs) (I : Ms) (J : Js) (a0 : Nat) (a1 : Nat) (h0_ : Is g a0 1) (h1_ : Is g a1 1) : Ctr l yX3_copyFrom cX3_copyFrom 2 (Option.none : Option Jvm.ClassFile.FieldType) 1 g [.ref a0, .ref a1] I J (PV g md_X3_copyFrom I (fun I1 J1 => J1 = J ∧ (((I1 a0 4).toInt = (I a1 4).toInt) ∧ (∀ b, Is g b 1 → b ≠ a0 → I1 b 4 = I b 4)))) := by
  refine m_start (by decide) (Nat.le_of_ble_eq_true rfl) ?_
  intro p e s m args below meth c C hr hlk M ls hl
  have hl : lv_has ls 2 [(0, .ref a0), (1, .ref a1)] := hl
  have C : CallFix p m c cX3_copyFrom 2 s args TB RX3 := C
  have F : Fr g md_X3_copyFrom I I := fr_rf
  obtain ⟨i1, ki1⟩ : ∃ z : Int32, I a1 4 = z := ⟨_, rfl⟩
  have ti1 : 4 ≤ i1.toInt ∧ i1.toInt ≤ 40 := m_rng M h1_ 4 ki1 rfl
  have ci1 : (I a1 4).toInt = i1.toInt := congrArg Int32.toInt ki1
  refine lv_aload_n C.1 C.2.1 dX3_copyFrom_0 rfl (lv_at hl 1 rfl) ?_
  refine gi_X3_9 C M h1_ dX3_copyFrom_1 (fun h2 => ?_)
  refine lv_iconst (v := 0) C.1 C.2.1 dX3_copyFrom_4 (by decide) ?_
  refine lv_aload_n C.1 C.2.1 dX3_copyFrom_5 rfl (lv_at hl 0 rfl) ?_
  refine gi_X3_9 C M h0_ dX3_copyFrom_6 (fun h3 => ?_)
  refine lv_iconst (v := 0) C.1 C.2.1 dX3_copyFrom_9 (by decide) ?_
  refine lv_aload_n C.1 C.2.1 dX3_copyFrom_10 rfl (lv_at hl 0 rfl) ?_
  refine gi_X3_9 C M h0_ dX3_copyFrom_11 (fun h4 => ?_)
  refine a_ln C M h3 rfl (v := 280) rfl dX3_copyFrom_14 ?_
  refine a_cp (D := 0) (SP := 0) (DP := 0) (N := 280) C M h2 h3 (n0 := 280) (n1 := 280) rfl rfl rfl rfl (fun _ => rfl) hl.1 ml_X3_37 ac_nat ac_sta ac_ini rfl rfl rfl (by omega) (by omega) (by omega) (by omega) (by omega) (Nat.le_of_ble_eq_true rfl) dX3_copyFrom_15 (fun H locs I5 eI5 G6 M => ?_)
  have F := fr_call F G6 (by decide)
  refine lv_aload_n C.1 C.2.1 dX3_copyFrom_18 rfl (lv_at hl 1 rfl) ?_
  refine gi_X3_15 C M h1_ dX3_copyFrom_19 (fun h7 => ?_)
  refine lv_iconst (v := 0) C.1 C.2.1 dX3_copyFrom_22 (by decide) ?_
  refine lv_aload_n C.1 C.2.1 dX3_copyFrom_23 rfl (lv_at hl 0 rfl) ?_
  refine gi_X3_15 C M h0_ dX3_copyFrom_24 (fun h8 => ?_)
  refine lv_iconst (v := 0) C.1 C.2.1 dX3_copyFrom_27 (by decide) ?_
  refine lv_aload_n C.1 C.2.1 dX3_copyFrom_28 rfl (lv_at hl 0 rfl) ?_
  refine gi_X3_15 C M h0_ dX3_copyFrom_29 (fun h9 => ?_)
  refine a_ln C M h8 rfl (v := 280) rfl dX3_copyFrom_32 ?_
  refine a_cp (D := 0) (SP := 0) (DP := 0) (N := 280) C M h7 h8 (n0 := 280) (n1 := 280) rfl rfl rfl rfl (fun _ => rfl) hl.1 ml_X3_37 ac_nat ac_sta ac_ini rfl rfl rfl (by omega) (by omega) (by omega) (by omega) (by omega) (Nat.le_of_ble_eq_true rfl) dX3_copyFrom_33 (fun H locs I10 eI10 G11 M => ?_)
  have F := fr_call F G11 (by decide)
  refine lv_aload_n C.1 C.2.1 dX3_copyFrom_36 rfl (lv_at hl 1 rfl) ?_
  refine gi_X3_18 C M h1_ dX3_copyFrom_37 (fun h12 => ?_)
  refine lv_iconst (v := 0) C.1 C.2.1 dX3_copyFrom_40 (by decide) ?_
  refine lv_aload_n C.1 C.2.1 dX3_copyFrom_41 rfl (lv_at hl 0 rfl) ?_
  refine gi_X3_18 C M h0_ dX3_copyFrom_42 (fun h13 => ?_)
  refine lv_iconst (v := 0) C.1 C.2.1 dX3_copyFrom_45 (by decide) ?_
  refine lv_aload_n C.1 C.2.1 dX3_copyFrom_46 rfl (lv_at hl 0 rfl) ?_
  refine gi_X3_18 C M h0_ dX3_copyFrom_47 (fun h14 => ?_)
  refine a_ln C M h13 rfl (v := 7) rfl dX3_copyFrom_50 ?_
  refine a_cp (D := 0) (SP := 0) (DP := 0) (N := 7) C M h12 h13 (n0 := 7) (n1 := 7) rfl rfl rfl rfl (fun _ => rfl) hl.1 ml_X3_37 ac_nat ac_sta ac_ini rfl rfl rfl (by omega) (by omega) (by omega) (by omega) (by omega) (Nat.le_of_ble_eq_true rfl) dX3_copyFrom_51 (fun H locs I15 eI15 G16 M => ?_)
  have F := fr_call F G16 (by decide)
  refine lv_aload_n C.1 C.2.1 dX3_copyFrom_54 rfl (lv_at hl 0 rfl) ?_
  refine lv_aload_n C.1 C.2.1 dX3_copyFrom_55 rfl (lv_at hl 1 rfl) ?_
  refine gi_X3_31 C M h1_ dX3_copyFrom_56 (fun v17 kv17 tv17 uv17 => ?_)
  refine pi_X3_31 C M h0_ dX3_copyFrom_59 rfl (by omega) (by omega) (fun H locs I18 k20 f19 M => ?_)
  have F := fr_put F h0_ (Or.inr (by decide)) f19
  refine lv_aload_n C.1 C.2.1 dX3_copyFrom_62 rfl (lv_at hl 0 rfl) ?_
  refine lv_aload_n C.1 C.2.1 dX3_copyFrom_63 rfl (lv_at hl 1 rfl) ?_
  refine gk_X3_34 C M h1_ ((f19 a1 4 (Or.inr (by decide))).trans ((G16 a1 1 4 h1_ (by decide) (by decide)).trans ((G11 a1 1 4 h1_ (by decide) (by decide)).trans ((G6 a1 1 4 h1_ (by decide) (by decide)).trans ki1)))) dX3_copyFrom_64 ?_
  refine pi_X3_34 C M h0_ dX3_copyFrom_67 rfl (by omega) (by omega) (fun H locs I21 k23 f22 M => ?_)
  have F := fr_put F h0_ (Or.inr (by decide)) f22
  refine lv_aload_n C.1 C.2.1 dX3_copyFrom_70 rfl (lv_at hl 0 rfl) ?_
  refine lv_aload_n C.1 C.2.1 dX3_copyFrom_71 rfl (lv_at hl 1 rfl) ?_
  refine gi_X3_21 C M h1_ dX3_copyFrom_72 (fun v24 kv24 tv24 uv24 => ?_)
  refine pi_X3_21 C M h0_ dX3_copyFrom_75 rfl (by omega) (by omega) (fun H locs I25 k27 f26 M => ?_)
  have F := fr_put F h0_ (Or.inr (by decide)) f26
  have rk28 : (I25 a0 4).toInt = i1.toInt := congrArg Int32.toInt ((f26 a0 4 (Or.inr (by decide))).trans k23)
  exact r_PV C M hr hlk F ⟨rfl, ⟨(by omega), (fun b hb hn => ((f26 b 4 (Or.inr (by decide))).trans ((f22 b 4 (Or.inl hn)).trans ((f19 b 4 (Or.inr (by decide))).trans ((G16 b 1 4 hb (by decide) (by decide)).trans ((G11 b 1 4 hb (by decide) (by decide)).trans ((G6 b 1 4 hb (by decide) (by decide)).trans rfl)))))))⟩⟩ dX3_copyFrom_78

set_option maxHeartbeats 4000000 in
set_option maxRecDepth 100000 in
theorem ct_X3_hasDisk (l : Launch) (g : Gs) (I : Ms) (J : Js) (a0 : Nat) (x1 : Int32) (h0_ : Is g a0 1) : Ctr l yX3_hasDisk cX3_hasDisk 2 (Option.some Jvm.ClassFile.FieldType.boolean) 1 g [.ref a0, .int x1] I J (PI I J (fun z => 0 ≤ z ∧ z ≤ 1 ∧ (z = 1 → 0 ≤ x1.toInt ∧ x1.toInt ≤ 6))) := by
  refine m_start (by decide) (Nat.le_of_ble_eq_true rfl) ?_
  intro p e s m args below meth c C hr hlk M ls hl
  have hl : lv_has ls 2 [(0, .ref a0), (1, .int x1)] := hl
  have C : CallFix p m c cX3_hasDisk 2 s args TB RX3 := C
  refine lv_iload_n C.1 C.2.1 dX3_hasDisk_0 rfl (lv_at hl 1 rfl) ?_
  refine n_if_lt C (tgt := 16) dX3_hasDisk_1 (by decide) rfl (fun q1 => ?_) (fun q1 => ?_)
  ·
    refine lv_iconst (v := 0) C.1 C.2.1 dX3_hasDisk_16 (by decide) ?_
    exact r_PIz C M (z := 0) hr hlk rfl (by omega) (by omega) (by omega) dX3_hasDisk_17
  ·
    refine lv_iload_n C.1 C.2.1 dX3_hasDisk_4 rfl (lv_at hl 1 rfl) ?_
    refine lv_aload_n C.1 C.2.1 dX3_hasDisk_5 rfl (lv_at hl 0 rfl) ?_
    refine gi_X3_31 C M h0_ dX3_hasDisk_6 (fun v2 kv2 tv2 uv2 => ?_)
    refine n_icmp_ge C (tgt := 16) dX3_hasDisk_9 (by decide) rfl rfl (fun q3 => ?_) (fun q3 => ?_)
    ·
      refine lv_iconst (v := 0) C.1 C.2.1 dX3_hasDisk_16 (by decide) ?_
      exact r_PIz C M (z := 0) hr hlk rfl (by omega) (by omega) (by omega) dX3_hasDisk_17
    ·
      refine lv_iconst (v := 1) C.1 C.2.1 dX3_hasDisk_12 (by decide) ?_
      refine lv_goto (tgt := 17) C.1 C.2.1 dX3_hasDisk_13 (by decide) ?_
      exact r_PIz C M (z := 1) hr hlk rfl (by omega) (by omega) (by omega) dX3_hasDisk_17

set_option maxHeartbeats 4000000 in
set_option maxRecDepth 100000 in
theorem ct_X3_has (l : Launch) (g : Gs) (I : Ms) (J : Js) (a0 : Nat) (x1 : Int32) (x2 : Int32) (h0_ : Is g a0 1) : Ctr l yX3_has cX3_has 3 (Option.some Jvm.ClassFile.FieldType.boolean) 1 g [.ref a0, .int x1, .int x2] I J (PI I J (fun z => 0 ≤ z ∧ z ≤ 1 ∧ (z = 1 → 0 ≤ x1.toInt ∧ x1.toInt ≤ 6 ∧ 0 ≤ x2.toInt ∧ x2.toInt ≤ 39))) := by
  refine m_start (by decide) (Nat.le_of_ble_eq_true rfl) ?_
  intro p e s m args below meth c C hr hlk M ls hl
  have hl : lv_has ls 3 [(0, .ref a0), (1, .int x1), (2, .int x2)] := hl
  have C : CallFix p m c cX3_has 3 s args TB RX3 := C
  refine lv_iload_n C.1 C.2.1 dX3_has_0 rfl (lv_at hl 1 rfl) ?_
  refine n_if_lt C (tgt := 28) dX3_has_1 (by decide) rfl (fun q1 => ?_) (fun q1 => ?_)
  ·
    refine lv_iconst (v := 0) C.1 C.2.1 dX3_has_28 (by decide) ?_
    exact r_PIz C M (z := 0) hr hlk rfl (by omega) (by omega) (by omega) dX3_has_29
  ·
    refine lv_iload_n C.1 C.2.1 dX3_has_4 rfl (lv_at hl 1 rfl) ?_
    refine lv_aload_n C.1 C.2.1 dX3_has_5 rfl (lv_at hl 0 rfl) ?_
    refine gi_X3_31 C M h0_ dX3_has_6 (fun v2 kv2 tv2 uv2 => ?_)
    refine n_icmp_ge C (tgt := 28) dX3_has_9 (by decide) rfl rfl (fun q3 => ?_) (fun q3 => ?_)
    ·
      refine lv_iconst (v := 0) C.1 C.2.1 dX3_has_28 (by decide) ?_
      exact r_PIz C M (z := 0) hr hlk rfl (by omega) (by omega) (by omega) dX3_has_29
    ·
      refine lv_iload_n C.1 C.2.1 dX3_has_12 rfl (lv_at hl 2 rfl) ?_
      refine n_if_lt C (tgt := 28) dX3_has_13 (by decide) rfl (fun q4 => ?_) (fun q4 => ?_)
      ·
        refine lv_iconst (v := 0) C.1 C.2.1 dX3_has_28 (by decide) ?_
        exact r_PIz C M (z := 0) hr hlk rfl (by omega) (by omega) (by omega) dX3_has_29
      ·
        refine lv_iload_n C.1 C.2.1 dX3_has_16 rfl (lv_at hl 2 rfl) ?_
        refine lv_aload_n C.1 C.2.1 dX3_has_17 rfl (lv_at hl 0 rfl) ?_
        refine gi_X3_34 C M h0_ dX3_has_18 (fun v5 kv5 tv5 uv5 => ?_)
        refine n_icmp_ge C (tgt := 28) dX3_has_21 (by decide) rfl rfl (fun q6 => ?_) (fun q6 => ?_)
        ·
          refine lv_iconst (v := 0) C.1 C.2.1 dX3_has_28 (by decide) ?_
          exact r_PIz C M (z := 0) hr hlk rfl (by omega) (by omega) (by omega) dX3_has_29
        ·
          refine lv_iconst (v := 1) C.1 C.2.1 dX3_has_24 (by decide) ?_
          refine lv_goto (tgt := 29) C.1 C.2.1 dX3_has_25 (by decide) ?_
          exact r_PIz C M (z := 1) hr hlk rfl (by omega) (by omega) (by omega) dX3_has_29

set_option maxHeartbeats 4000000 in
set_option maxRecDepth 100000 in
theorem ct_X3_readable (l : Launch) (g : Gs) (I : Ms) (J : Js) (a0 : Nat) (x1 : Int32) (x2 : Int32) (h0_ : Is g a0 1) : Ctr l yX3_readable cX3_readable 3 (Option.some Jvm.ClassFile.FieldType.boolean) 1 g [.ref a0, .int x1, .int x2] I J (PI I J (fun z => 0 ≤ z ∧ z ≤ 1 ∧ (z = 1 → 0 ≤ x1.toInt ∧ x1.toInt ≤ 6 ∧ 0 ≤ x2.toInt ∧ x2.toInt ≤ 39))) := by
  refine m_start (by decide) (Nat.le_of_ble_eq_true rfl) ?_
  intro p e s m args below meth c C hr hlk M ls hl
  have hl : lv_has ls 3 [(0, .ref a0), (1, .int x1), (2, .int x2)] := hl
  have C : CallFix p m c cX3_readable 3 s args TB RX3 := C
  refine lv_iload_n C.1 C.2.1 dX3_readable_0 rfl (lv_at hl 1 rfl) ?_
  refine n_if_lt C (tgt := 50) dX3_readable_1 (by decide) rfl (fun q1 => ?_) (fun q1 => ?_)
  ·
    refine lv_iconst (v := 0) C.1 C.2.1 dX3_readable_50 (by decide) ?_
    exact r_PIz C M (z := 0) hr hlk rfl (by omega) (by omega) (by omega) dX3_readable_51
  ·
    refine lv_iload_n C.1 C.2.1 dX3_readable_4 rfl (lv_at hl 1 rfl) ?_
    refine lv_aload_n C.1 C.2.1 dX3_readable_5 rfl (lv_at hl 0 rfl) ?_
    refine gi_X3_31 C M h0_ dX3_readable_6 (fun v2 kv2 tv2 uv2 => ?_)
    refine n_icmp_ge C (tgt := 50) dX3_readable_9 (by decide) rfl rfl (fun q3 => ?_) (fun q3 => ?_)
    ·
      refine lv_iconst (v := 0) C.1 C.2.1 dX3_readable_50 (by decide) ?_
      exact r_PIz C M (z := 0) hr hlk rfl (by omega) (by omega) (by omega) dX3_readable_51
    ·
      refine lv_iload_n C.1 C.2.1 dX3_readable_12 rfl (lv_at hl 2 rfl) ?_
      refine n_if_lt C (tgt := 50) dX3_readable_13 (by decide) rfl (fun q4 => ?_) (fun q4 => ?_)
      ·
        refine lv_iconst (v := 0) C.1 C.2.1 dX3_readable_50 (by decide) ?_
        exact r_PIz C M (z := 0) hr hlk rfl (by omega) (by omega) (by omega) dX3_readable_51
      ·
        refine lv_iload_n C.1 C.2.1 dX3_readable_16 rfl (lv_at hl 2 rfl) ?_
        refine lv_aload_n C.1 C.2.1 dX3_readable_17 rfl (lv_at hl 0 rfl) ?_
        refine gi_X3_34 C M h0_ dX3_readable_18 (fun v5 kv5 tv5 uv5 => ?_)
        refine n_icmp_ge C (tgt := 50) dX3_readable_21 (by decide) rfl rfl (fun q6 => ?_) (fun q6 => ?_)
        ·
          refine lv_iconst (v := 0) C.1 C.2.1 dX3_readable_50 (by decide) ?_
          exact r_PIz C M (z := 0) hr hlk rfl (by omega) (by omega) (by omega) dX3_readable_51
        ·
          refine lv_iload_n C.1 C.2.1 dX3_readable_24 rfl (lv_at hl 1 rfl) ?_
          refine lv_aload_n C.1 C.2.1 dX3_readable_25 rfl (lv_at hl 0 rfl) ?_
          refine gi_X3_21 C M h0_ dX3_readable_26 (fun v7 kv7 tv7 uv7 => ?_)
          refine n_icmp_eq C (tgt := 50) dX3_readable_29 (by decide) rfl rfl (fun q8 => ?_) (fun q8 => ?_)
          ·
            refine lv_iconst (v := 0) C.1 C.2.1 dX3_readable_50 (by decide) ?_
            exact r_PIz C M (z := 0) hr hlk rfl (by omega) (by omega) (by omega) dX3_readable_51
          ·
            refine lv_aload_n C.1 C.2.1 dX3_readable_32 rfl (lv_at hl 0 rfl) ?_
            refine gi_X3_15 C M h0_ dX3_readable_33 (fun h9 => ?_)
            refine lv_iload_n C.1 C.2.1 dX3_readable_36 rfl (lv_at hl 1 rfl) ?_
            refine lv_bipush (v := 40) C.1 C.2.1 dX3_readable_37 (by decide) ?_
            refine n_imul C (Y := 40) dX3_readable_39 rfl rfl (by omega) (by omega) (fun v10 ev10 => ?_)
            refine lv_iload_n C.1 C.2.1 dX3_readable_40 rfl (lv_at hl 2 rfl) ?_
            refine n_iadd C dX3_readable_41 rfl rfl (by omega) (by omega) (fun v11 ev11 => ?_)
            refine a_ld C M h9 (n := 280) rfl rfl rfl (by omega) (by omega) rfl dX3_readable_42 (fun v12 kv12 => ?_)
            refine n_if_ne C (tgt := 50) dX3_readable_43 (by decide) rfl (fun q13 => ?_) (fun q13 => ?_)
            ·
              refine lv_iconst (v := 0) C.1 C.2.1 dX3_readable_50 (by decide) ?_
              exact r_PIz C M (z := 0) hr hlk rfl (by omega) (by omega) (by omega) dX3_readable_51
            ·
              refine lv_iconst (v := 1) C.1 C.2.1 dX3_readable_46 (by decide) ?_
              refine lv_goto (tgt := 51) C.1 C.2.1 dX3_readable_47 (by decide) ?_
              exact r_PIz C M (z := 1) hr hlk rfl (by omega) (by omega) (by omega) dX3_readable_51

set_option maxHeartbeats 4000000 in
set_option maxRecDepth 100000 in
theorem ct_X3_gaps (l : Launch) (g : Gs) (I : Ms) (J : Js) (a0 : Nat) (a1 : Nat) (x2 : Int32) (h0_ : Is g a0 1) (h1_ : Is g a1 3) : Ctr l yX3_gaps cX3_gaps 5 (Option.some Jvm.ClassFile.FieldType.int) 1 g [.ref a0, .ref a1, .int x2] I J (PI I J (fun z => True)) := by
  refine m_start (by decide) (Nat.le_of_ble_eq_true rfl) ?_
  intro p e s m args below meth c C hr hlk M ls hl
  have hl : lv_has ls 5 [(0, .ref a0), (1, .ref a1), (2, .int x2)] := hl
  have C : CallFix p m c cX3_gaps 5 s args TB RX3 := C
  refine lv_iload_n C.1 C.2.1 dX3_gaps_0 rfl (lv_at hl 2 rfl) ?_
  refine n_if_lt C (tgt := 12) dX3_gaps_1 (by decide) rfl (fun q1 => ?_) (fun q1 => ?_)
  ·
    refine lv_aload_n C.1 C.2.1 dX3_gaps_12 rfl (lv_at hl 1 rfl) ?_
    refine gi_X3_43 C M h1_ dX3_gaps_13 (fun v2 kv2 tv2 uv2 => ?_)
    exact r_PI C M hr hlk rfl trivial dX3_gaps_16
  ·
    refine lv_iload_n C.1 C.2.1 dX3_gaps_4 rfl (lv_at hl 2 rfl) ?_
    refine lv_aload_n C.1 C.2.1 dX3_gaps_5 rfl (lv_at hl 0 rfl) ?_
    refine gi_X3_34 C M h0_ dX3_gaps_6 (fun v3 kv3 tv3 uv3 => ?_)
    refine n_icmp_lt C (tgt := 17) dX3_gaps_9 (by decide) rfl rfl (fun q4 => ?_) (fun q4 => ?_)
    ·
      refine lv_iconst (v := 0) C.1 C.2.1 dX3_gaps_17 (by decide) ?_
      refine lv_istore_n (lv' := [(3, .int 0), (0, .ref a0), (1, .ref a1), (2, .int x2)]) C.1 C.2.1 dX3_gaps_18 rfl hl (by decide) rfl (fun ls hl => ?_)
      refine lv_iconst (v := 0) C.1 C.2.1 dX3_gaps_19 (by decide) ?_
      refine lv_istore (lv' := [(4, .int 0), (3, .int 0), (0, .ref a0), (1, .ref a1), (2, .int x2)]) C.1 C.2.1 dX3_gaps_20 hl (by decide) rfl (fun ls hl => ?_)
      have L22 : ∀ (n22 : Nat) (y5 : Int32) (y6 : Int32) (H : Heap) (locs : List Loc) (ls : Array Slot), 0 ≤ y6.toInt → y6.toInt ≤ 8 → 8 - y6.toInt < (n22 : Int) → Mm g s I J H locs → lv_has ls 5 [(0, .ref a0), (1, .ref a1), (2, .int x2), (3, .int y5), (4, .int y6)] → W p l e (rmL 1) s m args below meth c H locs 0 0 (MQg below g (PI I J (fun z => True)) args s) (F0 m 22 ls []) := by
        intro n22
        induction n22 with
        | zero =>
          intro y5 y6 H locs ls f7 f8 hm22 M hl
          exact absurd hm22 (by omega)
        | succ n22 ih22 =>
          intro y5 y6 H locs ls f7 f8 hm22 M hl
          refine lv_iload C.1 C.2.1 dX3_gaps_22 (lv_at hl 4 rfl) ?_
          refine lv_aload_n C.1 C.2.1 dX3_gaps_24 rfl (lv_at hl 1 rfl) ?_
          refine gi_X3_43 C M h1_ dX3_gaps_25 (fun v9 kv9 tv9 uv9 => ?_)
          refine n_icmp_ge C (tgt := 73) dX3_gaps_28 (by decide) rfl rfl (fun q10 => ?_) (fun q10 => ?_)
          ·
            refine lv_iload_n C.1 C.2.1 dX3_gaps_73 rfl (lv_at hl 3 rfl) ?_
            exact r_PI C M hr hlk rfl trivial dX3_gaps_74
          ·
            refine lv_iload C.1 C.2.1 dX3_gaps_31 (lv_at hl 4 rfl) ?_
            refine lv_aload_n C.1 C.2.1 dX3_gaps_33 rfl (lv_at hl 0 rfl) ?_
            refine gi_X3_31 C M h0_ dX3_gaps_34 (fun v11 kv11 tv11 uv11 => ?_)
            refine n_icmp_ge C (tgt := 73) dX3_gaps_37 (by decide) rfl rfl (fun q12 => ?_) (fun q12 => ?_)
            ·
              refine lv_iload_n C.1 C.2.1 dX3_gaps_73 rfl (lv_at hl 3 rfl) ?_
              exact r_PI C M hr hlk rfl trivial dX3_gaps_74
            ·
              refine lv_iload C.1 C.2.1 dX3_gaps_40 (lv_at hl 4 rfl) ?_
              refine lv_aload_n C.1 C.2.1 dX3_gaps_42 rfl (lv_at hl 0 rfl) ?_
              refine gi_X3_21 C M h0_ dX3_gaps_43 (fun v13 kv13 tv13 uv13 => ?_)
              refine n_icmp_eq C (tgt := 64) dX3_gaps_46 (by decide) rfl rfl (fun q14 => ?_) (fun q14 => ?_)
              ·
                refine n_iincU C (k := 3) (lv' := fun v => [(3, .int v), (0, .ref a0), (1, .ref a1), (2, .int x2), (4, .int y6)]) dX3_gaps_64 hl rfl (by decide) (fun _ => rfl) (fun v15 ls hl => ?_)
                refine n_iinc C (k := 4) (N := 1) (lv' := fun v => [(4, .int v), (3, .int v15), (0, .ref a0), (1, .ref a1), (2, .int x2)]) dX3_gaps_67 hl rfl (by decide) rfl rfl (by omega) (by omega) (fun _ => rfl) (fun v16 ls ev16 hl => ?_)
                refine lv_goto (tgt := 22) C.1 C.2.1 dX3_gaps_70 (by decide) ?_
                exact ih22 v15 v16 _ _ _ (by omega) (by omega) (by omega) M (lv_sub hl [2, 3, 4, 1, 0] rfl)
              ·
                refine lv_aload_n C.1 C.2.1 dX3_gaps_49 rfl (lv_at hl 0 rfl) ?_
                refine gi_X3_15 C M h0_ dX3_gaps_50 (fun h17 => ?_)
                refine lv_iload C.1 C.2.1 dX3_gaps_53 (lv_at hl 4 rfl) ?_
                refine lv_bipush (v := 40) C.1 C.2.1 dX3_gaps_55 (by decide) ?_
                refine n_imul C (Y := 40) dX3_gaps_57 rfl rfl (by omega) (by omega) (fun v18 ev18 => ?_)
                refine lv_iload_n C.1 C.2.1 dX3_gaps_58 rfl (lv_at hl 2 rfl) ?_
                refine n_iadd C dX3_gaps_59 rfl rfl (by omega) (by omega) (fun v19 ev19 => ?_)
                refine a_ld C M h17 (n := 280) rfl rfl rfl (by omega) (by omega) rfl dX3_gaps_60 (fun v20 kv20 => ?_)
                refine n_if_eq C (tgt := 67) dX3_gaps_61 (by decide) rfl (fun q21 => ?_) (fun q21 => ?_)
                ·
                  refine n_iinc C (k := 4) (N := 1) (lv' := fun v => [(4, .int v), (0, .ref a0), (1, .ref a1), (2, .int x2), (3, .int y5)]) dX3_gaps_67 hl rfl (by decide) rfl rfl (by omega) (by omega) (fun _ => rfl) (fun v22 ls ev22 hl => ?_)
                  refine lv_goto (tgt := 22) C.1 C.2.1 dX3_gaps_70 (by decide) ?_
                  exact ih22 y5 v22 _ _ _ (by omega) (by omega) (by omega) M (lv_sub hl [1, 2, 3, 4, 0] rfl)
                ·
                  refine n_iincU C (k := 3) (lv' := fun v => [(3, .int v), (0, .ref a0), (1, .ref a1), (2, .int x2), (4, .int y6)]) dX3_gaps_64 hl rfl (by decide) (fun _ => rfl) (fun v23 ls hl => ?_)
                  refine n_iinc C (k := 4) (N := 1) (lv' := fun v => [(4, .int v), (3, .int v23), (0, .ref a0), (1, .ref a1), (2, .int x2)]) dX3_gaps_67 hl rfl (by decide) rfl rfl (by omega) (by omega) (fun _ => rfl) (fun v24 ls ev24 hl => ?_)
                  refine lv_goto (tgt := 22) C.1 C.2.1 dX3_gaps_70 (by decide) ?_
                  exact ih22 v23 v24 _ _ _ (by omega) (by omega) (by omega) M (lv_sub hl [2, 3, 4, 1, 0] rfl)
      have cz25 : (0 : Int32).toInt = 0 := rfl
      have cz26 : (0 : Int32).toInt = 0 := rfl
      exact L22 _ 0 0 _ _ _ (by omega) (by omega) (n_big _) M (lv_sub hl [2, 3, 4, 1, 0] rfl)
    ·
      refine lv_aload_n C.1 C.2.1 dX3_gaps_12 rfl (lv_at hl 1 rfl) ?_
      refine gi_X3_43 C M h1_ dX3_gaps_13 (fun v27 kv27 tv27 uv27 => ?_)
      exact r_PI C M hr hlk rfl trivial dX3_gaps_16

set_option maxHeartbeats 4000000 in
set_option maxRecDepth 100000 in
theorem ct_X3_xoredBut (l : Launch) (g : Gs) (I : Ms) (J : Js) (a0 : Nat) (a1 : Nat) (x2 : Int32) (x3 : Int32) (h0_ : Is g a0 1) (h1_ : Is g a1 3) : Ctr l yX3_xoredBut cX3_xoredBut 6 (Option.some Jvm.ClassFile.FieldType.int) 1 g [.ref a0, .ref a1, .int x2, .int x3] I J (PI I J (fun z => True)) := by
  refine m_start (by decide) (Nat.le_of_ble_eq_true rfl) ?_
  intro p e s m args below meth c C hr hlk M ls hl
  have hl : lv_has ls 6 [(0, .ref a0), (1, .ref a1), (2, .int x2), (3, .int x3)] := hl
  have C : CallFix p m c cX3_xoredBut 6 s args TB RX3 := C
  refine lv_iload_n C.1 C.2.1 dX3_xoredBut_0 rfl (lv_at hl 3 rfl) ?_
  refine n_if_lt C (tgt := 12) dX3_xoredBut_1 (by decide) rfl (fun q1 => ?_) (fun q1 => ?_)
  ·
    refine lv_iconst (v := 0) C.1 C.2.1 dX3_xoredBut_12 (by decide) ?_
    exact r_PI C M (z := 0) hr hlk rfl trivial dX3_xoredBut_13
  ·
    refine lv_iload_n C.1 C.2.1 dX3_xoredBut_4 rfl (lv_at hl 3 rfl) ?_
    refine lv_aload_n C.1 C.2.1 dX3_xoredBut_5 rfl (lv_at hl 0 rfl) ?_
    refine gi_X3_34 C M h0_ dX3_xoredBut_6 (fun v2 kv2 tv2 uv2 => ?_)
    refine n_icmp_lt C (tgt := 14) dX3_xoredBut_9 (by decide) rfl rfl (fun q3 => ?_) (fun q3 => ?_)
    ·
      refine lv_iconst (v := 0) C.1 C.2.1 dX3_xoredBut_14 (by decide) ?_
      refine lv_istore (lv' := [(4, .int 0), (0, .ref a0), (1, .ref a1), (2, .int x2), (3, .int x3)]) C.1 C.2.1 dX3_xoredBut_15 hl (by decide) rfl (fun ls hl => ?_)
      refine lv_iconst (v := 0) C.1 C.2.1 dX3_xoredBut_17 (by decide) ?_
      refine lv_istore (lv' := [(5, .int 0), (4, .int 0), (0, .ref a0), (1, .ref a1), (2, .int x2), (3, .int x3)]) C.1 C.2.1 dX3_xoredBut_18 hl (by decide) rfl (fun ls hl => ?_)
      have L20 : ∀ (n20 : Nat) (y4 : Int32) (y5 : Int32) (H : Heap) (locs : List Loc) (ls : Array Slot), 0 ≤ y5.toInt → y5.toInt ≤ 8 → 8 - y5.toInt < (n20 : Int) → Mm g s I J H locs → lv_has ls 6 [(0, .ref a0), (1, .ref a1), (2, .int x2), (3, .int x3), (4, .int y4), (5, .int y5)] → W p l e (rmL 1) s m args below meth c H locs 0 0 (MQg below g (PI I J (fun z => True)) args s) (F0 m 20 ls []) := by
        intro n20
        induction n20 with
        | zero =>
          intro y4 y5 H locs ls f6 f7 hm20 M hl
          exact absurd hm20 (by omega)
        | succ n20 ih20 =>
          intro y4 y5 H locs ls f6 f7 hm20 M hl
          refine lv_iload C.1 C.2.1 dX3_xoredBut_20 (lv_at hl 5 rfl) ?_
          refine lv_aload_n C.1 C.2.1 dX3_xoredBut_22 rfl (lv_at hl 1 rfl) ?_
          refine gi_X3_43 C M h1_ dX3_xoredBut_23 (fun v8 kv8 tv8 uv8 => ?_)
          refine n_icmp_ge C (tgt := 67) dX3_xoredBut_26 (by decide) rfl rfl (fun q9 => ?_) (fun q9 => ?_)
          ·
            refine lv_iload C.1 C.2.1 dX3_xoredBut_67 (lv_at hl 4 rfl) ?_
            exact r_PI C M hr hlk rfl trivial dX3_xoredBut_69
          ·
            refine lv_iload C.1 C.2.1 dX3_xoredBut_29 (lv_at hl 5 rfl) ?_
            refine lv_aload_n C.1 C.2.1 dX3_xoredBut_31 rfl (lv_at hl 0 rfl) ?_
            refine gi_X3_31 C M h0_ dX3_xoredBut_32 (fun v10 kv10 tv10 uv10 => ?_)
            refine n_icmp_ge C (tgt := 67) dX3_xoredBut_35 (by decide) rfl rfl (fun q11 => ?_) (fun q11 => ?_)
            ·
              refine lv_iload C.1 C.2.1 dX3_xoredBut_67 (lv_at hl 4 rfl) ?_
              exact r_PI C M hr hlk rfl trivial dX3_xoredBut_69
            ·
              refine lv_iload C.1 C.2.1 dX3_xoredBut_38 (lv_at hl 5 rfl) ?_
              refine lv_iload_n C.1 C.2.1 dX3_xoredBut_40 rfl (lv_at hl 2 rfl) ?_
              refine n_icmp_eq C (tgt := 61) dX3_xoredBut_41 (by decide) rfl rfl (fun q12 => ?_) (fun q12 => ?_)
              ·
                refine n_iinc C (k := 5) (N := 1) (lv' := fun v => [(5, .int v), (0, .ref a0), (1, .ref a1), (2, .int x2), (3, .int x3), (4, .int y4)]) dX3_xoredBut_61 hl rfl (by decide) rfl rfl (by omega) (by omega) (fun _ => rfl) (fun v13 ls ev13 hl => ?_)
                refine lv_goto (tgt := 20) C.1 C.2.1 dX3_xoredBut_64 (by decide) ?_
                exact ih20 y4 v13 _ _ _ (by omega) (by omega) (by omega) M (lv_sub hl [1, 2, 3, 4, 5, 0] rfl)
              ·
                refine lv_iload C.1 C.2.1 dX3_xoredBut_44 (lv_at hl 4 rfl) ?_
                refine lv_aload_n C.1 C.2.1 dX3_xoredBut_46 rfl (lv_at hl 0 rfl) ?_
                refine gi_X3_9 C M h0_ dX3_xoredBut_47 (fun h14 => ?_)
                refine lv_iload C.1 C.2.1 dX3_xoredBut_50 (lv_at hl 5 rfl) ?_
                refine lv_bipush (v := 40) C.1 C.2.1 dX3_xoredBut_52 (by decide) ?_
                refine n_imul C (Y := 40) dX3_xoredBut_54 rfl rfl (by omega) (by omega) (fun v15 ev15 => ?_)
                refine lv_iload_n C.1 C.2.1 dX3_xoredBut_55 rfl (lv_at hl 3 rfl) ?_
                refine n_iadd C dX3_xoredBut_56 rfl rfl (by omega) (by omega) (fun v16 ev16 => ?_)
                refine a_ld C M h14 (n := 280) rfl rfl rfl (by omega) (by omega) rfl dX3_xoredBut_57 (fun v17 kv17 => ?_)
                refine n_ixorU C dX3_xoredBut_58 (fun v18 => ?_)
                refine lv_istore (lv' := [(4, .int v18), (0, .ref a0), (1, .ref a1), (2, .int x2), (3, .int x3), (5, .int y5)]) C.1 C.2.1 dX3_xoredBut_59 hl (by decide) rfl (fun ls hl => ?_)
                refine n_iinc C (k := 5) (N := 1) (lv' := fun v => [(5, .int v), (4, .int v18), (0, .ref a0), (1, .ref a1), (2, .int x2), (3, .int x3)]) dX3_xoredBut_61 hl rfl (by decide) rfl rfl (by omega) (by omega) (fun _ => rfl) (fun v19 ls ev19 hl => ?_)
                refine lv_goto (tgt := 20) C.1 C.2.1 dX3_xoredBut_64 (by decide) ?_
                exact ih20 v18 v19 _ _ _ (by omega) (by omega) (by omega) M (lv_sub hl [2, 3, 4, 5, 1, 0] rfl)
      have cz20 : (0 : Int32).toInt = 0 := rfl
      have cz21 : (0 : Int32).toInt = 0 := rfl
      exact L20 _ 0 0 _ _ _ (by omega) (by omega) (n_big _) M (lv_sub hl [2, 3, 4, 5, 1, 0] rfl)
    ·
      refine lv_iconst (v := 0) C.1 C.2.1 dX3_xoredBut_12 (by decide) ?_
      exact r_PI C M (z := 0) hr hlk rfl trivial dX3_xoredBut_13

set_option maxHeartbeats 4000000 in
set_option maxRecDepth 100000 in
theorem ct_X3_readsFor (l : Launch) (g : Gs) (I : Ms) (J : Js) (a0 : Nat) (a1 : Nat) (x2 : Int32) (x3 : Int32) (h0_ : Is g a0 1) (h1_ : Is g a1 3) : Ctr l yX3_readsFor cX3_readsFor 4 (Option.some Jvm.ClassFile.FieldType.int) 2 g [.ref a0, .ref a1, .int x2, .int x3] I J (PI I J (fun z => True)) := by
  refine m_start (by decide) (Nat.le_of_ble_eq_true rfl) ?_
  intro p e s m args below meth c C hr hlk M ls hl
  have hl : lv_has ls 4 [(0, .ref a0), (1, .ref a1), (2, .int x2), (3, .int x3)] := hl
  have C : CallFix p m c cX3_readsFor 4 s args TB RX3 := C
  refine lv_aload_n C.1 C.2.1 dX3_readsFor_0 rfl (lv_at hl 0 rfl) ?_
  refine lv_iload_n C.1 C.2.1 dX3_readsFor_1 rfl (lv_at hl 2 rfl) ?_
  refine lv_iload_n C.1 C.2.1 dX3_readsFor_2 rfl (lv_at hl 3 rfl) ?_
  refine k_PI C M h0_ (by decide) rfl (ct_X3_readable l g I J a0 x2 x3 h0_) (cw_X3_48 C.2.2.2.2 (by decide)) rfl hl.1 rfl (Nat.le_of_ble_eq_true rfl) dX3_readsFor_3 ⟨Nat.le_refl _, Nat.le_refl _⟩ (fun r1 H locs p2r M => ?_)
  have p2 : 0 ≤ r1.toInt ∧ r1.toInt ≤ 1 ∧ (r1.toInt = 1 → 0 ≤ x2.toInt ∧ x2.toInt ≤ 6 ∧ 0 ≤ x3.toInt ∧ x3.toInt ≤ 39) := p2r
  refine n_if_eq C (tgt := 11) dX3_readsFor_6 (by decide) rfl (fun q3 => ?_) (fun q3 => ?_)
  ·
    refine lv_aload_n C.1 C.2.1 dX3_readsFor_11 rfl (lv_at hl 0 rfl) ?_
    refine lv_aload_n C.1 C.2.1 dX3_readsFor_12 rfl (lv_at hl 1 rfl) ?_
    refine lv_iload_n C.1 C.2.1 dX3_readsFor_13 rfl (lv_at hl 3 rfl) ?_
    refine k_PI C M h0_ (by decide) rfl (ct_X3_gaps l g I J a0 a1 x3 h0_ h1_) (cw_X3_52 C.2.2.2.2 (by decide)) rfl hl.1 rfl (Nat.le_of_ble_eq_true rfl) dX3_readsFor_14 ⟨Nat.le_refl _, Nat.le_refl _⟩ (fun r4 H locs p5r M => ?_)
    have p5 : True := p5r
    refine lv_iconst (v := 1) C.1 C.2.1 dX3_readsFor_17 (by decide) ?_
    refine n_icmp_ne C (tgt := 28) (Y := 1) dX3_readsFor_18 (by decide) rfl rfl (fun q6 => ?_) (fun q6 => ?_)
    ·
      refine lv_iconst (v := 0) C.1 C.2.1 dX3_readsFor_28 (by decide) ?_
      exact r_PI C M (z := 0) hr hlk rfl trivial dX3_readsFor_29
    ·
      refine lv_aload_n C.1 C.2.1 dX3_readsFor_21 rfl (lv_at hl 1 rfl) ?_
      refine gi_X3_56 C M h1_ dX3_readsFor_22 (fun v7 kv7 tv7 uv7 => ?_)
      refine lv_goto (tgt := 29) C.1 C.2.1 dX3_readsFor_25 (by decide) ?_
      exact r_PI C M hr hlk rfl trivial dX3_readsFor_29
  ·
    refine lv_iconst (v := 1) C.1 C.2.1 dX3_readsFor_9 (by decide) ?_
    exact r_PI C M (z := 1) hr hlk rfl trivial dX3_readsFor_10

set_option maxHeartbeats 4000000 in
set_option maxRecDepth 100000 in
theorem ct_X3_valueOf (l : Launch) (g : Gs) (I : Ms) (J : Js) (a0 : Nat) (a1 : Nat) (x2 : Int32) (x3 : Int32) (h0_ : Is g a0 1) (h1_ : Is g a1 3) : Ctr l yX3_valueOf cX3_valueOf 4 (Option.some Jvm.ClassFile.FieldType.int) 2 g [.ref a0, .ref a1, .int x2, .int x3] I J (PI I J (fun z => True)) := by
  refine m_start (by decide) (Nat.le_of_ble_eq_true rfl) ?_
  intro p e s m args below meth c C hr hlk M ls hl
  have hl : lv_has ls 4 [(0, .ref a0), (1, .ref a1), (2, .int x2), (3, .int x3)] := hl
  have C : CallFix p m c cX3_valueOf 4 s args TB RX3 := C
  refine lv_aload_n C.1 C.2.1 dX3_valueOf_0 rfl (lv_at hl 0 rfl) ?_
  refine lv_iload_n C.1 C.2.1 dX3_valueOf_1 rfl (lv_at hl 2 rfl) ?_
  refine lv_iload_n C.1 C.2.1 dX3_valueOf_2 rfl (lv_at hl 3 rfl) ?_
  refine k_PI C M h0_ (by decide) rfl (ct_X3_readable l g I J a0 x2 x3 h0_) (cw_X3_48 C.2.2.2.2 (by decide)) rfl hl.1 rfl (Nat.le_of_ble_eq_true rfl) dX3_valueOf_3 ⟨Nat.le_refl _, Nat.le_refl _⟩ (fun r1 H locs p2r M => ?_)
  have p2 : 0 ≤ r1.toInt ∧ r1.toInt ≤ 1 ∧ (r1.toInt = 1 → 0 ≤ x2.toInt ∧ x2.toInt ≤ 6 ∧ 0 ≤ x3.toInt ∧ x3.toInt ≤ 39) := p2r
  refine n_if_eq C (tgt := 23) dX3_valueOf_6 (by decide) rfl (fun q3 => ?_) (fun q3 => ?_)
  ·
    refine lv_aload_n C.1 C.2.1 dX3_valueOf_23 rfl (lv_at hl 0 rfl) ?_
    refine lv_aload_n C.1 C.2.1 dX3_valueOf_24 rfl (lv_at hl 1 rfl) ?_
    refine lv_iload_n C.1 C.2.1 dX3_valueOf_25 rfl (lv_at hl 2 rfl) ?_
    refine lv_iload_n C.1 C.2.1 dX3_valueOf_26 rfl (lv_at hl 3 rfl) ?_
    refine k_PI C M h0_ (by decide) rfl (ct_X3_xoredBut l g I J a0 a1 x2 x3 h0_ h1_) (cw_X3_59 C.2.2.2.2 (by decide)) rfl hl.1 rfl (Nat.le_of_ble_eq_true rfl) dX3_valueOf_27 ⟨Nat.le_refl _, Nat.le_refl _⟩ (fun r4 H locs p5r M => ?_)
    have p5 : True := p5r
    exact r_PI C M hr hlk rfl trivial dX3_valueOf_30
  ·
    refine lv_aload_n C.1 C.2.1 dX3_valueOf_9 rfl (lv_at hl 0 rfl) ?_
    refine gi_X3_9 C M h0_ dX3_valueOf_10 (fun h6 => ?_)
    refine lv_iload_n C.1 C.2.1 dX3_valueOf_13 rfl (lv_at hl 2 rfl) ?_
    refine lv_bipush (v := 40) C.1 C.2.1 dX3_valueOf_14 (by decide) ?_
    refine n_imul C (Y := 40) dX3_valueOf_16 rfl rfl (by omega) (by omega) (fun v7 ev7 => ?_)
    refine lv_iload_n C.1 C.2.1 dX3_valueOf_17 rfl (lv_at hl 3 rfl) ?_
    refine n_iadd C dX3_valueOf_18 rfl rfl (by omega) (by omega) (fun v8 ev8 => ?_)
    refine a_ld C M h6 (n := 280) rfl rfl rfl (by omega) (by omega) rfl dX3_valueOf_19 (fun v9 kv9 => ?_)
    refine lv_goto (tgt := 30) C.1 C.2.1 dX3_valueOf_20 (by decide) ?_
    exact r_PI C M hr hlk rfl trivial dX3_valueOf_30

set_option maxHeartbeats 4000000 in
set_option maxRecDepth 100000 in
theorem ct_X3_canStore (l : Launch) (g : Gs) (I : Ms) (J : Js) (a0 : Nat) (a1 : Nat) (x2 : Int32) (h0_ : Is g a0 1) (h1_ : Is g a1 3) : Ctr l yX3_canStore cX3_canStore 7 (Option.some Jvm.ClassFile.FieldType.boolean) 3 g [.ref a0, .ref a1, .int x2] I J (PI I J (fun z => 0 ≤ z ∧ z ≤ 1)) := by
  refine m_start (by decide) (Nat.le_of_ble_eq_true rfl) ?_
  intro p e s m args below meth c C hr hlk M ls hl
  have hl : lv_has ls 7 [(0, .ref a0), (1, .ref a1), (2, .int x2)] := hl
  have C : CallFix p m c cX3_canStore 7 s args TB RX3 := C
  refine lv_aload_n C.1 C.2.1 dX3_canStore_0 rfl (lv_at hl 1 rfl) ?_
  refine lv_iload_n C.1 C.2.1 dX3_canStore_1 rfl (lv_at hl 2 rfl) ?_
  refine k_PI C M h1_ (by decide) rfl (ct_X5_rowOf l g I J a1 x2 h1_) (cw_X3_63 C.2.2.2.2 (by decide)) rfl hl.1 rfl (Nat.le_of_ble_eq_true rfl) dX3_canStore_2 ⟨Nat.le_refl _, Nat.le_refl _⟩ (fun r1 H locs p2r M => ?_)
  have p2 : True := p2r
  refine lv_istore_n (lv' := [(3, .int r1), (0, .ref a0), (1, .ref a1), (2, .int x2)]) C.1 C.2.1 dX3_canStore_5 rfl hl (by decide) rfl (fun ls hl => ?_)
  refine lv_aload_n C.1 C.2.1 dX3_canStore_6 rfl (lv_at hl 1 rfl) ?_
  refine lv_aload_n C.1 C.2.1 dX3_canStore_7 rfl (lv_at hl 2 rfl) ?_
  refine lv_iload_n C.1 C.2.1 dX3_canStore_8 rfl (lv_at hl 0 rfl) ?_
  refine k_PI C M h0_ (by decide) rfl (ct_X3_gaps l g I J a0 a1 r1 h0_ h1_) (cw_X3_52 C.2.2.2.2 (by decide)) rfl hl.1 rfl (Nat.le_of_ble_eq_true rfl) dX3_canStore_9 ⟨Nat.le_refl _, Nat.le_refl _⟩ (fun r3 H locs p4r M => ?_)
  have p4 : True := p4r
  refine lv_iconst (v := 1) C.1 C.2.1 dX3_canStore_12 (by decide) ?_
  refine n_icmp_gt C (tgt := 18) (Y := 1) dX3_canStore_13 (by decide) rfl rfl (fun q5 => ?_) (fun q5 => ?_)
  ·
    refine lv_aload_n C.1 C.2.1 dX3_canStore_18 rfl (lv_at hl 2 rfl) ?_
    refine lv_iload_n C.1 C.2.1 dX3_canStore_19 rfl (lv_at hl 3 rfl) ?_
    refine k_PI C M h1_ (by decide) rfl (ct_X5_diskOf l g I J a1 x2 h1_) (cw_X3_67 C.2.2.2.2 (by decide)) rfl hl.1 rfl (Nat.le_of_ble_eq_true rfl) dX3_canStore_20 ⟨Nat.le_refl _, Nat.le_refl _⟩ (fun r6 H locs p7r M => ?_)
    have p7 : True := p7r
    refine lv_istore (lv' := [(4, .int r6), (3, .int r1), (0, .ref a0), (1, .ref a1), (2, .int x2)]) C.1 C.2.1 dX3_canStore_23 hl (by decide) rfl (fun ls hl => ?_)
    refine lv_aload_n C.1 C.2.1 dX3_canStore_25 rfl (lv_at hl 3 rfl) ?_
    refine lv_iload_n C.1 C.2.1 dX3_canStore_26 rfl (lv_at hl 1 rfl) ?_
    refine k_PI C M h1_ (by decide) rfl (ct_X5_parityDisk l g I J a1 r1 h1_) (cw_X3_70 C.2.2.2.2 (by decide)) rfl hl.1 rfl (Nat.le_of_ble_eq_true rfl) dX3_canStore_27 ⟨Nat.le_refl _, Nat.le_refl _⟩ (fun r8 H locs p9r M => ?_)
    have p9 : True := p9r
    refine lv_istore (lv' := [(5, .int r8), (4, .int r6), (3, .int r1), (0, .ref a0), (1, .ref a1), (2, .int x2)]) C.1 C.2.1 dX3_canStore_30 hl (by decide) rfl (fun ls hl => ?_)
    refine lv_iconst (v := 0) C.1 C.2.1 dX3_canStore_32 (by decide) ?_
    refine lv_istore (lv' := [(6, .int 0), (5, .int r8), (4, .int r6), (3, .int r1), (0, .ref a0), (1, .ref a1), (2, .int x2)]) C.1 C.2.1 dX3_canStore_33 hl (by decide) rfl (fun ls hl => ?_)
    have L35 : ∀ (n35 : Nat) (y10 : Int32) (H : Heap) (locs : List Loc) (ls : Array Slot), 0 ≤ y10.toInt → y10.toInt ≤ 8 → 8 - y10.toInt < (n35 : Int) → Mm g s I J H locs → lv_has ls 7 [(0, .ref a0), (1, .ref a1), (3, .int r1), (4, .int r6), (5, .int r8), (6, .int y10)] → W p l e (rmL 3) s m args below meth c H locs 0 0 (MQg below g (PI I J (fun z => 0 ≤ z ∧ z ≤ 1)) args s) (F0 m 35 ls []) := by
      intro n35
      induction n35 with
      | zero =>
        intro y10 H locs ls f11 f12 hm35 M hl
        exact absurd hm35 (by omega)
      | succ n35 ih35 =>
        intro y10 H locs ls f11 f12 hm35 M hl
        refine lv_iload C.1 C.2.1 dX3_canStore_35 (lv_at hl 5 rfl) ?_
        refine lv_aload_n C.1 C.2.1 dX3_canStore_37 rfl (lv_at hl 1 rfl) ?_
        refine gi_X3_43 C M h1_ dX3_canStore_38 (fun v13 kv13 tv13 uv13 => ?_)
        refine n_icmp_ge C (tgt := 76) dX3_canStore_41 (by decide) rfl rfl (fun q14 => ?_) (fun q14 => ?_)
        ·
          refine lv_iconst (v := 1) C.1 C.2.1 dX3_canStore_76 (by decide) ?_
          exact r_PIz C M (z := 1) hr hlk rfl (by omega) (by omega) (by omega) dX3_canStore_77
        ·
          refine lv_iload C.1 C.2.1 dX3_canStore_44 (lv_at hl 5 rfl) ?_
          refine lv_iload C.1 C.2.1 dX3_canStore_46 (lv_at hl 3 rfl) ?_
          refine n_icmp_eq C (tgt := 70) dX3_canStore_48 (by decide) rfl rfl (fun q15 => ?_) (fun q15 => ?_)
          ·
            refine n_iinc C (k := 5) (N := 1) (lv' := fun v => [(6, .int v), (0, .ref a0), (1, .ref a1), (3, .int r1), (4, .int r6), (5, .int r8)]) dX3_canStore_70 hl rfl (by decide) rfl rfl (by omega) (by omega) (fun _ => rfl) (fun v16 ls ev16 hl => ?_)
            refine lv_goto (tgt := 35) C.1 C.2.1 dX3_canStore_73 (by decide) ?_
            exact ih35 v16 _ _ _ (by omega) (by omega) (by omega) M (lv_sub hl [1, 2, 3, 4, 5, 0] rfl)
          ·
            refine lv_iload C.1 C.2.1 dX3_canStore_51 (lv_at hl 5 rfl) ?_
            refine lv_iload C.1 C.2.1 dX3_canStore_53 (lv_at hl 4 rfl) ?_
            refine n_icmp_eq C (tgt := 70) dX3_canStore_55 (by decide) rfl rfl (fun q17 => ?_) (fun q17 => ?_)
            ·
              refine n_iinc C (k := 5) (N := 1) (lv' := fun v => [(6, .int v), (0, .ref a0), (1, .ref a1), (3, .int r1), (4, .int r6), (5, .int r8)]) dX3_canStore_70 hl rfl (by decide) rfl rfl (by omega) (by omega) (fun _ => rfl) (fun v18 ls ev18 hl => ?_)
              refine lv_goto (tgt := 35) C.1 C.2.1 dX3_canStore_73 (by decide) ?_
              exact ih35 v18 _ _ _ (by omega) (by omega) (by omega) M (lv_sub hl [1, 2, 3, 4, 5, 0] rfl)
            ·
              refine lv_aload_n C.1 C.2.1 dX3_canStore_58 rfl (lv_at hl 0 rfl) ?_
              refine lv_iload C.1 C.2.1 dX3_canStore_59 (lv_at hl 5 rfl) ?_
              refine lv_iload_n C.1 C.2.1 dX3_canStore_61 rfl (lv_at hl 2 rfl) ?_
              refine k_PI C M h0_ (by decide) rfl (ct_X3_readable l g I J a0 y10 r1 h0_) (cw_X3_48 C.2.2.2.2 (by decide)) rfl hl.1 rfl (Nat.le_of_ble_eq_true rfl) dX3_canStore_62 ⟨Nat.le_refl _, Nat.le_refl _⟩ (fun r19 H locs p20r M => ?_)
              have p20 : 0 ≤ r19.toInt ∧ r19.toInt ≤ 1 ∧ (r19.toInt = 1 → 0 ≤ y10.toInt ∧ y10.toInt ≤ 6 ∧ 0 ≤ r1.toInt ∧ r1.toInt ≤ 39) := p20r
              refine n_if_ne C (tgt := 70) dX3_canStore_65 (by decide) rfl (fun q21 => ?_) (fun q21 => ?_)
              ·
                refine n_iinc C (k := 5) (N := 1) (lv' := fun v => [(6, .int v), (0, .ref a0), (1, .ref a1), (3, .int r1), (4, .int r6), (5, .int r8)]) dX3_canStore_70 hl rfl (by decide) rfl rfl (by omega) (by omega) (fun _ => rfl) (fun v22 ls ev22 hl => ?_)
                refine lv_goto (tgt := 35) C.1 C.2.1 dX3_canStore_73 (by decide) ?_
                exact ih35 v22 _ _ _ (by omega) (by omega) (by omega) M (lv_sub hl [1, 2, 3, 4, 5, 0] rfl)
              ·
                refine lv_iconst (v := 0) C.1 C.2.1 dX3_canStore_68 (by decide) ?_
                exact r_PIz C M (z := 0) hr hlk rfl (by omega) (by omega) (by omega) dX3_canStore_69
    have cz23 : (0 : Int32).toInt = 0 := rfl
    exact L35 _ 0 _ _ _ (by omega) (by omega) (n_big _) M (lv_sub hl [4, 5, 3, 2, 1, 0] rfl)
  ·
    refine lv_iconst (v := 1) C.1 C.2.1 dX3_canStore_16 (by decide) ?_
    exact r_PIz C M (z := 1) hr hlk rfl (by omega) (by omega) (by omega) dX3_canStore_17

abbrev md_X3_put : List (Nat × Nat) := [(16, 0), (17, 0)]
set_option maxHeartbeats 4000000 in
set_option maxRecDepth 100000 in
theorem ct_X3_put (l : Launch) (g : Gs) (I : Ms) (J : Js) (a0 : Nat) (x1 : Int32) (x2 : Int32) (x3 : Int32) (h0_ : Is g a0 1) : Ctr l yX3_put cX3_put 4 (Option.some Jvm.ClassFile.FieldType.boolean) 1 g [.ref a0, .int x1, .int x2, .int x3] I J (PM g md_X3_put I (fun z I1 J1 => J1 = J ∧ (0 ≤ z ∧ z ≤ 1 ∧ (z = 1 → 0 ≤ x1.toInt ∧ x1.toInt ≤ 6)))) := by
  refine m_start (by decide) (Nat.le_of_ble_eq_true rfl) ?_
  intro p e s m args below meth c C hr hlk M ls hl
  have hl : lv_has ls 4 [(0, .ref a0), (1, .int x1), (2, .int x2), (3, .int x3)] := hl
  have C : CallFix p m c cX3_put 4 s args TB RX3 := C
  have F : Fr g md_X3_put I I := fr_rf
  refine lv_iload_n C.1 C.2.1 dX3_put_0 rfl (lv_at hl 1 rfl) ?_
  refine n_if_lt C (tgt := 32) dX3_put_1 (by decide) rfl (fun q1 => ?_) (fun q1 => ?_)
  ·
    refine lv_iconst (v := 0) C.1 C.2.1 dX3_put_32 (by decide) ?_
    exact r_PMz C M (z := 0) hr hlk F rfl (by omega) (by omega) ⟨rfl, (by omega)⟩ dX3_put_33
  ·
    refine lv_iload_n C.1 C.2.1 dX3_put_4 rfl (lv_at hl 1 rfl) ?_
    refine lv_aload_n C.1 C.2.1 dX3_put_5 rfl (lv_at hl 0 rfl) ?_
    refine gi_X3_31 C M h0_ dX3_put_6 (fun v2 kv2 tv2 uv2 => ?_)
    refine n_icmp_ge C (tgt := 32) dX3_put_9 (by decide) rfl rfl (fun q3 => ?_) (fun q3 => ?_)
    ·
      refine lv_iconst (v := 0) C.1 C.2.1 dX3_put_32 (by decide) ?_
      exact r_PMz C M (z := 0) hr hlk F rfl (by omega) (by omega) ⟨rfl, (by omega)⟩ dX3_put_33
    ·
      refine lv_iload_n C.1 C.2.1 dX3_put_12 rfl (lv_at hl 2 rfl) ?_
      refine n_if_lt C (tgt := 32) dX3_put_13 (by decide) rfl (fun q4 => ?_) (fun q4 => ?_)
      ·
        refine lv_iconst (v := 0) C.1 C.2.1 dX3_put_32 (by decide) ?_
        exact r_PMz C M (z := 0) hr hlk F rfl (by omega) (by omega) ⟨rfl, (by omega)⟩ dX3_put_33
      ·
        refine lv_iload_n C.1 C.2.1 dX3_put_16 rfl (lv_at hl 2 rfl) ?_
        refine lv_aload_n C.1 C.2.1 dX3_put_17 rfl (lv_at hl 0 rfl) ?_
        refine gi_X3_34 C M h0_ dX3_put_18 (fun v5 kv5 tv5 uv5 => ?_)
        refine n_icmp_ge C (tgt := 32) dX3_put_21 (by decide) rfl rfl (fun q6 => ?_) (fun q6 => ?_)
        ·
          refine lv_iconst (v := 0) C.1 C.2.1 dX3_put_32 (by decide) ?_
          exact r_PMz C M (z := 0) hr hlk F rfl (by omega) (by omega) ⟨rfl, (by omega)⟩ dX3_put_33
        ·
          refine lv_iload_n C.1 C.2.1 dX3_put_24 rfl (lv_at hl 1 rfl) ?_
          refine lv_aload_n C.1 C.2.1 dX3_put_25 rfl (lv_at hl 0 rfl) ?_
          refine gi_X3_21 C M h0_ dX3_put_26 (fun v7 kv7 tv7 uv7 => ?_)
          refine n_icmp_ne C (tgt := 34) dX3_put_29 (by decide) rfl rfl (fun q8 => ?_) (fun q8 => ?_)
          ·
            refine lv_aload_n C.1 C.2.1 dX3_put_34 rfl (lv_at hl 0 rfl) ?_
            refine gi_X3_9 C M h0_ dX3_put_35 (fun h9 => ?_)
            refine lv_iload_n C.1 C.2.1 dX3_put_38 rfl (lv_at hl 1 rfl) ?_
            refine lv_bipush (v := 40) C.1 C.2.1 dX3_put_39 (by decide) ?_
            refine n_imul C (Y := 40) dX3_put_41 rfl rfl (by omega) (by omega) (fun v10 ev10 => ?_)
            refine lv_iload_n C.1 C.2.1 dX3_put_42 rfl (lv_at hl 2 rfl) ?_
            refine n_iadd C dX3_put_43 rfl rfl (by omega) (by omega) (fun v11 ev11 => ?_)
            refine lv_iload_n C.1 C.2.1 dX3_put_44 rfl (lv_at hl 3 rfl) ?_
            refine a_stU C M h9 (n := 280) rfl rfl rfl (by omega) (by omega) rfl rfl dX3_put_45 (fun H locs I12 k14 f13 M => ?_)
            have F := fr_put F h9 (Or.inl (by decide)) f13
            refine lv_aload_n C.1 C.2.1 dX3_put_46 rfl (lv_at hl 0 rfl) ?_
            refine gi_X3_15 C M h0_ dX3_put_47 (fun h15 => ?_)
            refine lv_iload_n C.1 C.2.1 dX3_put_50 rfl (lv_at hl 1 rfl) ?_
            refine lv_bipush (v := 40) C.1 C.2.1 dX3_put_51 (by decide) ?_
            refine n_imul C (Y := 40) dX3_put_53 rfl rfl (by omega) (by omega) (fun v16 ev16 => ?_)
            refine lv_iload_n C.1 C.2.1 dX3_put_54 rfl (lv_at hl 2 rfl) ?_
            refine n_iadd C dX3_put_55 rfl rfl (by omega) (by omega) (fun v17 ev17 => ?_)
            refine lv_iconst (v := 0) C.1 C.2.1 dX3_put_56 (by decide) ?_
            refine a_stU C M h15 (n := 280) rfl rfl rfl (by omega) (by omega) rfl rfl dX3_put_57 (fun H locs I18 k20 f19 M => ?_)
            have F := fr_put F h15 (Or.inl (by decide)) f19
            refine lv_iconst (v := 1) C.1 C.2.1 dX3_put_58 (by decide) ?_
            exact r_PMz C M (z := 1) hr hlk F rfl (by omega) (by omega) ⟨rfl, (by omega)⟩ dX3_put_59
          ·
            refine lv_iconst (v := 0) C.1 C.2.1 dX3_put_32 (by decide) ?_
            exact r_PMz C M (z := 0) hr hlk F rfl (by omega) (by omega) ⟨rfl, (by omega)⟩ dX3_put_33

abbrev md_X3_lay : List (Nat × Nat) := [(16, 0), (17, 0), (18, 0)]
set_option maxHeartbeats 4000000 in
set_option maxRecDepth 100000 in
theorem ct_X3_lay (l : Launch) (g : Gs) (I : Ms) (J : Js) (a0 : Nat) (x1 : Int32) (x2 : Int32) (x3 : Int32) (h0_ : Is g a0 1) : Ctr l yX3_lay cX3_lay 4 (Option.none : Option Jvm.ClassFile.FieldType) 2 g [.ref a0, .int x1, .int x2, .int x3] I J (PV g md_X3_lay I (fun I1 J1 => J1 = J ∧ (True))) := by
  refine m_start (by decide) (Nat.le_of_ble_eq_true rfl) ?_
  intro p e s m args below meth c C hr hlk M ls hl
  have hl : lv_has ls 4 [(0, .ref a0), (1, .int x1), (2, .int x2), (3, .int x3)] := hl
  have C : CallFix p m c cX3_lay 4 s args TB RX3 := C
  have F : Fr g md_X3_lay I I := fr_rf
  refine lv_aload_n C.1 C.2.1 dX3_lay_0 rfl (lv_at hl 0 rfl) ?_
  refine lv_iload_n C.1 C.2.1 dX3_lay_1 rfl (lv_at hl 1 rfl) ?_
  refine lv_iload_n C.1 C.2.1 dX3_lay_2 rfl (lv_at hl 2 rfl) ?_
  refine lv_iload_n C.1 C.2.1 dX3_lay_3 rfl (lv_at hl 3 rfl) ?_
  refine k_PM C M h0_ (by decide) rfl (ct_X3_put l g I J a0 x1 x2 x3 h0_) (cw_X3_80 C.2.2.2.2 (by decide)) rfl hl.1 rfl (Nat.le_of_ble_eq_true rfl) dX3_lay_4 ⟨Nat.le_refl _, Nat.le_refl _⟩ (fun r5 I1 J2 H locs G3 p4r M => ?_)
  obtain ⟨eJ2, p4⟩ : J2 = J ∧ (0 ≤ r5.toInt ∧ r5.toInt ≤ 1 ∧ (r5.toInt = 1 → 0 ≤ x1.toInt ∧ x1.toInt ≤ 6)) := p4r
  have eJ2 := eJ2.symm
  subst eJ2
  have F := fr_call F G3 (by decide)
  refine n_if_eq C (tgt := 20) dX3_lay_7 (by decide) rfl (fun q6 => ?_) (fun q6 => ?_)
  ·
    exact r_PV C M hr hlk F ⟨rfl, trivial⟩ dX3_lay_20
  ·
    refine lv_aload_n C.1 C.2.1 dX3_lay_10 rfl (lv_at hl 0 rfl) ?_
    refine gi_X3_18 C M h0_ dX3_lay_11 (fun h7 => ?_)
    refine lv_iload_n C.1 C.2.1 dX3_lay_14 rfl (lv_at hl 1 rfl) ?_
    refine lv_dup2_11 C.1 C.2.1 dX3_lay_15 rfl rfl ?_
    refine a_ld C M h7 (n := 7) rfl rfl rfl (by omega) (by omega) rfl dX3_lay_16 (fun v8 kv8 => ?_)
    refine lv_iconst (v := 1) C.1 C.2.1 dX3_lay_17 (by decide) ?_
    refine n_iaddU C dX3_lay_18 (fun v9 => ?_)
    refine a_stU C M h7 (n := 7) rfl rfl rfl (by omega) (by omega) rfl rfl dX3_lay_19 (fun H locs I10 k12 f11 M => ?_)
    have F := fr_put F h7 (Or.inl (by decide)) f11
    exact r_PV C M hr hlk F ⟨rfl, trivial⟩ dX3_lay_20

abbrev md_X3_store : List (Nat × Nat) := [(16, 0), (17, 0), (18, 0)]
set_option maxHeartbeats 4000000 in
set_option maxRecDepth 100000 in
theorem ct_X3_store (l : Launch) (g : Gs) (I : Ms) (J : Js) (a0 : Nat) (a1 : Nat) (x2 : Int32) (x3 : Int32) (h0_ : Is g a0 1) (h1_ : Is g a1 3) : Ctr l yX3_store cX3_store 9 (Option.none : Option Jvm.ClassFile.FieldType) 3 g [.ref a0, .ref a1, .int x2, .int x3] I J (PV g md_X3_store I (fun I1 J1 => J1 = J ∧ (True))) := by
  refine m_start (by decide) (Nat.le_of_ble_eq_true rfl) ?_
  intro p e s m args below meth c C hr hlk M ls hl
  have hl : lv_has ls 9 [(0, .ref a0), (1, .ref a1), (2, .int x2), (3, .int x3)] := hl
  have C : CallFix p m c cX3_store 9 s args TB RX3 := C
  have F : Fr g md_X3_store I I := fr_rf
  refine lv_aload_n C.1 C.2.1 dX3_store_0 rfl (lv_at hl 1 rfl) ?_
  refine lv_iload_n C.1 C.2.1 dX3_store_1 rfl (lv_at hl 2 rfl) ?_
  refine k_PI C M h1_ (by decide) rfl (ct_X5_rowOf l g I J a1 x2 h1_) (cw_X3_63 C.2.2.2.2 (by decide)) rfl hl.1 rfl (Nat.le_of_ble_eq_true rfl) dX3_store_2 ⟨Nat.le_refl _, Nat.le_refl _⟩ (fun r1 H locs p2r M => ?_)
  have p2 : True := p2r
  refine lv_istore (lv' := [(4, .int r1), (0, .ref a0), (1, .ref a1), (2, .int x2), (3, .int x3)]) C.1 C.2.1 dX3_store_5 hl (by decide) rfl (fun ls hl => ?_)
  refine lv_aload_n C.1 C.2.1 dX3_store_7 rfl (lv_at hl 2 rfl) ?_
  refine lv_iload_n C.1 C.2.1 dX3_store_8 rfl (lv_at hl 3 rfl) ?_
  refine k_PI C M h1_ (by decide) rfl (ct_X5_diskOf l g I J a1 x2 h1_) (cw_X3_67 C.2.2.2.2 (by decide)) rfl hl.1 rfl (Nat.le_of_ble_eq_true rfl) dX3_store_9 ⟨Nat.le_refl _, Nat.le_refl _⟩ (fun r3 H locs p4r M => ?_)
  have p4 : True := p4r
  refine lv_istore (lv' := [(5, .int r3), (4, .int r1), (0, .ref a0), (1, .ref a1), (2, .int x2), (3, .int x3)]) C.1 C.2.1 dX3_store_12 hl (by decide) rfl (fun ls hl => ?_)
  refine lv_aload_n C.1 C.2.1 dX3_store_14 rfl (lv_at hl 3 rfl) ?_
  refine lv_iload C.1 C.2.1 dX3_store_15 (lv_at hl 1 rfl) ?_
  refine k_PI C M h1_ (by decide) rfl (ct_X5_parityDisk l g I J a1 r1 h1_) (cw_X3_70 C.2.2.2.2 (by decide)) rfl hl.1 rfl (Nat.le_of_ble_eq_true rfl) dX3_store_17 ⟨Nat.le_refl _, Nat.le_refl _⟩ (fun r5 H locs p6r M => ?_)
  have p6 : True := p6r
  refine lv_istore (lv' := [(6, .int r5), (5, .int r3), (4, .int r1), (0, .ref a0), (1, .ref a1), (2, .int x2), (3, .int x3)]) C.1 C.2.1 dX3_store_20 hl (by decide) rfl (fun ls hl => ?_)
  refine lv_iload_n C.1 C.2.1 dX3_store_22 rfl (lv_at hl 6 rfl) ?_
  refine lv_istore (lv' := [(7, .int x3), (6, .int r5), (5, .int r3), (4, .int r1), (0, .ref a0), (1, .ref a1), (2, .int x2), (3, .int x3)]) C.1 C.2.1 dX3_store_23 hl (by decide) rfl (fun ls hl => ?_)
  refine lv_iconst (v := 0) C.1 C.2.1 dX3_store_25 (by decide) ?_
  refine lv_istore (lv' := [(8, .int 0), (7, .int x3), (6, .int r5), (5, .int r3), (4, .int r1), (0, .ref a0), (1, .ref a1), (2, .int x2), (3, .int x3)]) C.1 C.2.1 dX3_store_26 hl (by decide) rfl (fun ls hl => ?_)
  have L28 : ∀ (n28 : Nat) (y7 : Int32) (y8 : Int32) (H : Heap) (locs : List Loc) (ls : Array Slot), 0 ≤ y8.toInt → y8.toInt ≤ 8 → 8 - y8.toInt < (n28 : Int) → Mm g s I J H locs → lv_has ls 9 [(0, .ref a0), (1, .ref a1), (3, .int x3), (4, .int r1), (5, .int r3), (6, .int r5), (7, .int y7), (8, .int y8)] → W p l e (rmL 3) s m args below meth c H locs 0 0 (MQg below g (PV g md_X3_store I (fun I1 J1 => J1 = J ∧ (True))) args s) (F0 m 28 ls []) := by
    intro n28
    induction n28 with
    | zero =>
      intro y7 y8 H locs ls f9 f10 hm28 M hl
      exact absurd hm28 (by omega)
    | succ n28 ih28 =>
      intro y7 y8 H locs ls f9 f10 hm28 M hl
      refine lv_iload C.1 C.2.1 dX3_store_28 (lv_at hl 7 rfl) ?_
      refine lv_aload_n C.1 C.2.1 dX3_store_30 rfl (lv_at hl 1 rfl) ?_
      refine gi_X3_43 C M h1_ dX3_store_31 (fun v11 kv11 tv11 uv11 => ?_)
      refine n_icmp_ge C (tgt := 71) dX3_store_34 (by decide) rfl rfl (fun q12 => ?_) (fun q12 => ?_)
      ·
        refine lv_aload_n C.1 C.2.1 dX3_store_71 rfl (lv_at hl 0 rfl) ?_
        refine lv_iload C.1 C.2.1 dX3_store_72 (lv_at hl 4 rfl) ?_
        refine lv_iload C.1 C.2.1 dX3_store_74 (lv_at hl 3 rfl) ?_
        refine lv_iload_n C.1 C.2.1 dX3_store_76 rfl (lv_at hl 2 rfl) ?_
        refine k_PV C M h0_ (by decide) rfl (ct_X3_lay l g I J a0 r3 r1 x3 h0_) (cw_X3_76 C.2.2.2.2 (by decide)) rfl hl.1 rfl (Nat.le_of_ble_eq_true rfl) dX3_store_77 ⟨Nat.le_refl _, Nat.le_refl _⟩ (fun I13 J14 H locs G15 p16r M => ?_)
        obtain ⟨eJ14, p16⟩ : J14 = J ∧ (True) := p16r
        have eJ14 := eJ14.symm
        subst eJ14
        have F := fr_call F G15 (by decide)
        refine lv_aload_n C.1 C.2.1 dX3_store_80 rfl (lv_at hl 0 rfl) ?_
        refine lv_iload C.1 C.2.1 dX3_store_81 (lv_at hl 5 rfl) ?_
        refine lv_iload C.1 C.2.1 dX3_store_83 (lv_at hl 3 rfl) ?_
        refine lv_iload C.1 C.2.1 dX3_store_85 (lv_at hl 6 rfl) ?_
        refine k_PV C M h0_ (by decide) rfl (ct_X3_lay l g I13 J a0 r5 r1 y7 h0_) (cw_X3_76 C.2.2.2.2 (by decide)) rfl hl.1 rfl (Nat.le_of_ble_eq_true rfl) dX3_store_87 ⟨Nat.le_refl _, Nat.le_refl _⟩ (fun I17 J18 H locs G19 p20r M => ?_)
        obtain ⟨eJ18, p20⟩ : J18 = J ∧ (True) := p20r
        have eJ18 := eJ18.symm
        subst eJ18
        have F := fr_call F G19 (by decide)
        exact r_PV C M hr hlk F ⟨rfl, trivial⟩ dX3_store_90
      ·
        refine lv_iload C.1 C.2.1 dX3_store_37 (lv_at hl 7 rfl) ?_
        refine lv_iload C.1 C.2.1 dX3_store_39 (lv_at hl 4 rfl) ?_
        refine n_icmp_eq C (tgt := 65) dX3_store_41 (by decide) rfl rfl (fun q21 => ?_) (fun q21 => ?_)
        ·
          refine n_iinc C (k := 7) (N := 1) (lv' := fun v => [(8, .int v), (0, .ref a0), (1, .ref a1), (3, .int x3), (4, .int r1), (5, .int r3), (6, .int r5), (7, .int y7)]) dX3_store_65 hl rfl (by decide) rfl rfl (by omega) (by omega) (fun _ => rfl) (fun v22 ls ev22 hl => ?_)
          refine lv_goto (tgt := 28) C.1 C.2.1 dX3_store_68 (by decide) ?_
          exact ih28 y7 v22 _ _ _ (by omega) (by omega) (by omega) M (lv_sub hl [1, 2, 3, 4, 5, 6, 7, 0] rfl)
        ·
          refine lv_iload C.1 C.2.1 dX3_store_44 (lv_at hl 7 rfl) ?_
          refine lv_iload C.1 C.2.1 dX3_store_46 (lv_at hl 5 rfl) ?_
          refine n_icmp_eq C (tgt := 65) dX3_store_48 (by decide) rfl rfl (fun q23 => ?_) (fun q23 => ?_)
          ·
            refine n_iinc C (k := 7) (N := 1) (lv' := fun v => [(8, .int v), (0, .ref a0), (1, .ref a1), (3, .int x3), (4, .int r1), (5, .int r3), (6, .int r5), (7, .int y7)]) dX3_store_65 hl rfl (by decide) rfl rfl (by omega) (by omega) (fun _ => rfl) (fun v24 ls ev24 hl => ?_)
            refine lv_goto (tgt := 28) C.1 C.2.1 dX3_store_68 (by decide) ?_
            exact ih28 y7 v24 _ _ _ (by omega) (by omega) (by omega) M (lv_sub hl [1, 2, 3, 4, 5, 6, 7, 0] rfl)
          ·
            refine lv_iload C.1 C.2.1 dX3_store_51 (lv_at hl 6 rfl) ?_
            refine lv_aload_n C.1 C.2.1 dX3_store_53 rfl (lv_at hl 0 rfl) ?_
            refine lv_aload_n C.1 C.2.1 dX3_store_54 rfl (lv_at hl 1 rfl) ?_
            refine lv_iload C.1 C.2.1 dX3_store_55 (lv_at hl 7 rfl) ?_
            refine lv_iload C.1 C.2.1 dX3_store_57 (lv_at hl 3 rfl) ?_
            refine k_PI C M h0_ (by decide) rfl (ct_X3_valueOf l g I J a0 a1 y8 r1 h0_ h1_) (cw_X3_73 C.2.2.2.2 (by decide)) rfl hl.1 rfl (Nat.le_of_ble_eq_true rfl) dX3_store_59 ⟨Nat.le_refl _, Nat.le_refl _⟩ (fun r25 H locs p26r M => ?_)
            have p26 : True := p26r
            refine n_ixorU C dX3_store_62 (fun v27 => ?_)
            refine lv_istore (lv' := [(7, .int v27), (0, .ref a0), (1, .ref a1), (3, .int x3), (4, .int r1), (5, .int r3), (6, .int r5), (8, .int y8)]) C.1 C.2.1 dX3_store_63 hl (by decide) rfl (fun ls hl => ?_)
            refine n_iinc C (k := 7) (N := 1) (lv' := fun v => [(8, .int v), (7, .int v27), (0, .ref a0), (1, .ref a1), (3, .int x3), (4, .int r1), (5, .int r3), (6, .int r5)]) dX3_store_65 hl rfl (by decide) rfl rfl (by omega) (by omega) (fun _ => rfl) (fun v28 ls ev28 hl => ?_)
            refine lv_goto (tgt := 28) C.1 C.2.1 dX3_store_68 (by decide) ?_
            exact ih28 v27 v28 _ _ _ (by omega) (by omega) (by omega) M (lv_sub hl [2, 3, 4, 5, 6, 7, 1, 0] rfl)
  have cz29 : (0 : Int32).toInt = 0 := rfl
  exact L28 _ x3 0 _ _ _ (by omega) (by omega) (n_big _) M (lv_sub hl [5, 6, 8, 4, 3, 2, 1, 0] rfl)

abbrev md_X3_spoil : List (Nat × Nat) := [(17, 0)]
set_option maxHeartbeats 4000000 in
set_option maxRecDepth 100000 in
theorem ct_X3_spoil (l : Launch) (g : Gs) (I : Ms) (J : Js) (a0 : Nat) (x1 : Int32) (x2 : Int32) (h0_ : Is g a0 1) : Ctr l yX3_spoil cX3_spoil 3 (Option.some Jvm.ClassFile.FieldType.boolean) 2 g [.ref a0, .int x1, .int x2] I J (PM g md_X3_spoil I (fun z I1 J1 => J1 = J ∧ (0 ≤ z ∧ z ≤ 1))) := by
  refine m_start (by decide) (Nat.le_of_ble_eq_true rfl) ?_
  intro p e s m args below meth c C hr hlk M ls hl
  have hl : lv_has ls 3 [(0, .ref a0), (1, .int x1), (2, .int x2)] := hl
  have C : CallFix p m c cX3_spoil 3 s args TB RX3 := C
  have F : Fr g md_X3_spoil I I := fr_rf
  refine lv_aload_n C.1 C.2.1 dX3_spoil_0 rfl (lv_at hl 0 rfl) ?_
  refine lv_iload_n C.1 C.2.1 dX3_spoil_1 rfl (lv_at hl 1 rfl) ?_
  refine lv_iload_n C.1 C.2.1 dX3_spoil_2 rfl (lv_at hl 2 rfl) ?_
  refine k_PI C M h0_ (by decide) rfl (ct_X3_readable l g I J a0 x1 x2 h0_) (cw_X3_48 C.2.2.2.2 (by decide)) rfl hl.1 rfl (Nat.le_of_ble_eq_true rfl) dX3_spoil_3 ⟨Nat.le_refl _, Nat.le_refl _⟩ (fun r1 H locs p2r M => ?_)
  have p2 : 0 ≤ r1.toInt ∧ r1.toInt ≤ 1 ∧ (r1.toInt = 1 → 0 ≤ x1.toInt ∧ x1.toInt ≤ 6 ∧ 0 ≤ x2.toInt ∧ x2.toInt ≤ 39) := p2r
  refine n_if_ne C (tgt := 11) dX3_spoil_6 (by decide) rfl (fun q3 => ?_) (fun q3 => ?_)
  ·
    refine lv_aload_n C.1 C.2.1 dX3_spoil_11 rfl (lv_at hl 0 rfl) ?_
    refine gi_X3_15 C M h0_ dX3_spoil_12 (fun h4 => ?_)
    refine lv_iload_n C.1 C.2.1 dX3_spoil_15 rfl (lv_at hl 1 rfl) ?_
    refine lv_bipush (v := 40) C.1 C.2.1 dX3_spoil_16 (by decide) ?_
    refine n_imul C (Y := 40) dX3_spoil_18 rfl rfl (by omega) (by omega) (fun v5 ev5 => ?_)
    refine lv_iload_n C.1 C.2.1 dX3_spoil_19 rfl (lv_at hl 2 rfl) ?_
    refine n_iadd C dX3_spoil_20 rfl rfl (by omega) (by omega) (fun v6 ev6 => ?_)
    refine lv_iconst (v := 1) C.1 C.2.1 dX3_spoil_21 (by decide) ?_
    refine a_stU C M h4 (n := 280) rfl rfl rfl (by omega) (by omega) rfl rfl dX3_spoil_22 (fun H locs I7 k9 f8 M => ?_)
    have F := fr_put F h4 (Or.inl (by decide)) f8
    refine lv_iconst (v := 1) C.1 C.2.1 dX3_spoil_23 (by decide) ?_
    exact r_PMz C M (z := 1) hr hlk F rfl (by omega) (by omega) ⟨rfl, (by omega)⟩ dX3_spoil_24
  ·
    refine lv_iconst (v := 0) C.1 C.2.1 dX3_spoil_9 (by decide) ?_
    exact r_PMz C M (z := 0) hr hlk F rfl (by omega) (by omega) ⟨rfl, (by omega)⟩ dX3_spoil_10

abbrev md_X3_loseOne : List (Nat × Nat) := [(1, 6)]
set_option maxHeartbeats 4000000 in
set_option maxRecDepth 100000 in
theorem ct_X3_loseOne (l : Launch) (g : Gs) (I : Ms) (J : Js) (a0 : Nat) (x1 : Int32) (h0_ : Is g a0 1) : Ctr l yX3_loseOne cX3_loseOne 2 (Option.some Jvm.ClassFile.FieldType.boolean) 2 g [.ref a0, .int x1] I J (PM g md_X3_loseOne I (fun z I1 J1 => J1 = J ∧ (0 ≤ z ∧ z ≤ 1))) := by
  refine m_start (by decide) (Nat.le_of_ble_eq_true rfl) ?_
  intro p e s m args below meth c C hr hlk M ls hl
  have hl : lv_has ls 2 [(0, .ref a0), (1, .int x1)] := hl
  have C : CallFix p m c cX3_loseOne 2 s args TB RX3 := C
  have F : Fr g md_X3_loseOne I I := fr_rf
  refine lv_aload_n C.1 C.2.1 dX3_loseOne_0 rfl (lv_at hl 0 rfl) ?_
  refine gi_X3_21 C M h0_ dX3_loseOne_1 (fun v1 kv1 tv1 uv1 => ?_)
  refine lv_iconst (v := -1) C.1 C.2.1 dX3_loseOne_4 (by decide) ?_
  refine n_icmp_ne C (tgt := 16) (Y := (-1)) dX3_loseOne_5 (by decide) rfl rfl (fun q2 => ?_) (fun q2 => ?_)
  ·
    refine lv_iconst (v := 0) C.1 C.2.1 dX3_loseOne_16 (by decide) ?_
    exact r_PMz C M (z := 0) hr hlk F rfl (by omega) (by omega) ⟨rfl, (by omega)⟩ dX3_loseOne_17
  ·
    refine lv_aload_n C.1 C.2.1 dX3_loseOne_8 rfl (lv_at hl 0 rfl) ?_
    refine lv_iload_n C.1 C.2.1 dX3_loseOne_9 rfl (lv_at hl 1 rfl) ?_
    refine k_PI C M h0_ (by decide) rfl (ct_X3_hasDisk l g I J a0 x1 h0_) (cw_X3_84 C.2.2.2.2 (by decide)) rfl hl.1 rfl (Nat.le_of_ble_eq_true rfl) dX3_loseOne_10 ⟨Nat.le_refl _, Nat.le_refl _⟩ (fun r3 H locs p4r M => ?_)
    have p4 : 0 ≤ r3.toInt ∧ r3.toInt ≤ 1 ∧ (r3.toInt = 1 → 0 ≤ x1.toInt ∧ x1.toInt ≤ 6) := p4r
    refine n_if_ne C (tgt := 18) dX3_loseOne_13 (by decide) rfl (fun q5 => ?_) (fun q5 => ?_)
    ·
      refine lv_aload_n C.1 C.2.1 dX3_loseOne_18 rfl (lv_at hl 0 rfl) ?_
      refine lv_iload_n C.1 C.2.1 dX3_loseOne_19 rfl (lv_at hl 1 rfl) ?_
      refine pi_X3_21 C M h0_ dX3_loseOne_20 rfl (by omega) (by omega) (fun H locs I6 k8 f7 M => ?_)
      have F := fr_put F h0_ (Or.inr (by decide)) f7
      refine lv_iconst (v := 1) C.1 C.2.1 dX3_loseOne_23 (by decide) ?_
      exact r_PMz C M (z := 1) hr hlk F rfl (by omega) (by omega) ⟨rfl, (by omega)⟩ dX3_loseOne_24
    ·
      refine lv_iconst (v := 0) C.1 C.2.1 dX3_loseOne_16 (by decide) ?_
      exact r_PMz C M (z := 0) hr hlk F rfl (by omega) (by omega) ⟨rfl, (by omega)⟩ dX3_loseOne_17

abbrev md_X3_addDisk : List (Nat × Nat) := [(1, 4)]
set_option maxHeartbeats 4000000 in
set_option maxRecDepth 100000 in
theorem ct_X3_addDisk (l : Launch) (g : Gs) (I : Ms) (J : Js) (a0 : Nat) (h0_ : Is g a0 1) : Ctr l yX3_addDisk cX3_addDisk 1 (Option.none : Option Jvm.ClassFile.FieldType) 1 g [.ref a0] I J (PV g md_X3_addDisk I (fun I1 J1 => J1 = J ∧ (True))) := by
  refine m_start (by decide) (Nat.le_of_ble_eq_true rfl) ?_
  intro p e s m args below meth c C hr hlk M ls hl
  have hl : lv_has ls 1 [(0, .ref a0)] := hl
  have C : CallFix p m c cX3_addDisk 1 s args TB RX3 := C
  have F : Fr g md_X3_addDisk I I := fr_rf
  refine lv_aload_n C.1 C.2.1 dX3_addDisk_0 rfl (lv_at hl 0 rfl) ?_
  refine gi_X3_31 C M h0_ dX3_addDisk_1 (fun v1 kv1 tv1 uv1 => ?_)
  refine lv_bipush (v := 7) C.1 C.2.1 dX3_addDisk_4 (by decide) ?_
  refine n_icmp_ge C (tgt := 19) (Y := 7) dX3_addDisk_6 (by decide) rfl rfl (fun q2 => ?_) (fun q2 => ?_)
  ·
    exact r_PV C M hr hlk F ⟨rfl, trivial⟩ dX3_addDisk_19
  ·
    refine lv_aload_n C.1 C.2.1 dX3_addDisk_9 rfl (lv_at hl 0 rfl) ?_
    refine lv_dup C.1 C.2.1 dX3_addDisk_10 rfl ?_
    refine gk_X3_31 C M h0_ kv1 dX3_addDisk_11 ?_
    refine lv_iconst (v := 1) C.1 C.2.1 dX3_addDisk_14 (by decide) ?_
    refine n_iadd C (Y := 1) dX3_addDisk_15 rfl rfl (by omega) (by omega) (fun v3 ev3 => ?_)
    refine pi_X3_31 C M h0_ dX3_addDisk_16 rfl (by omega) (by omega) (fun H locs I4 k6 f5 M => ?_)
    have F := fr_put F h0_ (Or.inr (by decide)) f5
    exact r_PV C M hr hlk F ⟨rfl, trivial⟩ dX3_addDisk_19

abbrev md_X3_rebuild : List (Nat × Nat) := [(16, 0), (17, 0)]
set_option maxHeartbeats 4000000 in
set_option maxRecDepth 100000 in
theorem ct_X3_rebuild (l : Launch) (g : Gs) (I : Ms) (J : Js) (a0 : Nat) (a1 : Nat) (x2 : Int32) (h0_ : Is g a0 1) (h1_ : Is g a1 3) : Ctr l yX3_rebuild cX3_rebuild 5 (Option.some Jvm.ClassFile.FieldType.boolean) 2 g [.ref a0, .ref a1, .int x2] I J (PM g md_X3_rebuild I (fun z I1 J1 => J1 = J ∧ (0 ≤ z ∧ z ≤ 1))) := by
  refine m_start (by decide) (Nat.le_of_ble_eq_true rfl) ?_
  intro p e s m args below meth c C hr hlk M ls hl
  have hl : lv_has ls 5 [(0, .ref a0), (1, .ref a1), (2, .int x2)] := hl
  have C : CallFix p m c cX3_rebuild 5 s args TB RX3 := C
  have F : Fr g md_X3_rebuild I I := fr_rf
  refine lv_aload_n C.1 C.2.1 dX3_rebuild_0 rfl (lv_at hl 0 rfl) ?_
  refine lv_aload_n C.1 C.2.1 dX3_rebuild_1 rfl (lv_at hl 0 rfl) ?_
  refine gi_X3_21 C M h0_ dX3_rebuild_2 (fun v1 kv1 tv1 uv1 => ?_)
  refine lv_iload_n C.1 C.2.1 dX3_rebuild_5 rfl (lv_at hl 2 rfl) ?_
  refine k_PI C M h0_ (by decide) rfl (ct_X3_has l g I J a0 v1 x2 h0_) (cw_X3_88 C.2.2.2.2 (by decide)) rfl hl.1 rfl (Nat.le_of_ble_eq_true rfl) dX3_rebuild_6 ⟨Nat.le_refl _, Nat.le_refl _⟩ (fun r2 H locs p3r M => ?_)
  have p3 : 0 ≤ r2.toInt ∧ r2.toInt ≤ 1 ∧ (r2.toInt = 1 → 0 ≤ v1.toInt ∧ v1.toInt ≤ 6 ∧ 0 ≤ x2.toInt ∧ x2.toInt ≤ 39) := p3r
  refine n_if_ne C (tgt := 14) dX3_rebuild_9 (by decide) rfl (fun q4 => ?_) (fun q4 => ?_)
  ·
    refine lv_aload_n C.1 C.2.1 dX3_rebuild_14 rfl (lv_at hl 0 rfl) ?_
    refine gk_X3_21 C M h0_ kv1 dX3_rebuild_15 ?_
    refine lv_aload_n C.1 C.2.1 dX3_rebuild_18 rfl (lv_at hl 1 rfl) ?_
    refine gi_X3_43 C M h1_ dX3_rebuild_19 (fun v5 kv5 tv5 uv5 => ?_)
    have J30 : ∀ (w6 : Int32) (H : Heap) (locs : List Loc) (ls : Array Slot), 0 ≤ w6.toInt → w6.toInt ≤ 1 → Mm g s I J H locs → lv_has ls 5 [(0, .ref a0), (1, .ref a1), (2, .int x2)] → W p l e (rmL 2) s m args below meth c H locs 0 0 (MQg below g (PM g md_X3_rebuild I (fun z I1 J1 => J1 = J ∧ (0 ≤ z ∧ z ≤ 1))) args s) (F0 m 30 ls [.int w6]) := by
      intro w6 H locs ls f7 f8 M hl
      refine lv_istore_n (lv' := [(3, .int w6), (0, .ref a0), (1, .ref a1), (2, .int x2)]) C.1 C.2.1 dX3_rebuild_30 rfl hl (by decide) rfl (fun ls hl => ?_)
      refine lv_iload_n C.1 C.2.1 dX3_rebuild_31 rfl (lv_at hl 0 rfl) ?_
      have J50 : ∀ (w9 : Int32) (H : Heap) (locs : List Loc) (ls : Array Slot), 0 ≤ w9.toInt → w9.toInt ≤ 1 → Mm g s I J H locs → lv_has ls 5 [(0, .ref a0), (1, .ref a1), (2, .int x2), (3, .int w6)] → W p l e (rmL 2) s m args below meth c H locs 0 0 (MQg below g (PM g md_X3_rebuild I (fun z I1 J1 => J1 = J ∧ (0 ≤ z ∧ z ≤ 1))) args s) (F0 m 50 ls [.int w9]) := by
        intro w9 H locs ls f10 f11 M hl
        refine lv_istore (lv' := [(4, .int w9), (0, .ref a0), (1, .ref a1), (2, .int x2), (3, .int w6)]) C.1 C.2.1 dX3_rebuild_50 hl (by decide) rfl (fun ls hl => ?_)
        refine lv_aload_n C.1 C.2.1 dX3_rebuild_52 rfl (lv_at hl 1 rfl) ?_
        refine gi_X3_9 C M h0_ dX3_rebuild_53 (fun h12 => ?_)
        refine lv_aload_n C.1 C.2.1 dX3_rebuild_56 rfl (lv_at hl 1 rfl) ?_
        refine gk_X3_21 C M h0_ kv1 dX3_rebuild_57 ?_
        refine lv_bipush (v := 40) C.1 C.2.1 dX3_rebuild_60 (by decide) ?_
        refine n_imul C (Y := 40) dX3_rebuild_62 rfl rfl (by omega) (by omega) (fun v13 ev13 => ?_)
        refine lv_iload_n C.1 C.2.1 dX3_rebuild_63 rfl (lv_at hl 3 rfl) ?_
        refine n_iadd C dX3_rebuild_64 rfl rfl (by omega) (by omega) (fun v14 ev14 => ?_)
        refine lv_iload_n C.1 C.2.1 dX3_rebuild_65 rfl (lv_at hl 4 rfl) ?_
        have J88 : ∀ (w15 : Int32) (H : Heap) (locs : List Loc) (ls : Array Slot), Mm g s I J H locs → lv_has ls 5 [(0, .ref a0), (2, .int x2), (4, .int w9)] → W p l e (rmL 2) s m args below meth c H locs 0 0 (MQg below g (PM g md_X3_rebuild I (fun z I1 J1 => J1 = J ∧ (0 ≤ z ∧ z ≤ 1))) args s) (F0 m 88 ls [.int w15, .int v14, .ref (gr g a0 0)]) := by
          intro w15 H locs ls M hl
          refine a_stU C M h12 (n := 280) rfl rfl rfl (by omega) (by omega) rfl rfl dX3_rebuild_88 (fun H locs I16 k18 f17 M => ?_)
          have F := fr_put F h12 (Or.inl (by decide)) f17
          refine lv_aload_n C.1 C.2.1 dX3_rebuild_89 rfl (lv_at hl 0 rfl) ?_
          refine gi_X3_15 C M h0_ dX3_rebuild_90 (fun h19 => ?_)
          refine lv_aload_n C.1 C.2.1 dX3_rebuild_93 rfl (lv_at hl 0 rfl) ?_
          refine gk_X3_21 C M h0_ ((f17 a0 5 (Or.inl (is_ne h12 h0_ (by decide)))).trans kv1) dX3_rebuild_94 ?_
          refine lv_bipush (v := 40) C.1 C.2.1 dX3_rebuild_97 (by decide) ?_
          refine n_imul C (Y := 40) dX3_rebuild_99 rfl rfl (by omega) (by omega) (fun v20 ev20 => ?_)
          refine lv_iload_n C.1 C.2.1 dX3_rebuild_100 rfl (lv_at hl 1 rfl) ?_
          refine n_iadd C dX3_rebuild_101 rfl rfl (by omega) (by omega) (fun v21 ev21 => ?_)
          refine lv_iload C.1 C.2.1 dX3_rebuild_102 (lv_at hl 2 rfl) ?_
          refine n_if_eq C (tgt := 111) dX3_rebuild_104 (by decide) rfl (fun q22 => ?_) (fun q22 => ?_)
          ·
            refine lv_iconst (v := 1) C.1 C.2.1 dX3_rebuild_111 (by decide) ?_
            refine a_stU C M h19 (n := 280) rfl rfl rfl (by omega) (by omega) rfl rfl dX3_rebuild_112 (fun H locs I23 k25 f24 M => ?_)
            have F := fr_put F h19 (Or.inl (by decide)) f24
            refine lv_iload C.1 C.2.1 dX3_rebuild_113 (lv_at hl 2 rfl) ?_
            exact r_PMz C M hr hlk F rfl (by omega) (by omega) ⟨rfl, (by omega)⟩ dX3_rebuild_115
          ·
            refine lv_iconst (v := 0) C.1 C.2.1 dX3_rebuild_107 (by decide) ?_
            refine lv_goto (tgt := 112) C.1 C.2.1 dX3_rebuild_108 (by decide) ?_
            refine a_stU C M h19 (n := 280) rfl rfl rfl (by omega) (by omega) rfl rfl dX3_rebuild_112 (fun H locs I26 k28 f27 M => ?_)
            have F := fr_put F h19 (Or.inl (by decide)) f27
            refine lv_iload C.1 C.2.1 dX3_rebuild_113 (lv_at hl 2 rfl) ?_
            exact r_PMz C M hr hlk F rfl (by omega) (by omega) ⟨rfl, (by omega)⟩ dX3_rebuild_115
        have J87 : ∀ (H : Heap) (locs : List Loc) (ls : Array Slot), Mm g s I J H locs → lv_has ls 5 [(0, .ref a0), (2, .int x2), (4, .int w9)] → W p l e (rmL 2) s m args below meth c H locs 0 0 (MQg below g (PM g md_X3_rebuild I (fun z I1 J1 => J1 = J ∧ (0 ≤ z ∧ z ≤ 1))) args s) (F0 m 87 ls [.int v14, .ref (gr g a0 0)]) := by
          intro H locs ls M hl
          refine lv_iconst (v := 0) C.1 C.2.1 dX3_rebuild_87 (by decide) ?_
          have cz29 : (0 : Int32).toInt = 0 := rfl
          exact J88 0 _ _ _ M hl
        refine n_if_eq C (tgt := 87) dX3_rebuild_66 (by decide) rfl (fun q30 => ?_) (fun q30 => ?_)
        ·
          exact J87 _ _ _ M (lv_sub hl [1, 3, 0] rfl)
        ·
          refine lv_iload C.1 C.2.1 dX3_rebuild_69 (lv_at hl 0 rfl) ?_
          refine n_if_eq C (tgt := 87) dX3_rebuild_71 (by decide) rfl (fun q31 => ?_) (fun q31 => ?_)
          ·
            exact J87 _ _ _ M (lv_sub hl [1, 3, 0] rfl)
          ·
            refine lv_aload_n C.1 C.2.1 dX3_rebuild_74 rfl (lv_at hl 1 rfl) ?_
            refine lv_aload_n C.1 C.2.1 dX3_rebuild_75 rfl (lv_at hl 2 rfl) ?_
            refine lv_aload_n C.1 C.2.1 dX3_rebuild_76 rfl (lv_at hl 1 rfl) ?_
            refine gk_X3_21 C M h0_ kv1 dX3_rebuild_77 ?_
            refine lv_iload_n C.1 C.2.1 dX3_rebuild_80 rfl (lv_at hl 3 rfl) ?_
            refine k_PI C M h0_ (by decide) rfl (ct_X3_xoredBut l g I J a0 a1 v1 x2 h0_ h1_) (cw_X3_59 C.2.2.2.2 (by decide)) rfl hl.1 rfl (Nat.le_of_ble_eq_true rfl) dX3_rebuild_81 ⟨Nat.le_refl _, Nat.le_refl _⟩ (fun r32 H locs p33r M => ?_)
            have p33 : True := p33r
            refine lv_goto (tgt := 88) C.1 C.2.1 dX3_rebuild_84 (by decide) ?_
            exact J88 r32 _ _ _ M (lv_sub hl [1, 3, 0] rfl)
      have J45 : ∀ (H : Heap) (locs : List Loc) (ls : Array Slot), Mm g s I J H locs → lv_has ls 5 [(0, .ref a0), (1, .ref a1), (2, .int x2), (3, .int w6)] → W p l e (rmL 2) s m args below meth c H locs 0 0 (MQg below g (PM g md_X3_rebuild I (fun z I1 J1 => J1 = J ∧ (0 ≤ z ∧ z ≤ 1))) args s) (F0 m 45 ls []) := by
        intro H locs ls M hl
        refine lv_iconst (v := 1) C.1 C.2.1 dX3_rebuild_45 (by decide) ?_
        refine lv_goto (tgt := 50) C.1 C.2.1 dX3_rebuild_46 (by decide) ?_
        have cz34 : (1 : Int32).toInt = 1 := rfl
        exact J50 1 _ _ _ (by omega) (by omega) M hl
      refine n_if_eq C (tgt := 45) dX3_rebuild_32 (by decide) rfl (fun q35 => ?_) (fun q35 => ?_)
      ·
        exact J45 _ _ _ M (lv_sub hl [1, 2, 3, 0] rfl)
      ·
        refine lv_aload_n C.1 C.2.1 dX3_rebuild_35 rfl (lv_at hl 1 rfl) ?_
        refine lv_aload_n C.1 C.2.1 dX3_rebuild_36 rfl (lv_at hl 2 rfl) ?_
        refine lv_iload_n C.1 C.2.1 dX3_rebuild_37 rfl (lv_at hl 3 rfl) ?_
        refine k_PI C M h0_ (by decide) rfl (ct_X3_gaps l g I J a0 a1 x2 h0_ h1_) (cw_X3_52 C.2.2.2.2 (by decide)) rfl hl.1 rfl (Nat.le_of_ble_eq_true rfl) dX3_rebuild_38 ⟨Nat.le_refl _, Nat.le_refl _⟩ (fun r36 H locs p37r M => ?_)
        have p37 : True := p37r
        refine lv_iconst (v := 1) C.1 C.2.1 dX3_rebuild_41 (by decide) ?_
        refine n_icmp_ne C (tgt := 49) (Y := 1) dX3_rebuild_42 (by decide) rfl rfl (fun q38 => ?_) (fun q38 => ?_)
        ·
          refine lv_iconst (v := 0) C.1 C.2.1 dX3_rebuild_49 (by decide) ?_
          have cz39 : (0 : Int32).toInt = 0 := rfl
          exact J50 0 _ _ _ (by omega) (by omega) M (lv_sub hl [1, 2, 3, 0] rfl)
        ·
          exact J45 _ _ _ M (lv_sub hl [1, 2, 3, 0] rfl)
    refine n_icmp_ge C (tgt := 29) dX3_rebuild_22 (by decide) rfl rfl (fun q40 => ?_) (fun q40 => ?_)
    ·
      refine lv_iconst (v := 0) C.1 C.2.1 dX3_rebuild_29 (by decide) ?_
      have cz41 : (0 : Int32).toInt = 0 := rfl
      exact J30 0 _ _ _ (by omega) (by omega) M hl
    ·
      refine lv_iconst (v := 1) C.1 C.2.1 dX3_rebuild_25 (by decide) ?_
      refine lv_goto (tgt := 30) C.1 C.2.1 dX3_rebuild_26 (by decide) ?_
      have cz42 : (1 : Int32).toInt = 1 := rfl
      exact J30 1 _ _ _ (by omega) (by omega) M hl
  ·
    refine lv_iconst (v := 1) C.1 C.2.1 dX3_rebuild_12 (by decide) ?_
    exact r_PMz C M (z := 1) hr hlk F rfl (by omega) (by omega) ⟨rfl, (by omega)⟩ dX3_rebuild_13

abbrev md_X3_clearRowsFrom : List (Nat × Nat) := [(16, 0), (17, 0)]
set_option maxHeartbeats 4000000 in
set_option maxRecDepth 100000 in
theorem ct_X3_clearRowsFrom (l : Launch) (g : Gs) (I : Ms) (J : Js) (a0 : Nat) (x1 : Int32) (h0_ : Is g a0 1) : Ctr l yX3_clearRowsFrom cX3_clearRowsFrom 4 (Option.none : Option Jvm.ClassFile.FieldType) 2 g [.ref a0, .int x1] I J (PV g md_X3_clearRowsFrom I (fun I1 J1 => J1 = J ∧ (True))) := by
  refine m_start (by decide) (Nat.le_of_ble_eq_true rfl) ?_
  intro p e s m args below meth c C hr hlk M ls hl
  have hl : lv_has ls 4 [(0, .ref a0), (1, .int x1)] := hl
  have C : CallFix p m c cX3_clearRowsFrom 4 s args TB RX3 := C
  have F : Fr g md_X3_clearRowsFrom I I := fr_rf
  have hx1 := i_hi x1
  refine lv_iconst (v := 0) C.1 C.2.1 dX3_clearRowsFrom_0 (by decide) ?_
  refine lv_istore_n (lv' := [(2, .int 0), (0, .ref a0), (1, .int x1)]) C.1 C.2.1 dX3_clearRowsFrom_1 rfl hl (by decide) rfl (fun ls hl => ?_)
  have L2 : ∀ (n2 : Nat) (y1 : Int32) (I2 : Ms) (H : Heap) (locs : List Loc) (ls : Array Slot), 0 ≤ y1.toInt → y1.toInt ≤ 7 → 7 - y1.toInt < (n2 : Int) → Fr g md_X3_clearRowsFrom I I2 → Mm g s I2 J H locs → lv_has ls 4 [(0, .ref a0), (1, .int x1), (2, .int y1)] → W p l e (rmL 2) s m args below meth c H locs 0 0 (MQg below g (PV g md_X3_clearRowsFrom I (fun I1 J1 => J1 = J ∧ (True))) args s) (F0 m 2 ls []) := by
    intro n2
    induction n2 with
    | zero =>
      intro y1 I2 H locs ls f3 f4 hm2 F M hl
      exact absurd hm2 (by omega)
    | succ n2 ih2 =>
      intro y1 I2 H locs ls f3 f4 hm2 F M hl
      refine lv_iload_n C.1 C.2.1 dX3_clearRowsFrom_2 rfl (lv_at hl 2 rfl) ?_
      refine lv_aload_n C.1 C.2.1 dX3_clearRowsFrom_3 rfl (lv_at hl 0 rfl) ?_
      refine gi_X3_31 C M h0_ dX3_clearRowsFrom_4 (fun v5 kv5 tv5 uv5 => ?_)
      refine n_icmp_ge C (tgt := 60) dX3_clearRowsFrom_7 (by decide) rfl rfl (fun q6 => ?_) (fun q6 => ?_)
      ·
        exact r_PV C M hr hlk F ⟨rfl, trivial⟩ dX3_clearRowsFrom_60
      ·
        refine lv_iload_n C.1 C.2.1 dX3_clearRowsFrom_10 rfl (lv_at hl 1 rfl) ?_
        refine lv_iconst (v := 0) C.1 C.2.1 dX3_clearRowsFrom_11 (by decide) ?_
        refine n_mmax (D := 1) (Y := 0) C dX3_clearRowsFrom_12 hl.1 ml_X3_91 rfl rfl (Nat.le_of_ble_eq_true rfl) (fun v7 ev7 => ?_)
        refine lv_istore_n (lv' := [(3, .int v7), (0, .ref a0), (1, .int x1), (2, .int y1)]) C.1 C.2.1 dX3_clearRowsFrom_15 rfl hl (by decide) rfl (fun ls hl => ?_)
        have L16 : ∀ (n16 : Nat) (y8 : Int32) (I9 : Ms) (H : Heap) (locs : List Loc) (ls : Array Slot), I9 a0 3 = v5 → 0 ≤ y8.toInt → y8.toInt ≤ 2147483647 → 2147483647 - y8.toInt < (n16 : Int) → Fr g md_X3_clearRowsFrom I I9 → Mm g s I9 J H locs → lv_has ls 4 [(0, .ref a0), (1, .int x1), (2, .int y1), (3, .int y8)] → W p l e (rmL 2) s m args below meth c H locs 0 0 (MQg below g (PV g md_X3_clearRowsFrom I (fun I1 J1 => J1 = J ∧ (True))) args s) (F0 m 16 ls []) := by
          intro n16
          induction n16 with
          | zero =>
            intro y8 I9 H locs ls k10 f11 f12 hm16 F M hl
            exact absurd hm16 (by omega)
          | succ n16 ih16 =>
            intro y8 I9 H locs ls k10 f11 f12 hm16 F M hl
            refine lv_iload_n C.1 C.2.1 dX3_clearRowsFrom_16 rfl (lv_at hl 3 rfl) ?_
            refine lv_aload_n C.1 C.2.1 dX3_clearRowsFrom_17 rfl (lv_at hl 0 rfl) ?_
            refine gi_X3_34 C M h0_ dX3_clearRowsFrom_18 (fun v13 kv13 tv13 uv13 => ?_)
            refine n_icmp_ge C (tgt := 54) dX3_clearRowsFrom_21 (by decide) rfl rfl (fun q14 => ?_) (fun q14 => ?_)
            ·
              refine n_iinc C (k := 2) (N := 1) (lv' := fun v => [(2, .int v), (0, .ref a0), (1, .int x1), (3, .int y8)]) dX3_clearRowsFrom_54 hl rfl (by decide) rfl rfl (by omega) (by omega) (fun _ => rfl) (fun v15 ls ev15 hl => ?_)
              refine lv_goto (tgt := 2) C.1 C.2.1 dX3_clearRowsFrom_57 (by decide) ?_
              exact ih2 v15 I9 _ _ _ (by omega) (by omega) (by omega) F M (lv_sub hl [1, 2, 0] rfl)
            ·
              refine lv_aload_n C.1 C.2.1 dX3_clearRowsFrom_24 rfl (lv_at hl 0 rfl) ?_
              refine gi_X3_9 C M h0_ dX3_clearRowsFrom_25 (fun h16 => ?_)
              refine lv_iload_n C.1 C.2.1 dX3_clearRowsFrom_28 rfl (lv_at hl 2 rfl) ?_
              refine lv_bipush (v := 40) C.1 C.2.1 dX3_clearRowsFrom_29 (by decide) ?_
              refine n_imul C (Y := 40) dX3_clearRowsFrom_31 rfl rfl (by omega) (by omega) (fun v17 ev17 => ?_)
              refine lv_iload_n C.1 C.2.1 dX3_clearRowsFrom_32 rfl (lv_at hl 3 rfl) ?_
              refine n_iadd C dX3_clearRowsFrom_33 rfl rfl (by omega) (by omega) (fun v18 ev18 => ?_)
              refine lv_iconst (v := 0) C.1 C.2.1 dX3_clearRowsFrom_34 (by decide) ?_
              refine a_stU C M h16 (n := 280) rfl rfl rfl (by omega) (by omega) rfl rfl dX3_clearRowsFrom_35 (fun H locs I19 k21 f20 M => ?_)
              have F := fr_put F h16 (Or.inl (by decide)) f20
              refine lv_aload_n C.1 C.2.1 dX3_clearRowsFrom_36 rfl (lv_at hl 0 rfl) ?_
              refine gi_X3_15 C M h0_ dX3_clearRowsFrom_37 (fun h22 => ?_)
              refine lv_iload_n C.1 C.2.1 dX3_clearRowsFrom_40 rfl (lv_at hl 2 rfl) ?_
              refine lv_bipush (v := 40) C.1 C.2.1 dX3_clearRowsFrom_41 (by decide) ?_
              refine n_imul C (Y := 40) dX3_clearRowsFrom_43 rfl rfl (by omega) (by omega) (fun v23 ev23 => ?_)
              refine lv_iload_n C.1 C.2.1 dX3_clearRowsFrom_44 rfl (lv_at hl 3 rfl) ?_
              refine n_iadd C dX3_clearRowsFrom_45 rfl rfl (by omega) (by omega) (fun v24 ev24 => ?_)
              refine lv_iconst (v := 0) C.1 C.2.1 dX3_clearRowsFrom_46 (by decide) ?_
              refine a_stU C M h22 (n := 280) rfl rfl rfl (by omega) (by omega) rfl rfl dX3_clearRowsFrom_47 (fun H locs I25 k27 f26 M => ?_)
              have F := fr_put F h22 (Or.inl (by decide)) f26
              refine n_iinc C (k := 3) (N := 1) (lv' := fun v => [(3, .int v), (0, .ref a0), (1, .int x1), (2, .int y1)]) dX3_clearRowsFrom_48 hl rfl (by decide) rfl rfl (by omega) (by omega) (fun _ => rfl) (fun v28 ls ev28 hl => ?_)
              refine lv_goto (tgt := 16) C.1 C.2.1 dX3_clearRowsFrom_51 (by decide) ?_
              exact ih16 v28 I25 _ _ _ ((f26 a0 3 (Or.inl (is_ne h22 h0_ (by decide)))).trans ((f20 a0 3 (Or.inl (is_ne h16 h0_ (by decide)))).trans k10)) (by omega) (by omega) (by omega) F M (lv_sub hl [1, 2, 3, 0] rfl)
        exact L16 _ v7 I2 _ _ _ kv5 (by omega) (by omega) (n_big _) F M (lv_sub hl [1, 2, 3, 0] rfl)
  have cz29 : (0 : Int32).toInt = 0 := rfl
  exact L2 _ 0 I _ _ _ (by omega) (by omega) (n_big _) F M (lv_sub hl [1, 2, 0] rfl)

set_option maxHeartbeats 4000000 in
set_option maxRecDepth 100000 in
theorem ct_X3_mismatched (l : Launch) (g : Gs) (I : Ms) (J : Js) (a0 : Nat) (a1 : Nat) (x2 : Int32) (h0_ : Is g a0 1) (h1_ : Is g a1 3) : Ctr l yX3_mismatched cX3_mismatched 3 (Option.some Jvm.ClassFile.FieldType.boolean) 2 g [.ref a0, .ref a1, .int x2] I J (PI I J (fun z => 0 ≤ z ∧ z ≤ 1)) := by
  refine m_start (by decide) (Nat.le_of_ble_eq_true rfl) ?_
  intro p e s m args below meth c C hr hlk M ls hl
  have hl : lv_has ls 3 [(0, .ref a0), (1, .ref a1), (2, .int x2)] := hl
  have C : CallFix p m c cX3_mismatched 3 s args TB RX3 := C
  refine lv_aload_n C.1 C.2.1 dX3_mismatched_0 rfl (lv_at hl 0 rfl) ?_
  refine lv_aload_n C.1 C.2.1 dX3_mismatched_1 rfl (lv_at hl 1 rfl) ?_
  refine lv_iload_n C.1 C.2.1 dX3_mismatched_2 rfl (lv_at hl 2 rfl) ?_
  refine k_PI C M h0_ (by decide) rfl (ct_X3_gaps l g I J a0 a1 x2 h0_ h1_) (cw_X3_52 C.2.2.2.2 (by decide)) rfl hl.1 rfl (Nat.le_of_ble_eq_true rfl) dX3_mismatched_3 ⟨Nat.le_refl _, Nat.le_refl _⟩ (fun r1 H locs p2r M => ?_)
  have p2 : True := p2r
  refine n_if_ne C (tgt := 23) dX3_mismatched_6 (by decide) rfl (fun q3 => ?_) (fun q3 => ?_)
  ·
    refine lv_iconst (v := 0) C.1 C.2.1 dX3_mismatched_23 (by decide) ?_
    exact r_PIz C M (z := 0) hr hlk rfl (by omega) (by omega) (by omega) dX3_mismatched_24
  ·
    refine lv_aload_n C.1 C.2.1 dX3_mismatched_9 rfl (lv_at hl 0 rfl) ?_
    refine lv_aload_n C.1 C.2.1 dX3_mismatched_10 rfl (lv_at hl 1 rfl) ?_
    refine lv_iconst (v := -1) C.1 C.2.1 dX3_mismatched_11 (by decide) ?_
    refine lv_iload_n C.1 C.2.1 dX3_mismatched_12 rfl (lv_at hl 2 rfl) ?_
    refine k_PI C M h0_ (by decide) rfl (ct_X3_xoredBut l g I J a0 a1 (-1) x2 h0_ h1_) (cw_X3_59 C.2.2.2.2 (by decide)) rfl hl.1 rfl (Nat.le_of_ble_eq_true rfl) dX3_mismatched_13 ⟨Nat.le_refl _, Nat.le_refl _⟩ (fun r4 H locs p5r M => ?_)
    have p5 : True := p5r
    refine n_if_eq C (tgt := 23) dX3_mismatched_16 (by decide) rfl (fun q6 => ?_) (fun q6 => ?_)
    ·
      refine lv_iconst (v := 0) C.1 C.2.1 dX3_mismatched_23 (by decide) ?_
      exact r_PIz C M (z := 0) hr hlk rfl (by omega) (by omega) (by omega) dX3_mismatched_24
    ·
      refine lv_iconst (v := 1) C.1 C.2.1 dX3_mismatched_19 (by decide) ?_
      refine lv_goto (tgt := 24) C.1 C.2.1 dX3_mismatched_20 (by decide) ?_
      exact r_PIz C M (z := 1) hr hlk rfl (by omega) (by omega) (by omega) dX3_mismatched_24

abbrev md_X3_layParity : List (Nat × Nat) := [(16, 0), (17, 0), (18, 0)]
set_option maxHeartbeats 4000000 in
set_option maxRecDepth 100000 in
theorem ct_X3_layParity (l : Launch) (g : Gs) (I : Ms) (J : Js) (a0 : Nat) (a1 : Nat) (x2 : Int32) (h0_ : Is g a0 1) (h1_ : Is g a1 3) : Ctr l yX3_layParity cX3_layParity 4 (Option.none : Option Jvm.ClassFile.FieldType) 3 g [.ref a0, .ref a1, .int x2] I J (PV g md_X3_layParity I (fun I1 J1 => J1 = J ∧ (True))) := by
  refine m_start (by decide) (Nat.le_of_ble_eq_true rfl) ?_
  intro p e s m args below meth c C hr hlk M ls hl
  have hl : lv_has ls 4 [(0, .ref a0), (1, .ref a1), (2, .int x2)] := hl
  have C : CallFix p m c cX3_layParity 4 s args TB RX3 := C
  have F : Fr g md_X3_layParity I I := fr_rf
  refine lv_aload_n C.1 C.2.1 dX3_layParity_0 rfl (lv_at hl 1 rfl) ?_
  refine lv_iload_n C.1 C.2.1 dX3_layParity_1 rfl (lv_at hl 2 rfl) ?_
  refine k_PI C M h1_ (by decide) rfl (ct_X5_parityDisk l g I J a1 x2 h1_) (cw_X3_70 C.2.2.2.2 (by decide)) rfl hl.1 rfl (Nat.le_of_ble_eq_true rfl) dX3_layParity_2 ⟨Nat.le_refl _, Nat.le_refl _⟩ (fun r1 H locs p2r M => ?_)
  have p2 : True := p2r
  refine lv_istore_n (lv' := [(3, .int r1), (0, .ref a0), (1, .ref a1), (2, .int x2)]) C.1 C.2.1 dX3_layParity_5 rfl hl (by decide) rfl (fun ls hl => ?_)
  refine lv_aload_n C.1 C.2.1 dX3_layParity_6 rfl (lv_at hl 1 rfl) ?_
  refine lv_iload_n C.1 C.2.1 dX3_layParity_7 rfl (lv_at hl 0 rfl) ?_
  refine lv_iload_n C.1 C.2.1 dX3_layParity_8 rfl (lv_at hl 3 rfl) ?_
  refine lv_aload_n C.1 C.2.1 dX3_layParity_9 rfl (lv_at hl 1 rfl) ?_
  refine lv_aload_n C.1 C.2.1 dX3_layParity_10 rfl (lv_at hl 2 rfl) ?_
  refine lv_iload_n C.1 C.2.1 dX3_layParity_11 rfl (lv_at hl 0 rfl) ?_
  refine lv_iload_n C.1 C.2.1 dX3_layParity_12 rfl (lv_at hl 3 rfl) ?_
  refine k_PI C M h0_ (by decide) rfl (ct_X3_xoredBut l g I J a0 a1 r1 x2 h0_ h1_) (cw_X3_59 C.2.2.2.2 (by decide)) rfl hl.1 rfl (Nat.le_of_ble_eq_true rfl) dX3_layParity_13 ⟨Nat.le_refl _, Nat.le_refl _⟩ (fun r3 H locs p4r M => ?_)
  have p4 : True := p4r
  refine k_PV C M h0_ (by decide) rfl (ct_X3_lay l g I J a0 r1 x2 r3 h0_) (cw_X3_76 C.2.2.2.2 (by decide)) rfl hl.1 rfl (Nat.le_of_ble_eq_true rfl) dX3_layParity_16 ⟨Nat.le_refl _, Nat.le_refl _⟩ (fun I5 J6 H locs G7 p8r M => ?_)
  obtain ⟨eJ6, p8⟩ : J6 = J ∧ (True) := p8r
  have eJ6 := eJ6.symm
  subst eJ6
  have F := fr_call F G7 (by decide)
  exact r_PV C M hr hlk F ⟨rfl, trivial⟩ dX3_layParity_19

set_option maxHeartbeats 4000000 in
set_option maxRecDepth 100000 in
theorem ct_X3_badWords (l : Launch) (g : Gs) (I : Ms) (J : Js) (a0 : Nat) (h0_ : Is g a0 1) : Ctr l yX3_badWords cX3_badWords 3 (Option.some Jvm.ClassFile.FieldType.int) 1 g [.ref a0] I J (PI I J (fun z => True)) := by
  refine m_start (by decide) (Nat.le_of_ble_eq_true rfl) ?_
  intro p e s m args below meth c C hr hlk M ls hl
  have hl : lv_has ls 3 [(0, .ref a0)] := hl
  have C : CallFix p m c cX3_badWords 3 s args TB RX3 := C
  refine lv_iconst (v := 0) C.1 C.2.1 dX3_badWords_0 (by decide) ?_
  refine lv_istore_n (lv' := [(1, .int 0), (0, .ref a0)]) C.1 C.2.1 dX3_badWords_1 rfl hl (by decide) rfl (fun ls hl => ?_)
  refine lv_iconst (v := 0) C.1 C.2.1 dX3_badWords_2 (by decide) ?_
  refine lv_istore_n (lv' := [(2, .int 0), (1, .int 0), (0, .ref a0)]) C.1 C.2.1 dX3_badWords_3 rfl hl (by decide) rfl (fun ls hl => ?_)
  have L4 : ∀ (n4 : Nat) (y1 : Int32) (y2 : Int32) (H : Heap) (locs : List Loc) (ls : Array Slot), 0 ≤ y2.toInt → y2.toInt ≤ 280 → 280 - y2.toInt < (n4 : Int) → Mm g s I J H locs → lv_has ls 3 [(0, .ref a0), (1, .int y1), (2, .int y2)] → W p l e (rmL 1) s m args below meth c H locs 0 0 (MQg below g (PI I J (fun z => True)) args s) (F0 m 4 ls []) := by
    intro n4
    induction n4 with
    | zero =>
      intro y1 y2 H locs ls f3 f4 hm4 M hl
      exact absurd hm4 (by omega)
    | succ n4 ih4 =>
      intro y1 y2 H locs ls f3 f4 hm4 M hl
      refine lv_iload_n C.1 C.2.1 dX3_badWords_4 rfl (lv_at hl 2 rfl) ?_
      refine lv_aload_n C.1 C.2.1 dX3_badWords_5 rfl (lv_at hl 0 rfl) ?_
      refine gi_X3_15 C M h0_ dX3_badWords_6 (fun h5 => ?_)
      refine a_ln C M h5 rfl (v := 280) rfl dX3_badWords_9 ?_
      refine n_icmp_ge C (tgt := 28) (Y := 280) dX3_badWords_10 (by decide) rfl rfl (fun q6 => ?_) (fun q6 => ?_)
      ·
        refine lv_iload_n C.1 C.2.1 dX3_badWords_28 rfl (lv_at hl 1 rfl) ?_
        exact r_PI C M hr hlk rfl trivial dX3_badWords_29
      ·
        refine lv_iload_n C.1 C.2.1 dX3_badWords_13 rfl (lv_at hl 1 rfl) ?_
        refine lv_aload_n C.1 C.2.1 dX3_badWords_14 rfl (lv_at hl 0 rfl) ?_
        refine gi_X3_15 C M h0_ dX3_badWords_15 (fun h7 => ?_)
        refine lv_iload_n C.1 C.2.1 dX3_badWords_18 rfl (lv_at hl 2 rfl) ?_
        refine a_ld C M h5 (n := 280) rfl rfl rfl (by omega) (by omega) rfl dX3_badWords_19 (fun v8 kv8 => ?_)
        refine n_iaddU C dX3_badWords_20 (fun v9 => ?_)
        refine lv_istore_n (lv' := [(1, .int v9), (0, .ref a0), (2, .int y2)]) C.1 C.2.1 dX3_badWords_21 rfl hl (by decide) rfl (fun ls hl => ?_)
        refine n_iinc C (k := 2) (N := 1) (lv' := fun v => [(2, .int v), (1, .int v9), (0, .ref a0)]) dX3_badWords_22 hl rfl (by decide) rfl rfl (by omega) (by omega) (fun _ => rfl) (fun v10 ls ev10 hl => ?_)
        refine lv_goto (tgt := 4) C.1 C.2.1 dX3_badWords_25 (by decide) ?_
        exact ih4 v9 v10 _ _ _ (by omega) (by omega) (by omega) M (lv_sub hl [2, 1, 0] rfl)
  have cz11 : (0 : Int32).toInt = 0 := rfl
  have cz12 : (0 : Int32).toInt = 0 := rfl
  exact L4 _ 0 0 _ _ _ (by omega) (by omega) (n_big _) M (lv_sub hl [2, 1, 0] rfl)

set_option maxHeartbeats 4000000 in
set_option maxRecDepth 100000 in
theorem ct_X3_badWord (l : Launch) (g : Gs) (I : Ms) (J : Js) (a0 : Nat) (x1 : Int32) (h0_ : Is g a0 1) : Ctr l yX3_badWord cX3_badWord 5 (Option.some Jvm.ClassFile.FieldType.int) 1 g [.ref a0, .int x1] I J (PI I J (fun z => True)) := by
  refine m_start (by decide) (Nat.le_of_ble_eq_true rfl) ?_
  intro p e s m args below meth c C hr hlk M ls hl
  have hl : lv_has ls 5 [(0, .ref a0), (1, .int x1)] := hl
  have C : CallFix p m c cX3_badWord 5 s args TB RX3 := C
  refine lv_iconst (v := 0) C.1 C.2.1 dX3_badWord_0 (by decide) ?_
  refine lv_istore_n (lv' := [(2, .int 0), (0, .ref a0), (1, .int x1)]) C.1 C.2.1 dX3_badWord_1 rfl hl (by decide) rfl (fun ls hl => ?_)
  refine lv_iconst (v := 0) C.1 C.2.1 dX3_badWord_2 (by decide) ?_
  refine lv_istore_n (lv' := [(3, .int 0), (2, .int 0), (0, .ref a0), (1, .int x1)]) C.1 C.2.1 dX3_badWord_3 rfl hl (by decide) rfl (fun ls hl => ?_)
  have L4 : ∀ (n4 : Nat) (y1 : Int32) (y2 : Int32) (H : Heap) (locs : List Loc) (ls : Array Slot), 0 ≤ y2.toInt → y2.toInt ≤ 40 → 40 - y2.toInt < (n4 : Int) → Mm g s I J H locs → lv_has ls 5 [(0, .ref a0), (1, .int x1), (2, .int y1), (3, .int y2)] → W p l e (rmL 1) s m args below meth c H locs 0 0 (MQg below g (PI I J (fun z => True)) args s) (F0 m 4 ls []) := by
    intro n4
    induction n4 with
    | zero =>
      intro y1 y2 H locs ls f3 f4 hm4 M hl
      exact absurd hm4 (by omega)
    | succ n4 ih4 =>
      intro y1 y2 H locs ls f3 f4 hm4 M hl
      refine lv_iload_n C.1 C.2.1 dX3_badWord_4 rfl (lv_at hl 3 rfl) ?_
      refine lv_aload_n C.1 C.2.1 dX3_badWord_5 rfl (lv_at hl 0 rfl) ?_
      refine gi_X3_34 C M h0_ dX3_badWord_6 (fun v5 kv5 tv5 uv5 => ?_)
      refine n_icmp_ge C (tgt := 67) dX3_badWord_9 (by decide) rfl rfl (fun q6 => ?_) (fun q6 => ?_)
      ·
        refine lv_iconst (v := -1) C.1 C.2.1 dX3_badWord_67 (by decide) ?_
        exact r_PI C M (z := (-1)) hr hlk rfl trivial dX3_badWord_68
      ·
        refine lv_iconst (v := 0) C.1 C.2.1 dX3_badWord_12 (by decide) ?_
        refine lv_istore (lv' := [(4, .int 0), (0, .ref a0), (1, .int x1), (2, .int y1), (3, .int y2)]) C.1 C.2.1 dX3_badWord_13 hl (by decide) rfl (fun ls hl => ?_)
        have L15 : ∀ (n15 : Nat) (y7 : Int32) (y8 : Int32) (H : Heap) (locs : List Loc) (ls : Array Slot), 0 ≤ y8.toInt → y8.toInt ≤ 7 → 7 - y8.toInt < (n15 : Int) → Mm g s I J H locs → lv_has ls 5 [(0, .ref a0), (1, .int x1), (2, .int y7), (3, .int y2), (4, .int y8)] → W p l e (rmL 1) s m args below meth c H locs 0 0 (MQg below g (PI I J (fun z => True)) args s) (F0 m 15 ls []) := by
          intro n15
          induction n15 with
          | zero =>
            intro y7 y8 H locs ls f9 f10 hm15 M hl
            exact absurd hm15 (by omega)
          | succ n15 ih15 =>
            intro y7 y8 H locs ls f9 f10 hm15 M hl
            refine lv_iload C.1 C.2.1 dX3_badWord_15 (lv_at hl 4 rfl) ?_
            refine lv_aload_n C.1 C.2.1 dX3_badWord_17 rfl (lv_at hl 0 rfl) ?_
            refine gi_X3_31 C M h0_ dX3_badWord_18 (fun v11 kv11 tv11 uv11 => ?_)
            refine n_icmp_ge C (tgt := 61) dX3_badWord_21 (by decide) rfl rfl (fun q12 => ?_) (fun q12 => ?_)
            ·
              refine n_iinc C (k := 3) (N := 1) (lv' := fun v => [(3, .int v), (0, .ref a0), (1, .int x1), (2, .int y7), (4, .int y8)]) dX3_badWord_61 hl rfl (by decide) rfl rfl (by omega) (by omega) (fun _ => rfl) (fun v13 ls ev13 hl => ?_)
              refine lv_goto (tgt := 4) C.1 C.2.1 dX3_badWord_64 (by decide) ?_
              exact ih4 y7 v13 _ _ _ (by omega) (by omega) (by omega) M (lv_sub hl [1, 2, 3, 0] rfl)
            ·
              refine lv_aload_n C.1 C.2.1 dX3_badWord_24 rfl (lv_at hl 0 rfl) ?_
              refine gi_X3_15 C M h0_ dX3_badWord_25 (fun h14 => ?_)
              refine lv_iload C.1 C.2.1 dX3_badWord_28 (lv_at hl 4 rfl) ?_
              refine lv_bipush (v := 40) C.1 C.2.1 dX3_badWord_30 (by decide) ?_
              refine n_imul C (Y := 40) dX3_badWord_32 rfl rfl (by omega) (by omega) (fun v15 ev15 => ?_)
              refine lv_iload_n C.1 C.2.1 dX3_badWord_33 rfl (lv_at hl 3 rfl) ?_
              refine n_iadd C dX3_badWord_34 rfl rfl (by omega) (by omega) (fun v16 ev16 => ?_)
              refine a_ld C M h14 (n := 280) rfl rfl rfl (by omega) (by omega) rfl dX3_badWord_35 (fun v17 kv17 => ?_)
              refine n_if_eq C (tgt := 55) dX3_badWord_36 (by decide) rfl (fun q18 => ?_) (fun q18 => ?_)
              ·
                refine n_iinc C (k := 4) (N := 1) (lv' := fun v => [(4, .int v), (0, .ref a0), (1, .int x1), (2, .int y7), (3, .int y2)]) dX3_badWord_55 hl rfl (by decide) rfl rfl (by omega) (by omega) (fun _ => rfl) (fun v19 ls ev19 hl => ?_)
                refine lv_goto (tgt := 15) C.1 C.2.1 dX3_badWord_58 (by decide) ?_
                exact ih15 y7 v19 _ _ _ (by omega) (by omega) (by omega) M (lv_sub hl [1, 2, 3, 4, 0] rfl)
              ·
                refine lv_iload_n C.1 C.2.1 dX3_badWord_39 rfl (lv_at hl 2 rfl) ?_
                refine lv_iload_n C.1 C.2.1 dX3_badWord_40 rfl (lv_at hl 1 rfl) ?_
                refine n_icmp_ne C (tgt := 52) dX3_badWord_41 (by decide) rfl rfl (fun q20 => ?_) (fun q20 => ?_)
                ·
                  refine n_iincU C (k := 2) (lv' := fun v => [(2, .int v), (0, .ref a0), (1, .int x1), (3, .int y2), (4, .int y8)]) dX3_badWord_52 hl rfl (by decide) (fun _ => rfl) (fun v21 ls hl => ?_)
                  refine n_iinc C (k := 4) (N := 1) (lv' := fun v => [(4, .int v), (2, .int v21), (0, .ref a0), (1, .int x1), (3, .int y2)]) dX3_badWord_55 hl rfl (by decide) rfl rfl (by omega) (by omega) (fun _ => rfl) (fun v22 ls ev22 hl => ?_)
                  refine lv_goto (tgt := 15) C.1 C.2.1 dX3_badWord_58 (by decide) ?_
                  exact ih15 v21 v22 _ _ _ (by omega) (by omega) (by omega) M (lv_sub hl [2, 3, 1, 4, 0] rfl)
                ·
                  refine lv_bipush (v := 100) C.1 C.2.1 dX3_badWord_44 (by decide) ?_
                  refine lv_iload_n C.1 C.2.1 dX3_badWord_46 rfl (lv_at hl 3 rfl) ?_
                  refine n_imul C (X := 100) dX3_badWord_47 rfl rfl (by omega) (by omega) (fun v23 ev23 => ?_)
                  refine lv_iload C.1 C.2.1 dX3_badWord_48 (lv_at hl 4 rfl) ?_
                  refine n_iadd C dX3_badWord_50 rfl rfl (by omega) (by omega) (fun v24 ev24 => ?_)
                  exact r_PI C M hr hlk rfl trivial dX3_badWord_51
        have cz25 : (0 : Int32).toInt = 0 := rfl
        exact L15 _ y1 0 _ _ _ (by omega) (by omega) (n_big _) M (lv_sub hl [1, 2, 3, 4, 0] rfl)
  have cz26 : (0 : Int32).toInt = 0 := rfl
  have cz27 : (0 : Int32).toInt = 0 := rfl
  exact L4 _ 0 0 _ _ _ (by omega) (by omega) (n_big _) M (lv_sub hl [2, 3, 1, 0] rfl)
