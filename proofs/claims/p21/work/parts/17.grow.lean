abbrev md_X10_make : List (Nat × Nat) := [(1, 4), (1, 5), (1, 6), (2, 9), (2, 10), (2, 11), (2, 12), (2, 13), (2, 14), (2, 15), (2, 16), (2, 17), (4, 2), (4, 3), (6, 2), (6, 3), (16, 0), (17, 0), (18, 0), (27, 0)]
set_option maxHeartbeats 4000000 in
set_option maxRecDepth 100000 in
theorem ct_X10_make (l : Launch) (g : Gs) (I : Ms) (J : Js) (a0 : Nat) (x1 : Int32) (x2 : Int32) (h0_ : Is g a0 8) (hR : RHs g I J) : Ctr l yX10_make cX10_make 4 (Option.some Jvm.ClassFile.FieldType.int) 4 g [.ref a0, .int x1, .int x2] I J (PM g md_X10_make I (fun z I1 J1 => J1.2 = J.2 ∧ (((3 ≤ x1.toInt ∧ x1.toInt ≤ 6 ∧ 4 ≤ x2.toInt ∧ x2.toInt ≤ 40 → z = x2.toInt * (x1.toInt - 1)) ∧ (¬ (3 ≤ x1.toInt ∧ x1.toInt ≤ 6 ∧ 4 ≤ x2.toInt ∧ x2.toInt ≤ 40) → z = -1)) ∧ RHs g I1 J1))) := by
  refine m_start (by decide) (Nat.le_of_ble_eq_true rfl) ?_
  intro p e s m args below meth c C hr hlk M ls hl
  have hl : lv_has ls 4 [(0, .ref a0), (1, .int x1), (2, .int x2)] := hl
  have C : CallFix p m c cX10_make 4 s args TB RX10 := C
  have F : Fr g md_X10_make I I := fr_rf
  have hj2 : J.2 = J.2 := rfl
  have hQ0 := M.2.2.2.2.2.2.2
  refine lv_iload_n C.1 C.2.1 dX10_make_0 rfl (lv_at hl 1 rfl) ?_
  refine lv_iconst (v := 3) C.1 C.2.1 dX10_make_1 (by decide) ?_
  refine n_icmp_lt C (tgt := 22) (Y := 3) dX10_make_2 (by decide) rfl rfl (fun q1 => ?_) (fun q1 => ?_)
  ·
    refine lv_iconst (v := -1) C.1 C.2.1 dX10_make_22 (by decide) ?_
    exact r_PM C M (z := (-1)) hr hlk F rfl ⟨hj2, ⟨⟨fun q => absurd q (by omega), fun _ => rfl⟩, hR⟩⟩ dX10_make_23
  ·
    refine lv_iload_n C.1 C.2.1 dX10_make_5 rfl (lv_at hl 1 rfl) ?_
    refine lv_bipush (v := 7) C.1 C.2.1 dX10_make_6 (by decide) ?_
    refine n_icmp_ge C (tgt := 22) (Y := 7) dX10_make_8 (by decide) rfl rfl (fun q2 => ?_) (fun q2 => ?_)
    ·
      refine lv_iconst (v := -1) C.1 C.2.1 dX10_make_22 (by decide) ?_
      exact r_PM C M (z := (-1)) hr hlk F rfl ⟨hj2, ⟨⟨fun q => absurd q (by omega), fun _ => rfl⟩, hR⟩⟩ dX10_make_23
    ·
      refine lv_iload_n C.1 C.2.1 dX10_make_11 rfl (lv_at hl 2 rfl) ?_
      refine lv_iconst (v := 4) C.1 C.2.1 dX10_make_12 (by decide) ?_
      refine n_icmp_lt C (tgt := 22) (Y := 4) dX10_make_13 (by decide) rfl rfl (fun q3 => ?_) (fun q3 => ?_)
      ·
        refine lv_iconst (v := -1) C.1 C.2.1 dX10_make_22 (by decide) ?_
        exact r_PM C M (z := (-1)) hr hlk F rfl ⟨hj2, ⟨⟨fun q => absurd q (by omega), fun _ => rfl⟩, hR⟩⟩ dX10_make_23
      ·
        refine lv_iload_n C.1 C.2.1 dX10_make_16 rfl (lv_at hl 2 rfl) ?_
        refine lv_bipush (v := 40) C.1 C.2.1 dX10_make_17 (by decide) ?_
        refine n_icmp_le C (tgt := 24) (Y := 40) dX10_make_19 (by decide) rfl rfl (fun q4 => ?_) (fun q4 => ?_)
        ·
          refine lv_aload_n C.1 C.2.1 dX10_make_24 rfl (lv_at hl 0 rfl) ?_
          refine gi_X10_10 C M h0_ dX10_make_25 (fun h5 => ?_)
          refine lv_iload_n C.1 C.2.1 dX10_make_28 rfl (lv_at hl 1 rfl) ?_
          refine lv_iload_n C.1 C.2.1 dX10_make_29 rfl (lv_at hl 2 rfl) ?_
          refine k_PV C M h5 (by decide) rfl (ct_X4_begin l g I J (gr g a0 0) x1 x2 h5 (by omega) (by omega) (by omega) (by omega) hR) (cw_X10_51 C.2.2.2.2 (by decide)) rfl hl.1 rfl (Nat.le_of_ble_eq_true rfl) dX10_make_30 ⟨Nat.le_refl _, Nat.le_refl _⟩ (fun I6 J7 H locs G8 p9r M => ?_)
          obtain ⟨eJ7, ⟨p9, rh10⟩⟩ : J7.2 = J.2 ∧ (((I6 (gr g (gr g a0 0) 0) 4).toInt = x2.toInt ∧ J7.1 (gr g a0 0) 6 = gr g (gr g (gr g a0 0) 2) x1.toInt.toNat) ∧ RHs g I6 J7) := p9r
          have hj2 : J7.2 = J.2 := eJ7.trans hj2
          have F := fr_call F G8 (by decide)
          have h11 := is_ref M h5 0 1 rfl rfl
          obtain ⟨u12, ku12⟩ : ∃ z : Int32, I6 (gr g (gr g a0 0) 0) 4 = z := ⟨_, rfl⟩
          have tu12 : 4 ≤ u12.toInt ∧ u12.toInt ≤ 40 := m_rng M h11 4 ku12 rfl
          have cu12 : (I6 (gr g (gr g a0 0) 0) 4).toInt = u12.toInt := congrArg Int32.toInt ku12
          refine lv_aload_n C.1 C.2.1 dX10_make_33 rfl (lv_at hl 0 rfl) ?_
          refine gi_X10_30 C M h0_ dX10_make_34 (fun h13 => ?_)
          refine k_PV C M h13 (by decide) rfl (ct_X8_clear l g I6 J7 (gr g a0 4) h13) (cw_X10_55 C.2.2.2.2 (by decide)) rfl hl.1 rfl (Nat.le_of_ble_eq_true rfl) dX10_make_37 ⟨Nat.le_refl _, Nat.le_refl _⟩ (fun I14 J15 H locs G16 p17r M => ?_)
          obtain ⟨eJ15, p17⟩ : J15 = J7 ∧ (True) := p17r
          have eJ15 := eJ15.symm
          subst eJ15
          have F := fr_call F G16 (by decide)
          refine lv_iconst (v := 0) C.1 C.2.1 dX10_make_40 (by decide) ?_
          refine lv_istore_n (lv' := [(3, .int 0), (0, .ref a0), (1, .int x1), (2, .int x2)]) C.1 C.2.1 dX10_make_41 rfl hl (by decide) rfl (fun ls hl => ?_)
          have L42 : ∀ (n42 : Nat) (y18 : Int32) (I19 : Ms) (H : Heap) (locs : List Loc) (ls : Array Slot), I19 (gr g (gr g a0 0) 0) 4 = u12 → RHs g I19 J7 → 0 ≤ y18.toInt → y18.toInt ≤ 2 → 2 - y18.toInt < (n42 : Int) → Fr g md_X10_make I I19 → Mm g s I19 J7 H locs → lv_has ls 4 [(0, .ref a0), (3, .int y18)] → W p l e (rmL 4) s m args below meth c H locs 0 0 (MQg below g (PM g md_X10_make I (fun z I1 J1 => J1.2 = J.2 ∧ (((3 ≤ x1.toInt ∧ x1.toInt ≤ 6 ∧ 4 ≤ x2.toInt ∧ x2.toInt ≤ 40 → z = x2.toInt * (x1.toInt - 1)) ∧ (¬ (3 ≤ x1.toInt ∧ x1.toInt ≤ 6 ∧ 4 ≤ x2.toInt ∧ x2.toInt ≤ 40) → z = -1)) ∧ RHs g I1 J1))) args s) (F0 m 42 ls []) := by
            intro n42
            induction n42 with
            | zero =>
              intro y18 I19 H locs ls k20 rh21 f22 f23 hm42 F M hl
              exact absurd hm42 (by omega)
            | succ n42 ih42 =>
              intro y18 I19 H locs ls k20 rh21 f22 f23 hm42 F M hl
              refine lv_iload_n C.1 C.2.1 dX10_make_42 rfl (lv_at hl 1 rfl) ?_
              refine lv_iconst (v := 2) C.1 C.2.1 dX10_make_43 (by decide) ?_
              refine n_icmp_ge C (tgt := 60) (Y := 2) dX10_make_44 (by decide) rfl rfl (fun q24 => ?_) (fun q24 => ?_)
              ·
                refine lv_aload_n C.1 C.2.1 dX10_make_60 rfl (lv_at hl 0 rfl) ?_
                refine gi_X10_10 C M h0_ dX10_make_61 (fun h25 => ?_)
                refine k_PI C M h5 (by decide) rfl (ct_X4_blocks l g I19 J7 (gr g a0 0) h5) (cw_X10_58 C.2.2.2.2 (by decide)) rfl hl.1 rfl (Nat.le_of_ble_eq_true rfl) dX10_make_64 ⟨Nat.le_refl _, Nat.le_refl _⟩ (fun r26 H locs p27r M => ?_)
                have p27 : r26.toInt = (I19 (gr g (gr g a0 0) 0) 4).toInt * (I19 (J7.1 (gr g a0 0) 6) 1).toInt ∧ 0 ≤ r26.toInt ∧ r26.toInt ≤ 280 := p27r
                exact r_PM C M hr hlk F rfl ⟨hj2, ⟨⟨fun _ => (by have e1 := congrArg Int32.toInt k20; have e2 := rh21.2.2 (gr g a0 0) x1.toInt.toNat h5 (by omega) (by omega); have e3 := p27.1; rw [p9.2, e1, e2] at e3; have e4 := p9.1; have e5 : ((x1.toInt.toNat : Nat) : Int) = x1.toInt := (by omega); rw [e5] at e3; rw [e3]; congr 1; omega), fun q => absurd ⟨by omega, by omega, by omega, by omega⟩ q⟩, rh21⟩⟩ dX10_make_67
              ·
                refine lv_aload_n C.1 C.2.1 dX10_make_47 rfl (lv_at hl 0 rfl) ?_
                refine gi_X10_23 C M h0_ dX10_make_48 (fun h28 => ?_)
                refine lv_iload_n C.1 C.2.1 dX10_make_51 rfl (lv_at hl 1 rfl) ?_
                refine lv_iconst (v := 0) C.1 C.2.1 dX10_make_52 (by decide) ?_
                refine a_stZ C M (V := 0) h28 (n := 2) (by decide) (by decide) rfl rfl rfl (by omega) (by omega) rfl rfl (by omega) (by omega) rfl dX10_make_53 (fun H locs I29 k31 f30 M => ?_)
                have F := fr_put F h28 (Or.inl (by decide)) f30
                refine n_iinc C (k := 1) (N := 1) (lv' := fun v => [(3, .int v), (0, .ref a0)]) dX10_make_54 hl rfl (by decide) rfl rfl (by omega) (by omega) (fun _ => rfl) (fun v32 ls ev32 hl => ?_)
                refine lv_goto (tgt := 42) C.1 C.2.1 dX10_make_57 (by decide) ?_
                exact ih42 v32 I29 _ _ _ ((f30 (gr g (gr g a0 0) 0) 4 (Or.inl (is_ne h28 h11 (by decide)))).trans k20) (rh_put M.2.2.2.2.2.1 M.2.2.2.2.2.2.2 h28 f30 ⟨Or.inl (by decide), Or.inl (by decide), by decide⟩ rh21) (by omega) (by omega) (by omega) F M (lv_sub hl [1, 0] rfl)
          have cz33 : (0 : Int32).toInt = 0 := rfl
          exact L42 _ 0 I14 _ _ _ ((G16 (gr g (gr g a0 0) 0) 1 4 h11 (by decide) (by decide)).trans ku12) (rh_fr M.2.2.2.2.2.1 M.2.2.2.2.2.2.2 G16 (by decide) rh10) (by omega) (by omega) (n_big _) F M (lv_sub hl [1, 0] rfl)
        ·
          refine lv_iconst (v := -1) C.1 C.2.1 dX10_make_22 (by decide) ?_
          exact r_PM C M (z := (-1)) hr hlk F rfl ⟨hj2, ⟨⟨fun q => absurd q (by omega), fun _ => rfl⟩, hR⟩⟩ dX10_make_23

abbrev md_X10_set : List (Nat × Nat) := [(0, 1), (0, 2), (0, 3), (0, 4), (0, 5), (0, 6), (0, 7), (2, 11), (2, 14), (2, 15)]
set_option maxHeartbeats 4000000 in
set_option maxRecDepth 100000 in
theorem ct_X10_set (l : Launch) (g : Gs) (I : Ms) (J : Js) (a0 : Nat) (x1 : Int32) (x2 : Int32) (h0_ : Is g a0 8) (hR : RHs g I J) : Ctr l yX10_set cX10_set 3 (Option.some Jvm.ClassFile.FieldType.int) 4 g [.ref a0, .int x1, .int x2] I J (PM g md_X10_set I (fun z I1 J1 => J1 = J ∧ (True))) := by
  refine m_start (by decide) (Nat.le_of_ble_eq_true rfl) ?_
  intro p e s m args below meth c C hr hlk M ls hl
  have hl : lv_has ls 3 [(0, .ref a0), (1, .int x1), (2, .int x2)] := hl
  have C : CallFix p m c cX10_set 3 s args TB RX10 := C
  have F : Fr g md_X10_set I I := fr_rf
  refine lv_iload_n C.1 C.2.1 dX10_set_0 rfl (lv_at hl 1 rfl) ?_
  by_cases q1 : x1.toInt = 0
  ·
    refine n_tabk (off := 27) (tgt := 28) C 0 dX10_set_1 q1 (by decide) (by decide) (by decide) (by decide) ?_
    refine lv_aload_n C.1 C.2.1 dX10_set_28 rfl (lv_at hl 0 rfl) ?_
    refine gi_X10_10 C M h0_ dX10_set_29 (fun h2 => ?_)
    refine lv_iload_n C.1 C.2.1 dX10_set_32 rfl (lv_at hl 2 rfl) ?_
    refine k_PM C M h2 (by decide) rfl (ct_X4_changeSize l g I J (gr g a0 0) x2 h2 hR) (cw_X10_62 C.2.2.2.2 (by decide)) rfl hl.1 rfl (Nat.le_of_ble_eq_true rfl) dX10_set_33 ⟨Nat.le_refl _, Nat.le_refl _⟩ (fun r7 I3 J4 H locs G5 p6r M => ?_)
    obtain ⟨eJ4, p6⟩ : J4 = J ∧ (True) := p6r
    have eJ4 := eJ4.symm
    subst eJ4
    have F := fr_call F G5 (by decide)
    exact r_PM C M hr hlk F rfl ⟨rfl, trivial⟩ dX10_set_36
  by_cases q8 : x1.toInt = 1
  ·
    refine n_tabk (off := 36) (tgt := 37) C 1 dX10_set_1 q8 (by decide) (by decide) (by decide) (by decide) ?_
    refine lv_aload_n C.1 C.2.1 dX10_set_37 rfl (lv_at hl 0 rfl) ?_
    refine gi_X10_10 C M h0_ dX10_set_38 (fun h9 => ?_)
    refine lv_iload_n C.1 C.2.1 dX10_set_41 rfl (lv_at hl 2 rfl) ?_
    refine k_PM C M h9 (by decide) rfl (ct_X4_changeLeast l g I J (gr g a0 0) x2 h9) (cw_X10_66 C.2.2.2.2 (by decide)) rfl hl.1 rfl (Nat.le_of_ble_eq_true rfl) dX10_set_42 ⟨Nat.le_refl _, Nat.le_refl _⟩ (fun r14 I10 J11 H locs G12 p13r M => ?_)
    obtain ⟨eJ11, p13⟩ : J11 = J ∧ (True) := p13r
    have eJ11 := eJ11.symm
    subst eJ11
    have F := fr_call F G12 (by decide)
    exact r_PM C M hr hlk F rfl ⟨rfl, trivial⟩ dX10_set_45
  by_cases q15 : x1.toInt = 2
  ·
    refine n_tabk (off := 45) (tgt := 46) C 2 dX10_set_1 q15 (by decide) (by decide) (by decide) (by decide) ?_
    refine lv_aload_n C.1 C.2.1 dX10_set_46 rfl (lv_at hl 0 rfl) ?_
    refine gi_X10_10 C M h0_ dX10_set_47 (fun h16 => ?_)
    refine lv_iload_n C.1 C.2.1 dX10_set_50 rfl (lv_at hl 2 rfl) ?_
    refine k_PM C M h16 (by decide) rfl (ct_X4_changeMost l g I J (gr g a0 0) x2 h16) (cw_X10_69 C.2.2.2.2 (by decide)) rfl hl.1 rfl (Nat.le_of_ble_eq_true rfl) dX10_set_51 ⟨Nat.le_refl _, Nat.le_refl _⟩ (fun r21 I17 J18 H locs G19 p20r M => ?_)
    obtain ⟨eJ18, p20⟩ : J18 = J ∧ (True) := p20r
    have eJ18 := eJ18.symm
    subst eJ18
    have F := fr_call F G19 (by decide)
    exact r_PM C M hr hlk F rfl ⟨rfl, trivial⟩ dX10_set_54
  refine n_tabo (tgt := 55) C dX10_set_1 rfl (by omega) (by decide) ?_
  refine lv_iconst (v := -1) C.1 C.2.1 dX10_set_55 (by decide) ?_
  exact r_PM C M (z := (-1)) hr hlk F rfl ⟨rfl, trivial⟩ dX10_set_56

abbrev md_X10_grow : List (Nat × Nat) := [(0, 1), (0, 2), (0, 3), (0, 4), (0, 5), (0, 6), (0, 7), (1, 4), (2, 9), (2, 10), (2, 12), (2, 13)]
set_option maxHeartbeats 4000000 in
set_option maxRecDepth 100000 in
theorem ct_X10_grow (l : Launch) (g : Gs) (I : Ms) (J : Js) (a0 : Nat) (h0_ : Is g a0 8) (hR : RHs g I J) : Ctr l yX10_grow cX10_grow 1 (Option.some Jvm.ClassFile.FieldType.int) 4 g [.ref a0] I J (PM g md_X10_grow I (fun z I1 J1 => J1.2 = J.2 ∧ ((True) ∧ RHs g I1 J1))) := by
  refine m_start (by decide) (Nat.le_of_ble_eq_true rfl) ?_
  intro p e s m args below meth c C hr hlk M ls hl
  have hl : lv_has ls 1 [(0, .ref a0)] := hl
  have C : CallFix p m c cX10_grow 1 s args TB RX10 := C
  have F : Fr g md_X10_grow I I := fr_rf
  have hj2 : J.2 = J.2 := rfl
  have hQ0 := M.2.2.2.2.2.2.2
  refine lv_aload_n C.1 C.2.1 dX10_grow_0 rfl (lv_at hl 0 rfl) ?_
  refine gi_X10_10 C M h0_ dX10_grow_1 (fun h1 => ?_)
  refine k_PM C M h1 (by decide) rfl (ct_X4_beginGrowth l g I J (gr g a0 0) h1 hR) (cw_X10_72 C.2.2.2.2 (by decide)) rfl hl.1 rfl (Nat.le_of_ble_eq_true rfl) dX10_grow_4 ⟨Nat.le_refl _, Nat.le_refl _⟩ (fun r6 I2 J3 H locs G4 p5r M => ?_)
  obtain ⟨eJ3, ⟨p5, rh7⟩⟩ : J3.2 = J.2 ∧ ((True) ∧ RHs g I2 J3) := p5r
  have hj2 : J3.2 = J.2 := eJ3.trans hj2
  have F := fr_call F G4 (by decide)
  exact r_PM C M hr hlk F rfl ⟨hj2, ⟨trivial, rh7⟩⟩ dX10_grow_7

abbrev md_X10_steps : List (Nat × Nat) := [(0, 1), (0, 2), (0, 3), (0, 4), (0, 5), (0, 6), (0, 7), (2, 9), (2, 10), (2, 12), (2, 13), (2, 17), (16, 0), (17, 0), (18, 0), (21, 0)]
set_option maxHeartbeats 4000000 in
set_option maxRecDepth 100000 in
theorem ct_X10_steps (l : Launch) (g : Gs) (I : Ms) (J : Js) (a0 : Nat) (x1 : Int32) (h0_ : Is g a0 8) (hR : RHs g I J) : Ctr l yX10_steps cX10_steps 2 (Option.some Jvm.ClassFile.FieldType.int) 6 g [.ref a0, .int x1] I J (PM g md_X10_steps I (fun z I1 J1 => J1.2 = J.2 ∧ ((True) ∧ RHs g I1 J1))) := by
  refine m_start (by decide) (Nat.le_of_ble_eq_true rfl) ?_
  intro p e s m args below meth c C hr hlk M ls hl
  have hl : lv_has ls 2 [(0, .ref a0), (1, .int x1)] := hl
  have C : CallFix p m c cX10_steps 2 s args TB RX10 := C
  have F : Fr g md_X10_steps I I := fr_rf
  have hj2 : J.2 = J.2 := rfl
  have hQ0 := M.2.2.2.2.2.2.2
  refine lv_aload_n C.1 C.2.1 dX10_steps_0 rfl (lv_at hl 0 rfl) ?_
  refine gi_X10_10 C M h0_ dX10_steps_1 (fun h1 => ?_)
  refine lv_iload_n C.1 C.2.1 dX10_steps_4 rfl (lv_at hl 1 rfl) ?_
  refine k_PM C M h1 (by decide) rfl (ct_X4_goSteps l g I J (gr g a0 0) x1 h1 hR) (cw_X10_75 C.2.2.2.2 (by decide)) rfl hl.1 rfl (Nat.le_of_ble_eq_true rfl) dX10_steps_5 ⟨Nat.le_refl _, Nat.le_refl _⟩ (fun r6 I2 J3 H locs G4 p5r M => ?_)
  obtain ⟨eJ3, ⟨p5, rh7⟩⟩ : J3.2 = J.2 ∧ ((True) ∧ RHs g I2 J3) := p5r
  have hj2 : J3.2 = J.2 := eJ3.trans hj2
  have F := fr_call F G4 (by decide)
  exact r_PM C M hr hlk F rfl ⟨hj2, ⟨trivial, rh7⟩⟩ dX10_steps_8

abbrev md_X10_crash : List (Nat × Nat) := [(2, 12), (4, 2)]
set_option maxHeartbeats 4000000 in
set_option maxRecDepth 100000 in
theorem ct_X10_crash (l : Launch) (g : Gs) (I : Ms) (J : Js) (a0 : Nat) (h0_ : Is g a0 8) : Ctr l yX10_crash cX10_crash 1 (Option.some Jvm.ClassFile.FieldType.boolean) 2 g [.ref a0] I J (PM g md_X10_crash I (fun z I1 J1 => J1 = J ∧ (0 ≤ z ∧ z ≤ 1))) := by
  refine m_start (by decide) (Nat.le_of_ble_eq_true rfl) ?_
  intro p e s m args below meth c C hr hlk M ls hl
  have hl : lv_has ls 1 [(0, .ref a0)] := hl
  have C : CallFix p m c cX10_crash 1 s args TB RX10 := C
  have F : Fr g md_X10_crash I I := fr_rf
  refine lv_aload_n C.1 C.2.1 dX10_crash_0 rfl (lv_at hl 0 rfl) ?_
  refine gi_X10_10 C M h0_ dX10_crash_1 (fun h1 => ?_)
  refine k_PM C M h1 (by decide) rfl (ct_X4_fallOver l g I J (gr g a0 0) h1) (cw_X10_78 C.2.2.2.2 (by decide)) rfl hl.1 rfl (Nat.le_of_ble_eq_true rfl) dX10_crash_4 ⟨Nat.le_refl _, Nat.le_refl _⟩ (fun r6 I2 J3 H locs G4 p5r M => ?_)
  obtain ⟨eJ3, p5⟩ : J3 = J ∧ (0 ≤ r6.toInt ∧ r6.toInt ≤ 1) := p5r
  have eJ3 := eJ3.symm
  subst eJ3
  have F := fr_call F G4 (by decide)
  exact r_PMz C M hr hlk F rfl (by omega) (by omega) ⟨rfl, (by omega)⟩ dX10_crash_7

abbrev md_X10_write : List (Nat × Nat) := [(16, 0), (17, 0), (18, 0)]
set_option maxHeartbeats 4000000 in
set_option maxRecDepth 100000 in
theorem ct_X10_write (l : Launch) (g : Gs) (I : Ms) (J : Js) (a0 : Nat) (x1 : Int32) (x2 : Int32) (h0_ : Is g a0 8) : Ctr l yX10_write cX10_write 3 (Option.some Jvm.ClassFile.FieldType.int) 5 g [.ref a0, .int x1, .int x2] I J (PM g md_X10_write I (fun z I1 J1 => J1 = J ∧ (True))) := by
  refine m_start (by decide) (Nat.le_of_ble_eq_true rfl) ?_
  intro p e s m args below meth c C hr hlk M ls hl
  have hl : lv_has ls 3 [(0, .ref a0), (1, .int x1), (2, .int x2)] := hl
  have C : CallFix p m c cX10_write 3 s args TB RX10 := C
  have F : Fr g md_X10_write I I := fr_rf
  refine lv_aload_n C.1 C.2.1 dX10_write_0 rfl (lv_at hl 0 rfl) ?_
  refine gi_X10_10 C M h0_ dX10_write_1 (fun h1 => ?_)
  refine lv_iload_n C.1 C.2.1 dX10_write_4 rfl (lv_at hl 1 rfl) ?_
  refine lv_iload_n C.1 C.2.1 dX10_write_5 rfl (lv_at hl 2 rfl) ?_
  refine k_PM C M h1 (by decide) rfl (ct_X4_storeOne l g I J (gr g a0 0) x1 x2 h1) (cw_X10_95 C.2.2.2.2 (by decide)) rfl hl.1 rfl (Nat.le_of_ble_eq_true rfl) dX10_write_6 ⟨Nat.le_refl _, Nat.le_refl _⟩ (fun r6 I2 J3 H locs G4 p5r M => ?_)
  obtain ⟨eJ3, p5⟩ : J3 = J ∧ (True) := p5r
  have eJ3 := eJ3.symm
  subst eJ3
  have F := fr_call F G4 (by decide)
  exact r_PM C M hr hlk F rfl ⟨rfl, trivial⟩ dX10_write_9

abbrev md_X10_fill : List (Nat × Nat) := [(16, 0), (17, 0), (18, 0)]
set_option maxHeartbeats 4000000 in
set_option maxRecDepth 100000 in
theorem ct_X10_fill (l : Launch) (g : Gs) (I : Ms) (J : Js) (a0 : Nat) (x1 : Int32) (x2 : Int32) (x3 : Int32) (h0_ : Is g a0 8) : Ctr l yX10_fill cX10_fill 4 (Option.some Jvm.ClassFile.FieldType.int) 6 g [.ref a0, .int x1, .int x2, .int x3] I J (PM g md_X10_fill I (fun z I1 J1 => J1 = J ∧ (True))) := by
  refine m_start (by decide) (Nat.le_of_ble_eq_true rfl) ?_
  intro p e s m args below meth c C hr hlk M ls hl
  have hl : lv_has ls 4 [(0, .ref a0), (1, .int x1), (2, .int x2), (3, .int x3)] := hl
  have C : CallFix p m c cX10_fill 4 s args TB RX10 := C
  have F : Fr g md_X10_fill I I := fr_rf
  refine lv_aload_n C.1 C.2.1 dX10_fill_0 rfl (lv_at hl 0 rfl) ?_
  refine gi_X10_10 C M h0_ dX10_fill_1 (fun h1 => ?_)
  refine lv_iload_n C.1 C.2.1 dX10_fill_4 rfl (lv_at hl 1 rfl) ?_
  refine lv_iload_n C.1 C.2.1 dX10_fill_5 rfl (lv_at hl 2 rfl) ?_
  refine lv_iload_n C.1 C.2.1 dX10_fill_6 rfl (lv_at hl 3 rfl) ?_
  refine k_PM C M h1 (by decide) rfl (ct_X4_storeRun l g I J (gr g a0 0) x1 x2 x3 h1) (cw_X10_99 C.2.2.2.2 (by decide)) rfl hl.1 rfl (Nat.le_of_ble_eq_true rfl) dX10_fill_7 ⟨Nat.le_refl _, Nat.le_refl _⟩ (fun r6 I2 J3 H locs G4 p5r M => ?_)
  obtain ⟨eJ3, p5⟩ : J3 = J ∧ (True) := p5r
  have eJ3 := eJ3.symm
  subst eJ3
  have F := fr_call F G4 (by decide)
  exact r_PM C M hr hlk F rfl ⟨rfl, trivial⟩ dX10_fill_10

abbrev md_X10_lose : List (Nat × Nat) := [(1, 6)]
set_option maxHeartbeats 4000000 in
set_option maxRecDepth 100000 in
theorem ct_X10_lose (l : Launch) (g : Gs) (I : Ms) (J : Js) (a0 : Nat) (x1 : Int32) (h0_ : Is g a0 8) : Ctr l yX10_lose cX10_lose 2 (Option.some Jvm.ClassFile.FieldType.boolean) 3 g [.ref a0, .int x1] I J (PM g md_X10_lose I (fun z I1 J1 => J1 = J ∧ (0 ≤ z ∧ z ≤ 1))) := by
  refine m_start (by decide) (Nat.le_of_ble_eq_true rfl) ?_
  intro p e s m args below meth c C hr hlk M ls hl
  have hl : lv_has ls 2 [(0, .ref a0), (1, .int x1)] := hl
  have C : CallFix p m c cX10_lose 2 s args TB RX10 := C
  have F : Fr g md_X10_lose I I := fr_rf
  refine lv_aload_n C.1 C.2.1 dX10_lose_0 rfl (lv_at hl 0 rfl) ?_
  refine gi_X10_10 C M h0_ dX10_lose_1 (fun h1 => ?_)
  refine gi_X10_103 C M h1 dX10_lose_4 (fun h2 => ?_)
  refine lv_iload_n C.1 C.2.1 dX10_lose_7 rfl (lv_at hl 1 rfl) ?_
  refine k_PM C M h2 (by decide) rfl (ct_X3_loseOne l g I J (gr g (gr g a0 0) 0) x1 h2) (cw_X10_107 C.2.2.2.2 (by decide)) rfl hl.1 rfl (Nat.le_of_ble_eq_true rfl) dX10_lose_8 ⟨Nat.le_refl _, Nat.le_refl _⟩ (fun r7 I3 J4 H locs G5 p6r M => ?_)
  obtain ⟨eJ4, p6⟩ : J4 = J ∧ (0 ≤ r7.toInt ∧ r7.toInt ≤ 1) := p6r
  have eJ4 := eJ4.symm
  subst eJ4
  have F := fr_call F G5 (by decide)
  exact r_PMz C M hr hlk F rfl (by omega) (by omega) ⟨rfl, (by omega)⟩ dX10_lose_11

abbrev md_X10_replace : List (Nat × Nat) := [(1, 6), (16, 0), (17, 0)]
set_option maxHeartbeats 4000000 in
set_option maxRecDepth 100000 in
theorem ct_X10_replace (l : Launch) (g : Gs) (I : Ms) (J : Js) (a0 : Nat) (h0_ : Is g a0 8) : Ctr l yX10_replace cX10_replace 1 (Option.some Jvm.ClassFile.FieldType.int) 4 g [.ref a0] I J (PM g md_X10_replace I (fun z I1 J1 => J1 = J ∧ (True))) := by
  refine m_start (by decide) (Nat.le_of_ble_eq_true rfl) ?_
  intro p e s m args below meth c C hr hlk M ls hl
  have hl : lv_has ls 1 [(0, .ref a0)] := hl
  have C : CallFix p m c cX10_replace 1 s args TB RX10 := C
  have F : Fr g md_X10_replace I I := fr_rf
  refine lv_aload_n C.1 C.2.1 dX10_replace_0 rfl (lv_at hl 0 rfl) ?_
  refine gi_X10_10 C M h0_ dX10_replace_1 (fun h1 => ?_)
  refine k_PM C M h1 (by decide) rfl (ct_X4_replaceLost l g I J (gr g a0 0) h1) (cw_X10_112 C.2.2.2.2 (by decide)) rfl hl.1 rfl (Nat.le_of_ble_eq_true rfl) dX10_replace_4 ⟨Nat.le_refl _, Nat.le_refl _⟩ (fun r6 I2 J3 H locs G4 p5r M => ?_)
  obtain ⟨eJ3, p5⟩ : J3 = J ∧ (True) := p5r
  have eJ3 := eJ3.symm
  subst eJ3
  have F := fr_call F G4 (by decide)
  exact r_PM C M hr hlk F rfl ⟨rfl, trivial⟩ dX10_replace_7

abbrev md_X10_bad : List (Nat × Nat) := [(17, 0)]
set_option maxHeartbeats 4000000 in
set_option maxRecDepth 100000 in
theorem ct_X10_bad (l : Launch) (g : Gs) (I : Ms) (J : Js) (a0 : Nat) (x1 : Int32) (x2 : Int32) (h0_ : Is g a0 8) : Ctr l yX10_bad cX10_bad 3 (Option.some Jvm.ClassFile.FieldType.boolean) 3 g [.ref a0, .int x1, .int x2] I J (PM g md_X10_bad I (fun z I1 J1 => J1 = J ∧ (0 ≤ z ∧ z ≤ 1))) := by
  refine m_start (by decide) (Nat.le_of_ble_eq_true rfl) ?_
  intro p e s m args below meth c C hr hlk M ls hl
  have hl : lv_has ls 3 [(0, .ref a0), (1, .int x1), (2, .int x2)] := hl
  have C : CallFix p m c cX10_bad 3 s args TB RX10 := C
  have F : Fr g md_X10_bad I I := fr_rf
  refine lv_aload_n C.1 C.2.1 dX10_bad_0 rfl (lv_at hl 0 rfl) ?_
  refine gi_X10_10 C M h0_ dX10_bad_1 (fun h1 => ?_)
  refine gi_X10_103 C M h1 dX10_bad_4 (fun h2 => ?_)
  refine lv_iload_n C.1 C.2.1 dX10_bad_7 rfl (lv_at hl 1 rfl) ?_
  refine lv_iload_n C.1 C.2.1 dX10_bad_8 rfl (lv_at hl 2 rfl) ?_
  refine k_PM C M h2 (by decide) rfl (ct_X3_spoil l g I J (gr g (gr g a0 0) 0) x1 x2 h2) (cw_X10_115 C.2.2.2.2 (by decide)) rfl hl.1 rfl (Nat.le_of_ble_eq_true rfl) dX10_bad_9 ⟨Nat.le_refl _, Nat.le_refl _⟩ (fun r7 I3 J4 H locs G5 p6r M => ?_)
  obtain ⟨eJ4, p6⟩ : J4 = J ∧ (0 ≤ r7.toInt ∧ r7.toInt ≤ 1) := p6r
  have eJ4 := eJ4.symm
  subst eJ4
  have F := fr_call F G5 (by decide)
  exact r_PMz C M hr hlk F rfl (by omega) (by omega) ⟨rfl, (by omega)⟩ dX10_bad_12

abbrev md_X10_ask : List (Nat × Nat) := [(4, 2), (4, 3), (19, 0)]
set_option maxHeartbeats 4000000 in
set_option maxRecDepth 100000 in
theorem ct_X10_ask (l : Launch) (g : Gs) (I : Ms) (J : Js) (a0 : Nat) (x1 : Int32) (x2 : Int32) (x3 : Int32) (x4 : Int32) (h0_ : Is g a0 8) : Ctr l yX10_ask cX10_ask 5 (Option.some Jvm.ClassFile.FieldType.int) 4 g [.ref a0, .int x1, .int x2, .int x3, .int x4] I J (PM g md_X10_ask I (fun z I1 J1 => J1 = J ∧ (True))) := by
  refine m_start (by decide) (Nat.le_of_ble_eq_true rfl) ?_
  intro p e s m args below meth c C hr hlk M ls hl
  have hl : lv_has ls 5 [(0, .ref a0), (1, .int x1), (2, .int x2), (3, .int x3), (4, .int x4)] := hl
  have C : CallFix p m c cX10_ask 5 s args TB RX10 := C
  have F : Fr g md_X10_ask I I := fr_rf
  refine lv_aload_n C.1 C.2.1 dX10_ask_0 rfl (lv_at hl 0 rfl) ?_
  refine gi_X10_10 C M h0_ dX10_ask_1 (fun h1 => ?_)
  refine lv_iload_n C.1 C.2.1 dX10_ask_4 rfl (lv_at hl 2 rfl) ?_
  refine k_PI C M h1 (by decide) rfl (ct_X4_hasBlock l g I J (gr g a0 0) x2 h1) (cw_X10_82 C.2.2.2.2 (by decide)) rfl hl.1 rfl (Nat.le_of_ble_eq_true rfl) dX10_ask_5 ⟨Nat.le_refl _, Nat.le_refl _⟩ (fun r2 H locs p3r M => ?_)
  have p3 : 0 ≤ r2.toInt ∧ r2.toInt ≤ 1 ∧ (r2.toInt = 1 → 0 ≤ x2.toInt ∧ x2.toInt ≤ 280) := p3r
  refine n_if_eq C (tgt := 29) dX10_ask_8 (by decide) rfl (fun q4 => ?_) (fun q4 => ?_)
  ·
    refine lv_iconst (v := -1) C.1 C.2.1 dX10_ask_29 (by decide) ?_
    exact r_PM C M (z := (-1)) hr hlk F rfl ⟨rfl, trivial⟩ dX10_ask_30
  ·
    refine lv_aload_n C.1 C.2.1 dX10_ask_11 rfl (lv_at hl 0 rfl) ?_
    refine gi_X10_10 C M h0_ dX10_ask_12 (fun h5 => ?_)
    refine gi_X10_119 C M h1 dX10_ask_15 (fun h6 => ?_)
    refine lv_iload_n C.1 C.2.1 dX10_ask_18 rfl (lv_at hl 1 rfl) ?_
    refine lv_iload_n C.1 C.2.1 dX10_ask_19 rfl (lv_at hl 2 rfl) ?_
    refine lv_iload_n C.1 C.2.1 dX10_ask_20 rfl (lv_at hl 3 rfl) ?_
    refine lv_iload C.1 C.2.1 dX10_ask_21 (lv_at hl 4 rfl) ?_
    refine k_PM C M h6 (by decide) rfl (ct_X6_add l g I J (gr g (gr g a0 0) 1) x1 x2 x3 x4 h6) (cw_X10_123 C.2.2.2.2 (by decide)) rfl hl.1 rfl (Nat.le_of_ble_eq_true rfl) dX10_ask_23 ⟨Nat.le_refl _, Nat.le_refl _⟩ (fun r11 I7 J8 H locs G9 p10r M => ?_)
    obtain ⟨eJ8, p10⟩ : J8 = J ∧ (True) := p10r
    have eJ8 := eJ8.symm
    subst eJ8
    have F := fr_call F G9 (by decide)
    refine lv_goto (tgt := 30) C.1 C.2.1 dX10_ask_26 (by decide) ?_
    exact r_PM C M hr hlk F rfl ⟨rfl, trivial⟩ dX10_ask_30

abbrev md_X10_tick : List (Nat × Nat) := [(0, 1), (0, 2), (0, 3), (0, 4), (0, 5), (0, 6), (0, 7), (2, 9), (2, 10), (2, 12), (2, 13), (2, 16), (2, 17), (4, 2), (6, 2), (6, 3), (16, 0), (17, 0), (18, 0), (19, 0), (20, 0), (21, 0)]
set_option maxHeartbeats 4000000 in
set_option maxRecDepth 100000 in
theorem ct_X10_tick (l : Launch) (g : Gs) (I : Ms) (J : Js) (a0 : Nat) (x1 : Int32) (h0_ : Is g a0 8) (hR : RHs g I J) : Ctr l yX10_tick cX10_tick 2 (Option.some Jvm.ClassFile.FieldType.int) 7 g [.ref a0, .int x1] I J (PM g md_X10_tick I (fun z I1 J1 => J1.2 = J.2 ∧ ((True) ∧ RHs g I1 J1))) := by
  refine m_start (by decide) (Nat.le_of_ble_eq_true rfl) ?_
  intro p e s m args below meth c C hr hlk M ls hl
  have hl : lv_has ls 2 [(0, .ref a0), (1, .int x1)] := hl
  have C : CallFix p m c cX10_tick 2 s args TB RX10 := C
  have F : Fr g md_X10_tick I I := fr_rf
  have hj2 : J.2 = J.2 := rfl
  have hQ0 := M.2.2.2.2.2.2.2
  refine lv_aload_n C.1 C.2.1 dX10_tick_0 rfl (lv_at hl 0 rfl) ?_
  refine gi_X10_10 C M h0_ dX10_tick_1 (fun h1 => ?_)
  refine lv_iload_n C.1 C.2.1 dX10_tick_4 rfl (lv_at hl 1 rfl) ?_
  refine lv_aload_n C.1 C.2.1 dX10_tick_5 rfl (lv_at hl 0 rfl) ?_
  refine gi_X10_30 C M h0_ dX10_tick_6 (fun h2 => ?_)
  refine k_PM C M h1 (by decide) rfl (ct_X4_spend l g I J (gr g a0 0) x1 (gr g a0 4) h1 h2 hR) (cw_X10_129 C.2.2.2.2 (by decide)) rfl hl.1 rfl (Nat.le_of_ble_eq_true rfl) dX10_tick_9 ⟨Nat.le_refl _, Nat.le_refl _⟩ (fun r7 I3 J4 H locs G5 p6r M => ?_)
  obtain ⟨eJ4, ⟨p6, rh8⟩⟩ : J4.2 = J.2 ∧ ((True) ∧ RHs g I3 J4) := p6r
  have hj2 : J4.2 = J.2 := eJ4.trans hj2
  have F := fr_call F G5 (by decide)
  exact r_PM C M hr hlk F rfl ⟨hj2, ⟨trivial, rh8⟩⟩ dX10_tick_12

set_option maxHeartbeats 4000000 in
set_option maxRecDepth 100000 in
theorem ct_X10_request (l : Launch) (g : Gs) (I : Ms) (J : Js) (a0 : Nat) (x1 : Int32) (x2 : Int32) (h0_ : Is g a0 8) : Ctr l yX10_request cX10_request 3 (Option.some Jvm.ClassFile.FieldType.int) 3 g [.ref a0, .int x1, .int x2] I J (PI I J (fun z => True)) := by
  refine m_start (by decide) (Nat.le_of_ble_eq_true rfl) ?_
  intro p e s m args below meth c C hr hlk M ls hl
  have hl : lv_has ls 3 [(0, .ref a0), (1, .int x1), (2, .int x2)] := hl
  have C : CallFix p m c cX10_request 3 s args TB RX10 := C
  refine lv_iload_n C.1 C.2.1 dX10_request_0 rfl (lv_at hl 1 rfl) ?_
  refine lv_iconst (v := -1) C.1 C.2.1 dX10_request_1 (by decide) ?_
  refine n_icmp_ne C (tgt := 18) (Y := (-1)) dX10_request_2 (by decide) rfl rfl (fun q1 => ?_) (fun q1 => ?_)
  ·
    refine lv_aload_n C.1 C.2.1 dX10_request_18 rfl (lv_at hl 0 rfl) ?_
    refine gi_X10_10 C M h0_ dX10_request_19 (fun h2 => ?_)
    refine gi_X10_119 C M h2 dX10_request_22 (fun h3 => ?_)
    refine lv_iload_n C.1 C.2.1 dX10_request_25 rfl (lv_at hl 1 rfl) ?_
    refine lv_iload_n C.1 C.2.1 dX10_request_26 rfl (lv_at hl 2 rfl) ?_
    refine k_PI C M h3 (by decide) rfl (ct_X6_tell l g I J (gr g (gr g a0 0) 1) x1 x2 h3) (cw_X10_143 C.2.2.2.2 (by decide)) rfl hl.1 rfl (Nat.le_of_ble_eq_true rfl) dX10_request_27 ⟨Nat.le_refl _, Nat.le_refl _⟩ (fun r4 H locs p5r M => ?_)
    have p5 : True := p5r
    exact r_PI C M hr hlk rfl trivial dX10_request_30
  ·
    refine lv_aload_n C.1 C.2.1 dX10_request_5 rfl (lv_at hl 0 rfl) ?_
    refine gi_X10_10 C M h0_ dX10_request_6 (fun h6 => ?_)
    refine gi_X10_119 C M h6 dX10_request_9 (fun h7 => ?_)
    refine gi_X10_139 C M h7 dX10_request_12 (fun v8 kv8 tv8 uv8 => ?_)
    refine lv_goto (tgt := 30) C.1 C.2.1 dX10_request_15 (by decide) ?_
    exact r_PI C M hr hlk rfl trivial dX10_request_30

abbrev md_X10_poke : List (Nat × Nat) := [(16, 0), (17, 0)]
set_option maxHeartbeats 4000000 in
set_option maxRecDepth 100000 in
theorem ct_X10_poke (l : Launch) (g : Gs) (I : Ms) (J : Js) (a0 : Nat) (x1 : Int32) (x2 : Int32) (x3 : Int32) (h0_ : Is g a0 8) : Ctr l yX10_poke cX10_poke 4 (Option.some Jvm.ClassFile.FieldType.boolean) 2 g [.ref a0, .int x1, .int x2, .int x3] I J (PM g md_X10_poke I (fun z I1 J1 => J1 = J ∧ (0 ≤ z ∧ z ≤ 1))) := by
  refine m_start (by decide) (Nat.le_of_ble_eq_true rfl) ?_
  intro p e s m args below meth c C hr hlk M ls hl
  have hl : lv_has ls 4 [(0, .ref a0), (1, .int x1), (2, .int x2), (3, .int x3)] := hl
  have C : CallFix p m c cX10_poke 4 s args TB RX10 := C
  have F : Fr g md_X10_poke I I := fr_rf
  refine lv_aload_n C.1 C.2.1 dX10_poke_0 rfl (lv_at hl 0 rfl) ?_
  refine gi_X10_10 C M h0_ dX10_poke_1 (fun h1 => ?_)
  refine gi_X10_103 C M h1 dX10_poke_4 (fun h2 => ?_)
  refine lv_iload_n C.1 C.2.1 dX10_poke_7 rfl (lv_at hl 1 rfl) ?_
  refine lv_iload_n C.1 C.2.1 dX10_poke_8 rfl (lv_at hl 2 rfl) ?_
  refine lv_iload_n C.1 C.2.1 dX10_poke_9 rfl (lv_at hl 3 rfl) ?_
  refine k_PM C M h2 (by decide) rfl (ct_X3_put l g I J (gr g (gr g a0 0) 0) x1 x2 x3 h2) (cw_X10_144 C.2.2.2.2 (by decide)) rfl hl.1 rfl (Nat.le_of_ble_eq_true rfl) dX10_poke_10 ⟨Nat.le_refl _, Nat.le_refl _⟩ (fun r7 I3 J4 H locs G5 p6r M => ?_)
  obtain ⟨eJ4, p6⟩ : J4 = J ∧ (0 ≤ r7.toInt ∧ r7.toInt ≤ 1 ∧ (r7.toInt = 1 → 0 ≤ x1.toInt ∧ x1.toInt ≤ 6)) := p6r
  have eJ4 := eJ4.symm
  subst eJ4
  have F := fr_call F G5 (by decide)
  exact r_PMz C M hr hlk F rfl (by omega) (by omega) ⟨rfl, (by omega)⟩ dX10_poke_13

set_option maxHeartbeats 4000000 in
set_option maxRecDepth 100000 in
theorem ct_X10_scrub (l : Launch) (g : Gs) (I : Ms) (J : Js) (a0 : Nat) (x1 : Int32) (h0_ : Is g a0 8) : Ctr l yX10_scrub cX10_scrub 2 (Option.some Jvm.ClassFile.FieldType.int) 5 g [.ref a0, .int x1] I J (PI I J (fun z => True)) := by
  refine m_start (by decide) (Nat.le_of_ble_eq_true rfl) ?_
  intro p e s m args below meth c C hr hlk M ls hl
  have hl : lv_has ls 2 [(0, .ref a0), (1, .int x1)] := hl
  have C : CallFix p m c cX10_scrub 2 s args TB RX10 := C
  refine lv_aload_n C.1 C.2.1 dX10_scrub_0 rfl (lv_at hl 0 rfl) ?_
  refine gi_X10_10 C M h0_ dX10_scrub_1 (fun h1 => ?_)
  refine lv_iload_n C.1 C.2.1 dX10_scrub_4 rfl (lv_at hl 1 rfl) ?_
  refine k_PI C M h1 (by decide) rfl (ct_X4_rowOfScrub l g I J (gr g a0 0) x1 h1) (cw_X10_148 C.2.2.2.2 (by decide)) rfl hl.1 rfl (Nat.le_of_ble_eq_true rfl) dX10_scrub_5 ⟨Nat.le_refl _, Nat.le_refl _⟩ (fun r2 H locs p3r M => ?_)
  have p3 : True := p3r
  exact r_PI C M hr hlk rfl trivial dX10_scrub_8

abbrev md_X10_repair : List (Nat × Nat) := [(16, 0), (17, 0), (18, 0)]
set_option maxHeartbeats 4000000 in
set_option maxRecDepth 100000 in
theorem ct_X10_repair (l : Launch) (g : Gs) (I : Ms) (J : Js) (a0 : Nat) (h0_ : Is g a0 8) : Ctr l yX10_repair cX10_repair 1 (Option.some Jvm.ClassFile.FieldType.int) 5 g [.ref a0] I J (PM g md_X10_repair I (fun z I1 J1 => J1 = J ∧ (True))) := by
  refine m_start (by decide) (Nat.le_of_ble_eq_true rfl) ?_
  intro p e s m args below meth c C hr hlk M ls hl
  have hl : lv_has ls 1 [(0, .ref a0)] := hl
  have C : CallFix p m c cX10_repair 1 s args TB RX10 := C
  have F : Fr g md_X10_repair I I := fr_rf
  refine lv_aload_n C.1 C.2.1 dX10_repair_0 rfl (lv_at hl 0 rfl) ?_
  refine gi_X10_10 C M h0_ dX10_repair_1 (fun h1 => ?_)
  refine k_PM C M h1 (by decide) rfl (ct_X4_layParities l g I J (gr g a0 0) h1) (cw_X10_151 C.2.2.2.2 (by decide)) rfl hl.1 rfl (Nat.le_of_ble_eq_true rfl) dX10_repair_4 ⟨Nat.le_refl _, Nat.le_refl _⟩ (fun r6 I2 J3 H locs G4 p5r M => ?_)
  obtain ⟨eJ3, p5⟩ : J3 = J ∧ (True) := p5r
  have eJ3 := eJ3.symm
  subst eJ3
  have F := fr_call F G4 (by decide)
  exact r_PM C M hr hlk F rfl ⟨rfl, trivial⟩ dX10_repair_7

abbrev md_X10_forecast : List (Nat × Nat) := [(0, 1), (0, 2), (0, 3), (0, 4), (0, 5), (0, 6), (0, 7), (1, 4), (1, 5), (1, 6), (2, 9), (2, 10), (2, 11), (2, 12), (2, 13), (2, 14), (2, 15), (2, 16), (2, 17), (4, 2), (4, 3), (6, 2), (6, 3), (16, 0), (17, 0), (18, 0), (19, 0), (20, 0), (21, 0)]
set_option maxHeartbeats 4000000 in
set_option maxRecDepth 100000 in
theorem ct_X10_forecast (l : Launch) (g : Gs) (I : Ms) (J : Js) (a0 : Nat) (x1 : Int32) (h0_ : Is g a0 8) (hR : RHs g I J) : Ctr l yX10_forecast cX10_forecast 3 (Option.some Jvm.ClassFile.FieldType.int) 7 g [.ref a0, .int x1] I J (PM g md_X10_forecast I (fun z I1 J1 => J1.2 = J.2 ∧ ((True) ∧ RHs g I1 J1))) := by
  refine m_start (by decide) (Nat.le_of_ble_eq_true rfl) ?_
  intro p e s m args below meth c C hr hlk M ls hl
  have hl : lv_has ls 3 [(0, .ref a0), (1, .int x1)] := hl
  have C : CallFix p m c cX10_forecast 3 s args TB RX10 := C
  have F : Fr g md_X10_forecast I I := fr_rf
  have hj2 : J.2 = J.2 := rfl
  have hQ0 := M.2.2.2.2.2.2.2
  refine lv_aload_n C.1 C.2.1 dX10_forecast_0 rfl (lv_at hl 0 rfl) ?_
  refine gi_X10_10 C M h0_ dX10_forecast_1 (fun h1 => ?_)
  refine gi_X10_154 C M h1 dX10_forecast_4 (fun v2 kv2 tv2 uv2 => ?_)
  refine n_if_eq C (tgt := 21) dX10_forecast_7 (by decide) rfl (fun q3 => ?_) (fun q3 => ?_)
  ·
    refine lv_iconst (v := -1) C.1 C.2.1 dX10_forecast_21 (by decide) ?_
    exact r_PM C M (z := (-1)) hr hlk F rfl ⟨hj2, ⟨trivial, hR⟩⟩ dX10_forecast_22
  ·
    refine lv_iload_n C.1 C.2.1 dX10_forecast_10 rfl (lv_at hl 1 rfl) ?_
    refine lv_iconst (v := 1) C.1 C.2.1 dX10_forecast_11 (by decide) ?_
    refine n_icmp_lt C (tgt := 21) (Y := 1) dX10_forecast_12 (by decide) rfl rfl (fun q4 => ?_) (fun q4 => ?_)
    ·
      refine lv_iconst (v := -1) C.1 C.2.1 dX10_forecast_21 (by decide) ?_
      exact r_PM C M (z := (-1)) hr hlk F rfl ⟨hj2, ⟨trivial, hR⟩⟩ dX10_forecast_22
    ·
      refine lv_iload_n C.1 C.2.1 dX10_forecast_15 rfl (lv_at hl 1 rfl) ?_
      refine lv_bipush (v := 60) C.1 C.2.1 dX10_forecast_16 (by decide) ?_
      refine n_icmp_le C (tgt := 23) (Y := 60) dX10_forecast_18 (by decide) rfl rfl (fun q5 => ?_) (fun q5 => ?_)
      ·
        refine lv_aload_n C.1 C.2.1 dX10_forecast_23 rfl (lv_at hl 0 rfl) ?_
        refine gi_X10_16 C M h0_ dX10_forecast_24 (fun h6 => ?_)
        refine lv_aload_n C.1 C.2.1 dX10_forecast_27 rfl (lv_at hl 0 rfl) ?_
        refine gi_X10_10 C M h0_ dX10_forecast_28 (fun h7 => ?_)
        refine k_PV C M h6 (by decide) rfl (ct_X4_copyFrom l g I J (gr g a0 1) (gr g a0 0) h6 h1 hR) (cw_X10_158 C.2.2.2.2 (by decide)) rfl hl.1 rfl (Nat.le_of_ble_eq_true rfl) dX10_forecast_31 ⟨Nat.le_refl _, Nat.le_refl _⟩ (fun I8 J9 H locs G10 p11r M => ?_)
        obtain ⟨eJ9, ⟨p11, rh12⟩⟩ : J9.2 = J.2 ∧ ((True) ∧ RHs g I8 J9) := p11r
        have hj2 : J9.2 = J.2 := eJ9.trans hj2
        have F := fr_call F G10 (by decide)
        refine lv_iconst (v := 1) C.1 C.2.1 dX10_forecast_34 (by decide) ?_
        refine lv_istore_n (lv' := [(2, .int 1), (0, .ref a0), (1, .int x1)]) C.1 C.2.1 dX10_forecast_35 rfl hl (by decide) rfl (fun ls hl => ?_)
        have L36 : ∀ (n36 : Nat) (y13 : Int32) (I14 : Ms) (J15 : Js) (H : Heap) (locs : List Loc) (ls : Array Slot), RHs g I14 J15 → J15.2 = J.2 → 1 ≤ y13.toInt → y13.toInt ≤ 401 → 401 - y13.toInt < (n36 : Int) → Fr g md_X10_forecast I I14 → Mm g s I14 J15 H locs → lv_has ls 3 [(0, .ref a0), (1, .int x1), (2, .int y13)] → W p l e (rmL 7) s m args below meth c H locs 0 0 (MQg below g (PM g md_X10_forecast I (fun z I1 J1 => J1.2 = J.2 ∧ ((True) ∧ RHs g I1 J1))) args s) (F0 m 36 ls []) := by
          intro n36
          induction n36 with
          | zero =>
            intro y13 I14 J15 H locs ls rh16 hj2 f17 f18 hm36 F M hl
            exact absurd hm36 (by omega)
          | succ n36 ih36 =>
            intro y13 I14 J15 H locs ls rh16 hj2 f17 f18 hm36 F M hl
            refine lv_iload_n C.1 C.2.1 dX10_forecast_36 rfl (lv_at hl 2 rfl) ?_
            refine lv_sipush (v := 400) C.1 C.2.1 dX10_forecast_37 (by decide) ?_
            refine n_icmp_gt C (tgt := 74) (Y := 400) dX10_forecast_40 (by decide) rfl rfl (fun q19 => ?_) (fun q19 => ?_)
            ·
              refine lv_bipush (v := -3) C.1 C.2.1 dX10_forecast_74 (by decide) ?_
              exact r_PM C M (z := (-3)) hr hlk F rfl ⟨hj2, ⟨trivial, rh16⟩⟩ dX10_forecast_76
            ·
              refine lv_aload_n C.1 C.2.1 dX10_forecast_43 rfl (lv_at hl 0 rfl) ?_
              refine gi_X10_16 C M h0_ dX10_forecast_44 (fun h20 => ?_)
              refine lv_iload_n C.1 C.2.1 dX10_forecast_47 rfl (lv_at hl 1 rfl) ?_
              refine lv_aload_n C.1 C.2.1 dX10_forecast_48 rfl (lv_at hl 0 rfl) ?_
              refine gi_X10_34 C M h0_ dX10_forecast_49 (fun h21 => ?_)
              refine k_PM C M h6 (by decide) rfl (ct_X4_spend l g I14 J15 (gr g a0 1) x1 (gr g a0 5) h6 h21 rh16) (cw_X10_129 C.2.2.2.2 (by decide)) rfl hl.1 rfl (Nat.le_of_ble_eq_true rfl) dX10_forecast_52 ⟨Nat.le_refl _, Nat.le_refl _⟩ (fun r26 I22 J23 H locs G24 p25r M => ?_)
              obtain ⟨eJ23, ⟨p25, rh27⟩⟩ : J23.2 = J15.2 ∧ ((True) ∧ RHs g I22 J23) := p25r
              have hj2 : J23.2 = J.2 := eJ23.trans hj2
              have F := fr_call F G24 (by decide)
              refine lv_pop C.1 C.2.1 dX10_forecast_55 rfl ?_
              refine lv_aload_n C.1 C.2.1 dX10_forecast_56 rfl (lv_at hl 0 rfl) ?_
              refine gi_X10_16 C M h0_ dX10_forecast_57 (fun h28 => ?_)
              refine gi_X10_154 C M h6 dX10_forecast_60 (fun v29 kv29 tv29 uv29 => ?_)
              refine n_if_ne C (tgt := 68) dX10_forecast_63 (by decide) rfl (fun q30 => ?_) (fun q30 => ?_)
              ·
                refine n_iinc C (k := 2) (N := 1) (lv' := fun v => [(2, .int v), (0, .ref a0), (1, .int x1)]) dX10_forecast_68 hl rfl (by decide) rfl rfl (by omega) (by omega) (fun _ => rfl) (fun v31 ls ev31 hl => ?_)
                refine lv_goto (tgt := 36) C.1 C.2.1 dX10_forecast_71 (by decide) ?_
                exact ih36 v31 I22 J23 _ _ _ rh27 hj2 (by omega) (by omega) (by omega) F M (lv_sub hl [1, 2, 0] rfl)
              ·
                refine lv_iload_n C.1 C.2.1 dX10_forecast_66 rfl (lv_at hl 2 rfl) ?_
                exact r_PM C M hr hlk F rfl ⟨hj2, ⟨trivial, rh27⟩⟩ dX10_forecast_67
        have cz32 : (1 : Int32).toInt = 1 := rfl
        exact L36 _ 1 I8 J9 _ _ _ rh12 hj2 (by omega) (by omega) (n_big _) F M (lv_sub hl [1, 2, 0] rfl)
      ·
        refine lv_iconst (v := -1) C.1 C.2.1 dX10_forecast_21 (by decide) ?_
        exact r_PM C M (z := (-1)) hr hlk F rfl ⟨hj2, ⟨trivial, hR⟩⟩ dX10_forecast_22

abbrev md_X10_image : List (Nat × Nat) := [(0, 1), (0, 2), (0, 3), (0, 4), (0, 5), (0, 6), (0, 7), (1, 4), (1, 5), (1, 6), (2, 9), (2, 10), (2, 11), (2, 12), (2, 13), (2, 14), (2, 15), (2, 16), (2, 17), (4, 2), (4, 3), (16, 0), (17, 0), (18, 0), (19, 0), (21, 0), (27, 0)]
set_option maxHeartbeats 4000000 in
set_option maxRecDepth 100000 in
theorem ct_X10_image (l : Launch) (g : Gs) (I : Ms) (J : Js) (a0 : Nat) (x1 : Int32) (h0_ : Is g a0 8) (hR : RHs g I J) : Ctr l yX10_image cX10_image 2 (Option.some Jvm.ClassFile.FieldType.boolean) 4 g [.ref a0, .int x1] I J (PM g md_X10_image I (fun z I1 J1 => J1.2 = J.2 ∧ ((0 ≤ z ∧ z ≤ 1 ∧ (z = 1 ↔ 0 ≤ x1.toInt ∧ x1.toInt ≤ 1)) ∧ RHs g I1 J1))) := by
  refine m_start (by decide) (Nat.le_of_ble_eq_true rfl) ?_
  intro p e s m args below meth c C hr hlk M ls hl
  have hl : lv_has ls 2 [(0, .ref a0), (1, .int x1)] := hl
  have C : CallFix p m c cX10_image 2 s args TB RX10 := C
  have F : Fr g md_X10_image I I := fr_rf
  have hj2 : J.2 = J.2 := rfl
  have hQ0 := M.2.2.2.2.2.2.2
  refine lv_iload_n C.1 C.2.1 dX10_image_0 rfl (lv_at hl 1 rfl) ?_
  refine n_if_lt C (tgt := 9) dX10_image_1 (by decide) rfl (fun q1 => ?_) (fun q1 => ?_)
  ·
    refine lv_iconst (v := 0) C.1 C.2.1 dX10_image_9 (by decide) ?_
    exact r_PMz C M (z := 0) hr hlk F rfl (by omega) (by omega) ⟨hj2, ⟨(by omega), hR⟩⟩ dX10_image_10
  ·
    refine lv_iload_n C.1 C.2.1 dX10_image_4 rfl (lv_at hl 1 rfl) ?_
    refine lv_iconst (v := 2) C.1 C.2.1 dX10_image_5 (by decide) ?_
    refine n_icmp_lt C (tgt := 11) (Y := 2) dX10_image_6 (by decide) rfl rfl (fun q2 => ?_) (fun q2 => ?_)
    ·
      refine lv_aload_n C.1 C.2.1 dX10_image_11 rfl (lv_at hl 0 rfl) ?_
      refine gi_X10_19 C M h0_ dX10_image_12 (fun h3 => ?_)
      refine lv_iload_n C.1 C.2.1 dX10_image_15 rfl (lv_at hl 1 rfl) ?_
      refine a_ldr C M h3 (n := 2) (by decide) rfl (fun _ => rfl) rfl (by omega) (by omega) rfl dX10_image_16 (fun h4 => ?_)
      refine lv_aload_n C.1 C.2.1 dX10_image_17 rfl (lv_at hl 0 rfl) ?_
      refine gi_X10_10 C M h0_ dX10_image_18 (fun h5 => ?_)
      refine k_PV C M h4 (by decide) rfl (ct_X4_copyFrom l g I J (gr g (gr g a0 2) x1.toInt.toNat) (gr g a0 0) h4 h5 hR) (cw_X10_158 C.2.2.2.2 (by decide)) rfl hl.1 rfl (Nat.le_of_ble_eq_true rfl) dX10_image_21 ⟨Nat.le_refl _, Nat.le_refl _⟩ (fun I6 J7 H locs G8 p9r M => ?_)
      obtain ⟨eJ7, ⟨p9, rh10⟩⟩ : J7.2 = J.2 ∧ ((True) ∧ RHs g I6 J7) := p9r
      have hj2 : J7.2 = J.2 := eJ7.trans hj2
      have F := fr_call F G8 (by decide)
      refine lv_aload_n C.1 C.2.1 dX10_image_24 rfl (lv_at hl 0 rfl) ?_
      refine gi_X10_23 C M h0_ dX10_image_25 (fun h11 => ?_)
      refine lv_iload_n C.1 C.2.1 dX10_image_28 rfl (lv_at hl 1 rfl) ?_
      refine lv_iconst (v := 1) C.1 C.2.1 dX10_image_29 (by decide) ?_
      refine a_stZ C M (V := 1) h11 (n := 2) (by decide) (by decide) rfl rfl rfl (by omega) (by omega) rfl rfl (by omega) (by omega) rfl dX10_image_30 (fun H locs I12 k14 f13 M => ?_)
      have F := fr_put F h11 (Or.inl (by decide)) f13
      refine lv_iconst (v := 1) C.1 C.2.1 dX10_image_31 (by decide) ?_
      exact r_PMz C M (z := 1) hr hlk F rfl (by omega) (by omega) ⟨hj2, ⟨(by omega), (rh_put M.2.2.2.2.2.1 M.2.2.2.2.2.2.2 h11 f13 ⟨Or.inl (by decide), Or.inl (by decide), by decide⟩ rh10)⟩⟩ dX10_image_32
    ·
      refine lv_iconst (v := 0) C.1 C.2.1 dX10_image_9 (by decide) ?_
      exact r_PMz C M (z := 0) hr hlk F rfl (by omega) (by omega) ⟨hj2, ⟨(by omega), hR⟩⟩ dX10_image_10

abbrev md_X10_back : List (Nat × Nat) := [(0, 1), (0, 2), (0, 3), (0, 4), (0, 5), (0, 6), (0, 7), (1, 4), (1, 5), (1, 6), (2, 9), (2, 10), (2, 11), (2, 12), (2, 13), (2, 14), (2, 15), (2, 16), (2, 17), (4, 2), (4, 3), (16, 0), (17, 0), (18, 0), (19, 0), (21, 0)]
set_option maxHeartbeats 4000000 in
set_option maxRecDepth 100000 in
theorem ct_X10_back (l : Launch) (g : Gs) (I : Ms) (J : Js) (a0 : Nat) (x1 : Int32) (h0_ : Is g a0 8) (hR : RHs g I J) : Ctr l yX10_back cX10_back 2 (Option.some Jvm.ClassFile.FieldType.boolean) 4 g [.ref a0, .int x1] I J (PM g md_X10_back I (fun z I1 J1 => J1.2 = J.2 ∧ ((0 ≤ z ∧ z ≤ 1) ∧ RHs g I1 J1))) := by
  refine m_start (by decide) (Nat.le_of_ble_eq_true rfl) ?_
  intro p e s m args below meth c C hr hlk M ls hl
  have hl : lv_has ls 2 [(0, .ref a0), (1, .int x1)] := hl
  have C : CallFix p m c cX10_back 2 s args TB RX10 := C
  have F : Fr g md_X10_back I I := fr_rf
  have hj2 : J.2 = J.2 := rfl
  have hQ0 := M.2.2.2.2.2.2.2
  refine lv_iload_n C.1 C.2.1 dX10_back_0 rfl (lv_at hl 1 rfl) ?_
  refine n_if_lt C (tgt := 18) dX10_back_1 (by decide) rfl (fun q1 => ?_) (fun q1 => ?_)
  ·
    refine lv_iconst (v := 0) C.1 C.2.1 dX10_back_18 (by decide) ?_
    exact r_PMz C M (z := 0) hr hlk F rfl (by omega) (by omega) ⟨hj2, ⟨(by omega), hR⟩⟩ dX10_back_19
  ·
    refine lv_iload_n C.1 C.2.1 dX10_back_4 rfl (lv_at hl 1 rfl) ?_
    refine lv_iconst (v := 2) C.1 C.2.1 dX10_back_5 (by decide) ?_
    refine n_icmp_ge C (tgt := 18) (Y := 2) dX10_back_6 (by decide) rfl rfl (fun q2 => ?_) (fun q2 => ?_)
    ·
      refine lv_iconst (v := 0) C.1 C.2.1 dX10_back_18 (by decide) ?_
      exact r_PMz C M (z := 0) hr hlk F rfl (by omega) (by omega) ⟨hj2, ⟨(by omega), hR⟩⟩ dX10_back_19
    ·
      refine lv_aload_n C.1 C.2.1 dX10_back_9 rfl (lv_at hl 0 rfl) ?_
      refine gi_X10_23 C M h0_ dX10_back_10 (fun h3 => ?_)
      refine lv_iload_n C.1 C.2.1 dX10_back_13 rfl (lv_at hl 1 rfl) ?_
      refine a_ldZ C M h3 (n := 2) (by decide) (by decide) rfl rfl rfl (by omega) (by omega) rfl dX10_back_14 (fun v4 kv4 => ?_)
      have tv4 : 0 ≤ v4.toInt ∧ v4.toInt ≤ 1 := m_rng M h3 x1.toInt.toNat kv4 rfl
      refine n_if_ne C (tgt := 20) dX10_back_15 (by decide) rfl (fun q5 => ?_) (fun q5 => ?_)
      ·
        refine lv_aload_n C.1 C.2.1 dX10_back_20 rfl (lv_at hl 0 rfl) ?_
        refine gi_X10_10 C M h0_ dX10_back_21 (fun h6 => ?_)
        refine lv_aload_n C.1 C.2.1 dX10_back_24 rfl (lv_at hl 0 rfl) ?_
        refine gi_X10_19 C M h0_ dX10_back_25 (fun h7 => ?_)
        refine lv_iload_n C.1 C.2.1 dX10_back_28 rfl (lv_at hl 1 rfl) ?_
        refine a_ldr C M h7 (n := 2) (by decide) rfl (fun _ => rfl) rfl (by omega) (by omega) rfl dX10_back_29 (fun h8 => ?_)
        refine k_PV C M h6 (by decide) rfl (ct_X4_copyFrom l g I J (gr g a0 0) (gr g (gr g a0 2) x1.toInt.toNat) h6 h8 hR) (cw_X10_158 C.2.2.2.2 (by decide)) rfl hl.1 rfl (Nat.le_of_ble_eq_true rfl) dX10_back_30 ⟨Nat.le_refl _, Nat.le_refl _⟩ (fun I9 J10 H locs G11 p12r M => ?_)
        obtain ⟨eJ10, ⟨p12, rh13⟩⟩ : J10.2 = J.2 ∧ ((True) ∧ RHs g I9 J10) := p12r
        have hj2 : J10.2 = J.2 := eJ10.trans hj2
        have F := fr_call F G11 (by decide)
        refine lv_iconst (v := 1) C.1 C.2.1 dX10_back_33 (by decide) ?_
        exact r_PMz C M (z := 1) hr hlk F rfl (by omega) (by omega) ⟨hj2, ⟨(by omega), rh13⟩⟩ dX10_back_34
      ·
        refine lv_iconst (v := 0) C.1 C.2.1 dX10_back_18 (by decide) ?_
        exact r_PMz C M (z := 0) hr hlk F rfl (by omega) (by omega) ⟨hj2, ⟨(by omega), hR⟩⟩ dX10_back_19

abbrev md_X10_feed : List (Nat × Nat) := [(7, 2), (26, 0)]
set_option maxHeartbeats 4000000 in
set_option maxRecDepth 100000 in
theorem ct_X10_feed (l : Launch) (g : Gs) (I : Ms) (J : Js) (a0 : Nat) (l1 : Int64) (l3 : Int64) (l5 : Int64) (h0_ : Is g a0 8) : Ctr l yX10_feed cX10_feed 7 (Option.some Jvm.ClassFile.FieldType.int) 2 g [.ref a0, .long l1, .long l3, .long l5] I J (PM g md_X10_feed I (fun z I1 J1 => J1 = J ∧ (True))) := by
  refine m_start (by decide) (Nat.le_of_ble_eq_true rfl) ?_
  intro p e s m args below meth c C hr hlk M ls hl
  have hl : lv_has ls 7 [(0, .ref a0), (1, .long l1), (3, .long l3), (5, .long l5)] := hl
  have C : CallFix p m c cX10_feed 7 s args TB RX10 := C
  have F : Fr g md_X10_feed I I := fr_rf
  refine lv_aload_n C.1 C.2.1 dX10_feed_0 rfl (lv_at hl 0 rfl) ?_
  refine gi_X10_40 C M h0_ dX10_feed_1 (fun h1 => ?_)
  refine gi_X10_162 C M h1 dX10_feed_4 (fun v2 kv2 tv2 uv2 => ?_)
  refine lv_bipush (v := 24) C.1 C.2.1 dX10_feed_7 (by decide) ?_
  refine n_iadd C (Y := 24) dX10_feed_9 rfl rfl (by omega) (by omega) (fun v3 ev3 => ?_)
  refine lv_sipush (v := 264) C.1 C.2.1 dX10_feed_10 (by decide) ?_
  refine n_icmp_le C (tgt := 18) (Y := 264) dX10_feed_13 (by decide) rfl rfl (fun q4 => ?_) (fun q4 => ?_)
  ·
    refine lv_aload_n C.1 C.2.1 dX10_feed_18 rfl (lv_at hl 0 rfl) ?_
    refine gi_X10_40 C M h0_ dX10_feed_19 (fun h5 => ?_)
    refine lv_lload_n C.1 C.2.1 dX10_feed_22 rfl (lv_at hl 1 rfl) ?_
    refine k_PV C M h1 (by decide) rfl (ct_X9_append l g I J (gr g a0 6) l1 h1) (cw_X10_165 C.2.2.2.2 (by decide)) rfl hl.1 rfl (Nat.le_of_ble_eq_true rfl) dX10_feed_23 ⟨Nat.le_refl _, Nat.le_refl _⟩ (fun I6 J7 H locs G8 p9r M => ?_)
    obtain ⟨eJ7, p9⟩ : J7 = J ∧ (True) := p9r
    have eJ7 := eJ7.symm
    subst eJ7
    have F := fr_call F G8 (by decide)
    refine lv_aload_n C.1 C.2.1 dX10_feed_26 rfl (lv_at hl 0 rfl) ?_
    refine gi_X10_40 C M h0_ dX10_feed_27 (fun h10 => ?_)
    refine lv_lload_n C.1 C.2.1 dX10_feed_30 rfl (lv_at hl 2 rfl) ?_
    refine k_PV C M h1 (by decide) rfl (ct_X9_append l g I6 J (gr g a0 6) l3 h1) (cw_X10_165 C.2.2.2.2 (by decide)) rfl hl.1 rfl (Nat.le_of_ble_eq_true rfl) dX10_feed_31 ⟨Nat.le_refl _, Nat.le_refl _⟩ (fun I11 J12 H locs G13 p14r M => ?_)
    obtain ⟨eJ12, p14⟩ : J12 = J ∧ (True) := p14r
    have eJ12 := eJ12.symm
    subst eJ12
    have F := fr_call F G13 (by decide)
    refine lv_aload_n C.1 C.2.1 dX10_feed_34 rfl (lv_at hl 0 rfl) ?_
    refine gi_X10_40 C M h0_ dX10_feed_35 (fun h15 => ?_)
    refine lv_lload C.1 C.2.1 dX10_feed_38 (lv_at hl 3 rfl) ?_
    refine k_PV C M h1 (by decide) rfl (ct_X9_append l g I11 J (gr g a0 6) l5 h1) (cw_X10_165 C.2.2.2.2 (by decide)) rfl hl.1 rfl (Nat.le_of_ble_eq_true rfl) dX10_feed_40 ⟨Nat.le_refl _, Nat.le_refl _⟩ (fun I16 J17 H locs G18 p19r M => ?_)
    obtain ⟨eJ17, p19⟩ : J17 = J ∧ (True) := p19r
    have eJ17 := eJ17.symm
    subst eJ17
    have F := fr_call F G18 (by decide)
    refine lv_aload_n C.1 C.2.1 dX10_feed_43 rfl (lv_at hl 0 rfl) ?_
    refine gi_X10_40 C M h0_ dX10_feed_44 (fun h20 => ?_)
    refine gi_X10_162 C M h1 dX10_feed_47 (fun v21 kv21 tv21 uv21 => ?_)
    exact r_PM C M hr hlk F rfl ⟨rfl, trivial⟩ dX10_feed_50
  ·
    refine lv_iconst (v := -1) C.1 C.2.1 dX10_feed_16 (by decide) ?_
    exact r_PM C M (z := (-1)) hr hlk F rfl ⟨rfl, trivial⟩ dX10_feed_17

abbrev md_X10_end : List (Nat × Nat) := [(7, 2)]
set_option maxHeartbeats 4000000 in
set_option maxRecDepth 100000 in
theorem ct_X10_end (l : Launch) (g : Gs) (I : Ms) (J : Js) (a0 : Nat) (x1 : Int32) (h0_ : Is g a0 8) : Ctr l yX10_end cX10_end 2 (Option.some Jvm.ClassFile.FieldType.int) 1 g [.ref a0, .int x1] I J (PM g md_X10_end I (fun z I1 J1 => J1 = J ∧ (True))) := by
  refine m_start (by decide) (Nat.le_of_ble_eq_true rfl) ?_
  intro p e s m args below meth c C hr hlk M ls hl
  have hl : lv_has ls 2 [(0, .ref a0), (1, .int x1)] := hl
  have C : CallFix p m c cX10_end 2 s args TB RX10 := C
  have F : Fr g md_X10_end I I := fr_rf
  refine lv_iload_n C.1 C.2.1 dX10_end_0 rfl (lv_at hl 1 rfl) ?_
  refine n_if_lt C (tgt := 15) dX10_end_1 (by decide) rfl (fun q1 => ?_) (fun q1 => ?_)
  ·
    refine lv_iconst (v := -1) C.1 C.2.1 dX10_end_15 (by decide) ?_
    exact r_PM C M (z := (-1)) hr hlk F rfl ⟨rfl, trivial⟩ dX10_end_16
  ·
    refine lv_iload_n C.1 C.2.1 dX10_end_4 rfl (lv_at hl 1 rfl) ?_
    refine lv_aload_n C.1 C.2.1 dX10_end_5 rfl (lv_at hl 0 rfl) ?_
    refine gi_X10_40 C M h0_ dX10_end_6 (fun h2 => ?_)
    refine gi_X10_162 C M h2 dX10_end_9 (fun v3 kv3 tv3 uv3 => ?_)
    refine n_icmp_le C (tgt := 17) dX10_end_12 (by decide) rfl rfl (fun q4 => ?_) (fun q4 => ?_)
    ·
      refine lv_aload_n C.1 C.2.1 dX10_end_17 rfl (lv_at hl 0 rfl) ?_
      refine gi_X10_40 C M h0_ dX10_end_18 (fun h5 => ?_)
      refine lv_iload_n C.1 C.2.1 dX10_end_21 rfl (lv_at hl 1 rfl) ?_
      refine pi_X10_162 C M h2 dX10_end_22 rfl (by omega) (by omega) (fun H locs I6 k8 f7 M => ?_)
      have F := fr_put F h2 (Or.inr (by decide)) f7
      refine lv_iload_n C.1 C.2.1 dX10_end_25 rfl (lv_at hl 1 rfl) ?_
      exact r_PM C M hr hlk F rfl ⟨rfl, trivial⟩ dX10_end_26
    ·
      refine lv_iconst (v := -1) C.1 C.2.1 dX10_end_15 (by decide) ?_
      exact r_PM C M (z := (-1)) hr hlk F rfl ⟨rfl, trivial⟩ dX10_end_16

set_option maxHeartbeats 4000000 in
set_option maxRecDepth 100000 in
theorem ct_X10_laid (l : Launch) (g : Gs) (I : Ms) (J : Js) (a0 : Nat) (x1 : Int32) (h0_ : Is g a0 8) : Ctr l yX10_laid cX10_laid 2 (Option.some Jvm.ClassFile.FieldType.int) 2 g [.ref a0, .int x1] I J (PI I J (fun z => True)) := by
  refine m_start (by decide) (Nat.le_of_ble_eq_true rfl) ?_
  intro p e s m args below meth c C hr hlk M ls hl
  have hl : lv_has ls 2 [(0, .ref a0), (1, .int x1)] := hl
  have C : CallFix p m c cX10_laid 2 s args TB RX10 := C
  refine lv_aload_n C.1 C.2.1 dX10_laid_0 rfl (lv_at hl 0 rfl) ?_
  refine gi_X10_10 C M h0_ dX10_laid_1 (fun h1 => ?_)
  refine gi_X10_103 C M h1 dX10_laid_4 (fun h2 => ?_)
  refine lv_iload_n C.1 C.2.1 dX10_laid_7 rfl (lv_at hl 1 rfl) ?_
  refine k_PI C M h2 (by decide) rfl (ct_X3_hasDisk l g I J (gr g (gr g a0 0) 0) x1 h2) (cw_X10_187 C.2.2.2.2 (by decide)) rfl hl.1 rfl (Nat.le_of_ble_eq_true rfl) dX10_laid_8 ⟨Nat.le_refl _, Nat.le_refl _⟩ (fun r3 H locs p4r M => ?_)
  have p4 : 0 ≤ r3.toInt ∧ r3.toInt ≤ 1 ∧ (r3.toInt = 1 → 0 ≤ x1.toInt ∧ x1.toInt ≤ 6) := p4r
  refine n_if_eq C (tgt := 29) dX10_laid_11 (by decide) rfl (fun q5 => ?_) (fun q5 => ?_)
  ·
    refine lv_iconst (v := -1) C.1 C.2.1 dX10_laid_29 (by decide) ?_
    exact r_PI C M (z := (-1)) hr hlk rfl trivial dX10_laid_30
  ·
    refine lv_aload_n C.1 C.2.1 dX10_laid_14 rfl (lv_at hl 0 rfl) ?_
    refine gi_X10_10 C M h0_ dX10_laid_15 (fun h6 => ?_)
    refine gi_X10_103 C M h1 dX10_laid_18 (fun h7 => ?_)
    refine gi_X10_190 C M h2 dX10_laid_21 (fun h8 => ?_)
    refine lv_iload_n C.1 C.2.1 dX10_laid_24 rfl (lv_at hl 1 rfl) ?_
    refine a_ld C M h8 (n := 7) rfl rfl rfl (by omega) (by omega) rfl dX10_laid_25 (fun v9 kv9 => ?_)
    refine lv_goto (tgt := 30) C.1 C.2.1 dX10_laid_26 (by decide) ?_
    exact r_PI C M hr hlk rfl trivial dX10_laid_30

set_option maxHeartbeats 4000000 in
set_option maxRecDepth 100000 in
theorem ct_X10_of (l : Launch) (g : Gs) (I : Ms) (J : Js) (a0 : Nat) (x1 : Int32) (x2 : Int32) (h0_ : Is g a0 8) : Ctr l yX10_of cX10_of 3 (Option.some Jvm.ClassFile.FieldType.int) 5 g [.ref a0, .int x1, .int x2] I J (PI I J (fun z => True)) := by
  refine m_start (by decide) (Nat.le_of_ble_eq_true rfl) ?_
  intro p e s m args below meth c C hr hlk M ls hl
  have hl : lv_has ls 3 [(0, .ref a0), (1, .int x1), (2, .int x2)] := hl
  have C : CallFix p m c cX10_of 3 s args TB RX10 := C
  refine lv_aload_n C.1 C.2.1 dX10_of_0 rfl (lv_at hl 0 rfl) ?_
  refine gi_X10_10 C M h0_ dX10_of_1 (fun h1 => ?_)
  refine lv_iload_n C.1 C.2.1 dX10_of_4 rfl (lv_at hl 1 rfl) ?_
  refine k_PI C M h1 (by decide) rfl (ct_X4_hasBlock l g I J (gr g a0 0) x1 h1) (cw_X10_82 C.2.2.2.2 (by decide)) rfl hl.1 rfl (Nat.le_of_ble_eq_true rfl) dX10_of_5 ⟨Nat.le_refl _, Nat.le_refl _⟩ (fun r2 H locs p3r M => ?_)
  have p3 : 0 ≤ r2.toInt ∧ r2.toInt ≤ 1 ∧ (r2.toInt = 1 → 0 ≤ x1.toInt ∧ x1.toInt ≤ 280) := p3r
  refine n_if_eq C (tgt := 23) dX10_of_8 (by decide) rfl (fun q4 => ?_) (fun q4 => ?_)
  ·
    refine lv_iconst (v := -1) C.1 C.2.1 dX10_of_23 (by decide) ?_
    exact r_PI C M (z := (-1)) hr hlk rfl trivial dX10_of_24
  ·
    refine lv_aload_n C.1 C.2.1 dX10_of_11 rfl (lv_at hl 0 rfl) ?_
    refine gi_X10_10 C M h0_ dX10_of_12 (fun h5 => ?_)
    refine lv_iload_n C.1 C.2.1 dX10_of_15 rfl (lv_at hl 1 rfl) ?_
    refine lv_iload_n C.1 C.2.1 dX10_of_16 rfl (lv_at hl 2 rfl) ?_
    refine k_PI C M h1 (by decide) rfl (ct_X4_tellOfBlock l g I J (gr g a0 0) x1 x2 h1) (cw_X10_194 C.2.2.2.2 (by decide)) rfl hl.1 rfl (Nat.le_of_ble_eq_true rfl) dX10_of_17 ⟨Nat.le_refl _, Nat.le_refl _⟩ (fun r6 H locs p7r M => ?_)
    have p7 : True := p7r
    refine lv_goto (tgt := 24) C.1 C.2.1 dX10_of_20 (by decide) ?_
    exact r_PI C M hr hlk rfl trivial dX10_of_24

set_option maxHeartbeats 4000000 in
set_option maxRecDepth 100000 in
theorem ct_X10_badAt (l : Launch) (g : Gs) (I : Ms) (J : Js) (a0 : Nat) (x1 : Int32) (h0_ : Is g a0 8) : Ctr l yX10_badAt cX10_badAt 2 (Option.some Jvm.ClassFile.FieldType.int) 2 g [.ref a0, .int x1] I J (PI I J (fun z => True)) := by
  refine m_start (by decide) (Nat.le_of_ble_eq_true rfl) ?_
  intro p e s m args below meth c C hr hlk M ls hl
  have hl : lv_has ls 2 [(0, .ref a0), (1, .int x1)] := hl
  have C : CallFix p m c cX10_badAt 2 s args TB RX10 := C
  refine lv_iload_n C.1 C.2.1 dX10_badAt_0 rfl (lv_at hl 1 rfl) ?_
  refine lv_iconst (v := -1) C.1 C.2.1 dX10_badAt_1 (by decide) ?_
  refine n_icmp_ne C (tgt := 18) (Y := (-1)) dX10_badAt_2 (by decide) rfl rfl (fun q1 => ?_) (fun q1 => ?_)
  ·
    refine lv_aload_n C.1 C.2.1 dX10_badAt_18 rfl (lv_at hl 0 rfl) ?_
    refine gi_X10_10 C M h0_ dX10_badAt_19 (fun h2 => ?_)
    refine gi_X10_103 C M h2 dX10_badAt_22 (fun h3 => ?_)
    refine lv_iload_n C.1 C.2.1 dX10_badAt_25 rfl (lv_at hl 1 rfl) ?_
    refine k_PI C M h3 (by decide) rfl (ct_X3_badWord l g I J (gr g (gr g a0 0) 0) x1 h3) (cw_X10_206 C.2.2.2.2 (by decide)) rfl hl.1 rfl (Nat.le_of_ble_eq_true rfl) dX10_badAt_26 ⟨Nat.le_refl _, Nat.le_refl _⟩ (fun r4 H locs p5r M => ?_)
    have p5 : True := p5r
    exact r_PI C M hr hlk rfl trivial dX10_badAt_29
  ·
    refine lv_aload_n C.1 C.2.1 dX10_badAt_5 rfl (lv_at hl 0 rfl) ?_
    refine gi_X10_10 C M h0_ dX10_badAt_6 (fun h6 => ?_)
    refine gi_X10_103 C M h6 dX10_badAt_9 (fun h7 => ?_)
    refine k_PI C M h7 (by decide) rfl (ct_X3_badWords l g I J (gr g (gr g a0 0) 0) h7) (cw_X10_203 C.2.2.2.2 (by decide)) rfl hl.1 rfl (Nat.le_of_ble_eq_true rfl) dX10_badAt_12 ⟨Nat.le_refl _, Nat.le_refl _⟩ (fun r8 H locs p9r M => ?_)
    have p9 : True := p9r
    refine lv_goto (tgt := 29) C.1 C.2.1 dX10_badAt_15 (by decide) ?_
    exact r_PI C M hr hlk rfl trivial dX10_badAt_29

abbrev md_X10_spoilt : List (Nat × Nat) := [(0, 1), (0, 2), (0, 3), (0, 4), (0, 5), (0, 6), (0, 7), (1, 4), (1, 5), (1, 6), (2, 9), (2, 10), (2, 11), (2, 12), (2, 13), (2, 14), (2, 15), (2, 16), (2, 17), (4, 2), (4, 3), (16, 0), (17, 0), (18, 0), (19, 0), (21, 0)]
set_option maxHeartbeats 4000000 in
set_option maxRecDepth 100000 in
theorem ct_X10_spoilt (l : Launch) (g : Gs) (I : Ms) (J : Js) (a0 : Nat) (h0_ : Is g a0 8) (hR : RHs g I J) : Ctr l yX10_spoilt cX10_spoilt 1 (Option.some Jvm.ClassFile.FieldType.int) 6 g [.ref a0] I J (PM g md_X10_spoilt I (fun z I1 J1 => J1.2 = J.2 ∧ ((True) ∧ RHs g I1 J1))) := by
  refine m_start (by decide) (Nat.le_of_ble_eq_true rfl) ?_
  intro p e s m args below meth c C hr hlk M ls hl
  have hl : lv_has ls 1 [(0, .ref a0)] := hl
  have C : CallFix p m c cX10_spoilt 1 s args TB RX10 := C
  have F : Fr g md_X10_spoilt I I := fr_rf
  have hj2 : J.2 = J.2 := rfl
  have hQ0 := M.2.2.2.2.2.2.2
  refine lv_aload_n C.1 C.2.1 dX10_spoilt_0 rfl (lv_at hl 0 rfl) ?_
  refine gi_X10_10 C M h0_ dX10_spoilt_1 (fun h1 => ?_)
  refine gi_X10_154 C M h1 dX10_spoilt_4 (fun v2 kv2 tv2 uv2 => ?_)
  refine n_if_ne C (tgt := 12) dX10_spoilt_7 (by decide) rfl (fun q3 => ?_) (fun q3 => ?_)
  ·
    refine lv_aload_n C.1 C.2.1 dX10_spoilt_12 rfl (lv_at hl 0 rfl) ?_
    refine gi_X10_16 C M h0_ dX10_spoilt_13 (fun h4 => ?_)
    refine lv_aload_n C.1 C.2.1 dX10_spoilt_16 rfl (lv_at hl 0 rfl) ?_
    refine gi_X10_10 C M h0_ dX10_spoilt_17 (fun h5 => ?_)
    refine k_PV C M h4 (by decide) rfl (ct_X4_copyFrom l g I J (gr g a0 1) (gr g a0 0) h4 h1 hR) (cw_X10_158 C.2.2.2.2 (by decide)) rfl hl.1 rfl (Nat.le_of_ble_eq_true rfl) dX10_spoilt_20 ⟨Nat.le_refl _, Nat.le_refl _⟩ (fun I6 J7 H locs G8 p9r M => ?_)
    obtain ⟨eJ7, ⟨p9, rh10⟩⟩ : J7.2 = J.2 ∧ ((True) ∧ RHs g I6 J7) := p9r
    have hj2 : J7.2 = J.2 := eJ7.trans hj2
    have F := fr_call F G8 (by decide)
    refine lv_aload_n C.1 C.2.1 dX10_spoilt_23 rfl (lv_at hl 0 rfl) ?_
    refine gi_X10_16 C M h0_ dX10_spoilt_24 (fun h11 => ?_)
    refine k_PM C M h4 (by decide) rfl (ct_X4_fallOver l g I6 J7 (gr g a0 1) h4) (cw_X10_78 C.2.2.2.2 (by decide)) rfl hl.1 rfl (Nat.le_of_ble_eq_true rfl) dX10_spoilt_27 ⟨Nat.le_refl _, Nat.le_refl _⟩ (fun r16 I12 J13 H locs G14 p15r M => ?_)
    obtain ⟨eJ13, p15⟩ : J13 = J7 ∧ (0 ≤ r16.toInt ∧ r16.toInt ≤ 1) := p15r
    have eJ13 := eJ13.symm
    subst eJ13
    have F := fr_call F G14 (by decide)
    refine lv_pop C.1 C.2.1 dX10_spoilt_30 rfl ?_
    refine lv_aload_n C.1 C.2.1 dX10_spoilt_31 rfl (lv_at hl 0 rfl) ?_
    refine gi_X10_10 C M h0_ dX10_spoilt_32 (fun h17 => ?_)
    refine lv_aload_n C.1 C.2.1 dX10_spoilt_35 rfl (lv_at hl 0 rfl) ?_
    refine gi_X10_16 C M h0_ dX10_spoilt_36 (fun h18 => ?_)
    refine k_PI C M h1 (by decide) rfl (ct_X4_blocksLostIn l g I12 J7 (gr g a0 0) (gr g a0 1) h1 h4) (cw_X10_209 C.2.2.2.2 (by decide)) rfl hl.1 rfl (Nat.le_of_ble_eq_true rfl) dX10_spoilt_39 ⟨Nat.le_refl _, Nat.le_refl _⟩ (fun r19 H locs p20r M => ?_)
    have p20 : True := p20r
    exact r_PM C M hr hlk F rfl ⟨hj2, ⟨trivial, (rh_fr M.2.2.2.2.2.1 M.2.2.2.2.2.2.2 G14 (by decide) rh10)⟩⟩ dX10_spoilt_42
  ·
    refine lv_iconst (v := -1) C.1 C.2.1 dX10_spoilt_10 (by decide) ?_
    exact r_PM C M (z := (-1)) hr hlk F rfl ⟨hj2, ⟨trivial, hR⟩⟩ dX10_spoilt_11

abbrev md_X10_exposed : List (Nat × Nat) := [(0, 1), (0, 2), (0, 3), (0, 4), (0, 5), (0, 6), (0, 7), (1, 4), (1, 5), (1, 6), (2, 9), (2, 10), (2, 11), (2, 12), (2, 13), (2, 14), (2, 15), (2, 16), (2, 17), (4, 2), (4, 3), (16, 0), (17, 0), (18, 0), (19, 0), (21, 0)]
set_option maxHeartbeats 4000000 in
set_option maxRecDepth 100000 in
theorem ct_X10_exposed (l : Launch) (g : Gs) (I : Ms) (J : Js) (a0 : Nat) (x1 : Int32) (h0_ : Is g a0 8) (hR : RHs g I J) : Ctr l yX10_exposed cX10_exposed 2 (Option.some Jvm.ClassFile.FieldType.int) 6 g [.ref a0, .int x1] I J (PM g md_X10_exposed I (fun z I1 J1 => J1.2 = J.2 ∧ ((True) ∧ RHs g I1 J1))) := by
  refine m_start (by decide) (Nat.le_of_ble_eq_true rfl) ?_
  intro p e s m args below meth c C hr hlk M ls hl
  have hl : lv_has ls 2 [(0, .ref a0), (1, .int x1)] := hl
  have C : CallFix p m c cX10_exposed 2 s args TB RX10 := C
  have F : Fr g md_X10_exposed I I := fr_rf
  have hj2 : J.2 = J.2 := rfl
  have hQ0 := M.2.2.2.2.2.2.2
  refine lv_aload_n C.1 C.2.1 dX10_exposed_0 rfl (lv_at hl 0 rfl) ?_
  refine gi_X10_10 C M h0_ dX10_exposed_1 (fun h1 => ?_)
  refine gi_X10_103 C M h1 dX10_exposed_4 (fun h2 => ?_)
  refine lv_iload_n C.1 C.2.1 dX10_exposed_7 rfl (lv_at hl 1 rfl) ?_
  refine k_PI C M h2 (by decide) rfl (ct_X3_hasDisk l g I J (gr g (gr g a0 0) 0) x1 h2) (cw_X10_187 C.2.2.2.2 (by decide)) rfl hl.1 rfl (Nat.le_of_ble_eq_true rfl) dX10_exposed_8 ⟨Nat.le_refl _, Nat.le_refl _⟩ (fun r3 H locs p4r M => ?_)
  have p4 : 0 ≤ r3.toInt ∧ r3.toInt ≤ 1 ∧ (r3.toInt = 1 → 0 ≤ x1.toInt ∧ x1.toInt ≤ 6) := p4r
  refine n_if_ne C (tgt := 16) dX10_exposed_11 (by decide) rfl (fun q5 => ?_) (fun q5 => ?_)
  ·
    refine lv_aload_n C.1 C.2.1 dX10_exposed_16 rfl (lv_at hl 0 rfl) ?_
    refine gi_X10_10 C M h0_ dX10_exposed_17 (fun h6 => ?_)
    refine gi_X10_103 C M h1 dX10_exposed_20 (fun h7 => ?_)
    refine gi_X10_213 C M h2 dX10_exposed_23 (fun v8 kv8 tv8 uv8 => ?_)
    refine lv_iconst (v := -1) C.1 C.2.1 dX10_exposed_26 (by decide) ?_
    refine n_icmp_eq C (tgt := 32) (Y := (-1)) dX10_exposed_27 (by decide) rfl rfl (fun q9 => ?_) (fun q9 => ?_)
    ·
      refine lv_aload_n C.1 C.2.1 dX10_exposed_32 rfl (lv_at hl 0 rfl) ?_
      refine gi_X10_16 C M h0_ dX10_exposed_33 (fun h10 => ?_)
      refine lv_aload_n C.1 C.2.1 dX10_exposed_36 rfl (lv_at hl 0 rfl) ?_
      refine gi_X10_10 C M h0_ dX10_exposed_37 (fun h11 => ?_)
      refine k_PV C M h10 (by decide) rfl (ct_X4_copyFrom l g I J (gr g a0 1) (gr g a0 0) h10 h1 hR) (cw_X10_158 C.2.2.2.2 (by decide)) rfl hl.1 rfl (Nat.le_of_ble_eq_true rfl) dX10_exposed_40 ⟨Nat.le_refl _, Nat.le_refl _⟩ (fun I12 J13 H locs G14 p15r M => ?_)
      obtain ⟨eJ13, ⟨p15, rh16⟩⟩ : J13.2 = J.2 ∧ ((True) ∧ RHs g I12 J13) := p15r
      have hj2 : J13.2 = J.2 := eJ13.trans hj2
      have F := fr_call F G14 (by decide)
      refine lv_aload_n C.1 C.2.1 dX10_exposed_43 rfl (lv_at hl 0 rfl) ?_
      refine gi_X10_16 C M h0_ dX10_exposed_44 (fun h17 => ?_)
      refine gi_X10_103 C M h10 dX10_exposed_47 (fun h18 => ?_)
      refine lv_iload_n C.1 C.2.1 dX10_exposed_50 rfl (lv_at hl 1 rfl) ?_
      refine pi_X10_213 C M h18 dX10_exposed_51 rfl (by omega) (by omega) (fun H locs I19 k21 f20 M => ?_)
      have F := fr_put F h18 (Or.inr (by decide)) f20
      refine lv_aload_n C.1 C.2.1 dX10_exposed_54 rfl (lv_at hl 0 rfl) ?_
      refine gi_X10_10 C M h0_ dX10_exposed_55 (fun h22 => ?_)
      refine lv_aload_n C.1 C.2.1 dX10_exposed_58 rfl (lv_at hl 0 rfl) ?_
      refine gi_X10_16 C M h0_ dX10_exposed_59 (fun h23 => ?_)
      refine k_PI C M h1 (by decide) rfl (ct_X4_blocksLostIn l g I19 J13 (gr g a0 0) (gr g a0 1) h1 h10) (cw_X10_209 C.2.2.2.2 (by decide)) rfl hl.1 rfl (Nat.le_of_ble_eq_true rfl) dX10_exposed_62 ⟨Nat.le_refl _, Nat.le_refl _⟩ (fun r24 H locs p25r M => ?_)
      have p25 : True := p25r
      exact r_PM C M hr hlk F rfl ⟨hj2, ⟨trivial, (rh_put M.2.2.2.2.2.1 M.2.2.2.2.2.2.2 h18 f20 ⟨Or.inl (by decide), Or.inr (by decide), by decide⟩ rh16)⟩⟩ dX10_exposed_65
    ·
      refine lv_iconst (v := 0) C.1 C.2.1 dX10_exposed_30 (by decide) ?_
      exact r_PM C M (z := 0) hr hlk F rfl ⟨hj2, ⟨trivial, hR⟩⟩ dX10_exposed_31
  ·
    refine lv_iconst (v := -1) C.1 C.2.1 dX10_exposed_14 (by decide) ?_
    exact r_PM C M (z := (-1)) hr hlk F rfl ⟨hj2, ⟨trivial, hR⟩⟩ dX10_exposed_15

abbrev md_X10_batch : List (Nat × Nat) := [(0, 1), (0, 2), (0, 3), (0, 4), (0, 5), (0, 6), (0, 7)]
set_option maxHeartbeats 4000000 in
set_option maxRecDepth 100000 in
theorem ct_X10_batch (l : Launch) (g : Gs) (I : Ms) (J : Js) (a0 : Nat) (x1 : Int32) (h0_ : Is g a0 8) : Ctr l yX10_batch cX10_batch 2 (Option.some Jvm.ClassFile.FieldType.int) 6 g [.ref a0, .int x1] I J (PM g md_X10_batch I (fun z I1 J1 => J1 = J ∧ (True))) := by
  refine m_start (by decide) (Nat.le_of_ble_eq_true rfl) ?_
  intro p e s m args below meth c C hr hlk M ls hl
  have hl : lv_has ls 2 [(0, .ref a0), (1, .int x1)] := hl
  have C : CallFix p m c cX10_batch 2 s args TB RX10 := C
  have F : Fr g md_X10_batch I I := fr_rf
  refine lv_aload_n C.1 C.2.1 dX10_batch_0 rfl (lv_at hl 0 rfl) ?_
  refine gi_X10_10 C M h0_ dX10_batch_1 (fun h1 => ?_)
  refine gi_X10_154 C M h1 dX10_batch_4 (fun v2 kv2 tv2 uv2 => ?_)
  refine n_if_eq C (tgt := 21) dX10_batch_7 (by decide) rfl (fun q3 => ?_) (fun q3 => ?_)
  ·
    refine lv_iconst (v := -1) C.1 C.2.1 dX10_batch_21 (by decide) ?_
    exact r_PM C M (z := (-1)) hr hlk F rfl ⟨rfl, trivial⟩ dX10_batch_22
  ·
    refine lv_aload_n C.1 C.2.1 dX10_batch_10 rfl (lv_at hl 0 rfl) ?_
    refine gi_X10_10 C M h0_ dX10_batch_11 (fun h4 => ?_)
    refine lv_iload_n C.1 C.2.1 dX10_batch_14 rfl (lv_at hl 1 rfl) ?_
    refine k_PM C M h1 (by decide) rfl (ct_X4_tellOfBatch l g I J (gr g a0 0) x1 h1) (cw_X10_216 C.2.2.2.2 (by decide)) rfl hl.1 rfl (Nat.le_of_ble_eq_true rfl) dX10_batch_15 ⟨Nat.le_refl _, Nat.le_refl _⟩ (fun r9 I5 J6 H locs G7 p8r M => ?_)
    obtain ⟨eJ6, p8⟩ : J6 = J ∧ (True) := p8r
    have eJ6 := eJ6.symm
    subst eJ6
    have F := fr_call F G7 (by decide)
    refine lv_goto (tgt := 22) C.1 C.2.1 dX10_batch_18 (by decide) ?_
    exact r_PM C M hr hlk F rfl ⟨rfl, trivial⟩ dX10_batch_22

set_option maxHeartbeats 4000000 in
set_option maxRecDepth 100000 in
theorem ct_X10_count (l : Launch) (g : Gs) (I : Ms) (J : Js) (a0 : Nat) (x1 : Int32) (h0_ : Is g a0 8) : Ctr l yX10_count cX10_count 2 (Option.some Jvm.ClassFile.FieldType.int) 7 g [.ref a0, .int x1] I J (PI I J (fun z => True)) := by
  refine m_start (by decide) (Nat.le_of_ble_eq_true rfl) ?_
  intro p e s m args below meth c C hr hlk M ls hl
  have hl : lv_has ls 2 [(0, .ref a0), (1, .int x1)] := hl
  have C : CallFix p m c cX10_count 2 s args TB RX10 := C
  refine lv_iload_n C.1 C.2.1 dX10_count_0 rfl (lv_at hl 1 rfl) ?_
  refine lv_bipush (v := 16) C.1 C.2.1 dX10_count_1 (by decide) ?_
  refine n_icmp_ne C (tgt := 16) (Y := 16) dX10_count_3 (by decide) rfl rfl (fun q1 => ?_) (fun q1 => ?_)
  ·
    refine lv_aload_n C.1 C.2.1 dX10_count_16 rfl (lv_at hl 0 rfl) ?_
    refine gi_X10_10 C M h0_ dX10_count_17 (fun h2 => ?_)
    refine lv_iload_n C.1 C.2.1 dX10_count_20 rfl (lv_at hl 1 rfl) ?_
    refine k_PI C M h2 (by decide) rfl (ct_X4_tellCount l g I J (gr g a0 0) x1 h2) (cw_X10_219 C.2.2.2.2 (by decide)) rfl hl.1 rfl (Nat.le_of_ble_eq_true rfl) dX10_count_21 ⟨Nat.le_refl _, Nat.le_refl _⟩ (fun r3 H locs p4r M => ?_)
    have p4 : True := p4r
    exact r_PI C M hr hlk rfl trivial dX10_count_24
  ·
    refine lv_aload_n C.1 C.2.1 dX10_count_6 rfl (lv_at hl 0 rfl) ?_
    refine gi_X10_40 C M h0_ dX10_count_7 (fun h5 => ?_)
    refine gi_X10_162 C M h5 dX10_count_10 (fun v6 kv6 tv6 uv6 => ?_)
    refine lv_goto (tgt := 24) C.1 C.2.1 dX10_count_13 (by decide) ?_
    exact r_PI C M hr hlk rfl trivial dX10_count_24
