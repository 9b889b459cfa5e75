abbrev md_X7_blame : List (Nat × Nat) := [(5, 9)]
set_option maxHeartbeats 4000000 in
set_option maxRecDepth 100000 in
theorem ct_X7_blame (l : Launch) (g : Gs) (I : Ms) (J : Js) (a0 : Nat) (x1 : Int32) (x2 : Int32) (h0_ : Is g a0 5) : Ctr l yX7_blame cX7_blame 3 (Option.none : Option Jvm.ClassFile.FieldType) 1 g [.ref a0, .int x1, .int x2] I J (PV g md_X7_blame I (fun I1 J1 => J1 = J ∧ (True))) := by
  refine m_start (by decide) (Nat.le_of_ble_eq_true rfl) ?_
  intro p e s m args below meth c C hr hlk M ls hl
  have hl : lv_has ls 3 [(0, .ref a0), (1, .int x1), (2, .int x2)] := hl
  have C : CallFix p m c cX7_blame 3 s args TB RX7 := C
  have F : Fr g md_X7_blame I I := fr_rf
  refine lv_aload_n C.1 C.2.1 dX7_blame_0 rfl (lv_at hl 0 rfl) ?_
  refine gi_X7_40 C M h0_ dX7_blame_1 (fun v1 kv1 => ?_)
  refine n_if_ne C (tgt := 17) dX7_blame_4 (by decide) rfl (fun q2 => ?_) (fun q2 => ?_)
  ·
    exact r_PV C M hr hlk F ⟨rfl, trivial⟩ dX7_blame_17
  ·
    refine lv_aload_n C.1 C.2.1 dX7_blame_7 rfl (lv_at hl 0 rfl) ?_
    refine lv_bipush (v := 8) C.1 C.2.1 dX7_blame_8 (by decide) ?_
    refine lv_iload_n C.1 C.2.1 dX7_blame_10 rfl (lv_at hl 1 rfl) ?_
    refine n_imulU C dX7_blame_11 (fun v3 => ?_)
    refine lv_iload_n C.1 C.2.1 dX7_blame_12 rfl (lv_at hl 2 rfl) ?_
    refine n_iaddU C dX7_blame_13 (fun v4 => ?_)
    refine pi_X7_40 C M h0_ dX7_blame_14 (fun H locs I5 k7 f6 M => ?_)
    have F := fr_put F h0_ (Or.inr (by decide)) f6
    exact r_PV C M hr hlk F ⟨rfl, trivial⟩ dX7_blame_17

abbrev md_X7_skipBlanks : List (Nat × Nat) := [(5, 8)]
set_option maxHeartbeats 4000000 in
set_option maxRecDepth 100000 in
theorem ct_X7_skipBlanks (l : Launch) (g : Gs) (I : Ms) (J : Js) (a0 : Nat) (a1 : Nat) (h0_ : Is g a0 5) (h1_ : Is g a1 7) : Ctr l yX7_skipBlanks cX7_skipBlanks 2 (Option.none : Option Jvm.ClassFile.FieldType) 2 g [.ref a0, .ref a1] I J (PV g md_X7_skipBlanks I (fun I1 J1 => J1 = J ∧ (True))) := by
  refine m_start (by decide) (Nat.le_of_ble_eq_true rfl) ?_
  intro p e s m args below meth c C hr hlk M ls hl
  have hl : lv_has ls 2 [(0, .ref a0), (1, .ref a1)] := hl
  have C : CallFix p m c cX7_skipBlanks 2 s args TB RX7 := C
  have F : Fr g md_X7_skipBlanks I I := fr_rf
  have L0 : ∀ (n0 : Nat) (I1 : Ms) (H : Heap) (locs : List Loc) (ls : Array Slot), (I1 a0 7).toInt ≤ 1000 → 1000 - (I1 a0 7).toInt < (n0 : Int) → Fr g md_X7_skipBlanks I I1 → Mm g s I1 J H locs → lv_has ls 2 [(0, .ref a0), (1, .ref a1)] → W p l e (rmL 2) s m args below meth c H locs 0 0 (MQg below g (PV g md_X7_skipBlanks I (fun I1 J1 => J1 = J ∧ (True))) args s) (F0 m 0 ls []) := by
    intro n0
    induction n0 with
    | zero =>
      intro I1 H locs ls f2 hm0 F M hl
      exact absurd hm0 (by omega)
    | succ n0 ih0 =>
      intro I1 H locs ls f2 hm0 F M hl
      refine lv_aload_n C.1 C.2.1 dX7_skipBlanks_0 rfl (lv_at hl 0 rfl) ?_
      refine gi_X7_37 C M h0_ dX7_skipBlanks_1 (fun v3 kv3 tv3 uv3 => ?_)
      have cv3 : (I1 a0 7).toInt = v3.toInt := congrArg Int32.toInt kv3
      refine lv_aload_n C.1 C.2.1 dX7_skipBlanks_4 rfl (lv_at hl 1 rfl) ?_
      refine gi_X7_50 C M h1_ dX7_skipBlanks_5 (fun v4 kv4 tv4 uv4 => ?_)
      have cv4 : (I1 a1 1).toInt = v4.toInt := congrArg Int32.toInt kv4
      refine n_icmp_ge C (tgt := 37) dX7_skipBlanks_8 (by decide) rfl rfl (fun q5 => ?_) (fun q5 => ?_)
      ·
        exact r_PV C M hr hlk F ⟨rfl, trivial⟩ dX7_skipBlanks_37
      ·
        refine lv_aload_n C.1 C.2.1 dX7_skipBlanks_11 rfl (lv_at hl 1 rfl) ?_
        refine lv_aload_n C.1 C.2.1 dX7_skipBlanks_12 rfl (lv_at hl 0 rfl) ?_
        refine gk_X7_37 C M h0_ kv3 dX7_skipBlanks_13 ?_
        have em6 : (I1 a1 1).toInt = v4.toInt := congrArg Int32.toInt kv4
        refine k_PI C M h1_ (by decide) rfl (ct_X9_at l g I1 J a1 v3 h1_) (cw_X7_58 C.2.2.2.2 (by decide)) rfl hl.1 rfl (Nat.le_of_ble_eq_true rfl) dX7_skipBlanks_16 ⟨Nat.le_refl _, Nat.le_refl _⟩ (fun r7 H locs p8r M => ?_)
        have p8 : r7.toInt = -1 ∨ (v3.toInt < (I1 a1 1).toInt ∧ 0 ≤ r7.toInt) := p8r
        simp only [em6] at p8
        have p8 : r7.toInt = -1 ∨ (v3.toInt < v4.toInt ∧ 0 ≤ r7.toInt) := p8
        refine lv_bipush (v := 32) C.1 C.2.1 dX7_skipBlanks_19 (by decide) ?_
        refine n_icmp_ne C (tgt := 37) (Y := 32) dX7_skipBlanks_21 (by decide) rfl rfl (fun q9 => ?_) (fun q9 => ?_)
        ·
          exact r_PV C M hr hlk F ⟨rfl, trivial⟩ dX7_skipBlanks_37
        ·
          refine lv_aload_n C.1 C.2.1 dX7_skipBlanks_24 rfl (lv_at hl 0 rfl) ?_
          refine lv_dup C.1 C.2.1 dX7_skipBlanks_25 rfl ?_
          refine gk_X7_37 C M h0_ kv3 dX7_skipBlanks_26 ?_
          refine lv_iconst (v := 1) C.1 C.2.1 dX7_skipBlanks_29 (by decide) ?_
          refine n_iadd C (Y := 1) dX7_skipBlanks_30 rfl rfl (by omega) (by omega) (fun v10 ev10 => ?_)
          refine pi_X7_37 C M h0_ dX7_skipBlanks_31 rfl (by omega) (by omega) (fun H locs I11 k13 f12 M => ?_)
          have F := fr_put F h0_ (Or.inr (by decide)) f12
          refine lv_goto (tgt := 0) C.1 C.2.1 dX7_skipBlanks_34 (by decide) ?_
          have jc14 : (I11 a0 7).toInt = v10.toInt := congrArg Int32.toInt k13
          exact ih0 I11 _ _ _ (by omega) (by omega) F M hl
  obtain ⟨u15, ku15⟩ : ∃ z : Int32, I a0 7 = z := ⟨_, rfl⟩
  have tu15 : 0 ≤ u15.toInt ∧ u15.toInt ≤ 1000 := m_rng M h0_ 7 ku15 rfl
  have jc16 : (I a0 7).toInt = u15.toInt := congrArg Int32.toInt ku15
  exact L0 _ I _ _ _ (by omega) (n_big _) F M hl

abbrev md_X7_takeNumber : List (Nat × Nat) := [(5, 8), (5, 9)]
set_option maxHeartbeats 4000000 in
set_option maxRecDepth 100000 in
theorem ct_X7_takeNumber (l : Launch) (g : Gs) (I : Ms) (J : Js) (a0 : Nat) (a1 : Nat) (x2 : Int32) (h0_ : Is g a0 5) (h1_ : Is g a1 7) : Ctr l yX7_takeNumber cX7_takeNumber 5 (Option.some Jvm.ClassFile.FieldType.int) 3 g [.ref a0, .ref a1, .int x2] I J (PM g md_X7_takeNumber I (fun z I1 J1 => J1 = J ∧ (True))) := by
  refine m_start (by decide) (Nat.le_of_ble_eq_true rfl) ?_
  intro p e s m args below meth c C hr hlk M ls hl
  have hl : lv_has ls 5 [(0, .ref a0), (1, .ref a1), (2, .int x2)] := hl
  have C : CallFix p m c cX7_takeNumber 5 s args TB RX7 := C
  have F : Fr g md_X7_takeNumber I I := fr_rf
  refine lv_aload_n C.1 C.2.1 dX7_takeNumber_0 rfl (lv_at hl 0 rfl) ?_
  refine lv_aload_n C.1 C.2.1 dX7_takeNumber_1 rfl (lv_at hl 1 rfl) ?_
  refine k_PV C M h0_ (by decide) rfl (ct_X7_skipBlanks l g I J a0 a1 h0_ h1_) (cw_X7_46 C.2.2.2.2 (by decide)) rfl hl.1 rfl (Nat.le_of_ble_eq_true rfl) dX7_takeNumber_2 ⟨Nat.le_refl _, Nat.le_refl _⟩ (fun I1 J2 H locs G3 p4r M => ?_)
  obtain ⟨eJ2, p4⟩ : J2 = J ∧ (True) := p4r
  have eJ2 := eJ2.symm
  subst eJ2
  have F := fr_call F G3 (by decide)
  refine lv_aload_n C.1 C.2.1 dX7_takeNumber_5 rfl (lv_at hl 0 rfl) ?_
  refine gi_X7_37 C M h0_ dX7_takeNumber_6 (fun v5 kv5 tv5 uv5 => ?_)
  have cv5 : (I1 a0 7).toInt = v5.toInt := congrArg Int32.toInt kv5
  refine lv_istore_n (lv' := [(3, .int v5), (0, .ref a0), (1, .ref a1), (2, .int x2)]) C.1 C.2.1 dX7_takeNumber_9 rfl hl (by decide) rfl (fun ls hl => ?_)
  refine lv_iconst (v := 0) C.1 C.2.1 dX7_takeNumber_10 (by decide) ?_
  refine lv_istore (lv' := [(4, .int 0), (3, .int v5), (0, .ref a0), (1, .ref a1), (2, .int x2)]) C.1 C.2.1 dX7_takeNumber_11 hl (by decide) rfl (fun ls hl => ?_)
  have L13 : ∀ (n13 : Nat) (y6 : Int32) (I7 : Ms) (H : Heap) (locs : List Loc) (ls : Array Slot), (I7 a0 7).toInt ≤ 1000 → 1000 - (I7 a0 7).toInt < (n13 : Int) → Fr g md_X7_takeNumber I I7 → Mm g s I7 J H locs → lv_has ls 5 [(0, .ref a0), (1, .ref a1), (2, .int x2), (3, .int v5), (4, .int y6)] → W p l e (rmL 3) s m args below meth c H locs 0 0 (MQg below g (PM g md_X7_takeNumber I (fun z I1 J1 => J1 = J ∧ (True))) args s) (F0 m 13 ls []) := by
    intro n13
    induction n13 with
    | zero =>
      intro y6 I7 H locs ls f8 hm13 F M hl
      exact absurd hm13 (by omega)
    | succ n13 ih13 =>
      intro y6 I7 H locs ls f8 hm13 F M hl
      refine lv_aload_n C.1 C.2.1 dX7_takeNumber_13 rfl (lv_at hl 0 rfl) ?_
      refine gi_X7_37 C M h0_ dX7_takeNumber_14 (fun v9 kv9 tv9 uv9 => ?_)
      have cv9 : (I7 a0 7).toInt = v9.toInt := congrArg Int32.toInt kv9
      refine lv_aload_n C.1 C.2.1 dX7_takeNumber_17 rfl (lv_at hl 1 rfl) ?_
      refine gi_X7_50 C M h1_ dX7_takeNumber_18 (fun v10 kv10 tv10 uv10 => ?_)
      have cv10 : (I7 a1 1).toInt = v10.toInt := congrArg Int32.toInt kv10
      have J82 : ∀ (H : Heap) (locs : List Loc) (ls : Array Slot), Mm g s I7 J H locs → lv_has ls 5 [(0, .ref a0), (2, .int x2), (3, .int v5), (4, .int y6)] → W p l e (rmL 3) s m args below meth c H locs 0 0 (MQg below g (PM g md_X7_takeNumber I (fun z I1 J1 => J1 = J ∧ (True))) args s) (F0 m 82 ls []) := by
        intro H locs ls M hl
        refine lv_aload_n C.1 C.2.1 dX7_takeNumber_82 rfl (lv_at hl 0 rfl) ?_
        refine gk_X7_37 C M h0_ kv9 dX7_takeNumber_83 ?_
        refine lv_iload_n C.1 C.2.1 dX7_takeNumber_86 rfl (lv_at hl 2 rfl) ?_
        refine n_icmp_ne C (tgt := 99) dX7_takeNumber_87 (by decide) rfl rfl (fun q11 => ?_) (fun q11 => ?_)
        ·
          refine lv_aload_n C.1 C.2.1 dX7_takeNumber_99 rfl (lv_at hl 0 rfl) ?_
          refine gk_X7_37 C M h0_ kv9 dX7_takeNumber_100 ?_
          refine lv_iload_n C.1 C.2.1 dX7_takeNumber_103 rfl (lv_at hl 2 rfl) ?_
          refine n_isub C dX7_takeNumber_104 rfl rfl (by omega) (by omega) (fun v12 ev12 => ?_)
          refine lv_iconst (v := 4) C.1 C.2.1 dX7_takeNumber_105 (by decide) ?_
          refine n_icmp_gt C (tgt := 115) (Y := 4) dX7_takeNumber_106 (by decide) rfl rfl (fun q13 => ?_) (fun q13 => ?_)
          ·
            refine lv_aload_n C.1 C.2.1 dX7_takeNumber_115 rfl (lv_at hl 0 rfl) ?_
            refine lv_iload_n C.1 C.2.1 dX7_takeNumber_116 rfl (lv_at hl 2 rfl) ?_
            refine lv_iconst (v := 2) C.1 C.2.1 dX7_takeNumber_117 (by decide) ?_
            refine k_PV C M h0_ (by decide) rfl (ct_X7_blame l g I7 J a0 v5 2 h0_) (cw_X7_69 C.2.2.2.2 (by decide)) rfl hl.1 rfl (Nat.le_of_ble_eq_true rfl) dX7_takeNumber_118 ⟨Nat.le_refl _, Nat.le_refl _⟩ (fun I14 J15 H locs G16 p17r M => ?_)
            obtain ⟨eJ15, p17⟩ : J15 = J ∧ (True) := p17r
            have eJ15 := eJ15.symm
            subst eJ15
            have F := fr_call F G16 (by decide)
            refine lv_iload C.1 C.2.1 dX7_takeNumber_121 (lv_at hl 3 rfl) ?_
            exact r_PM C M hr hlk F rfl ⟨rfl, trivial⟩ dX7_takeNumber_123
          ·
            refine lv_iload C.1 C.2.1 dX7_takeNumber_109 (lv_at hl 3 rfl) ?_
            refine lv_iload_n C.1 C.2.1 dX7_takeNumber_111 rfl (lv_at hl 1 rfl) ?_
            refine n_icmp_le C (tgt := 121) dX7_takeNumber_112 (by decide) rfl rfl (fun q18 => ?_) (fun q18 => ?_)
            ·
              refine lv_iload C.1 C.2.1 dX7_takeNumber_121 (lv_at hl 3 rfl) ?_
              exact r_PM C M hr hlk F rfl ⟨rfl, trivial⟩ dX7_takeNumber_123
            ·
              refine lv_aload_n C.1 C.2.1 dX7_takeNumber_115 rfl (lv_at hl 0 rfl) ?_
              refine lv_iload_n C.1 C.2.1 dX7_takeNumber_116 rfl (lv_at hl 2 rfl) ?_
              refine lv_iconst (v := 2) C.1 C.2.1 dX7_takeNumber_117 (by decide) ?_
              refine k_PV C M h0_ (by decide) rfl (ct_X7_blame l g I7 J a0 v5 2 h0_) (cw_X7_69 C.2.2.2.2 (by decide)) rfl hl.1 rfl (Nat.le_of_ble_eq_true rfl) dX7_takeNumber_118 ⟨Nat.le_refl _, Nat.le_refl _⟩ (fun I19 J20 H locs G21 p22r M => ?_)
              obtain ⟨eJ20, p22⟩ : J20 = J ∧ (True) := p22r
              have eJ20 := eJ20.symm
              subst eJ20
              have F := fr_call F G21 (by decide)
              refine lv_iload C.1 C.2.1 dX7_takeNumber_121 (lv_at hl 3 rfl) ?_
              exact r_PM C M hr hlk F rfl ⟨rfl, trivial⟩ dX7_takeNumber_123
        ·
          refine lv_aload_n C.1 C.2.1 dX7_takeNumber_90 rfl (lv_at hl 0 rfl) ?_
          refine lv_iload_n C.1 C.2.1 dX7_takeNumber_91 rfl (lv_at hl 2 rfl) ?_
          refine lv_iconst (v := 1) C.1 C.2.1 dX7_takeNumber_92 (by decide) ?_
          refine k_PV C M h0_ (by decide) rfl (ct_X7_blame l g I7 J a0 v5 1 h0_) (cw_X7_69 C.2.2.2.2 (by decide)) rfl hl.1 rfl (Nat.le_of_ble_eq_true rfl) dX7_takeNumber_93 ⟨Nat.le_refl _, Nat.le_refl _⟩ (fun I23 J24 H locs G25 p26r M => ?_)
          obtain ⟨eJ24, p26⟩ : J24 = J ∧ (True) := p26r
          have eJ24 := eJ24.symm
          subst eJ24
          have F := fr_call F G25 (by decide)
          refine lv_goto (tgt := 121) C.1 C.2.1 dX7_takeNumber_96 (by decide) ?_
          refine lv_iload C.1 C.2.1 dX7_takeNumber_121 (lv_at hl 3 rfl) ?_
          exact r_PM C M hr hlk F rfl ⟨rfl, trivial⟩ dX7_takeNumber_123
      refine n_icmp_ge C (tgt := 82) dX7_takeNumber_21 (by decide) rfl rfl (fun q27 => ?_) (fun q27 => ?_)
      ·
        exact J82 _ _ _ M (lv_sub hl [0, 2, 3, 4] rfl)
      ·
        refine lv_aload_n C.1 C.2.1 dX7_takeNumber_24 rfl (lv_at hl 1 rfl) ?_
        refine lv_aload_n C.1 C.2.1 dX7_takeNumber_25 rfl (lv_at hl 0 rfl) ?_
        refine gk_X7_37 C M h0_ kv9 dX7_takeNumber_26 ?_
        have em28 : (I7 a1 1).toInt = v10.toInt := congrArg Int32.toInt kv10
        refine k_PI C M h1_ (by decide) rfl (ct_X9_at l g I7 J a1 v9 h1_) (cw_X7_58 C.2.2.2.2 (by decide)) rfl hl.1 rfl (Nat.le_of_ble_eq_true rfl) dX7_takeNumber_29 ⟨Nat.le_refl _, Nat.le_refl _⟩ (fun r29 H locs p30r M => ?_)
        have p30 : r29.toInt = -1 ∨ (v9.toInt < (I7 a1 1).toInt ∧ 0 ≤ r29.toInt) := p30r
        simp only [em28] at p30
        have p30 : r29.toInt = -1 ∨ (v9.toInt < v10.toInt ∧ 0 ≤ r29.toInt) := p30
        refine lv_bipush (v := 48) C.1 C.2.1 dX7_takeNumber_32 (by decide) ?_
        refine n_icmp_lt C (tgt := 82) (Y := 48) dX7_takeNumber_34 (by decide) rfl rfl (fun q31 => ?_) (fun q31 => ?_)
        ·
          exact J82 _ _ _ M (lv_sub hl [0, 2, 3, 4] rfl)
        ·
          refine lv_aload_n C.1 C.2.1 dX7_takeNumber_37 rfl (lv_at hl 1 rfl) ?_
          refine lv_aload_n C.1 C.2.1 dX7_takeNumber_38 rfl (lv_at hl 0 rfl) ?_
          refine gk_X7_37 C M h0_ kv9 dX7_takeNumber_39 ?_
          have em32 : (I7 a1 1).toInt = v10.toInt := congrArg Int32.toInt kv10
          refine k_PI C M h1_ (by decide) rfl (ct_X9_at l g I7 J a1 v9 h1_) (cw_X7_58 C.2.2.2.2 (by decide)) rfl hl.1 rfl (Nat.le_of_ble_eq_true rfl) dX7_takeNumber_42 ⟨Nat.le_refl _, Nat.le_refl _⟩ (fun r33 H locs p34r M => ?_)
          have p34 : r33.toInt = -1 ∨ (v9.toInt < (I7 a1 1).toInt ∧ 0 ≤ r33.toInt) := p34r
          simp only [em32] at p34
          have p34 : r33.toInt = -1 ∨ (v9.toInt < v10.toInt ∧ 0 ≤ r33.toInt) := p34
          refine lv_bipush (v := 57) C.1 C.2.1 dX7_takeNumber_45 (by decide) ?_
          refine n_icmp_gt C (tgt := 82) (Y := 57) dX7_takeNumber_47 (by decide) rfl rfl (fun q35 => ?_) (fun q35 => ?_)
          ·
            exact J82 _ _ _ M (lv_sub hl [0, 2, 3, 4] rfl)
          ·
            refine lv_bipush (v := 10) C.1 C.2.1 dX7_takeNumber_50 (by decide) ?_
            refine lv_iload C.1 C.2.1 dX7_takeNumber_52 (lv_at hl 4 rfl) ?_
            refine n_imulU C dX7_takeNumber_54 (fun v36 => ?_)
            refine lv_aload_n C.1 C.2.1 dX7_takeNumber_55 rfl (lv_at hl 1 rfl) ?_
            refine lv_aload_n C.1 C.2.1 dX7_takeNumber_56 rfl (lv_at hl 0 rfl) ?_
            refine gk_X7_37 C M h0_ kv9 dX7_takeNumber_57 ?_
            have em37 : (I7 a1 1).toInt = v10.toInt := congrArg Int32.toInt kv10
            refine k_PI C M h1_ (by decide) rfl (ct_X9_at l g I7 J a1 v9 h1_) (cw_X7_58 C.2.2.2.2 (by decide)) rfl hl.1 rfl (Nat.le_of_ble_eq_true rfl) dX7_takeNumber_60 ⟨Nat.le_refl _, Nat.le_refl _⟩ (fun r38 H locs p39r M => ?_)
            have p39 : r38.toInt = -1 ∨ (v9.toInt < (I7 a1 1).toInt ∧ 0 ≤ r38.toInt) := p39r
            simp only [em37] at p39
            have p39 : r38.toInt = -1 ∨ (v9.toInt < v10.toInt ∧ 0 ≤ r38.toInt) := p39
            refine n_iaddU C dX7_takeNumber_63 (fun v40 => ?_)
            refine lv_bipush (v := 48) C.1 C.2.1 dX7_takeNumber_64 (by decide) ?_
            refine n_isubU C dX7_takeNumber_66 (fun v41 => ?_)
            refine lv_istore (lv' := [(4, .int v41), (0, .ref a0), (1, .ref a1), (2, .int x2), (3, .int v5)]) C.1 C.2.1 dX7_takeNumber_67 hl (by decide) rfl (fun ls hl => ?_)
            refine lv_aload_n C.1 C.2.1 dX7_takeNumber_69 rfl (lv_at hl 1 rfl) ?_
            refine lv_dup C.1 C.2.1 dX7_takeNumber_70 rfl ?_
            refine gk_X7_37 C M h0_ kv9 dX7_takeNumber_71 ?_
            refine lv_iconst (v := 1) C.1 C.2.1 dX7_takeNumber_74 (by decide) ?_
            refine n_iadd C (Y := 1) dX7_takeNumber_75 rfl rfl (by omega) (by omega) (fun v42 ev42 => ?_)
            refine pi_X7_37 C M h0_ dX7_takeNumber_76 rfl (by omega) (by omega) (fun H locs I43 k45 f44 M => ?_)
            have F := fr_put F h0_ (Or.inr (by decide)) f44
            refine lv_goto (tgt := 13) C.1 C.2.1 dX7_takeNumber_79 (by decide) ?_
            have jc46 : (I43 a0 7).toInt = v42.toInt := congrArg Int32.toInt k45
            exact ih13 v41 I43 _ _ _ (by omega) (by omega) F M (lv_sub hl [1, 2, 3, 4, 0] rfl)
  have jc47 : (I1 a0 7).toInt = v5.toInt := congrArg Int32.toInt kv5
  have cz48 : (0 : Int32).toInt = 0 := rfl
  exact L13 _ 0 I1 _ _ _ (by omega) (n_big _) F M (lv_sub hl [2, 3, 4, 1, 0] rfl)

abbrev md_X7_takeSign : List (Nat × Nat) := [(5, 8), (5, 9)]
set_option maxHeartbeats 4000000 in
set_option maxRecDepth 100000 in
theorem ct_X7_takeSign (l : Launch) (g : Gs) (I : Ms) (J : Js) (a0 : Nat) (a1 : Nat) (x2 : Int32) (h0_ : Is g a0 5) (h1_ : Is g a1 7) (g0 : 0 ≤ x2.toInt) : Ctr l yX7_takeSign cX7_takeSign 3 (Option.none : Option Jvm.ClassFile.FieldType) 3 g [.ref a0, .ref a1, .int x2] I J (PV g md_X7_takeSign I (fun I1 J1 => J1 = J ∧ (True))) := by
  refine m_start (by decide) (Nat.le_of_ble_eq_true rfl) ?_
  intro p e s m args below meth c C hr hlk M ls hl
  have hl : lv_has ls 3 [(0, .ref a0), (1, .ref a1), (2, .int x2)] := hl
  have C : CallFix p m c cX7_takeSign 3 s args TB RX7 := C
  have F : Fr g md_X7_takeSign I I := fr_rf
  refine lv_aload_n C.1 C.2.1 dX7_takeSign_0 rfl (lv_at hl 0 rfl) ?_
  refine lv_aload_n C.1 C.2.1 dX7_takeSign_1 rfl (lv_at hl 1 rfl) ?_
  refine k_PV C M h0_ (by decide) rfl (ct_X7_skipBlanks l g I J a0 a1 h0_ h1_) (cw_X7_46 C.2.2.2.2 (by decide)) rfl hl.1 rfl (Nat.le_of_ble_eq_true rfl) dX7_takeSign_2 ⟨Nat.le_refl _, Nat.le_refl _⟩ (fun I1 J2 H locs G3 p4r M => ?_)
  obtain ⟨eJ2, p4⟩ : J2 = J ∧ (True) := p4r
  have eJ2 := eJ2.symm
  subst eJ2
  have F := fr_call F G3 (by decide)
  refine lv_aload_n C.1 C.2.1 dX7_takeSign_5 rfl (lv_at hl 1 rfl) ?_
  refine lv_aload_n C.1 C.2.1 dX7_takeSign_6 rfl (lv_at hl 0 rfl) ?_
  refine gi_X7_37 C M h0_ dX7_takeSign_7 (fun v5 kv5 tv5 uv5 => ?_)
  obtain ⟨u6, ku6⟩ : ∃ z : Int32, I1 a1 1 = z := ⟨_, rfl⟩
  have tu6 : 0 ≤ u6.toInt ∧ u6.toInt ≤ 264 := m_rng M h1_ 1 ku6 rfl
  have em7 : (I1 a1 1).toInt = u6.toInt := congrArg Int32.toInt ku6
  refine k_PI C M h1_ (by decide) rfl (ct_X9_at l g I1 J a1 v5 h1_) (cw_X7_58 C.2.2.2.2 (by decide)) rfl hl.1 rfl (Nat.le_of_ble_eq_true rfl) dX7_takeSign_10 ⟨Nat.le_refl _, Nat.le_refl _⟩ (fun r8 H locs p9r M => ?_)
  have p9 : r8.toInt = -1 ∨ (v5.toInt < (I1 a1 1).toInt ∧ 0 ≤ r8.toInt) := p9r
  simp only [em7] at p9
  have p9 : r8.toInt = -1 ∨ (v5.toInt < u6.toInt ∧ 0 ≤ r8.toInt) := p9
  refine lv_iload_n C.1 C.2.1 dX7_takeSign_13 rfl (lv_at hl 2 rfl) ?_
  refine n_icmp_ne C (tgt := 30) dX7_takeSign_14 (by decide) rfl rfl (fun q10 => ?_) (fun q10 => ?_)
  ·
    refine lv_aload_n C.1 C.2.1 dX7_takeSign_30 rfl (lv_at hl 0 rfl) ?_
    refine lv_aload_n C.1 C.2.1 dX7_takeSign_31 rfl (lv_at hl 0 rfl) ?_
    refine gk_X7_37 C M h0_ kv5 dX7_takeSign_32 ?_
    refine lv_iconst (v := 1) C.1 C.2.1 dX7_takeSign_35 (by decide) ?_
    refine k_PV C M h0_ (by decide) rfl (ct_X7_blame l g I1 J a0 v5 1 h0_) (cw_X7_69 C.2.2.2.2 (by decide)) rfl hl.1 rfl (Nat.le_of_ble_eq_true rfl) dX7_takeSign_36 ⟨Nat.le_refl _, Nat.le_refl _⟩ (fun I11 J12 H locs G13 p14r M => ?_)
    obtain ⟨eJ12, p14⟩ : J12 = J ∧ (True) := p14r
    have eJ12 := eJ12.symm
    subst eJ12
    have F := fr_call F G13 (by decide)
    exact r_PV C M hr hlk F ⟨rfl, trivial⟩ dX7_takeSign_39
  ·
    refine lv_aload_n C.1 C.2.1 dX7_takeSign_17 rfl (lv_at hl 0 rfl) ?_
    refine lv_dup C.1 C.2.1 dX7_takeSign_18 rfl ?_
    refine gk_X7_37 C M h0_ kv5 dX7_takeSign_19 ?_
    refine lv_iconst (v := 1) C.1 C.2.1 dX7_takeSign_22 (by decide) ?_
    refine n_iadd C (Y := 1) dX7_takeSign_23 rfl rfl (by omega) (by omega) (fun v15 ev15 => ?_)
    refine pi_X7_37 C M h0_ dX7_takeSign_24 rfl (by omega) (by omega) (fun H locs I16 k18 f17 M => ?_)
    have F := fr_put F h0_ (Or.inr (by decide)) f17
    refine lv_goto (tgt := 39) C.1 C.2.1 dX7_takeSign_27 (by decide) ?_
    exact r_PV C M hr hlk F ⟨rfl, trivial⟩ dX7_takeSign_39

set_option maxHeartbeats 4000000 in
set_option maxRecDepth 100000 in
theorem ct_X7_number (l : Launch) (g : Gs) (I : Ms) (J : Js) (a0 : Nat) (x1 : Int32) (h0_ : Is g a0 5) : Ctr l yX7_number cX7_number 3 (Option.some Jvm.ClassFile.FieldType.int) 1 g [.ref a0, .int x1] I J (PI I J (fun z => True)) := by
  refine m_start (by decide) (Nat.le_of_ble_eq_true rfl) ?_
  intro p e s m args below meth c C hr hlk M ls hl
  have hl : lv_has ls 3 [(0, .ref a0), (1, .int x1)] := hl
  have C : CallFix p m c cX7_number 3 s args TB RX7 := C
  refine lv_aload_n C.1 C.2.1 dX7_number_0 rfl (lv_at hl 0 rfl) ?_
  refine gi_X7_43 C M h0_ dX7_number_1 (fun v1 kv1 => ?_)
  refine lv_iconst (v := 3) C.1 C.2.1 dX7_number_4 (by decide) ?_
  refine n_imulU C dX7_number_5 (fun v2 => ?_)
  refine lv_iload_n C.1 C.2.1 dX7_number_6 rfl (lv_at hl 1 rfl) ?_
  refine n_iaddU C dX7_number_7 (fun v3 => ?_)
  refine lv_istore_n (lv' := [(2, .int v3), (0, .ref a0), (1, .int x1)]) C.1 C.2.1 dX7_number_8 rfl hl (by decide) rfl (fun ls hl => ?_)
  refine lv_iload_n C.1 C.2.1 dX7_number_9 rfl (lv_at hl 0 rfl) ?_
  refine n_if_lt C (tgt := 22) dX7_number_10 (by decide) rfl (fun q4 => ?_) (fun q4 => ?_)
  ·
    refine lv_iconst (v := 0) C.1 C.2.1 dX7_number_22 (by decide) ?_
    refine lv_goto (tgt := 32) C.1 C.2.1 dX7_number_23 (by decide) ?_
    exact r_PI C M (z := 0) hr hlk rfl trivial dX7_number_32
  ·
    refine lv_iload_n C.1 C.2.1 dX7_number_13 rfl (lv_at hl 0 rfl) ?_
    refine lv_aload_n C.1 C.2.1 dX7_number_14 rfl (lv_at hl 1 rfl) ?_
    refine gi_X7_17 C M h0_ dX7_number_15 (fun h5 => ?_)
    refine a_ln C M h5 rfl (v := 720) rfl dX7_number_18 ?_
    refine n_icmp_lt C (tgt := 26) (Y := 720) dX7_number_19 (by decide) rfl rfl (fun q6 => ?_) (fun q6 => ?_)
    ·
      refine lv_aload_n C.1 C.2.1 dX7_number_26 rfl (lv_at hl 1 rfl) ?_
      refine gi_X7_17 C M h0_ dX7_number_27 (fun h7 => ?_)
      refine lv_iload_n C.1 C.2.1 dX7_number_30 rfl (lv_at hl 0 rfl) ?_
      refine a_ld C M h5 (n := 720) rfl rfl rfl (by omega) (by omega) rfl dX7_number_31 (fun v8 kv8 => ?_)
      exact r_PI C M hr hlk rfl trivial dX7_number_32
    ·
      refine lv_iconst (v := 0) C.1 C.2.1 dX7_number_22 (by decide) ?_
      refine lv_goto (tgt := 32) C.1 C.2.1 dX7_number_23 (by decide) ?_
      exact r_PI C M (z := 0) hr hlk rfl trivial dX7_number_32

abbrev md_X7_endRound : List (Nat × Nat) := [(5, 10), (24, 0)]
set_option maxHeartbeats 4000000 in
set_option maxRecDepth 100000 in
theorem ct_X7_endRound (l : Launch) (g : Gs) (I : Ms) (J : Js) (a0 : Nat) (h0_ : Is g a0 5) (g0 : 0 ≤ (I a0 9).toInt) (g1 : (I a0 9).toInt ≤ 239) : Ctr l yX7_endRound cX7_endRound 2 (Option.none : Option Jvm.ClassFile.FieldType) 1 g [.ref a0] I J (PV g md_X7_endRound I (fun I1 J1 => J1 = J ∧ (True))) := by
  refine m_start (by decide) (Nat.le_of_ble_eq_true rfl) ?_
  intro p e s m args below meth c C hr hlk M ls hl
  have hl : lv_has ls 2 [(0, .ref a0)] := hl
  have C : CallFix p m c cX7_endRound 2 s args TB RX7 := C
  have F : Fr g md_X7_endRound I I := fr_rf
  obtain ⟨i1, ki1⟩ : ∃ z : Int32, I a0 9 = z := ⟨_, rfl⟩
  have ci1 : (I a0 9).toInt = i1.toInt := congrArg Int32.toInt ki1
  simp only [ci1] at g0 g1
  refine lv_aload_n C.1 C.2.1 dX7_endRound_0 rfl (lv_at hl 0 rfl) ?_
  refine gi_X7_21 C M h0_ dX7_endRound_1 (fun h2 => ?_)
  refine lv_aload_n C.1 C.2.1 dX7_endRound_4 rfl (lv_at hl 0 rfl) ?_
  refine gk_X7_43 C M h0_ ki1 dX7_endRound_5 ?_
  refine a_ld C M h2 (n := 240) rfl rfl rfl (by omega) (by omega) rfl dX7_endRound_8 (fun v3 kv3 => ?_)
  have tv3 := m_rng M h2 i1.toInt.toNat kv3 rfl
  have tv3 : 0 ≤ v3.toInt ∧ v3.toInt ≤ 239 := tv3
  refine lv_istore_n (lv' := [(1, .int v3), (0, .ref a0)]) C.1 C.2.1 dX7_endRound_9 rfl hl (by decide) rfl (fun ls hl => ?_)
  refine lv_aload_n C.1 C.2.1 dX7_endRound_10 rfl (lv_at hl 1 rfl) ?_
  refine gi_X7_24 C M h0_ dX7_endRound_11 (fun h4 => ?_)
  refine lv_iload_n C.1 C.2.1 dX7_endRound_14 rfl (lv_at hl 0 rfl) ?_
  refine lv_dup2_11 C.1 C.2.1 dX7_endRound_15 rfl rfl ?_
  refine a_ld C M h4 (n := 240) rfl rfl rfl (by omega) (by omega) rfl dX7_endRound_16 (fun v5 kv5 => ?_)
  refine lv_iconst (v := 1) C.1 C.2.1 dX7_endRound_17 (by decide) ?_
  refine n_isubU C dX7_endRound_18 (fun v6 => ?_)
  refine a_stU C M h4 (n := 240) rfl rfl rfl (by omega) (by omega) rfl rfl dX7_endRound_19 (fun H locs I7 k9 f8 M => ?_)
  have F := fr_put F h4 (Or.inl (by decide)) f8
  refine lv_aload_n C.1 C.2.1 dX7_endRound_20 rfl (lv_at hl 1 rfl) ?_
  refine gi_X7_24 C M h0_ dX7_endRound_21 (fun h10 => ?_)
  refine lv_iload_n C.1 C.2.1 dX7_endRound_24 rfl (lv_at hl 0 rfl) ?_
  refine a_ld C M h4 (n := 240) rfl rfl rfl (by omega) (by omega) rfl dX7_endRound_25 (fun v11 kv11 => ?_)
  refine n_if_le C (tgt := 34) dX7_endRound_26 (by decide) rfl (fun q12 => ?_) (fun q12 => ?_)
  ·
    exact r_PV C M hr hlk F ⟨rfl, trivial⟩ dX7_endRound_34
  ·
    refine lv_aload_n C.1 C.2.1 dX7_endRound_29 rfl (lv_at hl 1 rfl) ?_
    refine lv_iload_n C.1 C.2.1 dX7_endRound_30 rfl (lv_at hl 0 rfl) ?_
    refine pi_X7_43 C M h0_ dX7_endRound_31 (fun H locs I13 k15 f14 M => ?_)
    have F := fr_put F h0_ (Or.inr (by decide)) f14
    exact r_PV C M hr hlk F ⟨rfl, trivial⟩ dX7_endRound_34
