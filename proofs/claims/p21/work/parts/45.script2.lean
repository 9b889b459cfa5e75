set_option maxHeartbeats 4000000 in
set_option maxRecDepth 100000 in
theorem ct_X7_isSpelt (l : Launch) (g : Gs) (I : Ms) (J : Js) (a0 : Nat) (a1 : Nat) (x2 : Int32) (d3 : Nat) (h0_ : Is g a0 5) (h1_ : Is g a1 7) (h3_ : d3 < 14) : Ctr l yX7_isSpelt cX7_isSpelt 5 (Option.some Jvm.ClassFile.FieldType.boolean) 6 g [.ref a0, .ref a1, .int x2, .ref (gSk g d3)] I J (PI I J (fun z => 0 ≤ z ∧ z ≤ 1)) := by
  refine m_start (by decide) (Nat.le_of_ble_eq_true rfl) ?_
  intro p e s m args below meth c C hr hlk M ls hl
  have hl : lv_has ls 5 [(0, .ref a0), (1, .ref a1), (2, .int x2), (3, .ref (gSk g d3))] := hl
  have C : CallFix p m c cX7_isSpelt 5 s args TB RX7 := C
  have h7 : lenD.getD d3 0 ≤ 7 := len7 d3 h3_
  refine lv_aload_n C.1 C.2.1 dX7_isSpelt_0 rfl (lv_at hl 0 rfl) ?_
  refine gi_X7_37 C M h0_ dX7_isSpelt_1 (fun v1 kv1 tv1 uv1 => ?_)
  refine lv_iload_n C.1 C.2.1 dX7_isSpelt_4 rfl (lv_at hl 2 rfl) ?_
  refine n_isubU C dX7_isSpelt_5 (fun v2 => ?_)
  refine lv_aload_n C.1 C.2.1 dX7_isSpelt_6 rfl (lv_at hl 3 rfl) ?_
  refine kq_PI C M h3_ (ct_J0_length_8abf5 l g I J d3 h3_) (cw_X7_105 C.2.2.2.2 (by decide)) rfl hl.1 rfl (Nat.le_of_ble_eq_true rfl) dX7_isSpelt_7 ⟨Nat.le_refl _, Nat.le_refl _⟩ (fun r3 H locs p4r M => ?_)
  have p4 : r3.toInt = ((lenD.getD d3 0 : Nat) : Int) := p4r
  refine n_icmp_eq C (tgt := 15) dX7_isSpelt_10 (by decide) rfl rfl (fun q5 => ?_) (fun q5 => ?_)
  ·
    refine lv_iconst (v := 0) C.1 C.2.1 dX7_isSpelt_15 (by decide) ?_
    refine lv_istore (lv' := [(4, .int 0), (0, .ref a0), (1, .ref a1), (2, .int x2), (3, .ref (gSk g d3))]) C.1 C.2.1 dX7_isSpelt_16 hl (by decide) rfl (fun ls hl => ?_)
    have L18 : ∀ (n18 : Nat) (y6 : Int32) (H : Heap) (locs : List Loc) (ls : Array Slot), 0 ≤ y6.toInt → y6.toInt ≤ 7 → 8 - y6.toInt < (n18 : Int) → Mm g s I J H locs → lv_has ls 5 [(1, .ref a1), (2, .int x2), (3, .ref (gSk g d3)), (4, .int y6)] → W p l e (rmL 6) s m args below meth c H locs 0 0 (MQg below g (PI I J (fun z => 0 ≤ z ∧ z ≤ 1)) args s) (F0 m 18 ls []) := by
      intro n18
      induction n18 with
      | zero =>
        intro y6 H locs ls f7 f8 hm18 M hl
        exact absurd hm18 (by omega)
      | succ n18 ih18 =>
        intro y6 H locs ls f7 f8 hm18 M hl
        refine lv_iload C.1 C.2.1 dX7_isSpelt_18 (lv_at hl 3 rfl) ?_
        refine lv_aload_n C.1 C.2.1 dX7_isSpelt_20 rfl (lv_at hl 2 rfl) ?_
        refine kq_PI C M h3_ (ct_J0_length_8abf5 l g I J d3 h3_) (cw_X7_105 C.2.2.2.2 (by decide)) rfl hl.1 rfl (Nat.le_of_ble_eq_true rfl) dX7_isSpelt_21 ⟨Nat.le_refl _, Nat.le_refl _⟩ (fun r9 H locs p10r M => ?_)
        have p10 : r9.toInt = ((lenD.getD d3 0 : Nat) : Int) := p10r
        refine n_icmp_ge C (tgt := 52) dX7_isSpelt_24 (by decide) rfl rfl (fun q11 => ?_) (fun q11 => ?_)
        ·
          refine lv_iconst (v := 1) C.1 C.2.1 dX7_isSpelt_52 (by decide) ?_
          exact r_PIz C M (z := 1) hr hlk rfl (by omega) (by omega) (by omega) dX7_isSpelt_53
        ·
          refine lv_aload_n C.1 C.2.1 dX7_isSpelt_27 rfl (lv_at hl 0 rfl) ?_
          refine lv_iload_n C.1 C.2.1 dX7_isSpelt_28 rfl (lv_at hl 1 rfl) ?_
          refine lv_iload C.1 C.2.1 dX7_isSpelt_29 (lv_at hl 3 rfl) ?_
          refine n_iaddU C dX7_isSpelt_31 (fun v12 => ?_)
          obtain ⟨u13, ku13⟩ : ∃ z : Int32, I a1 1 = z := ⟨_, rfl⟩
          have tu13 : 0 ≤ u13.toInt ∧ u13.toInt ≤ 264 := m_rng M h1_ 1 ku13 rfl
          have em14 : (I a1 1).toInt = u13.toInt := congrArg Int32.toInt ku13
          refine k_PI C M h1_ (by decide) rfl (ct_X9_at l g I J a1 v12 h1_) (cw_X7_58 C.2.2.2.2 (by decide)) rfl hl.1 rfl (Nat.le_of_ble_eq_true rfl) dX7_isSpelt_32 ⟨Nat.le_refl _, Nat.le_refl _⟩ (fun r15 H locs p16r M => ?_)
          have p16 : r15.toInt = -1 ∨ (v12.toInt < (I a1 1).toInt ∧ 0 ≤ r15.toInt) := p16r
          simp only [em14] at p16
          have p16 : r15.toInt = -1 ∨ (v12.toInt < u13.toInt ∧ 0 ≤ r15.toInt) := p16
          refine lv_aload_n C.1 C.2.1 dX7_isSpelt_35 rfl (lv_at hl 2 rfl) ?_
          refine lv_iload C.1 C.2.1 dX7_isSpelt_36 (lv_at hl 3 rfl) ?_
          refine kq_PI C M h3_ (ct_J0_charAt_5068e l g I J d3 y6 h3_ (by omega) (by omega)) (cw_X7_110 C.2.2.2.2 (by decide)) rfl hl.1 rfl (Nat.le_of_ble_eq_true rfl) dX7_isSpelt_38 ⟨Nat.le_refl _, Nat.le_refl _⟩ (fun r17 H locs p18r M => ?_)
          have p18 : True := p18r
          refine n_icmp_eq C (tgt := 46) dX7_isSpelt_41 (by decide) rfl rfl (fun q19 => ?_) (fun q19 => ?_)
          ·
            refine n_iinc C (k := 3) (N := 1) (lv' := fun v => [(4, .int v), (1, .ref a1), (2, .int x2), (3, .ref (gSk g d3))]) dX7_isSpelt_46 hl rfl (by decide) rfl rfl (by omega) (by omega) (fun _ => rfl) (fun v20 ls ev20 hl => ?_)
            refine lv_goto (tgt := 18) C.1 C.2.1 dX7_isSpelt_49 (by decide) ?_
            exact ih18 v20 _ _ _ (by omega) (by omega) (by omega) M (lv_sub hl [1, 2, 3, 0] rfl)
          ·
            refine lv_iconst (v := 0) C.1 C.2.1 dX7_isSpelt_44 (by decide) ?_
            exact r_PIz C M (z := 0) hr hlk rfl (by omega) (by omega) (by omega) dX7_isSpelt_45
    have cz21 : (0 : Int32).toInt = 0 := rfl
    exact L18 _ 0 _ _ _ (by omega) (by omega) (n_big _) M (lv_sub hl [2, 3, 4, 0] rfl)
  ·
    refine lv_iconst (v := 0) C.1 C.2.1 dX7_isSpelt_13 (by decide) ?_
    exact r_PIz C M (z := 0) hr hlk rfl (by omega) (by omega) (by omega) dX7_isSpelt_14

abbrev md_X7_takeWord : List (Nat × Nat) := [(5, 8)]
set_option maxHeartbeats 4000000 in
set_option maxRecDepth 100000 in
theorem ct_X7_takeWord (l : Launch) (g : Gs) (I : Ms) (J : Js) (a0 : Nat) (a1 : Nat) (h0_ : Is g a0 5) (h1_ : Is g a1 7) : Ctr l yX7_takeWord cX7_takeWord 4 (Option.some (Jvm.ClassFile.FieldType.object "GrowHouse$Deed")) 7 g [.ref a0, .ref a1] I J (PQ g md_X7_takeWord I (fun I1 J1 => J1 = J ∧ (True))) := by
  refine m_start (by decide) (Nat.le_of_ble_eq_true rfl) ?_
  intro p e s m args below meth c C hr hlk M ls hl
  have hl : lv_has ls 4 [(0, .ref a0), (1, .ref a1)] := hl
  have C : CallFix p m c cX7_takeWord 4 s args TB RX7 := C
  have F : Fr g md_X7_takeWord I I := fr_rf
  refine lv_aload_n C.1 C.2.1 dX7_takeWord_0 rfl (lv_at hl 0 rfl) ?_
  refine gi_X7_37 C M h0_ dX7_takeWord_1 (fun v1 kv1 tv1 uv1 => ?_)
  have cv1 : (I a0 7).toInt = v1.toInt := congrArg Int32.toInt kv1
  refine lv_istore_n (lv' := [(2, .int v1), (0, .ref a0), (1, .ref a1)]) C.1 C.2.1 dX7_takeWord_4 rfl hl (by decide) rfl (fun ls hl => ?_)
  have L5 : ∀ (n5 : Nat) (I2 : Ms) (H : Heap) (locs : List Loc) (ls : Array Slot), (I2 a0 7).toInt ≤ 1000 → 1000 - (I2 a0 7).toInt < (n5 : Int) → Fr g md_X7_takeWord I I2 → Mm g s I2 J H locs → lv_has ls 4 [(0, .ref a0), (1, .ref a1), (2, .int v1)] → W p l e (rmL 7) s m args below meth c H locs 0 0 (MQg below g (PQ g md_X7_takeWord I (fun I1 J1 => J1 = J ∧ (True))) args s) (F0 m 5 ls []) := by
    intro n5
    induction n5 with
    | zero =>
      intro I2 H locs ls f3 hm5 F M hl
      exact absurd hm5 (by omega)
    | succ n5 ih5 =>
      intro I2 H locs ls f3 hm5 F M hl
      refine lv_aload_n C.1 C.2.1 dX7_takeWord_5 rfl (lv_at hl 0 rfl) ?_
      refine gi_X7_37 C M h0_ dX7_takeWord_6 (fun v4 kv4 tv4 uv4 => ?_)
      have cv4 : (I2 a0 7).toInt = v4.toInt := congrArg Int32.toInt kv4
      refine lv_aload_n C.1 C.2.1 dX7_takeWord_9 rfl (lv_at hl 1 rfl) ?_
      refine gi_X7_50 C M h1_ dX7_takeWord_10 (fun v5 kv5 tv5 uv5 => ?_)
      have cv5 : (I2 a1 1).toInt = v5.toInt := congrArg Int32.toInt kv5
      have J55 : ∀ (H : Heap) (locs : List Loc) (ls : Array Slot), Mm g s I2 J H locs → lv_has ls 4 [(0, .ref a0), (1, .ref a1), (2, .int v1)] → W p l e (rmL 7) s m args below meth c H locs 0 0 (MQg below g (PQ g md_X7_takeWord I (fun I1 J1 => J1 = J ∧ (True))) args s) (F0 m 55 ls []) := by
        intro H locs ls M hl
        refine lv_iconst (v := 0) C.1 C.2.1 dX7_takeWord_55 (by decide) ?_
        refine lv_istore_n (lv' := [(3, .int 0), (0, .ref a0), (1, .ref a1), (2, .int v1)]) C.1 C.2.1 dX7_takeWord_56 rfl hl (by decide) rfl (fun ls hl => ?_)
        have L57 : ∀ (n57 : Nat) (y6 : Int32) (H : Heap) (locs : List Loc) (ls : Array Slot), 0 ≤ y6.toInt → y6.toInt ≤ 14 → 14 - y6.toInt < (n57 : Int) → Mm g s I2 J H locs → lv_has ls 4 [(0, .ref a0), (1, .ref a1), (2, .int v1), (3, .int y6)] → W p l e (rmL 7) s m args below meth c H locs 0 0 (MQg below g (PQ g md_X7_takeWord I (fun I1 J1 => J1 = J ∧ (True))) args s) (F0 m 57 ls []) := by
          intro n57
          induction n57 with
          | zero =>
            intro y6 H locs ls f7 f8 hm57 M hl
            exact absurd hm57 (by omega)
          | succ n57 ih57 =>
            intro y6 H locs ls f7 f8 hm57 M hl
            refine lv_iload_n C.1 C.2.1 dX7_takeWord_57 rfl (lv_at hl 3 rfl) ?_
            refine s_deeds C M dX7_takeWord_58 ?_
            refine s_dlen C M dX7_takeWord_61 ?_
            refine n_icmp_ge C (tgt := 94) (Y := 14) dX7_takeWord_62 (by decide) rfl rfl (fun q9 => ?_) (fun q9 => ?_)
            ·
              refine lv_null C.1 C.2.1 dX7_takeWord_94 ?_
              exact r_PQ C M hr hlk F (r := none) (Or.inl rfl) ⟨rfl, trivial⟩ dX7_takeWord_95 rfl
            ·
              refine lv_aload_n C.1 C.2.1 dX7_takeWord_65 rfl (lv_at hl 0 rfl) ?_
              refine lv_aload_n C.1 C.2.1 dX7_takeWord_66 rfl (lv_at hl 1 rfl) ?_
              refine lv_iload_n C.1 C.2.1 dX7_takeWord_67 rfl (lv_at hl 2 rfl) ?_
              refine s_deeds C M dX7_takeWord_68 ?_
              refine lv_iload_n C.1 C.2.1 dX7_takeWord_71 rfl (lv_at hl 3 rfl) ?_
              refine s_dget C M rfl (by omega) (by omega) dX7_takeWord_72 ?_
              have hi10 : y6.toInt.toNat < 14 := by omega
              refine s_spell C M hi10 fl_X7_97 dX7_takeWord_73 ?_
              refine k_PI C M h0_ (by decide) rfl (ct_X7_isSpelt l g I2 J a0 a1 v1 (y6.toInt.toNat) h0_ h1_ hi10) (cw_X7_101 C.2.2.2.2 (by decide)) rfl hl.1 rfl (Nat.le_of_ble_eq_true rfl) dX7_takeWord_76 ⟨Nat.le_refl _, Nat.le_refl _⟩ (fun r11 H locs p12r M => ?_)
              have p12 : 0 ≤ r11.toInt ∧ r11.toInt ≤ 1 := p12r
              refine n_if_eq C (tgt := 88) dX7_takeWord_79 (by decide) rfl (fun q13 => ?_) (fun q13 => ?_)
              ·
                refine n_iinc C (k := 3) (N := 1) (lv' := fun v => [(3, .int v), (0, .ref a0), (1, .ref a1), (2, .int v1)]) dX7_takeWord_88 hl rfl (by decide) rfl rfl (by omega) (by omega) (fun _ => rfl) (fun v14 ls ev14 hl => ?_)
                refine lv_goto (tgt := 57) C.1 C.2.1 dX7_takeWord_91 (by decide) ?_
                exact ih57 v14 _ _ _ (by omega) (by omega) (by omega) M (lv_sub hl [1, 2, 3, 0] rfl)
              ·
                refine s_deeds C M dX7_takeWord_82 ?_
                refine lv_iload_n C.1 C.2.1 dX7_takeWord_85 rfl (lv_at hl 3 rfl) ?_
                refine s_dget C M rfl (by omega) (by omega) dX7_takeWord_86 ?_
                have hi15 : y6.toInt.toNat < 14 := by omega
                exact r_PQ C M hr hlk F (r := (some (gDd g y6.toInt.toNat))) (do_d hi15) ⟨rfl, trivial⟩ dX7_takeWord_87 rfl
        have cz16 : (0 : Int32).toInt = 0 := rfl
        exact L57 _ 0 _ _ _ (by omega) (by omega) (n_big _) M (lv_sub hl [1, 2, 3, 0] rfl)
      refine n_icmp_ge C (tgt := 55) dX7_takeWord_13 (by decide) rfl rfl (fun q17 => ?_) (fun q17 => ?_)
      ·
        exact J55 _ _ _ M hl
      ·
        refine lv_aload_n C.1 C.2.1 dX7_takeWord_16 rfl (lv_at hl 1 rfl) ?_
        refine lv_aload_n C.1 C.2.1 dX7_takeWord_17 rfl (lv_at hl 0 rfl) ?_
        refine gk_X7_37 C M h0_ kv4 dX7_takeWord_18 ?_
        have em18 : (I2 a1 1).toInt = v5.toInt := congrArg Int32.toInt kv5
        refine k_PI C M h1_ (by decide) rfl (ct_X9_at l g I2 J a1 v4 h1_) (cw_X7_58 C.2.2.2.2 (by decide)) rfl hl.1 rfl (Nat.le_of_ble_eq_true rfl) dX7_takeWord_21 ⟨Nat.le_refl _, Nat.le_refl _⟩ (fun r19 H locs p20r M => ?_)
        have p20 : r19.toInt = -1 ∨ (v4.toInt < (I2 a1 1).toInt ∧ 0 ≤ r19.toInt) := p20r
        simp only [em18] at p20
        have p20 : r19.toInt = -1 ∨ (v4.toInt < v5.toInt ∧ 0 ≤ r19.toInt) := p20
        refine lv_bipush (v := 97) C.1 C.2.1 dX7_takeWord_24 (by decide) ?_
        refine n_icmp_lt C (tgt := 55) (Y := 97) dX7_takeWord_26 (by decide) rfl rfl (fun q21 => ?_) (fun q21 => ?_)
        ·
          exact J55 _ _ _ M hl
        ·
          refine lv_aload_n C.1 C.2.1 dX7_takeWord_29 rfl (lv_at hl 1 rfl) ?_
          refine lv_aload_n C.1 C.2.1 dX7_takeWord_30 rfl (lv_at hl 0 rfl) ?_
          refine gk_X7_37 C M h0_ kv4 dX7_takeWord_31 ?_
          have em22 : (I2 a1 1).toInt = v5.toInt := congrArg Int32.toInt kv5
          refine k_PI C M h1_ (by decide) rfl (ct_X9_at l g I2 J a1 v4 h1_) (cw_X7_58 C.2.2.2.2 (by decide)) rfl hl.1 rfl (Nat.le_of_ble_eq_true rfl) dX7_takeWord_34 ⟨Nat.le_refl _, Nat.le_refl _⟩ (fun r23 H locs p24r M => ?_)
          have p24 : r23.toInt = -1 ∨ (v4.toInt < (I2 a1 1).toInt ∧ 0 ≤ r23.toInt) := p24r
          simp only [em22] at p24
          have p24 : r23.toInt = -1 ∨ (v4.toInt < v5.toInt ∧ 0 ≤ r23.toInt) := p24
          refine lv_bipush (v := 122) C.1 C.2.1 dX7_takeWord_37 (by decide) ?_
          refine n_icmp_gt C (tgt := 55) (Y := 122) dX7_takeWord_39 (by decide) rfl rfl (fun q25 => ?_) (fun q25 => ?_)
          ·
            exact J55 _ _ _ M hl
          ·
            refine lv_aload_n C.1 C.2.1 dX7_takeWord_42 rfl (lv_at hl 0 rfl) ?_
            refine lv_dup C.1 C.2.1 dX7_takeWord_43 rfl ?_
            refine gk_X7_37 C M h0_ kv4 dX7_takeWord_44 ?_
            refine lv_iconst (v := 1) C.1 C.2.1 dX7_takeWord_47 (by decide) ?_
            refine n_iadd C (Y := 1) dX7_takeWord_48 rfl rfl (by omega) (by omega) (fun v26 ev26 => ?_)
            refine pi_X7_37 C M h0_ dX7_takeWord_49 rfl (by omega) (by omega) (fun H locs I27 k29 f28 M => ?_)
            have F := fr_put F h0_ (Or.inr (by decide)) f28
            refine lv_goto (tgt := 5) C.1 C.2.1 dX7_takeWord_52 (by decide) ?_
            have jc30 : (I27 a0 7).toInt = v26.toInt := congrArg Int32.toInt k29
            exact ih5 I27 _ _ _ (by omega) (by omega) F M hl
  have jc31 : (I a0 7).toInt = v1.toInt := congrArg Int32.toInt kv1
  exact L5 _ I _ _ _ (by omega) (n_big _) F M (lv_sub hl [1, 2, 0] rfl)

abbrev md_X7_addLine : List (Nat × Nat) := [(5, 7)]
set_option maxHeartbeats 4000000 in
set_option maxRecDepth 100000 in
theorem ct_X7_addLine (l : Launch) (g : Gs) (I : Ms) (J : Js) (a0 : Nat) (d1 : Nat) (h0_ : Is g a0 5) (h1_ : d1 < 14) (g0 : DR g J) : Ctr l yX7_addLine cX7_addLine 3 (Option.some Jvm.ClassFile.FieldType.int) 1 g [.ref a0, .ref (gDd g d1)] I J (PM g md_X7_addLine I (fun z I1 J1 => (J1.1 = J.1 ∧ J1.2.2 = J.2.2 ∧ DR g J1) ∧ (0 ≤ z ∧ z ≤ 239))) := by
  refine m_start (by decide) (Nat.le_of_ble_eq_true rfl) ?_
  intro p e s m args below meth c C hr hlk M ls hl
  have hl : lv_has ls 3 [(0, .ref a0), (1, .ref (gDd g d1))] := hl
  have C : CallFix p m c cX7_addLine 3 s args TB RX7 := C
  have F : Fr g md_X7_addLine I I := fr_rf
  have hj2 : J.1 = J.1 ∧ J.2.2 = J.2.2 ∧ DR g J := ⟨rfl, rfl, g0⟩
  have hQ0 := M.2.2.2.2.2.2.2
  refine lv_aload_n C.1 C.2.1 dX7_addLine_0 rfl (lv_at hl 0 rfl) ?_
  refine gi_X7_34 C M h0_ dX7_addLine_1 (fun v1 kv1 tv1 uv1 => ?_)
  refine lv_sipush (v := 240) C.1 C.2.1 dX7_addLine_4 (by decide) ?_
  have J20 : ∀ (w2 : Int32) (H : Heap) (locs : List Loc) (ls : Array Slot), 0 ≤ w2.toInt → w2.toInt ≤ 239 → Mm g s I J H locs → lv_has ls 3 [(0, .ref a0), (1, .ref (gDd g d1))] → W p l e (rmL 1) s m args below meth c H locs 0 0 (MQg below g (PM g md_X7_addLine I (fun z I1 J1 => (J1.1 = J.1 ∧ J1.2.2 = J.2.2 ∧ DR g J1) ∧ (0 ≤ z ∧ z ≤ 239))) args s) (F0 m 20 ls [.int w2]) := by
    intro w2 H locs ls f3 f4 M hl
    refine lv_istore_n (lv' := [(2, .int w2), (0, .ref a0), (1, .ref (gDd g d1))]) C.1 C.2.1 dX7_addLine_20 rfl hl (by decide) rfl (fun ls hl => ?_)
    refine lv_aload_n C.1 C.2.1 dX7_addLine_21 rfl (lv_at hl 1 rfl) ?_
    refine gi_X7_11 C M h0_ dX7_addLine_22 (fun h5 => ?_)
    refine lv_iload_n C.1 C.2.1 dX7_addLine_25 rfl (lv_at hl 0 rfl) ?_
    refine lv_aload_n C.1 C.2.1 dX7_addLine_26 rfl (lv_at hl 2 rfl) ?_
    refine s_dst C M h5 rfl (by omega) (by omega) h1_ dX7_addLine_27 hj2.2.2 (fun H locs J6 eJ6 fJ6 qJ6 M => ?_)
    have hj2 : J6.1 = J.1 ∧ J6.2.2 = J.2.2 ∧ DR g J6 := ⟨eJ6.trans hj2.1, fJ6.trans hj2.2.1, qJ6⟩
    refine lv_aload_n C.1 C.2.1 dX7_addLine_28 rfl (lv_at hl 1 rfl) ?_
    refine lv_iload_n C.1 C.2.1 dX7_addLine_29 rfl (lv_at hl 0 rfl) ?_
    refine lv_iconst (v := 1) C.1 C.2.1 dX7_addLine_30 (by decide) ?_
    refine n_iadd C (Y := 1) dX7_addLine_31 rfl rfl (by omega) (by omega) (fun v7 ev7 => ?_)
    refine pi_X7_34 C M h0_ dX7_addLine_32 rfl (by omega) (by omega) (fun H locs I8 k10 f9 M => ?_)
    have F := fr_put F h0_ (Or.inr (by decide)) f9
    refine lv_iload_n C.1 C.2.1 dX7_addLine_35 rfl (lv_at hl 0 rfl) ?_
    exact r_PM C M hr hlk F rfl ⟨hj2, (by omega)⟩ dX7_addLine_36
  refine n_icmp_ge C (tgt := 17) (Y := 240) dX7_addLine_7 (by decide) rfl rfl (fun q11 => ?_) (fun q11 => ?_)
  ·
    refine lv_sipush (v := 239) C.1 C.2.1 dX7_addLine_17 (by decide) ?_
    have cz12 : (239 : Int32).toInt = 239 := rfl
    exact J20 239 _ _ _ (by omega) (by omega) M hl
  ·
    refine lv_aload_n C.1 C.2.1 dX7_addLine_10 rfl (lv_at hl 0 rfl) ?_
    refine gk_X7_34 C M h0_ kv1 dX7_addLine_11 ?_
    refine lv_goto (tgt := 20) C.1 C.2.1 dX7_addLine_14 (by decide) ?_
    exact J20 v1 _ _ _ (by omega) (by omega) M hl

abbrev md_X7_takeClose : List (Nat × Nat) := [(5, 6), (5, 7), (5, 8), (5, 9), (23, 0)]
set_option maxHeartbeats 4000000 in
set_option maxRecDepth 100000 in
theorem ct_X7_takeClose (l : Launch) (g : Gs) (I : Ms) (J : Js) (a0 : Nat) (a1 : Nat) (h0_ : Is g a0 5) (h1_ : Is g a1 7) (g0 : DR g J) (g1 : (I a0 7).toInt ≤ 264) (g2 : 1 ≤ (I a0 5).toInt) : Ctr l yX7_takeClose cX7_takeClose 4 (Option.none : Option Jvm.ClassFile.FieldType) 4 g [.ref a0, .ref a1] I J (PV g md_X7_takeClose I (fun I1 J1 => (J1.1 = J.1 ∧ J1.2.2 = J.2.2 ∧ DR g J1) ∧ (True))) := by
  refine m_start (by decide) (Nat.le_of_ble_eq_true rfl) ?_
  intro p e s m args below meth c C hr hlk M ls hl
  have hl : lv_has ls 4 [(0, .ref a0), (1, .ref a1)] := hl
  have C : CallFix p m c cX7_takeClose 4 s args TB RX7 := C
  have F : Fr g md_X7_takeClose I I := fr_rf
  have hj2 : J.1 = J.1 ∧ J.2.2 = J.2.2 ∧ DR g J := ⟨rfl, rfl, g0⟩
  have hQ0 := M.2.2.2.2.2.2.2
  obtain ⟨i1, ki1⟩ : ∃ z : Int32, I a0 7 = z := ⟨_, rfl⟩
  have ti1 : 0 ≤ i1.toInt ∧ i1.toInt ≤ 1000 := m_rng M h0_ 7 ki1 rfl
  have ci1 : (I a0 7).toInt = i1.toInt := congrArg Int32.toInt ki1
  obtain ⟨i2, ki2⟩ : ∃ z : Int32, I a0 5 = z := ⟨_, rfl⟩
  have ti2 : 0 ≤ i2.toInt ∧ i2.toInt ≤ 3 := m_rng M h0_ 5 ki2 rfl
  have ci2 : (I a0 5).toInt = i2.toInt := congrArg Int32.toInt ki2
  simp only [ci1, ci2] at g1 g2
  refine lv_aload_n C.1 C.2.1 dX7_takeClose_0 rfl (lv_at hl 0 rfl) ?_
  refine lv_dup C.1 C.2.1 dX7_takeClose_1 rfl ?_
  refine gk_X7_37 C M h0_ ki1 dX7_takeClose_2 ?_
  refine lv_iconst (v := 1) C.1 C.2.1 dX7_takeClose_5 (by decide) ?_
  refine n_iadd C (Y := 1) dX7_takeClose_6 rfl rfl (by omega) (by omega) (fun v3 ev3 => ?_)
  refine pi_X7_37 C M h0_ dX7_takeClose_7 rfl (by omega) (by omega) (fun H locs I4 k6 f5 M => ?_)
  have F := fr_put F h0_ (Or.inr (by decide)) f5
  refine lv_aload_n C.1 C.2.1 dX7_takeClose_10 rfl (lv_at hl 0 rfl) ?_
  refine lv_dup C.1 C.2.1 dX7_takeClose_11 rfl ?_
  refine gk_X7_30 C M h0_ ((f5 a0 5 (Or.inr (by decide))).trans ki2) dX7_takeClose_12 ?_
  refine lv_iconst (v := 1) C.1 C.2.1 dX7_takeClose_15 (by decide) ?_
  refine n_isub C (Y := 1) dX7_takeClose_16 rfl rfl (by omega) (by omega) (fun v7 ev7 => ?_)
  refine pi_X7_30 C M h0_ dX7_takeClose_17 rfl (by omega) (by omega) (fun H locs I8 k10 f9 M => ?_)
  have F := fr_put F h0_ (Or.inr (by decide)) f9
  refine lv_aload_n C.1 C.2.1 dX7_takeClose_20 rfl (lv_at hl 0 rfl) ?_
  refine gi_X7_27 C M h0_ dX7_takeClose_21 (fun h11 => ?_)
  refine lv_aload_n C.1 C.2.1 dX7_takeClose_24 rfl (lv_at hl 0 rfl) ?_
  refine gk_X7_30 C M h0_ k10 dX7_takeClose_25 ?_
  refine a_ld C M h11 (n := 3) rfl rfl rfl (by omega) (by omega) rfl dX7_takeClose_28 (fun v12 kv12 => ?_)
  have tv12 := m_rng M h11 v7.toInt.toNat kv12 rfl
  have tv12 : 0 ≤ v12.toInt ∧ v12.toInt ≤ 239 := tv12
  refine lv_istore_n (lv' := [(2, .int v12), (0, .ref a0), (1, .ref a1)]) C.1 C.2.1 dX7_takeClose_29 rfl hl (by decide) rfl (fun ls hl => ?_)
  refine lv_aload_n C.1 C.2.1 dX7_takeClose_30 rfl (lv_at hl 1 rfl) ?_
  refine gi_X7_34 C M h0_ dX7_takeClose_31 (fun v13 kv13 tv13 uv13 => ?_)
  have cv13 : (I8 a0 6).toInt = v13.toInt := congrArg Int32.toInt kv13
  refine lv_iload_n C.1 C.2.1 dX7_takeClose_34 rfl (lv_at hl 0 rfl) ?_
  refine lv_iconst (v := 1) C.1 C.2.1 dX7_takeClose_35 (by decide) ?_
  refine n_iadd C (Y := 1) dX7_takeClose_36 rfl rfl (by omega) (by omega) (fun v14 ev14 => ?_)
  have J51 : ∀ (H : Heap) (locs : List Loc) (ls : Array Slot), Mm g s I8 J H locs → lv_has ls 4 [(0, .ref a0), (1, .ref a1), (2, .int v12)] → W p l e (rmL 4) s m args below meth c H locs 0 0 (MQg below g (PV g md_X7_takeClose I (fun I1 J1 => (J1.1 = J.1 ∧ J1.2.2 = J.2.2 ∧ DR g J1) ∧ (True))) args s) (F0 m 51 ls []) := by
    intro H locs ls M hl
    refine lv_aload_n C.1 C.2.1 dX7_takeClose_51 rfl (lv_at hl 0 rfl) ?_
    refine lv_iload_n C.1 C.2.1 dX7_takeClose_52 rfl (lv_at hl 2 rfl) ?_
    refine pi_X7_34 C M h0_ dX7_takeClose_53 rfl (by omega) (by omega) (fun H locs I15 k17 f16 M => ?_)
    have F := fr_put F h0_ (Or.inr (by decide)) f16
    refine lv_goto (tgt := 74) C.1 C.2.1 dX7_takeClose_56 (by decide) ?_
    refine lv_aload_n C.1 C.2.1 dX7_takeClose_74 rfl (lv_at hl 0 rfl) ?_
    refine lv_aload_n C.1 C.2.1 dX7_takeClose_75 rfl (lv_at hl 1 rfl) ?_
    refine lv_bipush (v := 59) C.1 C.2.1 dX7_takeClose_76 (by decide) ?_
    refine k_PV C M h0_ (by decide) rfl (ct_X7_takeSign l g I15 J a0 a1 59 h0_ h1_ (by have : (59 : Int32).toInt = 59 := rfl; omega)) (cw_X7_87 C.2.2.2.2 (by decide)) rfl hl.1 rfl (Nat.le_of_ble_eq_true rfl) dX7_takeClose_78 ⟨Nat.le_refl _, Nat.le_refl _⟩ (fun I18 J19 H locs G20 p21r M => ?_)
    obtain ⟨eJ19, p21⟩ : J19 = J ∧ (True) := p21r
    have eJ19 := eJ19.symm
    subst eJ19
    have F := fr_call F G20 (by decide)
    exact r_PV C M hr hlk F ⟨hj2, trivial⟩ dX7_takeClose_81
  refine n_icmp_eq C (tgt := 51) dX7_takeClose_37 (by decide) rfl rfl (fun q22 => ?_) (fun q22 => ?_)
  ·
    exact J51 _ _ _ M (lv_sub hl [1, 2, 0] rfl)
  ·
    refine lv_aload_n C.1 C.2.1 dX7_takeClose_40 rfl (lv_at hl 1 rfl) ?_
    refine gi_X7_17 C M h0_ dX7_takeClose_41 (fun h23 => ?_)
    refine lv_iload_n C.1 C.2.1 dX7_takeClose_44 rfl (lv_at hl 0 rfl) ?_
    refine lv_iconst (v := 3) C.1 C.2.1 dX7_takeClose_45 (by decide) ?_
    refine n_imul C (Y := 3) dX7_takeClose_46 rfl rfl (by omega) (by omega) (fun v24 ev24 => ?_)
    refine a_ld C M h23 (n := 720) rfl rfl rfl (by omega) (by omega) rfl dX7_takeClose_47 (fun v25 kv25 => ?_)
    refine n_if_ne C (tgt := 59) dX7_takeClose_48 (by decide) rfl (fun q26 => ?_) (fun q26 => ?_)
    ·
      refine lv_aload_n C.1 C.2.1 dX7_takeClose_59 rfl (lv_at hl 1 rfl) ?_
      refine s_deed C M (i := 13) (by decide) rfl fl_X7_91 dX7_takeClose_60 ?_
      refine k_PM C M h0_ (by decide) rfl (ct_X7_addLine l g I8 J a0 13 h0_ (by decide : 13 < 14) hj2.2.2) (cw_X7_77 C.2.2.2.2 (by decide)) rfl hl.1 rfl (Nat.le_of_ble_eq_true rfl) dX7_takeClose_63 ⟨Nat.le_refl _, Nat.le_refl _⟩ (fun r31 I27 J28 H locs G29 p30r M => ?_)
      obtain ⟨eJ28, p30⟩ : (J28.1 = J.1 ∧ J28.2.2 = J.2.2 ∧ DR g J28) ∧ (0 ≤ r31.toInt ∧ r31.toInt ≤ 239) := p30r
      have hj2 : J28.1 = J.1 ∧ J28.2.2 = J.2.2 ∧ DR g J28 := ⟨eJ28.1.trans hj2.1, eJ28.2.1.trans hj2.2.1, eJ28.2.2⟩
      have F := fr_call F G29 (by decide)
      refine lv_istore_n (lv' := [(3, .int r31), (2, .int v12), (0, .ref a0), (1, .ref a1)]) C.1 C.2.1 dX7_takeClose_66 rfl hl (by decide) rfl (fun ls hl => ?_)
      refine lv_aload_n C.1 C.2.1 dX7_takeClose_67 rfl (lv_at hl 2 rfl) ?_
      refine gi_X7_21 C M h0_ dX7_takeClose_68 (fun h32 => ?_)
      refine lv_iload_n C.1 C.2.1 dX7_takeClose_71 rfl (lv_at hl 0 rfl) ?_
      refine lv_iload_n C.1 C.2.1 dX7_takeClose_72 rfl (lv_at hl 1 rfl) ?_
      refine a_st C M h32 (n := 240) rfl rfl rfl (by omega) (by omega) rfl rfl (lo := 0) (hi := 239) rfl (by omega) (by omega) dX7_takeClose_73 (fun H locs I33 k35 f34 M => ?_)
      have F := fr_put F h32 (Or.inl (by decide)) f34
      refine lv_aload_n C.1 C.2.1 dX7_takeClose_74 rfl (lv_at hl 2 rfl) ?_
      refine lv_aload_n C.1 C.2.1 dX7_takeClose_75 rfl (lv_at hl 3 rfl) ?_
      refine lv_bipush (v := 59) C.1 C.2.1 dX7_takeClose_76 (by decide) ?_
      refine k_PV C M h0_ (by decide) rfl (ct_X7_takeSign l g I33 J28 a0 a1 59 h0_ h1_ (by have : (59 : Int32).toInt = 59 := rfl; omega)) (cw_X7_87 C.2.2.2.2 (by decide)) rfl hl.1 rfl (Nat.le_of_ble_eq_true rfl) dX7_takeClose_78 ⟨Nat.le_refl _, Nat.le_refl _⟩ (fun I36 J37 H locs G38 p39r M => ?_)
      obtain ⟨eJ37, p39⟩ : J37 = J28 ∧ (True) := p39r
      have eJ37 := eJ37.symm
      subst eJ37
      have F := fr_call F G38 (by decide)
      exact r_PV C M hr hlk F ⟨hj2, trivial⟩ dX7_takeClose_81
    ·
      exact J51 _ _ _ M (lv_sub hl [1, 2, 0] rfl)

abbrev md_X7_takeDeed : List (Nat × Nat) := [(5, 6), (5, 7), (5, 8), (5, 9), (22, 0), (23, 0), (25, 0)]
set_option maxHeartbeats 4000000 in
set_option maxRecDepth 100000 in
theorem ct_X7_takeDeed (l : Launch) (g : Gs) (I : Ms) (J : Js) (a0 : Nat) (a1 : Nat) (h0_ : Is g a0 5) (h1_ : Is g a1 7) (g0 : DR g J) : Ctr l yX7_takeDeed cX7_takeDeed 6 (Option.none : Option Jvm.ClassFile.FieldType) 8 g [.ref a0, .ref a1] I J (PV g md_X7_takeDeed I (fun I1 J1 => (J1.1 = J.1 ∧ J1.2.2 = J.2.2 ∧ DR g J1) ∧ (True))) := by
  refine m_start (by decide) (Nat.le_of_ble_eq_true rfl) ?_
  intro p e s m args below meth c C hr hlk M ls hl
  have hl : lv_has ls 6 [(0, .ref a0), (1, .ref a1)] := hl
  have C : CallFix p m c cX7_takeDeed 6 s args TB RX7 := C
  have F : Fr g md_X7_takeDeed I I := fr_rf
  have hj2 : J.1 = J.1 ∧ J.2.2 = J.2.2 ∧ DR g J := ⟨rfl, rfl, g0⟩
  have hQ0 := M.2.2.2.2.2.2.2
  refine lv_aload_n C.1 C.2.1 dX7_takeDeed_0 rfl (lv_at hl 0 rfl) ?_
  refine gi_X7_30 C M h0_ dX7_takeDeed_1 (fun v1 kv1 tv1 uv1 => ?_)
  have cv1 : (I a0 5).toInt = v1.toInt := congrArg Int32.toInt kv1
  have J26 : ∀ (H : Heap) (locs : List Loc) (ls : Array Slot), Mm g s I J H locs → lv_has ls 6 [(0, .ref a0), (1, .ref a1)] → W p l e (rmL 8) s m args below meth c H locs 0 0 (MQg below g (PV g md_X7_takeDeed I (fun I1 J1 => (J1.1 = J.1 ∧ J1.2.2 = J.2.2 ∧ DR g J1) ∧ (True))) args s) (F0 m 26 ls []) := by
    intro H locs ls M hl
    refine lv_aload_n C.1 C.2.1 dX7_takeDeed_26 rfl (lv_at hl 0 rfl) ?_
    refine gi_X7_37 C M h0_ dX7_takeDeed_27 (fun v2 kv2 tv2 uv2 => ?_)
    have cv2 : (I a0 7).toInt = v2.toInt := congrArg Int32.toInt kv2
    refine lv_istore_n (lv' := [(2, .int v2), (0, .ref a0), (1, .ref a1)]) C.1 C.2.1 dX7_takeDeed_30 rfl hl (by decide) rfl (fun ls hl => ?_)
    refine lv_aload_n C.1 C.2.1 dX7_takeDeed_31 rfl (lv_at hl 1 rfl) ?_
    refine lv_aload_n C.1 C.2.1 dX7_takeDeed_32 rfl (lv_at hl 2 rfl) ?_
    refine k_PQ C M h0_ (by decide) rfl (ct_X7_takeWord l g I J a0 a1 h0_ h1_) (cw_X7_65 C.2.2.2.2 (by decide)) rfl hl.1 rfl (Nat.le_of_ble_eq_true rfl) dX7_takeDeed_33 ⟨Nat.le_refl _, Nat.le_refl _⟩ (fun rq7 I3 J4 H locs hrq7 G5 p6r M => ?_)
    obtain ⟨eJ4, p6⟩ : J4 = J ∧ (True) := p6r
    have eJ4 := eJ4.symm
    subst eJ4
    have F := fr_call F G5 (by decide)
    rcases hrq7 with eq9 | ⟨i8, hi8, eq9⟩
    ·
      subst eq9
      refine lv_astore_nN (lv' := [(3, .null), (2, .int v2), (0, .ref a0), (1, .ref a1)]) C.1 C.2.1 dX7_takeDeed_36 rfl hl (by decide) rfl (fun ls hl => ?_)
      refine lv_aload_nN C.1 C.2.1 dX7_takeDeed_37 rfl (lv_at hl 0 rfl) ?_
      refine lv_ifnonnullN C.1 C.2.1 dX7_takeDeed_38 ?_
      refine lv_aload_n C.1 C.2.1 dX7_takeDeed_41 rfl (lv_at hl 2 rfl) ?_
      refine lv_iload_n C.1 C.2.1 dX7_takeDeed_42 rfl (lv_at hl 1 rfl) ?_
      refine lv_iconst (v := 1) C.1 C.2.1 dX7_takeDeed_43 (by decide) ?_
      refine k_PV C M h0_ (by decide) rfl (ct_X7_blame l g I3 J a0 v2 1 h0_) (cw_X7_69 C.2.2.2.2 (by decide)) rfl hl.1 rfl (Nat.le_of_ble_eq_true rfl) dX7_takeDeed_44 ⟨Nat.le_refl _, Nat.le_refl _⟩ (fun I10 J11 H locs G12 p13r M => ?_)
      obtain ⟨eJ11, p13⟩ : J11 = J ∧ (True) := p13r
      have eJ11 := eJ11.symm
      subst eJ11
      have F := fr_call F G12 (by decide)
      exact r_PV C M hr hlk F ⟨hj2, trivial⟩ dX7_takeDeed_47
    ·
      subst eq9
      refine lv_astore_n (lv' := [(3, .ref (gDd g i8)), (2, .int v2), (0, .ref a0), (1, .ref a1)]) C.1 C.2.1 dX7_takeDeed_36 rfl hl (by decide) rfl (fun ls hl => ?_)
      refine lv_aload_n C.1 C.2.1 dX7_takeDeed_37 rfl (lv_at hl 0 rfl) ?_
      refine lv_ifnonnull (tgt := 48) C.1 C.2.1 dX7_takeDeed_38 (by decide) ?_
      refine lv_aload_n C.1 C.2.1 dX7_takeDeed_48 rfl (lv_at hl 0 rfl) ?_
      refine s_deed C M (i := 12) (by decide) rfl fl_X7_73 dX7_takeDeed_49 ?_
      have J70 : ∀ (H : Heap) (locs : List Loc) (ls : Array Slot), (some (gDd g i8) = some (gDd g 12) → (I3 a0 5).toInt ≤ 2) → Mm g s I3 J H locs → lv_has ls 6 [(0, .ref a0), (1, .ref a1), (3, .ref (gDd g i8))] → W p l e (rmL 8) s m args below meth c H locs 0 0 (MQg below g (PV g md_X7_takeDeed I (fun I1 J1 => (J1.1 = J.1 ∧ J1.2.2 = J.2.2 ∧ DR g J1) ∧ (True))) args s) (F0 m 70 ls []) := by
        intro H locs ls fD M hl
        have cc14 : (I3 a0 5).toInt = v1.toInt := congrArg Int32.toInt ((G5 a0 5 5 h0_ (by decide) (by decide)).trans kv1)
        refine lv_aload_n C.1 C.2.1 dX7_takeDeed_70 rfl (lv_at hl 0 rfl) ?_
        refine lv_aload_n C.1 C.2.1 dX7_takeDeed_71 rfl (lv_at hl 2 rfl) ?_
        refine k_PM C M h0_ (by decide) rfl (ct_X7_addLine l g I3 J a0 i8 h0_ hi8 hj2.2.2) (cw_X7_77 C.2.2.2.2 (by decide)) rfl hl.1 rfl (Nat.le_of_ble_eq_true rfl) dX7_takeDeed_72 ⟨Nat.le_refl _, Nat.le_refl _⟩ (fun r19 I15 J16 H locs G17 p18r M => ?_)
        obtain ⟨eJ16, p18⟩ : (J16.1 = J.1 ∧ J16.2.2 = J.2.2 ∧ DR g J16) ∧ (0 ≤ r19.toInt ∧ r19.toInt ≤ 239) := p18r
        have hj2 : J16.1 = J.1 ∧ J16.2.2 = J.2.2 ∧ DR g J16 := ⟨eJ16.1.trans hj2.1, eJ16.2.1.trans hj2.2.1, eJ16.2.2⟩
        have F := fr_call F G17 (by decide)
        refine lv_istore (lv' := [(4, .int r19), (0, .ref a0), (1, .ref a1), (3, .ref (gDd g i8))]) C.1 C.2.1 dX7_takeDeed_75 hl (by decide) rfl (fun ls hl => ?_)
        refine lv_iconst (v := 0) C.1 C.2.1 dX7_takeDeed_77 (by decide) ?_
        refine lv_istore (lv' := [(5, .int 0), (4, .int r19), (0, .ref a0), (1, .ref a1), (3, .ref (gDd g i8))]) C.1 C.2.1 dX7_takeDeed_78 hl (by decide) rfl (fun ls hl => ?_)
        have L80 : ∀ (n80 : Nat) (y20 : Int32) (I21 : Ms) (H : Heap) (locs : List Loc) (ls : Array Slot), I21 a0 5 = v1 → 0 ≤ y20.toInt → y20.toInt ≤ 3 → 4 - y20.toInt < (n80 : Int) → Fr g md_X7_takeDeed I I21 → Mm g s I21 J16 H locs → lv_has ls 6 [(0, .ref a0), (1, .ref a1), (3, .ref (gDd g i8)), (4, .int r19), (5, .int y20)] → W p l e (rmL 8) s m args below meth c H locs 0 0 (MQg below g (PV g md_X7_takeDeed I (fun I1 J1 => (J1.1 = J.1 ∧ J1.2.2 = J.2.2 ∧ DR g J1) ∧ (True))) args s) (F0 m 80 ls []) := by
          intro n80
          induction n80 with
          | zero =>
            intro y20 I21 H locs ls k22 f23 f24 hm80 F M hl
            exact absurd hm80 (by omega)
          | succ n80 ih80 =>
            intro y20 I21 H locs ls k22 f23 f24 hm80 F M hl
            refine lv_iload C.1 C.2.1 dX7_takeDeed_80 (lv_at hl 4 rfl) ?_
            refine lv_aload_n C.1 C.2.1 dX7_takeDeed_82 rfl (lv_at hl 2 rfl) ?_
            refine s_nums C M hi8 fl_X7_81 dX7_takeDeed_83 (fun v25 tv25 uv25 => ?_)
            refine n_icmp_ge C (tgt := 133) dX7_takeDeed_86 (by decide) rfl rfl (fun q26 => ?_) (fun q26 => ?_)
            ·
              refine lv_aload_n C.1 C.2.1 dX7_takeDeed_133 rfl (lv_at hl 0 rfl) ?_
              refine lv_aload_n C.1 C.2.1 dX7_takeDeed_134 rfl (lv_at hl 1 rfl) ?_
              refine lv_aload_n C.1 C.2.1 dX7_takeDeed_135 rfl (lv_at hl 2 rfl) ?_
              refine s_deed C M (i := 12) (by decide) rfl fl_X7_73 dX7_takeDeed_136 ?_
              have J149 : ∀ (w27 : Int32) (H : Heap) (locs : List Loc) (ls : Array Slot), 59 ≤ w27.toInt → w27.toInt ≤ 91 → Mm g s I21 J16 H locs → lv_has ls 6 [(0, .ref a0), (3, .ref (gDd g i8)), (4, .int r19)] → W p l e (rmL 8) s m args below meth c H locs 0 0 (MQg below g (PV g md_X7_takeDeed I (fun I1 J1 => (J1.1 = J.1 ∧ J1.2.2 = J.2.2 ∧ DR g J1) ∧ (True))) args s) (F0 m 149 ls [.int w27, .ref a1, .ref a0]) := by
                intro w27 H locs ls f28 f29 M hl
                refine k_PV C M h0_ (by decide) rfl (ct_X7_takeSign l g I21 J16 a0 a1 w27 h0_ h1_ (by omega)) (cw_X7_87 C.2.2.2.2 (by decide)) rfl hl.1 rfl (Nat.le_of_ble_eq_true rfl) dX7_takeDeed_149 ⟨Nat.le_refl _, Nat.le_refl _⟩ (fun I30 J31 H locs G32 p33r M => ?_)
                obtain ⟨eJ31, p33⟩ : J31 = J16 ∧ (True) := p33r
                have eJ31 := eJ31.symm
                subst eJ31
                have F := fr_call F G32 (by decide)
                refine lv_aload_n C.1 C.2.1 dX7_takeDeed_152 rfl (lv_at hl 1 rfl) ?_
                refine s_deed C M (i := 12) (by decide) rfl fl_X7_73 dX7_takeDeed_153 ?_
                refine lv_acmp_ne (rx := (some (gDd g i8))) (ry := (some (gDd g 12))) (tgt := 180) C.1 C.2.1 dX7_takeDeed_156 (by decide) (fun q34 => ?_) (fun q34 => ?_)
                ·
                  exact r_PV C M hr hlk F ⟨hj2, trivial⟩ dX7_takeDeed_180
                ·
                  have dp := fD q34
                  refine lv_aload_n C.1 C.2.1 dX7_takeDeed_159 rfl (lv_at hl 0 rfl) ?_
                  refine gi_X7_27 C M h0_ dX7_takeDeed_160 (fun h35 => ?_)
                  refine lv_aload_n C.1 C.2.1 dX7_takeDeed_163 rfl (lv_at hl 0 rfl) ?_
                  refine gk_X7_30 C M h0_ ((G32 a0 5 5 h0_ (by decide) (by decide)).trans k22) dX7_takeDeed_164 ?_
                  refine lv_iload C.1 C.2.1 dX7_takeDeed_167 (lv_at hl 2 rfl) ?_
                  refine a_st C M h35 (n := 3) rfl rfl rfl (by omega) (by omega) rfl rfl (lo := 0) (hi := 239) rfl (by omega) (by omega) dX7_takeDeed_169 (fun H locs I36 k38 f37 M => ?_)
                  have F := fr_put F h35 (Or.inl (by decide)) f37
                  refine lv_aload_n C.1 C.2.1 dX7_takeDeed_170 rfl (lv_at hl 0 rfl) ?_
                  refine lv_dup C.1 C.2.1 dX7_takeDeed_171 rfl ?_
                  refine gk_X7_30 C M h0_ ((f37 a0 5 (Or.inl (is_ne h35 h0_ (by decide)))).trans ((G32 a0 5 5 h0_ (by decide) (by decide)).trans k22)) dX7_takeDeed_172 ?_
                  refine lv_iconst (v := 1) C.1 C.2.1 dX7_takeDeed_175 (by decide) ?_
                  refine n_iadd C (Y := 1) dX7_takeDeed_176 rfl rfl (by omega) (by omega) (fun v39 ev39 => ?_)
                  refine pi_X7_30 C M h0_ dX7_takeDeed_177 rfl (by omega) (by omega) (fun H locs I40 k42 f41 M => ?_)
                  have F := fr_put F h0_ (Or.inr (by decide)) f41
                  exact r_PV C M hr hlk F ⟨hj2, trivial⟩ dX7_takeDeed_180
              refine lv_acmp_ne (rx := (some (gDd g i8))) (ry := (some (gDd g 12))) (tgt := 147) C.1 C.2.1 dX7_takeDeed_139 (by decide) (fun q43 => ?_) (fun q43 => ?_)
              ·
                refine lv_bipush (v := 59) C.1 C.2.1 dX7_takeDeed_147 (by decide) ?_
                have cz44 : (59 : Int32).toInt = 59 := rfl
                exact J149 59 _ _ _ (by omega) (by omega) M (lv_sub hl [0, 2, 3] rfl)
              ·
                refine lv_bipush (v := 91) C.1 C.2.1 dX7_takeDeed_142 (by decide) ?_
                refine lv_goto (tgt := 149) C.1 C.2.1 dX7_takeDeed_144 (by decide) ?_
                have cz45 : (91 : Int32).toInt = 91 := rfl
                exact J149 91 _ _ _ (by omega) (by omega) M (lv_sub hl [0, 2, 3] rfl)
            ·
              refine lv_iload C.1 C.2.1 dX7_takeDeed_89 (lv_at hl 4 rfl) ?_
              refine lv_iconst (v := 3) C.1 C.2.1 dX7_takeDeed_91 (by decide) ?_
              refine n_icmp_ge C (tgt := 133) (Y := 3) dX7_takeDeed_92 (by decide) rfl rfl (fun q46 => ?_) (fun q46 => ?_)
              ·
                exact absurd q46 (by omega)
              ·
                refine lv_aload_n C.1 C.2.1 dX7_takeDeed_95 rfl (lv_at hl 0 rfl) ?_
                refine gi_X7_17 C M h0_ dX7_takeDeed_96 (fun h47 => ?_)
                refine lv_iload C.1 C.2.1 dX7_takeDeed_99 (lv_at hl 3 rfl) ?_
                refine lv_iconst (v := 3) C.1 C.2.1 dX7_takeDeed_101 (by decide) ?_
                refine n_imul C (Y := 3) dX7_takeDeed_102 rfl rfl (by omega) (by omega) (fun v48 ev48 => ?_)
                refine lv_iload C.1 C.2.1 dX7_takeDeed_103 (lv_at hl 4 rfl) ?_
                refine n_iadd C dX7_takeDeed_105 rfl rfl (by omega) (by omega) (fun v49 ev49 => ?_)
                refine lv_aload_n C.1 C.2.1 dX7_takeDeed_106 rfl (lv_at hl 0 rfl) ?_
                refine lv_aload_n C.1 C.2.1 dX7_takeDeed_107 rfl (lv_at hl 1 rfl) ?_
                refine lv_aload_n C.1 C.2.1 dX7_takeDeed_108 rfl (lv_at hl 2 rfl) ?_
                refine s_deed C M (i := 12) (by decide) rfl fl_X7_73 dX7_takeDeed_109 ?_
                refine lv_acmp_ne (rx := (some (gDd g i8))) (ry := (some (gDd g 12))) (tgt := 120) C.1 C.2.1 dX7_takeDeed_112 (by decide) (fun q50 => ?_) (fun q50 => ?_)
                ·
                  refine lv_sipush (v := 9999) C.1 C.2.1 dX7_takeDeed_120 (by decide) ?_
                  refine k_PM C M h0_ (by decide) rfl (ct_X7_takeNumber l g I21 J16 a0 a1 9999 h0_ h1_) (cw_X7_83 C.2.2.2.2 (by decide)) rfl hl.1 rfl (Nat.le_of_ble_eq_true rfl) dX7_takeDeed_123 ⟨Nat.le_refl _, Nat.le_refl _⟩ (fun r55 I51 J52 H locs G53 p54r M => ?_)
                  obtain ⟨eJ52, p54⟩ : J52 = J16 ∧ (True) := p54r
                  have eJ52 := eJ52.symm
                  subst eJ52
                  have F := fr_call F G53 (by decide)
                  refine a_stU C M h47 (n := 720) rfl rfl rfl (by omega) (by omega) rfl rfl dX7_takeDeed_126 (fun H locs I56 k58 f57 M => ?_)
                  have F := fr_put F h47 (Or.inl (by decide)) f57
                  refine n_iinc C (k := 4) (N := 1) (lv' := fun v => [(5, .int v), (0, .ref a0), (1, .ref a1), (3, .ref (gDd g i8)), (4, .int r19)]) dX7_takeDeed_127 hl rfl (by decide) rfl rfl (by omega) (by omega) (fun _ => rfl) (fun v59 ls ev59 hl => ?_)
                  refine lv_goto (tgt := 80) C.1 C.2.1 dX7_takeDeed_130 (by decide) ?_
                  exact ih80 v59 I56 _ _ _ ((f57 a0 5 (Or.inl (is_ne h47 h0_ (by decide)))).trans ((G53 a0 5 5 h0_ (by decide) (by decide)).trans k22)) (by omega) (by omega) (by omega) F M (lv_sub hl [1, 2, 3, 4, 0] rfl)
                ·
                  refine lv_bipush (v := 20) C.1 C.2.1 dX7_takeDeed_115 (by decide) ?_
                  refine lv_goto (tgt := 123) C.1 C.2.1 dX7_takeDeed_117 (by decide) ?_
                  refine k_PM C M h0_ (by decide) rfl (ct_X7_takeNumber l g I21 J16 a0 a1 20 h0_ h1_) (cw_X7_83 C.2.2.2.2 (by decide)) rfl hl.1 rfl (Nat.le_of_ble_eq_true rfl) dX7_takeDeed_123 ⟨Nat.le_refl _, Nat.le_refl _⟩ (fun r64 I60 J61 H locs G62 p63r M => ?_)
                  obtain ⟨eJ61, p63⟩ : J61 = J16 ∧ (True) := p63r
                  have eJ61 := eJ61.symm
                  subst eJ61
                  have F := fr_call F G62 (by decide)
                  refine a_stU C M h47 (n := 720) rfl rfl rfl (by omega) (by omega) rfl rfl dX7_takeDeed_126 (fun H locs I65 k67 f66 M => ?_)
                  have F := fr_put F h47 (Or.inl (by decide)) f66
                  refine n_iinc C (k := 4) (N := 1) (lv' := fun v => [(5, .int v), (0, .ref a0), (1, .ref a1), (3, .ref (gDd g i8)), (4, .int r19)]) dX7_takeDeed_127 hl rfl (by decide) rfl rfl (by omega) (by omega) (fun _ => rfl) (fun v68 ls ev68 hl => ?_)
                  refine lv_goto (tgt := 80) C.1 C.2.1 dX7_takeDeed_130 (by decide) ?_
                  exact ih80 v68 I65 _ _ _ ((f66 a0 5 (Or.inl (is_ne h47 h0_ (by decide)))).trans ((G62 a0 5 5 h0_ (by decide) (by decide)).trans k22)) (by omega) (by omega) (by omega) F M (lv_sub hl [1, 2, 3, 4, 0] rfl)
        have cz69 : (0 : Int32).toInt = 0 := rfl
        exact L80 _ 0 I15 _ _ _ ((G17 a0 5 5 h0_ (by decide) (by decide)).trans ((G5 a0 5 5 h0_ (by decide) (by decide)).trans kv1)) (by omega) (by omega) (n_big _) F M (lv_sub hl [2, 3, 4, 1, 0] rfl)
      refine lv_acmp_ne (rx := (some (gDd g i8))) (ry := (some (gDd g 12))) (tgt := 70) C.1 C.2.1 dX7_takeDeed_52 (by decide) (fun q70 => ?_) (fun q70 => ?_)
      ·
        have jc71 : (I3 a0 5).toInt = v1.toInt := congrArg Int32.toInt ((G5 a0 5 5 h0_ (by decide) (by decide)).trans kv1)
        exact J70 _ _ _ (by first | exact fun h9 => absurd h9 q70 | (intro _; omega)) M (lv_sub hl [2, 3, 0] rfl)
      ·
        refine lv_aload_n C.1 C.2.1 dX7_takeDeed_55 rfl (lv_at hl 2 rfl) ?_
        refine gk_X7_30 C M h0_ ((G5 a0 5 5 h0_ (by decide) (by decide)).trans kv1) dX7_takeDeed_56 ?_
        refine lv_iconst (v := 3) C.1 C.2.1 dX7_takeDeed_59 (by decide) ?_
        refine n_icmp_lt C (tgt := 70) (Y := 3) dX7_takeDeed_60 (by decide) rfl rfl (fun q72 => ?_) (fun q72 => ?_)
        ·
          have jc73 : (I3 a0 5).toInt = v1.toInt := congrArg Int32.toInt ((G5 a0 5 5 h0_ (by decide) (by decide)).trans kv1)
          exact J70 _ _ _ (by first | exact fun h9 => absurd h9 q70 | (intro _; omega)) M (lv_sub hl [2, 3, 0] rfl)
        ·
          refine lv_aload_n C.1 C.2.1 dX7_takeDeed_63 rfl (lv_at hl 2 rfl) ?_
          refine lv_iload_n C.1 C.2.1 dX7_takeDeed_64 rfl (lv_at hl 1 rfl) ?_
          refine lv_iconst (v := 3) C.1 C.2.1 dX7_takeDeed_65 (by decide) ?_
          refine k_PV C M h0_ (by decide) rfl (ct_X7_blame l g I3 J a0 v2 3 h0_) (cw_X7_69 C.2.2.2.2 (by decide)) rfl hl.1 rfl (Nat.le_of_ble_eq_true rfl) dX7_takeDeed_66 ⟨Nat.le_refl _, Nat.le_refl _⟩ (fun I74 J75 H locs G76 p77r M => ?_)
          obtain ⟨eJ75, p77⟩ : J75 = J ∧ (True) := p77r
          have eJ75 := eJ75.symm
          subst eJ75
          have F := fr_call F G76 (by decide)
          exact r_PV C M hr hlk F ⟨hj2, trivial⟩ dX7_takeDeed_69
  refine n_if_le C (tgt := 26) dX7_takeDeed_4 (by decide) rfl (fun q78 => ?_) (fun q78 => ?_)
  ·
    exact J26 _ _ _ M hl
  ·
    refine lv_aload_n C.1 C.2.1 dX7_takeDeed_7 rfl (lv_at hl 1 rfl) ?_
    refine lv_aload_n C.1 C.2.1 dX7_takeDeed_8 rfl (lv_at hl 0 rfl) ?_
    refine gi_X7_37 C M h0_ dX7_takeDeed_9 (fun v79 kv79 tv79 uv79 => ?_)
    have cv79 : (I a0 7).toInt = v79.toInt := congrArg Int32.toInt kv79
    obtain ⟨u80, ku80⟩ : ∃ z : Int32, I a1 1 = z := ⟨_, rfl⟩
    have tu80 : 0 ≤ u80.toInt ∧ u80.toInt ≤ 264 := m_rng M h1_ 1 ku80 rfl
    have em81 : (I a1 1).toInt = u80.toInt := congrArg Int32.toInt ku80
    refine k_PI C M h1_ (by decide) rfl (ct_X9_at l g I J a1 v79 h1_) (cw_X7_58 C.2.2.2.2 (by decide)) rfl hl.1 rfl (Nat.le_of_ble_eq_true rfl) dX7_takeDeed_12 ⟨Nat.le_refl _, Nat.le_refl _⟩ (fun r82 H locs p83r M => ?_)
    have p83 : r82.toInt = -1 ∨ (v79.toInt < (I a1 1).toInt ∧ 0 ≤ r82.toInt) := p83r
    simp only [em81] at p83
    have p83 : r82.toInt = -1 ∨ (v79.toInt < u80.toInt ∧ 0 ≤ r82.toInt) := p83
    refine lv_bipush (v := 93) C.1 C.2.1 dX7_takeDeed_15 (by decide) ?_
    refine n_icmp_ne C (tgt := 26) (Y := 93) dX7_takeDeed_17 (by decide) rfl rfl (fun q84 => ?_) (fun q84 => ?_)
    ·
      exact J26 _ _ _ M hl
    ·
      refine lv_aload_n C.1 C.2.1 dX7_takeDeed_20 rfl (lv_at hl 0 rfl) ?_
      refine lv_aload_n C.1 C.2.1 dX7_takeDeed_21 rfl (lv_at hl 1 rfl) ?_
      have em85 : (I a0 7).toInt = v79.toInt := congrArg Int32.toInt kv79
      have em86 : (I a0 5).toInt = v1.toInt := congrArg Int32.toInt kv1
      refine k_PV C M h0_ (by decide) rfl (ct_X7_takeClose l g I J a0 a1 h0_ h1_ hj2.2.2 (by simp only [em85, em86]; first | assumption | omega) (by simp only [em85, em86]; first | assumption | omega)) (cw_X7_62 C.2.2.2.2 (by decide)) rfl hl.1 rfl (Nat.le_of_ble_eq_true rfl) dX7_takeDeed_22 ⟨Nat.le_refl _, Nat.le_refl _⟩ (fun I87 J88 H locs G89 p90r M => ?_)
      obtain ⟨eJ88, p90⟩ : (J88.1 = J.1 ∧ J88.2.2 = J.2.2 ∧ DR g J88) ∧ (True) := p90r
      have hj2 : J88.1 = J.1 ∧ J88.2.2 = J.2.2 ∧ DR g J88 := ⟨eJ88.1.trans hj2.1, eJ88.2.1.trans hj2.2.1, eJ88.2.2⟩
      have F := fr_call F G89 (by decide)
      exact r_PV C M hr hlk F ⟨hj2, trivial⟩ dX7_takeDeed_25

abbrev md_X7_nextDeed : List (Nat × Nat) := [(5, 10), (24, 0)]
set_option maxHeartbeats 4000000 in
set_option maxRecDepth 100000 in
theorem ct_X7_nextDeed (l : Launch) (g : Gs) (I : Ms) (J : Js) (a0 : Nat) (h0_ : Is g a0 5) (g0 : DR g J) : Ctr l yX7_nextDeed cX7_nextDeed 2 (Option.some (Jvm.ClassFile.FieldType.object "GrowHouse$Deed")) 2 g [.ref a0] I J (PQ g md_X7_nextDeed I (fun I1 J1 => J1 = J ∧ (True))) := by
  refine m_start (by decide) (Nat.le_of_ble_eq_true rfl) ?_
  intro p e s m args below meth c C hr hlk M ls hl
  have hl : lv_has ls 2 [(0, .ref a0)] := hl
  have C : CallFix p m c cX7_nextDeed 2 s args TB RX7 := C
  have F : Fr g md_X7_nextDeed I I := fr_rf
  refine lv_iconst (v := 0) C.1 C.2.1 dX7_nextDeed_0 (by decide) ?_
  refine lv_istore_n (lv' := [(1, .int 0), (0, .ref a0)]) C.1 C.2.1 dX7_nextDeed_1 rfl hl (by decide) rfl (fun ls hl => ?_)
  have L2 : ∀ (n2 : Nat) (y1 : Int32) (I2 : Ms) (H : Heap) (locs : List Loc) (ls : Array Slot), 0 ≤ y1.toInt → y1.toInt ≤ 240 → 241 - y1.toInt < (n2 : Int) → Fr g md_X7_nextDeed I I2 → Mm g s I2 J H locs → lv_has ls 2 [(0, .ref a0), (1, .int y1)] → W p l e (rmL 2) s m args below meth c H locs 0 0 (MQg below g (PQ g md_X7_nextDeed I (fun I1 J1 => J1 = J ∧ (True))) args s) (F0 m 2 ls []) := by
    intro n2
    induction n2 with
    | zero =>
      intro y1 I2 H locs ls f3 f4 hm2 F M hl
      exact absurd hm2 (by omega)
    | succ n2 ih2 =>
      intro y1 I2 H locs ls f3 f4 hm2 F M hl
      refine lv_iload_n C.1 C.2.1 dX7_nextDeed_2 rfl (lv_at hl 1 rfl) ?_
      refine lv_sipush (v := 240) C.1 C.2.1 dX7_nextDeed_3 (by decide) ?_
      refine n_icmp_ge C (tgt := 115) (Y := 240) dX7_nextDeed_6 (by decide) rfl rfl (fun q5 => ?_) (fun q5 => ?_)
      ·
        refine lv_null C.1 C.2.1 dX7_nextDeed_115 ?_
        exact r_PQ C M hr hlk F (r := none) (Or.inl rfl) ⟨rfl, trivial⟩ dX7_nextDeed_116 rfl
      ·
        refine lv_aload_n C.1 C.2.1 dX7_nextDeed_9 rfl (lv_at hl 0 rfl) ?_
        refine lv_dup C.1 C.2.1 dX7_nextDeed_10 rfl ?_
        refine gi_X7_43 C M h0_ dX7_nextDeed_11 (fun v6 kv6 => ?_)
        have cv6 : (I2 a0 9).toInt = v6.toInt := congrArg Int32.toInt kv6
        refine lv_iconst (v := 1) C.1 C.2.1 dX7_nextDeed_14 (by decide) ?_
        refine n_iaddU C dX7_nextDeed_15 (fun v7 => ?_)
        refine pi_X7_43 C M h0_ dX7_nextDeed_16 (fun H locs I8 k10 f9 M => ?_)
        have F := fr_put F h0_ (Or.inr (by decide)) f9
        refine lv_aload_n C.1 C.2.1 dX7_nextDeed_19 rfl (lv_at hl 0 rfl) ?_
        refine gk_X7_43 C M h0_ k10 dX7_nextDeed_20 ?_
        refine n_if_lt C (tgt := 37) dX7_nextDeed_23 (by decide) rfl (fun q11 => ?_) (fun q11 => ?_)
        ·
          refine lv_null C.1 C.2.1 dX7_nextDeed_37 ?_
          exact r_PQ C M hr hlk F (r := none) (Or.inl rfl) ⟨rfl, trivial⟩ dX7_nextDeed_38 rfl
        ·
          refine lv_aload_n C.1 C.2.1 dX7_nextDeed_26 rfl (lv_at hl 0 rfl) ?_
          refine gk_X7_43 C M h0_ k10 dX7_nextDeed_27 ?_
          refine lv_aload_n C.1 C.2.1 dX7_nextDeed_30 rfl (lv_at hl 0 rfl) ?_
          refine gi_X7_34 C M h0_ dX7_nextDeed_31 (fun v12 kv12 tv12 uv12 => ?_)
          have cv12 : (I8 a0 6).toInt = v12.toInt := congrArg Int32.toInt kv12
          refine n_icmp_lt C (tgt := 39) dX7_nextDeed_34 (by decide) rfl rfl (fun q13 => ?_) (fun q13 => ?_)
          ·
            refine lv_aload_n C.1 C.2.1 dX7_nextDeed_39 rfl (lv_at hl 0 rfl) ?_
            refine gi_X7_11 C M h0_ dX7_nextDeed_40 (fun h14 => ?_)
            refine lv_aload_n C.1 C.2.1 dX7_nextDeed_43 rfl (lv_at hl 0 rfl) ?_
            refine gk_X7_43 C M h0_ k10 dX7_nextDeed_44 ?_
            refine s_dld C M h14 rfl (by omega) (by omega) dX7_nextDeed_47 (fun rq15 krq15 => ?_)
            have hrq15 : DO g rq15 := krq15 ▸ g0 _ _ h14
            refine s_deed C M (i := 12) (by decide) rfl fl_X7_73 dX7_nextDeed_48 ?_
            refine lv_acmp_ne (rx := rq15) (ry := (some (gDd g 12))) (tgt := 77) C.1 C.2.1 dX7_nextDeed_51 (by decide) (fun q16 => ?_) (fun q16 => ?_)
            ·
              refine lv_aload_n C.1 C.2.1 dX7_nextDeed_77 rfl (lv_at hl 0 rfl) ?_
              refine gi_X7_11 C M h0_ dX7_nextDeed_78 (fun h17 => ?_)
              refine lv_aload_n C.1 C.2.1 dX7_nextDeed_81 rfl (lv_at hl 0 rfl) ?_
              refine gk_X7_43 C M h0_ k10 dX7_nextDeed_82 ?_
              refine s_dld C M h14 rfl (by omega) (by omega) dX7_nextDeed_85 (fun rq18 krq18 => ?_)
              have hrq18 : DO g rq18 := krq18 ▸ g0 _ _ h14
              refine s_deed C M (i := 13) (by decide) rfl fl_X7_91 dX7_nextDeed_86 ?_
              refine lv_acmp_ne (rx := rq18) (ry := (some (gDd g 13))) (tgt := 99) C.1 C.2.1 dX7_nextDeed_89 (by decide) (fun q19 => ?_) (fun q19 => ?_)
              ·
                refine lv_aload_n C.1 C.2.1 dX7_nextDeed_99 rfl (lv_at hl 0 rfl) ?_
                refine gi_X7_11 C M h0_ dX7_nextDeed_100 (fun h20 => ?_)
                refine lv_aload_n C.1 C.2.1 dX7_nextDeed_103 rfl (lv_at hl 0 rfl) ?_
                refine gk_X7_43 C M h0_ k10 dX7_nextDeed_104 ?_
                refine s_dld C M h14 rfl (by omega) (by omega) dX7_nextDeed_107 (fun rq21 krq21 => ?_)
                have hrq21 : DO g rq21 := krq21 ▸ g0 _ _ h14
                exact r_PQ C M hr hlk F (r := rq21) hrq21 ⟨rfl, trivial⟩ dX7_nextDeed_108 rfl
              ·
                refine lv_aload_n C.1 C.2.1 dX7_nextDeed_92 rfl (lv_at hl 0 rfl) ?_
                have em22 : (I8 a0 9).toInt = v7.toInt := congrArg Int32.toInt k10
                refine k_PV C M h0_ (by decide) rfl (ct_X7_endRound l g I8 J a0 h0_ (by simp only [em22]; first | assumption | omega) (by simp only [em22]; first | assumption | omega)) (cw_X7_114 C.2.2.2.2 (by decide)) rfl hl.1 rfl (Nat.le_of_ble_eq_true rfl) dX7_nextDeed_93 ⟨Nat.le_refl _, Nat.le_refl _⟩ (fun I23 J24 H locs G25 p26r M => ?_)
                obtain ⟨eJ24, p26⟩ : J24 = J ∧ (True) := p26r
                have eJ24 := eJ24.symm
                subst eJ24
                have F := fr_call F G25 (by decide)
                refine lv_goto (tgt := 109) C.1 C.2.1 dX7_nextDeed_96 (by decide) ?_
                refine n_iinc C (k := 1) (N := 1) (lv' := fun v => [(1, .int v), (0, .ref a0)]) dX7_nextDeed_109 hl rfl (by decide) rfl rfl (by omega) (by omega) (fun _ => rfl) (fun v27 ls ev27 hl => ?_)
                refine lv_goto (tgt := 2) C.1 C.2.1 dX7_nextDeed_112 (by decide) ?_
                exact ih2 v27 I23 _ _ _ (by omega) (by omega) (by omega) F M (lv_sub hl [1, 0] rfl)
            ·
              refine lv_aload_n C.1 C.2.1 dX7_nextDeed_54 rfl (lv_at hl 0 rfl) ?_
              refine gi_X7_24 C M h0_ dX7_nextDeed_55 (fun h28 => ?_)
              refine lv_aload_n C.1 C.2.1 dX7_nextDeed_58 rfl (lv_at hl 0 rfl) ?_
              refine gk_X7_43 C M h0_ k10 dX7_nextDeed_59 ?_
              refine lv_aload_n C.1 C.2.1 dX7_nextDeed_62 rfl (lv_at hl 0 rfl) ?_
              refine gi_X7_17 C M h0_ dX7_nextDeed_63 (fun h29 => ?_)
              refine lv_aload_n C.1 C.2.1 dX7_nextDeed_66 rfl (lv_at hl 0 rfl) ?_
              refine gk_X7_43 C M h0_ k10 dX7_nextDeed_67 ?_
              refine lv_iconst (v := 3) C.1 C.2.1 dX7_nextDeed_70 (by decide) ?_
              refine n_imul C (Y := 3) dX7_nextDeed_71 rfl rfl (by omega) (by omega) (fun v30 ev30 => ?_)
              refine a_ld C M h29 (n := 720) rfl rfl rfl (by omega) (by omega) rfl dX7_nextDeed_72 (fun v31 kv31 => ?_)
              refine a_stU C M h28 (n := 240) rfl rfl rfl (by omega) (by omega) rfl rfl dX7_nextDeed_73 (fun H locs I32 k34 f33 M => ?_)
              have F := fr_put F h28 (Or.inl (by decide)) f33
              refine lv_goto (tgt := 109) C.1 C.2.1 dX7_nextDeed_74 (by decide) ?_
              refine n_iinc C (k := 1) (N := 1) (lv' := fun v => [(1, .int v), (0, .ref a0)]) dX7_nextDeed_109 hl rfl (by decide) rfl rfl (by omega) (by omega) (fun _ => rfl) (fun v35 ls ev35 hl => ?_)
              refine lv_goto (tgt := 2) C.1 C.2.1 dX7_nextDeed_112 (by decide) ?_
              exact ih2 v35 I32 _ _ _ (by omega) (by omega) (by omega) F M (lv_sub hl [1, 0] rfl)
          ·
            refine lv_null C.1 C.2.1 dX7_nextDeed_37 ?_
            exact r_PQ C M hr hlk F (r := none) (Or.inl rfl) ⟨rfl, trivial⟩ dX7_nextDeed_38 rfl
  have cz36 : (0 : Int32).toInt = 0 := rfl
  exact L2 _ 0 I _ _ _ (by omega) (by omega) (n_big _) F M (lv_sub hl [1, 0] rfl)

abbrev md_X7_compile : List (Nat × Nat) := [(5, 6), (5, 7), (5, 8), (5, 9), (5, 10), (22, 0), (23, 0), (25, 0)]
set_option maxHeartbeats 4000000 in
set_option maxRecDepth 100000 in
theorem ct_X7_compile (l : Launch) (g : Gs) (I : Ms) (J : Js) (a0 : Nat) (a1 : Nat) (h0_ : Is g a0 5) (h1_ : Is g a1 7) (g0 : DR g J) : Ctr l yX7_compile cX7_compile 3 (Option.none : Option Jvm.ClassFile.FieldType) 9 g [.ref a0, .ref a1] I J (PV g md_X7_compile I (fun I1 J1 => (J1.1 = J.1 ∧ J1.2.2 = J.2.2 ∧ DR g J1) ∧ (True))) := by
  refine m_start (by decide) (Nat.le_of_ble_eq_true rfl) ?_
  intro p e s m args below meth c C hr hlk M ls hl
  have hl : lv_has ls 3 [(0, .ref a0), (1, .ref a1)] := hl
  have C : CallFix p m c cX7_compile 3 s args TB RX7 := C
  have F : Fr g md_X7_compile I I := fr_rf
  have hj2 : J.1 = J.1 ∧ J.2.2 = J.2.2 ∧ DR g J := ⟨rfl, rfl, g0⟩
  have hQ0 := M.2.2.2.2.2.2.2
  refine lv_aload_n C.1 C.2.1 dX7_compile_0 rfl (lv_at hl 0 rfl) ?_
  refine lv_iconst (v := 0) C.1 C.2.1 dX7_compile_1 (by decide) ?_
  refine pi_X7_30 C M (X := 0) h0_ dX7_compile_2 rfl (by omega) (by omega) (fun H locs I1 k3 f2 M => ?_)
  have F := fr_put F h0_ (Or.inr (by decide)) f2
  refine lv_aload_n C.1 C.2.1 dX7_compile_5 rfl (lv_at hl 0 rfl) ?_
  refine lv_iconst (v := 0) C.1 C.2.1 dX7_compile_6 (by decide) ?_
  refine pi_X7_34 C M (X := 0) h0_ dX7_compile_7 rfl (by omega) (by omega) (fun H locs I4 k6 f5 M => ?_)
  have F := fr_put F h0_ (Or.inr (by decide)) f5
  refine lv_aload_n C.1 C.2.1 dX7_compile_10 rfl (lv_at hl 0 rfl) ?_
  refine lv_iconst (v := 0) C.1 C.2.1 dX7_compile_11 (by decide) ?_
  refine pi_X7_37 C M (X := 0) h0_ dX7_compile_12 rfl (by omega) (by omega) (fun H locs I7 k9 f8 M => ?_)
  have F := fr_put F h0_ (Or.inr (by decide)) f8
  refine lv_aload_n C.1 C.2.1 dX7_compile_15 rfl (lv_at hl 0 rfl) ?_
  refine lv_iconst (v := 0) C.1 C.2.1 dX7_compile_16 (by decide) ?_
  refine pi_X7_40 C M h0_ dX7_compile_17 (fun H locs I10 k12 f11 M => ?_)
  have F := fr_put F h0_ (Or.inr (by decide)) f11
  refine lv_aload_n C.1 C.2.1 dX7_compile_20 rfl (lv_at hl 0 rfl) ?_
  refine lv_iconst (v := -1) C.1 C.2.1 dX7_compile_21 (by decide) ?_
  refine pi_X7_43 C M h0_ dX7_compile_22 (fun H locs I13 k15 f14 M => ?_)
  have F := fr_put F h0_ (Or.inr (by decide)) f14
  refine lv_aload_n C.1 C.2.1 dX7_compile_25 rfl (lv_at hl 0 rfl) ?_
  refine lv_aload_n C.1 C.2.1 dX7_compile_26 rfl (lv_at hl 1 rfl) ?_
  refine k_PV C M h0_ (by decide) rfl (ct_X7_skipBlanks l g I13 J a0 a1 h0_ h1_) (cw_X7_46 C.2.2.2.2 (by decide)) rfl hl.1 rfl (Nat.le_of_ble_eq_true rfl) dX7_compile_27 ⟨Nat.le_refl _, Nat.le_refl _⟩ (fun I16 J17 H locs G18 p19r M => ?_)
  obtain ⟨eJ17, p19⟩ : J17 = J ∧ (True) := p19r
  have eJ17 := eJ17.symm
  subst eJ17
  have F := fr_call F G18 (by decide)
  refine lv_iconst (v := 0) C.1 C.2.1 dX7_compile_30 (by decide) ?_
  refine lv_istore_n (lv' := [(2, .int 0), (0, .ref a0), (1, .ref a1)]) C.1 C.2.1 dX7_compile_31 rfl hl (by decide) rfl (fun ls hl => ?_)
  have L32 : ∀ (n32 : Nat) (y20 : Int32) (I21 : Ms) (J23 : Js) (H : Heap) (locs : List Loc) (ls : Array Slot), I21 a0 9 = (-1) → J23.1 = J.1 ∧ J23.2.2 = J.2.2 ∧ DR g J23 → 0 ≤ y20.toInt → y20.toInt ≤ 240 → 241 - y20.toInt < (n32 : Int) → Fr g md_X7_compile I I21 → Mm g s I21 J23 H locs → lv_has ls 3 [(0, .ref a0), (1, .ref a1), (2, .int y20)] → W p l e (rmL 9) s m args below meth c H locs 0 0 (MQg below g (PV g md_X7_compile I (fun I1 J1 => (J1.1 = J.1 ∧ J1.2.2 = J.2.2 ∧ DR g J1) ∧ (True))) args s) (F0 m 32 ls []) := by
    intro n32
    induction n32 with
    | zero =>
      intro y20 I21 J23 H locs ls k22 hj2 f24 f25 hm32 F M hl
      exact absurd hm32 (by omega)
    | succ n32 ih32 =>
      intro y20 I21 J23 H locs ls k22 hj2 f24 f25 hm32 F M hl
      refine lv_iload_n C.1 C.2.1 dX7_compile_32 rfl (lv_at hl 2 rfl) ?_
      refine lv_sipush (v := 240) C.1 C.2.1 dX7_compile_33 (by decide) ?_
      refine n_icmp_ge C (tgt := 80) (Y := 240) dX7_compile_36 (by decide) rfl rfl (fun q26 => ?_) (fun q26 => ?_)
      ·
        exact r_PV C M hr hlk F ⟨hj2, trivial⟩ dX7_compile_80
      ·
        refine lv_aload_n C.1 C.2.1 dX7_compile_39 rfl (lv_at hl 0 rfl) ?_
        refine gi_X7_40 C M h0_ dX7_compile_40 (fun v27 kv27 => ?_)
        have cv27 : (I21 a0 8).toInt = v27.toInt := congrArg Int32.toInt kv27
        refine n_if_ne C (tgt := 80) dX7_compile_43 (by decide) rfl (fun q28 => ?_) (fun q28 => ?_)
        ·
          exact r_PV C M hr hlk F ⟨hj2, trivial⟩ dX7_compile_80
        ·
          refine lv_aload_n C.1 C.2.1 dX7_compile_46 rfl (lv_at hl 0 rfl) ?_
          refine gi_X7_30 C M h0_ dX7_compile_47 (fun v29 kv29 tv29 uv29 => ?_)
          have cv29 : (I21 a0 5).toInt = v29.toInt := congrArg Int32.toInt kv29
          have J64 : ∀ (H : Heap) (locs : List Loc) (ls : Array Slot), Mm g s I21 J23 H locs → lv_has ls 3 [(0, .ref a0), (1, .ref a1), (2, .int y20)] → W p l e (rmL 9) s m args below meth c H locs 0 0 (MQg below g (PV g md_X7_compile I (fun I1 J1 => (J1.1 = J.1 ∧ J1.2.2 = J.2.2 ∧ DR g J1) ∧ (True))) args s) (F0 m 64 ls []) := by
            intro H locs ls M hl
            refine lv_aload_n C.1 C.2.1 dX7_compile_64 rfl (lv_at hl 0 rfl) ?_
            refine lv_aload_n C.1 C.2.1 dX7_compile_65 rfl (lv_at hl 1 rfl) ?_
            refine k_PV C M h0_ (by decide) rfl (ct_X7_takeDeed l g I21 J23 a0 a1 h0_ h1_ hj2.2.2) (cw_X7_55 C.2.2.2.2 (by decide)) rfl hl.1 rfl (Nat.le_of_ble_eq_true rfl) dX7_compile_66 ⟨Nat.le_refl _, Nat.le_refl _⟩ (fun I30 J31 H locs G32 p33r M => ?_)
            obtain ⟨eJ31, p33⟩ : (J31.1 = J23.1 ∧ J31.2.2 = J23.2.2 ∧ DR g J31) ∧ (True) := p33r
            have hj2 : J31.1 = J.1 ∧ J31.2.2 = J.2.2 ∧ DR g J31 := ⟨eJ31.1.trans hj2.1, eJ31.2.1.trans hj2.2.1, eJ31.2.2⟩
            have F := fr_call F G32 (by decide)
            refine lv_aload_n C.1 C.2.1 dX7_compile_69 rfl (lv_at hl 0 rfl) ?_
            refine lv_aload_n C.1 C.2.1 dX7_compile_70 rfl (lv_at hl 1 rfl) ?_
            refine k_PV C M h0_ (by decide) rfl (ct_X7_skipBlanks l g I30 J31 a0 a1 h0_ h1_) (cw_X7_46 C.2.2.2.2 (by decide)) rfl hl.1 rfl (Nat.le_of_ble_eq_true rfl) dX7_compile_71 ⟨Nat.le_refl _, Nat.le_refl _⟩ (fun I34 J35 H locs G36 p37r M => ?_)
            obtain ⟨eJ35, p37⟩ : J35 = J31 ∧ (True) := p37r
            have eJ35 := eJ35.symm
            subst eJ35
            have F := fr_call F G36 (by decide)
            refine n_iinc C (k := 2) (N := 1) (lv' := fun v => [(2, .int v), (0, .ref a0), (1, .ref a1)]) dX7_compile_74 hl rfl (by decide) rfl rfl (by omega) (by omega) (fun _ => rfl) (fun v38 ls ev38 hl => ?_)
            refine lv_goto (tgt := 32) C.1 C.2.1 dX7_compile_77 (by decide) ?_
            exact ih32 v38 I34 J31 _ _ _ ((G36 a0 5 9 h0_ (by decide) (by decide)).trans ((G32 a0 5 9 h0_ (by decide) (by decide)).trans k22)) hj2 (by omega) (by omega) (by omega) F M (lv_sub hl [1, 2, 0] rfl)
          refine n_if_gt C (tgt := 64) dX7_compile_50 (by decide) rfl (fun q39 => ?_) (fun q39 => ?_)
          ·
            exact J64 _ _ _ M hl
          ·
            refine lv_aload_n C.1 C.2.1 dX7_compile_53 rfl (lv_at hl 0 rfl) ?_
            refine gi_X7_37 C M h0_ dX7_compile_54 (fun v40 kv40 tv40 uv40 => ?_)
            have cv40 : (I21 a0 7).toInt = v40.toInt := congrArg Int32.toInt kv40
            refine lv_aload_n C.1 C.2.1 dX7_compile_57 rfl (lv_at hl 1 rfl) ?_
            refine gi_X7_50 C M h1_ dX7_compile_58 (fun v41 kv41 tv41 uv41 => ?_)
            have cv41 : (I21 a1 1).toInt = v41.toInt := congrArg Int32.toInt kv41
            refine n_icmp_ge C (tgt := 80) dX7_compile_61 (by decide) rfl rfl (fun q42 => ?_) (fun q42 => ?_)
            ·
              exact r_PV C M hr hlk F ⟨hj2, trivial⟩ dX7_compile_80
            ·
              exact J64 _ _ _ M hl
  have cz43 : (0 : Int32).toInt = 0 := rfl
  exact L32 _ 0 I16 J _ _ _ ((G18 a0 5 9 h0_ (by decide) (by decide)).trans k15) hj2 (by omega) (by omega) (n_big _) F M (lv_sub hl [1, 2, 0] rfl)
