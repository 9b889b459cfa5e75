set_option maxHeartbeats 4000000 in
set_option maxRecDepth 100000 in
theorem ct_X4_isOfScrub (l : Launch) (g : Gs) (I : Ms) (J : Js) (a0 : Nat) (x1 : Int32) (h0_ : Is g a0 2) : Ctr l yX4_isOfScrub cX4_isOfScrub 2 (Option.some Jvm.ClassFile.FieldType.boolean) 3 g [.ref a0, .int x1] I J (PI I J (fun z => 0 ≤ z ∧ z ≤ 1)) := by
  refine m_start (by decide) (Nat.le_of_ble_eq_true rfl) ?_
  intro p e s m args below meth c C hr hlk M ls hl
  have hl : lv_has ls 2 [(0, .ref a0), (1, .int x1)] := hl
  have C : CallFix p m c cX4_isOfScrub 2 s args TB RX4 := C
  refine lv_aload_n C.1 C.2.1 dX4_isOfScrub_0 rfl (lv_at hl 0 rfl) ?_
  refine k_PI C M h0_ (by decide) rfl (ct_X4_anyMoving l g I J a0 h0_) (cw_X4_129 C.2.2.2.2 (by decide)) rfl hl.1 rfl (Nat.le_of_ble_eq_true rfl) dX4_isOfScrub_1 ⟨Nat.le_refl _, Nat.le_refl _⟩ (fun r1 H locs p2r M => ?_)
  have p2 : 0 ≤ r1.toInt ∧ r1.toInt ≤ 1 := p2r
  refine n_if_eq C (tgt := 33) dX4_isOfScrub_4 (by decide) rfl (fun q3 => ?_) (fun q3 => ?_)
  ·
    refine lv_aload_n C.1 C.2.1 dX4_isOfScrub_33 rfl (lv_at hl 0 rfl) ?_
    refine gi_X4_12 C M h0_ dX4_isOfScrub_34 (fun h4 => ?_)
    refine lv_aload_n C.1 C.2.1 dX4_isOfScrub_37 rfl (lv_at hl 0 rfl) ?_
    refine lv_iload_n C.1 C.2.1 dX4_isOfScrub_38 rfl (lv_at hl 1 rfl) ?_
    refine k_PR C M h0_ (by decide) rfl (ct_X4_layoutOfRow l g I J a0 x1 h0_) (cw_X4_243 C.2.2.2.2 (by decide)) rfl hl.1 rfl (Nat.le_of_ble_eq_true rfl) dX4_isOfScrub_39 ⟨Nat.le_refl _, Nat.le_refl _⟩ (fun b5 H locs h6 p7r M => ?_)
    have p7 : True := p7r
    refine lv_iload_n C.1 C.2.1 dX4_isOfScrub_42 rfl (lv_at hl 1 rfl) ?_
    refine k_PI C M h4 (by decide) rfl (ct_X3_mismatched l g I J (gr g a0 0) b5 x1 h4 h6) (cw_X4_285 C.2.2.2.2 (by decide)) rfl hl.1 rfl (Nat.le_of_ble_eq_true rfl) dX4_isOfScrub_43 ⟨Nat.le_refl _, Nat.le_refl _⟩ (fun r8 H locs p9r M => ?_)
    have p9 : 0 ≤ r8.toInt ∧ r8.toInt ≤ 1 := p9r
    exact r_PIz C M hr hlk rfl (by omega) (by omega) (by omega) dX4_isOfScrub_46
  ·
    refine lv_iload_n C.1 C.2.1 dX4_isOfScrub_7 rfl (lv_at hl 1 rfl) ?_
    refine lv_aload_n C.1 C.2.1 dX4_isOfScrub_8 rfl (lv_at hl 0 rfl) ?_
    refine gi_X4_77 C M h0_ dX4_isOfScrub_9 (fun v10 kv10 tv10 uv10 => ?_)
    refine n_icmp_lt C (tgt := 33) dX4_isOfScrub_12 (by decide) rfl rfl (fun q11 => ?_) (fun q11 => ?_)
    ·
      refine lv_aload_n C.1 C.2.1 dX4_isOfScrub_33 rfl (lv_at hl 0 rfl) ?_
      refine gi_X4_12 C M h0_ dX4_isOfScrub_34 (fun h12 => ?_)
      refine lv_aload_n C.1 C.2.1 dX4_isOfScrub_37 rfl (lv_at hl 0 rfl) ?_
      refine lv_iload_n C.1 C.2.1 dX4_isOfScrub_38 rfl (lv_at hl 1 rfl) ?_
      refine k_PR C M h0_ (by decide) rfl (ct_X4_layoutOfRow l g I J a0 x1 h0_) (cw_X4_243 C.2.2.2.2 (by decide)) rfl hl.1 rfl (Nat.le_of_ble_eq_true rfl) dX4_isOfScrub_39 ⟨Nat.le_refl _, Nat.le_refl _⟩ (fun b13 H locs h14 p15r M => ?_)
      have p15 : True := p15r
      refine lv_iload_n C.1 C.2.1 dX4_isOfScrub_42 rfl (lv_at hl 1 rfl) ?_
      refine k_PI C M h12 (by decide) rfl (ct_X3_mismatched l g I J (gr g a0 0) b13 x1 h12 h14) (cw_X4_285 C.2.2.2.2 (by decide)) rfl hl.1 rfl (Nat.le_of_ble_eq_true rfl) dX4_isOfScrub_43 ⟨Nat.le_refl _, Nat.le_refl _⟩ (fun r16 H locs p17r M => ?_)
      have p17 : 0 ≤ r16.toInt ∧ r16.toInt ≤ 1 := p17r
      exact r_PIz C M hr hlk rfl (by omega) (by omega) (by omega) dX4_isOfScrub_46
    ·
      refine lv_iload_n C.1 C.2.1 dX4_isOfScrub_15 rfl (lv_at hl 1 rfl) ?_
      refine lv_aload_n C.1 C.2.1 dX4_isOfScrub_16 rfl (lv_at hl 0 rfl) ?_
      refine gk_X4_77 C M h0_ kv10 dX4_isOfScrub_17 ?_
      refine lv_aload_n C.1 C.2.1 dX4_isOfScrub_20 rfl (lv_at hl 0 rfl) ?_
      refine gi_X4_38 C M h0_ dX4_isOfScrub_21 (fun h18 => ?_)
      refine gi_X4_237 C M h18 dX4_isOfScrub_24 (fun v19 kv19 tv19 uv19 => ?_)
      refine n_iadd C dX4_isOfScrub_27 rfl rfl (by omega) (by omega) (fun v20 ev20 => ?_)
      refine n_icmp_ge C (tgt := 33) dX4_isOfScrub_28 (by decide) rfl rfl (fun q21 => ?_) (fun q21 => ?_)
      ·
        refine lv_aload_n C.1 C.2.1 dX4_isOfScrub_33 rfl (lv_at hl 0 rfl) ?_
        refine gi_X4_12 C M h0_ dX4_isOfScrub_34 (fun h22 => ?_)
        refine lv_aload_n C.1 C.2.1 dX4_isOfScrub_37 rfl (lv_at hl 0 rfl) ?_
        refine lv_iload_n C.1 C.2.1 dX4_isOfScrub_38 rfl (lv_at hl 1 rfl) ?_
        refine k_PR C M h0_ (by decide) rfl (ct_X4_layoutOfRow l g I J a0 x1 h0_) (cw_X4_243 C.2.2.2.2 (by decide)) rfl hl.1 rfl (Nat.le_of_ble_eq_true rfl) dX4_isOfScrub_39 ⟨Nat.le_refl _, Nat.le_refl _⟩ (fun b23 H locs h24 p25r M => ?_)
        have p25 : True := p25r
        refine lv_iload_n C.1 C.2.1 dX4_isOfScrub_42 rfl (lv_at hl 1 rfl) ?_
        refine k_PI C M h22 (by decide) rfl (ct_X3_mismatched l g I J (gr g a0 0) b23 x1 h22 h24) (cw_X4_285 C.2.2.2.2 (by decide)) rfl hl.1 rfl (Nat.le_of_ble_eq_true rfl) dX4_isOfScrub_43 ⟨Nat.le_refl _, Nat.le_refl _⟩ (fun r26 H locs p27r M => ?_)
        have p27 : 0 ≤ r26.toInt ∧ r26.toInt ≤ 1 := p27r
        exact r_PIz C M hr hlk rfl (by omega) (by omega) (by omega) dX4_isOfScrub_46
      ·
        refine lv_iconst (v := 0) C.1 C.2.1 dX4_isOfScrub_31 (by decide) ?_
        exact r_PIz C M (z := 0) hr hlk rfl (by omega) (by omega) (by omega) dX4_isOfScrub_32

set_option maxHeartbeats 4000000 in
set_option maxRecDepth 100000 in
theorem ct_X4_rowOfScrub (l : Launch) (g : Gs) (I : Ms) (J : Js) (a0 : Nat) (x1 : Int32) (h0_ : Is g a0 2) : Ctr l yX4_rowOfScrub cX4_rowOfScrub 4 (Option.some Jvm.ClassFile.FieldType.int) 4 g [.ref a0, .int x1] I J (PI I J (fun z => True)) := by
  refine m_start (by decide) (Nat.le_of_ble_eq_true rfl) ?_
  intro p e s m args below meth c C hr hlk M ls hl
  have hl : lv_has ls 4 [(0, .ref a0), (1, .int x1)] := hl
  have C : CallFix p m c cX4_rowOfScrub 4 s args TB RX4 := C
  refine lv_iconst (v := 0) C.1 C.2.1 dX4_rowOfScrub_0 (by decide) ?_
  refine lv_istore_n (lv' := [(2, .int 0), (0, .ref a0), (1, .int x1)]) C.1 C.2.1 dX4_rowOfScrub_1 rfl hl (by decide) rfl (fun ls hl => ?_)
  refine lv_iconst (v := 0) C.1 C.2.1 dX4_rowOfScrub_2 (by decide) ?_
  refine lv_istore_n (lv' := [(3, .int 0), (2, .int 0), (0, .ref a0), (1, .int x1)]) C.1 C.2.1 dX4_rowOfScrub_3 rfl hl (by decide) rfl (fun ls hl => ?_)
  have L4 : ∀ (n4 : Nat) (y1 : Int32) (y2 : Int32) (H : Heap) (locs : List Loc) (ls : Array Slot), 0 ≤ y2.toInt → y2.toInt ≤ 40 → 40 - y2.toInt < (n4 : Int) → Mm g s I J H locs → lv_has ls 4 [(0, .ref a0), (1, .int x1), (2, .int y1), (3, .int y2)] → W p l e (rmL 4) s m args below meth c H locs 0 0 (MQg below g (PI I J (fun z => True)) args s) (F0 m 4 ls []) := by
    intro n4
    induction n4 with
    | zero =>
      intro y1 y2 H locs ls f3 f4 hm4 M hl
      exact absurd hm4 (by omega)
    | succ n4 ih4 =>
      intro y1 y2 H locs ls f3 f4 hm4 M hl
      refine lv_iload_n C.1 C.2.1 dX4_rowOfScrub_4 rfl (lv_at hl 3 rfl) ?_
      refine lv_aload_n C.1 C.2.1 dX4_rowOfScrub_5 rfl (lv_at hl 0 rfl) ?_
      refine gi_X4_12 C M h0_ dX4_rowOfScrub_6 (fun h5 => ?_)
      refine gi_X4_115 C M h5 dX4_rowOfScrub_9 (fun v6 kv6 tv6 uv6 => ?_)
      refine n_icmp_ge C (tgt := 39) dX4_rowOfScrub_12 (by decide) rfl rfl (fun q7 => ?_) (fun q7 => ?_)
      ·
        refine lv_iload_n C.1 C.2.1 dX4_rowOfScrub_39 rfl (lv_at hl 1 rfl) ?_
        refine lv_iconst (v := -1) C.1 C.2.1 dX4_rowOfScrub_40 (by decide) ?_
        refine n_icmp_ne C (tgt := 48) (Y := (-1)) dX4_rowOfScrub_41 (by decide) rfl rfl (fun q8 => ?_) (fun q8 => ?_)
        ·
          refine lv_iconst (v := -1) C.1 C.2.1 dX4_rowOfScrub_48 (by decide) ?_
          exact r_PI C M (z := (-1)) hr hlk rfl trivial dX4_rowOfScrub_49
        ·
          refine lv_iload_n C.1 C.2.1 dX4_rowOfScrub_44 rfl (lv_at hl 2 rfl) ?_
          refine lv_goto (tgt := 49) C.1 C.2.1 dX4_rowOfScrub_45 (by decide) ?_
          exact r_PI C M hr hlk rfl trivial dX4_rowOfScrub_49
      ·
        refine lv_aload_n C.1 C.2.1 dX4_rowOfScrub_15 rfl (lv_at hl 0 rfl) ?_
        refine lv_iload_n C.1 C.2.1 dX4_rowOfScrub_16 rfl (lv_at hl 3 rfl) ?_
        refine k_PI C M h0_ (by decide) rfl (ct_X4_isOfScrub l g I J a0 y2 h0_) (cw_X4_288 C.2.2.2.2 (by decide)) rfl hl.1 rfl (Nat.le_of_ble_eq_true rfl) dX4_rowOfScrub_17 ⟨Nat.le_refl _, Nat.le_refl _⟩ (fun r9 H locs p10r M => ?_)
        have p10 : 0 ≤ r9.toInt ∧ r9.toInt ≤ 1 := p10r
        refine n_if_eq C (tgt := 33) dX4_rowOfScrub_20 (by decide) rfl (fun q11 => ?_) (fun q11 => ?_)
        ·
          refine n_iinc C (k := 3) (N := 1) (lv' := fun v => [(3, .int v), (0, .ref a0), (1, .int x1), (2, .int y1)]) dX4_rowOfScrub_33 hl rfl (by decide) rfl rfl (by omega) (by omega) (fun _ => rfl) (fun v12 ls ev12 hl => ?_)
          refine lv_goto (tgt := 4) C.1 C.2.1 dX4_rowOfScrub_36 (by decide) ?_
          exact ih4 y1 v12 _ _ _ (by omega) (by omega) (by omega) M (lv_sub hl [1, 2, 3, 0] rfl)
        ·
          refine lv_iload_n C.1 C.2.1 dX4_rowOfScrub_23 rfl (lv_at hl 2 rfl) ?_
          refine lv_iload_n C.1 C.2.1 dX4_rowOfScrub_24 rfl (lv_at hl 1 rfl) ?_
          refine n_icmp_ne C (tgt := 30) dX4_rowOfScrub_25 (by decide) rfl rfl (fun q13 => ?_) (fun q13 => ?_)
          ·
            refine n_iincU C (k := 2) (lv' := fun v => [(2, .int v), (0, .ref a0), (1, .int x1), (3, .int y2)]) dX4_rowOfScrub_30 hl rfl (by decide) (fun _ => rfl) (fun v14 ls hl => ?_)
            refine n_iinc C (k := 3) (N := 1) (lv' := fun v => [(3, .int v), (2, .int v14), (0, .ref a0), (1, .int x1)]) dX4_rowOfScrub_33 hl rfl (by decide) rfl rfl (by omega) (by omega) (fun _ => rfl) (fun v15 ls ev15 hl => ?_)
            refine lv_goto (tgt := 4) C.1 C.2.1 dX4_rowOfScrub_36 (by decide) ?_
            exact ih4 v14 v15 _ _ _ (by omega) (by omega) (by omega) M (lv_sub hl [2, 3, 1, 0] rfl)
          ·
            refine lv_iload_n C.1 C.2.1 dX4_rowOfScrub_28 rfl (lv_at hl 3 rfl) ?_
            exact r_PI C M hr hlk rfl trivial dX4_rowOfScrub_29
  have cz16 : (0 : Int32).toInt = 0 := rfl
  have cz17 : (0 : Int32).toInt = 0 := rfl
  exact L4 _ 0 0 _ _ _ (by omega) (by omega) (n_big _) M (lv_sub hl [2, 3, 1, 0] rfl)

abbrev md_X4_layParities : List (Nat × Nat) := [(16, 0), (17, 0), (18, 0)]
set_option maxHeartbeats 4000000 in
set_option maxRecDepth 100000 in
theorem ct_X4_layParities (l : Launch) (g : Gs) (I : Ms) (J : Js) (a0 : Nat) (h0_ : Is g a0 2) : Ctr l yX4_layParities cX4_layParities 3 (Option.some Jvm.ClassFile.FieldType.int) 4 g [.ref a0] I J (PM g md_X4_layParities I (fun z I1 J1 => J1 = J ∧ (True))) := by
  refine m_start (by decide) (Nat.le_of_ble_eq_true rfl) ?_
  intro p e s m args below meth c C hr hlk M ls hl
  have hl : lv_has ls 3 [(0, .ref a0)] := hl
  have C : CallFix p m c cX4_layParities 3 s args TB RX4 := C
  have F : Fr g md_X4_layParities I I := fr_rf
  refine lv_iconst (v := 0) C.1 C.2.1 dX4_layParities_0 (by decide) ?_
  refine lv_istore_n (lv' := [(1, .int 0), (0, .ref a0)]) C.1 C.2.1 dX4_layParities_1 rfl hl (by decide) rfl (fun ls hl => ?_)
  refine lv_iconst (v := 0) C.1 C.2.1 dX4_layParities_2 (by decide) ?_
  refine lv_istore_n (lv' := [(2, .int 0), (1, .int 0), (0, .ref a0)]) C.1 C.2.1 dX4_layParities_3 rfl hl (by decide) rfl (fun ls hl => ?_)
  have L4 : ∀ (n4 : Nat) (y1 : Int32) (y2 : Int32) (I3 : Ms) (H : Heap) (locs : List Loc) (ls : Array Slot), 0 ≤ y2.toInt → y2.toInt ≤ 40 → 40 - y2.toInt < (n4 : Int) → Fr g md_X4_layParities I I3 → Mm g s I3 J H locs → lv_has ls 3 [(0, .ref a0), (1, .int y1), (2, .int y2)] → W p l e (rmL 4) s m args below meth c H locs 0 0 (MQg below g (PM g md_X4_layParities I (fun z I1 J1 => J1 = J ∧ (True))) args s) (F0 m 4 ls []) := by
    intro n4
    induction n4 with
    | zero =>
      intro y1 y2 I3 H locs ls f4 f5 hm4 F M hl
      exact absurd hm4 (by omega)
    | succ n4 ih4 =>
      intro y1 y2 I3 H locs ls f4 f5 hm4 F M hl
      refine lv_iload_n C.1 C.2.1 dX4_layParities_4 rfl (lv_at hl 2 rfl) ?_
      refine lv_aload_n C.1 C.2.1 dX4_layParities_5 rfl (lv_at hl 0 rfl) ?_
      refine gi_X4_12 C M h0_ dX4_layParities_6 (fun h6 => ?_)
      refine gi_X4_115 C M h6 dX4_layParities_9 (fun v7 kv7 tv7 uv7 => ?_)
      refine n_icmp_ge C (tgt := 45) dX4_layParities_12 (by decide) rfl rfl (fun q8 => ?_) (fun q8 => ?_)
      ·
        refine lv_iload_n C.1 C.2.1 dX4_layParities_45 rfl (lv_at hl 1 rfl) ?_
        exact r_PM C M hr hlk F rfl ⟨rfl, trivial⟩ dX4_layParities_46
      ·
        refine lv_aload_n C.1 C.2.1 dX4_layParities_15 rfl (lv_at hl 0 rfl) ?_
        refine lv_iload_n C.1 C.2.1 dX4_layParities_16 rfl (lv_at hl 2 rfl) ?_
        refine k_PI C M h0_ (by decide) rfl (ct_X4_isOfScrub l g I3 J a0 y2 h0_) (cw_X4_288 C.2.2.2.2 (by decide)) rfl hl.1 rfl (Nat.le_of_ble_eq_true rfl) dX4_layParities_17 ⟨Nat.le_refl _, Nat.le_refl _⟩ (fun r9 H locs p10r M => ?_)
        have p10 : 0 ≤ r9.toInt ∧ r9.toInt ≤ 1 := p10r
        refine n_if_eq C (tgt := 39) dX4_layParities_20 (by decide) rfl (fun q11 => ?_) (fun q11 => ?_)
        ·
          refine n_iinc C (k := 2) (N := 1) (lv' := fun v => [(2, .int v), (0, .ref a0), (1, .int y1)]) dX4_layParities_39 hl rfl (by decide) rfl rfl (by omega) (by omega) (fun _ => rfl) (fun v12 ls ev12 hl => ?_)
          refine lv_goto (tgt := 4) C.1 C.2.1 dX4_layParities_42 (by decide) ?_
          exact ih4 y1 v12 I3 _ _ _ (by omega) (by omega) (by omega) F M (lv_sub hl [1, 2, 0] rfl)
        ·
          refine lv_aload_n C.1 C.2.1 dX4_layParities_23 rfl (lv_at hl 0 rfl) ?_
          refine gi_X4_12 C M h0_ dX4_layParities_24 (fun h13 => ?_)
          refine lv_aload_n C.1 C.2.1 dX4_layParities_27 rfl (lv_at hl 0 rfl) ?_
          refine lv_iload_n C.1 C.2.1 dX4_layParities_28 rfl (lv_at hl 2 rfl) ?_
          refine k_PR C M h0_ (by decide) rfl (ct_X4_layoutOfRow l g I3 J a0 y2 h0_) (cw_X4_243 C.2.2.2.2 (by decide)) rfl hl.1 rfl (Nat.le_of_ble_eq_true rfl) dX4_layParities_29 ⟨Nat.le_refl _, Nat.le_refl _⟩ (fun b14 H locs h15 p16r M => ?_)
          have p16 : True := p16r
          refine lv_iload_n C.1 C.2.1 dX4_layParities_32 rfl (lv_at hl 2 rfl) ?_
          refine k_PV C M h6 (by decide) rfl (ct_X3_layParity l g I3 J (gr g a0 0) b14 y2 h6 h15) (cw_X4_291 C.2.2.2.2 (by decide)) rfl hl.1 rfl (Nat.le_of_ble_eq_true rfl) dX4_layParities_33 ⟨Nat.le_refl _, Nat.le_refl _⟩ (fun I17 J18 H locs G19 p20r M => ?_)
          obtain ⟨eJ18, p20⟩ : J18 = J ∧ (True) := p20r
          have eJ18 := eJ18.symm
          subst eJ18
          have F := fr_call F G19 (by decide)
          refine n_iincU C (k := 1) (lv' := fun v => [(1, .int v), (0, .ref a0), (2, .int y2)]) dX4_layParities_36 hl rfl (by decide) (fun _ => rfl) (fun v21 ls hl => ?_)
          refine n_iinc C (k := 2) (N := 1) (lv' := fun v => [(2, .int v), (1, .int v21), (0, .ref a0)]) dX4_layParities_39 hl rfl (by decide) rfl rfl (by omega) (by omega) (fun _ => rfl) (fun v22 ls ev22 hl => ?_)
          refine lv_goto (tgt := 4) C.1 C.2.1 dX4_layParities_42 (by decide) ?_
          exact ih4 v21 v22 I17 _ _ _ (by omega) (by omega) (by omega) F M (lv_sub hl [2, 1, 0] rfl)
  have cz23 : (0 : Int32).toInt = 0 := rfl
  have cz24 : (0 : Int32).toInt = 0 := rfl
  exact L4 _ 0 0 I _ _ _ (by omega) (by omega) (n_big _) F M (lv_sub hl [2, 1, 0] rfl)

set_option maxHeartbeats 4000000 in
set_option maxRecDepth 100000 in
theorem ct_X4_blocksLostIn (l : Launch) (g : Gs) (I : Ms) (J : Js) (a0 : Nat) (a1 : Nat) (h0_ : Is g a0 2) (h1_ : Is g a1 2) : Ctr l yX4_blocksLostIn cX4_blocksLostIn 4 (Option.some Jvm.ClassFile.FieldType.int) 5 g [.ref a0, .ref a1] I J (PI I J (fun z => True)) := by
  refine m_start (by decide) (Nat.le_of_ble_eq_true rfl) ?_
  intro p e s m args below meth c C hr hlk M ls hl
  have hl : lv_has ls 4 [(0, .ref a0), (1, .ref a1)] := hl
  have C : CallFix p m c cX4_blocksLostIn 4 s args TB RX4 := C
  refine lv_iconst (v := 0) C.1 C.2.1 dX4_blocksLostIn_0 (by decide) ?_
  refine lv_istore_n (lv' := [(2, .int 0), (0, .ref a0), (1, .ref a1)]) C.1 C.2.1 dX4_blocksLostIn_1 rfl hl (by decide) rfl (fun ls hl => ?_)
  refine lv_iconst (v := 0) C.1 C.2.1 dX4_blocksLostIn_2 (by decide) ?_
  refine lv_istore_n (lv' := [(3, .int 0), (2, .int 0), (0, .ref a0), (1, .ref a1)]) C.1 C.2.1 dX4_blocksLostIn_3 rfl hl (by decide) rfl (fun ls hl => ?_)
  have L4 : ∀ (n4 : Nat) (y1 : Int32) (y2 : Int32) (H : Heap) (locs : List Loc) (ls : Array Slot), 0 ≤ y2.toInt → y2.toInt ≤ 280 → 280 - y2.toInt < (n4 : Int) → Mm g s I J H locs → lv_has ls 4 [(0, .ref a0), (1, .ref a1), (2, .int y1), (3, .int y2)] → W p l e (rmL 5) s m args below meth c H locs 0 0 (MQg below g (PI I J (fun z => True)) args s) (F0 m 4 ls []) := by
    intro n4
    induction n4 with
    | zero =>
      intro y1 y2 H locs ls f3 f4 hm4 M hl
      exact absurd hm4 (by omega)
    | succ n4 ih4 =>
      intro y1 y2 H locs ls f3 f4 hm4 M hl
      refine lv_iload_n C.1 C.2.1 dX4_blocksLostIn_4 rfl (lv_at hl 3 rfl) ?_
      refine lv_aload_n C.1 C.2.1 dX4_blocksLostIn_5 rfl (lv_at hl 0 rfl) ?_
      refine k_PI C M h0_ (by decide) rfl (ct_X4_blocks l g I J a0 h0_) (cw_X4_125 C.2.2.2.2 (by decide)) rfl hl.1 rfl (Nat.le_of_ble_eq_true rfl) dX4_blocksLostIn_6 ⟨Nat.le_refl _, Nat.le_refl _⟩ (fun r5 H locs p6r M => ?_)
      have p6 : r5.toInt = (I (gr g a0 0) 4).toInt * (I (J.1 a0 6) 1).toInt ∧ 0 ≤ r5.toInt ∧ r5.toInt ≤ 280 := p6r
      refine n_icmp_ge C (tgt := 50) dX4_blocksLostIn_9 (by decide) rfl rfl (fun q7 => ?_) (fun q7 => ?_)
      ·
        refine lv_iload_n C.1 C.2.1 dX4_blocksLostIn_50 rfl (lv_at hl 2 rfl) ?_
        exact r_PI C M hr hlk rfl trivial dX4_blocksLostIn_51
      ·
        refine lv_aload_n C.1 C.2.1 dX4_blocksLostIn_12 rfl (lv_at hl 0 rfl) ?_
        refine lv_iload_n C.1 C.2.1 dX4_blocksLostIn_13 rfl (lv_at hl 3 rfl) ?_
        refine k_PI C M h0_ (by decide) rfl (ct_X4_canRead l g I J a0 y2 h0_) (cw_X4_270 C.2.2.2.2 (by decide)) rfl hl.1 rfl (Nat.le_of_ble_eq_true rfl) dX4_blocksLostIn_14 ⟨Nat.le_refl _, Nat.le_refl _⟩ (fun r8 H locs p9r M => ?_)
        have p9 : 0 ≤ r8.toInt ∧ r8.toInt ≤ 1 := p9r
        refine n_if_eq C (tgt := 44) dX4_blocksLostIn_17 (by decide) rfl (fun q10 => ?_) (fun q10 => ?_)
        ·
          refine n_iinc C (k := 3) (N := 1) (lv' := fun v => [(3, .int v), (0, .ref a0), (1, .ref a1), (2, .int y1)]) dX4_blocksLostIn_44 hl rfl (by decide) rfl rfl (by omega) (by omega) (fun _ => rfl) (fun v11 ls ev11 hl => ?_)
          refine lv_goto (tgt := 4) C.1 C.2.1 dX4_blocksLostIn_47 (by decide) ?_
          exact ih4 y1 v11 _ _ _ (by omega) (by omega) (by omega) M (lv_sub hl [1, 2, 3, 0] rfl)
        ·
          refine lv_aload_n C.1 C.2.1 dX4_blocksLostIn_20 rfl (lv_at hl 1 rfl) ?_
          refine lv_iload_n C.1 C.2.1 dX4_blocksLostIn_21 rfl (lv_at hl 3 rfl) ?_
          refine k_PI C M h1_ (by decide) rfl (ct_X4_canRead l g I J a1 y2 h1_) (cw_X4_270 C.2.2.2.2 (by decide)) rfl hl.1 rfl (Nat.le_of_ble_eq_true rfl) dX4_blocksLostIn_22 ⟨Nat.le_refl _, Nat.le_refl _⟩ (fun r12 H locs p13r M => ?_)
          have p13 : 0 ≤ r12.toInt ∧ r12.toInt ≤ 1 := p13r
          refine n_if_eq C (tgt := 41) dX4_blocksLostIn_25 (by decide) rfl (fun q14 => ?_) (fun q14 => ?_)
          ·
            refine n_iincU C (k := 2) (lv' := fun v => [(2, .int v), (0, .ref a0), (1, .ref a1), (3, .int y2)]) dX4_blocksLostIn_41 hl rfl (by decide) (fun _ => rfl) (fun v15 ls hl => ?_)
            refine n_iinc C (k := 3) (N := 1) (lv' := fun v => [(3, .int v), (2, .int v15), (0, .ref a0), (1, .ref a1)]) dX4_blocksLostIn_44 hl rfl (by decide) rfl rfl (by omega) (by omega) (fun _ => rfl) (fun v16 ls ev16 hl => ?_)
            refine lv_goto (tgt := 4) C.1 C.2.1 dX4_blocksLostIn_47 (by decide) ?_
            exact ih4 v15 v16 _ _ _ (by omega) (by omega) (by omega) M (lv_sub hl [2, 3, 1, 0] rfl)
          ·
            refine lv_aload_n C.1 C.2.1 dX4_blocksLostIn_28 rfl (lv_at hl 1 rfl) ?_
            refine lv_iload_n C.1 C.2.1 dX4_blocksLostIn_29 rfl (lv_at hl 3 rfl) ?_
            refine k_PI C M h1_ (by decide) rfl (ct_X4_wordOf l g I J a1 y2 h1_) (cw_X4_273 C.2.2.2.2 (by decide)) rfl hl.1 rfl (Nat.le_of_ble_eq_true rfl) dX4_blocksLostIn_30 ⟨Nat.le_refl _, Nat.le_refl _⟩ (fun r17 H locs p18r M => ?_)
            have p18 : True := p18r
            refine lv_aload_n C.1 C.2.1 dX4_blocksLostIn_33 rfl (lv_at hl 0 rfl) ?_
            refine lv_iload_n C.1 C.2.1 dX4_blocksLostIn_34 rfl (lv_at hl 3 rfl) ?_
            refine k_PI C M h0_ (by decide) rfl (ct_X4_wordOf l g I J a0 y2 h0_) (cw_X4_273 C.2.2.2.2 (by decide)) rfl hl.1 rfl (Nat.le_of_ble_eq_true rfl) dX4_blocksLostIn_35 ⟨Nat.le_refl _, Nat.le_refl _⟩ (fun r19 H locs p20r M => ?_)
            have p20 : True := p20r
            refine n_icmp_eq C (tgt := 44) dX4_blocksLostIn_38 (by decide) rfl rfl (fun q21 => ?_) (fun q21 => ?_)
            ·
              refine n_iinc C (k := 3) (N := 1) (lv' := fun v => [(3, .int v), (0, .ref a0), (1, .ref a1), (2, .int y1)]) dX4_blocksLostIn_44 hl rfl (by decide) rfl rfl (by omega) (by omega) (fun _ => rfl) (fun v22 ls ev22 hl => ?_)
              refine lv_goto (tgt := 4) C.1 C.2.1 dX4_blocksLostIn_47 (by decide) ?_
              exact ih4 y1 v22 _ _ _ (by omega) (by omega) (by omega) M (lv_sub hl [1, 2, 3, 0] rfl)
            ·
              refine n_iincU C (k := 2) (lv' := fun v => [(2, .int v), (0, .ref a0), (1, .ref a1), (3, .int y2)]) dX4_blocksLostIn_41 hl rfl (by decide) (fun _ => rfl) (fun v23 ls hl => ?_)
              refine n_iinc C (k := 3) (N := 1) (lv' := fun v => [(3, .int v), (2, .int v23), (0, .ref a0), (1, .ref a1)]) dX4_blocksLostIn_44 hl rfl (by decide) rfl rfl (by omega) (by omega) (fun _ => rfl) (fun v24 ls ev24 hl => ?_)
              refine lv_goto (tgt := 4) C.1 C.2.1 dX4_blocksLostIn_47 (by decide) ?_
              exact ih4 v23 v24 _ _ _ (by omega) (by omega) (by omega) M (lv_sub hl [2, 3, 1, 0] rfl)
  have cz25 : (0 : Int32).toInt = 0 := rfl
  have cz26 : (0 : Int32).toInt = 0 := rfl
  exact L4 _ 0 0 _ _ _ (by omega) (by omega) (n_big _) M (lv_sub hl [2, 3, 1, 0] rfl)

set_option maxHeartbeats 4000000 in
set_option maxRecDepth 100000 in
theorem ct_X4_unreadableBlocks (l : Launch) (g : Gs) (I : Ms) (J : Js) (a0 : Nat) (h0_ : Is g a0 2) : Ctr l yX4_unreadableBlocks cX4_unreadableBlocks 3 (Option.some Jvm.ClassFile.FieldType.int) 5 g [.ref a0] I J (PI I J (fun z => True)) := by
  refine m_start (by decide) (Nat.le_of_ble_eq_true rfl) ?_
  intro p e s m args below meth c C hr hlk M ls hl
  have hl : lv_has ls 3 [(0, .ref a0)] := hl
  have C : CallFix p m c cX4_unreadableBlocks 3 s args TB RX4 := C
  refine lv_iconst (v := 0) C.1 C.2.1 dX4_unreadableBlocks_0 (by decide) ?_
  refine lv_istore_n (lv' := [(1, .int 0), (0, .ref a0)]) C.1 C.2.1 dX4_unreadableBlocks_1 rfl hl (by decide) rfl (fun ls hl => ?_)
  refine lv_iconst (v := 0) C.1 C.2.1 dX4_unreadableBlocks_2 (by decide) ?_
  refine lv_istore_n (lv' := [(2, .int 0), (1, .int 0), (0, .ref a0)]) C.1 C.2.1 dX4_unreadableBlocks_3 rfl hl (by decide) rfl (fun ls hl => ?_)
  have L4 : ∀ (n4 : Nat) (y1 : Int32) (y2 : Int32) (H : Heap) (locs : List Loc) (ls : Array Slot), 0 ≤ y2.toInt → y2.toInt ≤ 280 → 280 - y2.toInt < (n4 : Int) → Mm g s I J H locs → lv_has ls 3 [(0, .ref a0), (1, .int y1), (2, .int y2)] → W p l e (rmL 5) s m args below meth c H locs 0 0 (MQg below g (PI I J (fun z => True)) args s) (F0 m 4 ls []) := by
    intro n4
    induction n4 with
    | zero =>
      intro y1 y2 H locs ls f3 f4 hm4 M hl
      exact absurd hm4 (by omega)
    | succ n4 ih4 =>
      intro y1 y2 H locs ls f3 f4 hm4 M hl
      refine lv_iload_n C.1 C.2.1 dX4_unreadableBlocks_4 rfl (lv_at hl 2 rfl) ?_
      refine lv_aload_n C.1 C.2.1 dX4_unreadableBlocks_5 rfl (lv_at hl 0 rfl) ?_
      refine k_PI C M h0_ (by decide) rfl (ct_X4_blocks l g I J a0 h0_) (cw_X4_125 C.2.2.2.2 (by decide)) rfl hl.1 rfl (Nat.le_of_ble_eq_true rfl) dX4_unreadableBlocks_6 ⟨Nat.le_refl _, Nat.le_refl _⟩ (fun r5 H locs p6r M => ?_)
      have p6 : r5.toInt = (I (gr g a0 0) 4).toInt * (I (J.1 a0 6) 1).toInt ∧ 0 ≤ r5.toInt ∧ r5.toInt ≤ 280 := p6r
      refine n_icmp_ge C (tgt := 29) dX4_unreadableBlocks_9 (by decide) rfl rfl (fun q7 => ?_) (fun q7 => ?_)
      ·
        refine lv_iload_n C.1 C.2.1 dX4_unreadableBlocks_29 rfl (lv_at hl 1 rfl) ?_
        exact r_PI C M hr hlk rfl trivial dX4_unreadableBlocks_30
      ·
        refine lv_aload_n C.1 C.2.1 dX4_unreadableBlocks_12 rfl (lv_at hl 0 rfl) ?_
        refine lv_iload_n C.1 C.2.1 dX4_unreadableBlocks_13 rfl (lv_at hl 2 rfl) ?_
        refine k_PI C M h0_ (by decide) rfl (ct_X4_canRead l g I J a0 y2 h0_) (cw_X4_270 C.2.2.2.2 (by decide)) rfl hl.1 rfl (Nat.le_of_ble_eq_true rfl) dX4_unreadableBlocks_14 ⟨Nat.le_refl _, Nat.le_refl _⟩ (fun r8 H locs p9r M => ?_)
        have p9 : 0 ≤ r8.toInt ∧ r8.toInt ≤ 1 := p9r
        refine n_if_ne C (tgt := 23) dX4_unreadableBlocks_17 (by decide) rfl (fun q10 => ?_) (fun q10 => ?_)
        ·
          refine n_iinc C (k := 2) (N := 1) (lv' := fun v => [(2, .int v), (0, .ref a0), (1, .int y1)]) dX4_unreadableBlocks_23 hl rfl (by decide) rfl rfl (by omega) (by omega) (fun _ => rfl) (fun v11 ls ev11 hl => ?_)
          refine lv_goto (tgt := 4) C.1 C.2.1 dX4_unreadableBlocks_26 (by decide) ?_
          exact ih4 y1 v11 _ _ _ (by omega) (by omega) (by omega) M (lv_sub hl [1, 2, 0] rfl)
        ·
          refine n_iincU C (k := 1) (lv' := fun v => [(1, .int v), (0, .ref a0), (2, .int y2)]) dX4_unreadableBlocks_20 hl rfl (by decide) (fun _ => rfl) (fun v12 ls hl => ?_)
          refine n_iinc C (k := 2) (N := 1) (lv' := fun v => [(2, .int v), (1, .int v12), (0, .ref a0)]) dX4_unreadableBlocks_23 hl rfl (by decide) rfl rfl (by omega) (by omega) (fun _ => rfl) (fun v13 ls ev13 hl => ?_)
          refine lv_goto (tgt := 4) C.1 C.2.1 dX4_unreadableBlocks_26 (by decide) ?_
          exact ih4 v12 v13 _ _ _ (by omega) (by omega) (by omega) M (lv_sub hl [2, 1, 0] rfl)
  have cz14 : (0 : Int32).toInt = 0 := rfl
  have cz15 : (0 : Int32).toInt = 0 := rfl
  exact L4 _ 0 0 _ _ _ (by omega) (by omega) (n_big _) M (lv_sub hl [2, 1, 0] rfl)

set_option maxHeartbeats 4000000 in
set_option maxRecDepth 100000 in
theorem ct_X4_tellOfBlock (l : Launch) (g : Gs) (I : Ms) (J : Js) (a0 : Nat) (x1 : Int32) (x2 : Int32) (h0_ : Is g a0 2) : Ctr l yX4_tellOfBlock cX4_tellOfBlock 4 (Option.some Jvm.ClassFile.FieldType.int) 4 g [.ref a0, .int x1, .int x2] I J (PI I J (fun z => True)) := by
  refine m_start (by decide) (Nat.le_of_ble_eq_true rfl) ?_
  intro p e s m args below meth c C hr hlk M ls hl
  have hl : lv_has ls 4 [(0, .ref a0), (1, .int x1), (2, .int x2)] := hl
  have C : CallFix p m c cX4_tellOfBlock 4 s args TB RX4 := C
  refine lv_aload_n C.1 C.2.1 dX4_tellOfBlock_0 rfl (lv_at hl 0 rfl) ?_
  refine lv_iload_n C.1 C.2.1 dX4_tellOfBlock_1 rfl (lv_at hl 1 rfl) ?_
  refine k_PR C M h0_ (by decide) rfl (ct_X4_layoutAt l g I J a0 x1 h0_) (cw_X4_149 C.2.2.2.2 (by decide)) rfl hl.1 rfl (Nat.le_of_ble_eq_true rfl) dX4_tellOfBlock_2 ⟨Nat.le_refl _, Nat.le_refl _⟩ (fun b1 H locs h2 p3r M => ?_)
  have p3 : True := p3r
  refine lv_astore_n (lv' := [(3, .ref b1), (0, .ref a0), (1, .int x1), (2, .int x2)]) C.1 C.2.1 dX4_tellOfBlock_5 rfl hl (by decide) rfl (fun ls hl => ?_)
  refine lv_iload_n C.1 C.2.1 dX4_tellOfBlock_6 rfl (lv_at hl 3 rfl) ?_
  by_cases q4 : x2.toInt = 0
  ·
    refine n_tabk (off := 33) (tgt := 40) C 0 dX4_tellOfBlock_7 q4 (by decide) (by decide) (by decide) (by decide) ?_
    refine lv_aload_n C.1 C.2.1 dX4_tellOfBlock_40 rfl (lv_at hl 1 rfl) ?_
    refine lv_iload_n C.1 C.2.1 dX4_tellOfBlock_41 rfl (lv_at hl 2 rfl) ?_
    refine k_PI C M h0_ (by decide) rfl (ct_X4_isNew l g I J a0 x1 h0_) (cw_X4_146 C.2.2.2.2 (by decide)) rfl hl.1 rfl (Nat.le_of_ble_eq_true rfl) dX4_tellOfBlock_42 ⟨Nat.le_refl _, Nat.le_refl _⟩ (fun r5 H locs p6r M => ?_)
    have p6 : 0 ≤ r5.toInt ∧ r5.toInt ≤ 1 := p6r
    refine n_if_eq C (tgt := 52) dX4_tellOfBlock_45 (by decide) rfl (fun q7 => ?_) (fun q7 => ?_)
    ·
      refine lv_iconst (v := 0) C.1 C.2.1 dX4_tellOfBlock_52 (by decide) ?_
      exact r_PI C M (z := 0) hr hlk rfl trivial dX4_tellOfBlock_53
    ·
      refine lv_iconst (v := 1) C.1 C.2.1 dX4_tellOfBlock_48 (by decide) ?_
      refine lv_goto (tgt := 53) C.1 C.2.1 dX4_tellOfBlock_49 (by decide) ?_
      exact r_PI C M (z := 1) hr hlk rfl trivial dX4_tellOfBlock_53
  by_cases q8 : x2.toInt = 1
  ·
    refine n_tabk (off := 47) (tgt := 54) C 1 dX4_tellOfBlock_7 q8 (by decide) (by decide) (by decide) (by decide) ?_
    refine lv_aload_n C.1 C.2.1 dX4_tellOfBlock_54 rfl (lv_at hl 0 rfl) ?_
    refine lv_iload_n C.1 C.2.1 dX4_tellOfBlock_55 rfl (lv_at hl 2 rfl) ?_
    refine k_PI C M h2 (by decide) rfl (ct_X5_diskOf l g I J b1 x1 h2) (cw_X4_152 C.2.2.2.2 (by decide)) rfl hl.1 rfl (Nat.le_of_ble_eq_true rfl) dX4_tellOfBlock_56 ⟨Nat.le_refl _, Nat.le_refl _⟩ (fun r9 H locs p10r M => ?_)
    have p10 : True := p10r
    exact r_PI C M hr hlk rfl trivial dX4_tellOfBlock_59
  by_cases q11 : x2.toInt = 2
  ·
    refine n_tabk (off := 53) (tgt := 60) C 2 dX4_tellOfBlock_7 q11 (by decide) (by decide) (by decide) (by decide) ?_
    refine lv_aload_n C.1 C.2.1 dX4_tellOfBlock_60 rfl (lv_at hl 0 rfl) ?_
    refine lv_iload_n C.1 C.2.1 dX4_tellOfBlock_61 rfl (lv_at hl 2 rfl) ?_
    refine k_PI C M h2 (by decide) rfl (ct_X5_rowOf l g I J b1 x1 h2) (cw_X4_156 C.2.2.2.2 (by decide)) rfl hl.1 rfl (Nat.le_of_ble_eq_true rfl) dX4_tellOfBlock_62 ⟨Nat.le_refl _, Nat.le_refl _⟩ (fun r12 H locs p13r M => ?_)
    have p13 : True := p13r
    exact r_PI C M hr hlk rfl trivial dX4_tellOfBlock_65
  by_cases q14 : x2.toInt = 3
  ·
    refine n_tabk (off := 59) (tgt := 66) C 3 dX4_tellOfBlock_7 q14 (by decide) (by decide) (by decide) (by decide) ?_
    refine lv_aload_n C.1 C.2.1 dX4_tellOfBlock_66 rfl (lv_at hl 1 rfl) ?_
    refine lv_iload_n C.1 C.2.1 dX4_tellOfBlock_67 rfl (lv_at hl 2 rfl) ?_
    refine k_PI C M h0_ (by decide) rfl (ct_X4_isMoving l g I J a0 x1 h0_) (cw_X4_139 C.2.2.2.2 (by decide)) rfl hl.1 rfl (Nat.le_of_ble_eq_true rfl) dX4_tellOfBlock_68 ⟨Nat.le_refl _, Nat.le_refl _⟩ (fun r15 H locs p16r M => ?_)
    have p16 : 0 ≤ r15.toInt ∧ r15.toInt ≤ 1 ∧ (r15.toInt = 1 → (I (gr g a0 4) 0).toInt ≤ x1.toInt ∧ x1.toInt ≤ 2100) := p16r
    refine n_if_eq C (tgt := 78) dX4_tellOfBlock_71 (by decide) rfl (fun q17 => ?_) (fun q17 => ?_)
    ·
      refine lv_iconst (v := 0) C.1 C.2.1 dX4_tellOfBlock_78 (by decide) ?_
      exact r_PI C M (z := 0) hr hlk rfl trivial dX4_tellOfBlock_79
    ·
      refine lv_iconst (v := 1) C.1 C.2.1 dX4_tellOfBlock_74 (by decide) ?_
      refine lv_goto (tgt := 79) C.1 C.2.1 dX4_tellOfBlock_75 (by decide) ?_
      exact r_PI C M (z := 1) hr hlk rfl trivial dX4_tellOfBlock_79
  by_cases q18 : x2.toInt = 4
  ·
    refine n_tabk (off := 73) (tgt := 80) C 4 dX4_tellOfBlock_7 q18 (by decide) (by decide) (by decide) (by decide) ?_
    refine lv_aload_n C.1 C.2.1 dX4_tellOfBlock_80 rfl (lv_at hl 1 rfl) ?_
    refine lv_iload_n C.1 C.2.1 dX4_tellOfBlock_81 rfl (lv_at hl 2 rfl) ?_
    refine k_PI C M h0_ (by decide) rfl (ct_X4_isHeld l g I J a0 x1 h0_) (cw_X4_163 C.2.2.2.2 (by decide)) rfl hl.1 rfl (Nat.le_of_ble_eq_true rfl) dX4_tellOfBlock_82 ⟨Nat.le_refl _, Nat.le_refl _⟩ (fun r19 H locs p20r M => ?_)
    have p20 : 0 ≤ r19.toInt ∧ r19.toInt ≤ 1 ∧ (r19.toInt = 1 → (I (gr g a0 4) 0).toInt ≤ x1.toInt ∧ x1.toInt ≤ (I (gr g a0 4) 0).toInt + 23) := p20r
    refine n_if_eq C (tgt := 92) dX4_tellOfBlock_85 (by decide) rfl (fun q21 => ?_) (fun q21 => ?_)
    ·
      refine lv_aload_n C.1 C.2.1 dX4_tellOfBlock_92 rfl (lv_at hl 1 rfl) ?_
      refine lv_iload_n C.1 C.2.1 dX4_tellOfBlock_93 rfl (lv_at hl 2 rfl) ?_
      refine k_PI C M h0_ (by decide) rfl (ct_X4_readsFor l g I J a0 x1 h0_) (cw_X4_166 C.2.2.2.2 (by decide)) rfl hl.1 rfl (Nat.le_of_ble_eq_true rfl) dX4_tellOfBlock_94 ⟨Nat.le_refl _, Nat.le_refl _⟩ (fun r22 H locs p23r M => ?_)
      have p23 : True := p23r
      exact r_PI C M hr hlk rfl trivial dX4_tellOfBlock_97
    ·
      refine lv_iconst (v := 0) C.1 C.2.1 dX4_tellOfBlock_88 (by decide) ?_
      refine lv_goto (tgt := 97) C.1 C.2.1 dX4_tellOfBlock_89 (by decide) ?_
      exact r_PI C M (z := 0) hr hlk rfl trivial dX4_tellOfBlock_97
  refine n_tabo (tgt := 98) C dX4_tellOfBlock_7 rfl (by omega) (by decide) ?_
  refine lv_iconst (v := -1) C.1 C.2.1 dX4_tellOfBlock_98 (by decide) ?_
  exact r_PI C M (z := (-1)) hr hlk rfl trivial dX4_tellOfBlock_99

abbrev md_X4_tellOfBatchesLeft : List (Nat × Nat) := [(0, 1), (0, 2), (0, 3), (0, 4), (0, 5), (0, 6), (0, 7)]
set_option maxHeartbeats 4000000 in
set_option maxRecDepth 100000 in
theorem ct_X4_tellOfBatchesLeft (l : Launch) (g : Gs) (I : Ms) (J : Js) (a0 : Nat) (x1 : Int32) (h0_ : Is g a0 2) : Ctr l yX4_tellOfBatchesLeft cX4_tellOfBatchesLeft 8 (Option.some Jvm.ClassFile.FieldType.int) 2 g [.ref a0, .int x1] I J (PM g md_X4_tellOfBatchesLeft I (fun z I1 J1 => J1 = J ∧ (True))) := by
  refine m_start (by decide) (Nat.le_of_ble_eq_true rfl) ?_
  intro p e s m args below meth c C hr hlk M ls hl
  have hl : lv_has ls 8 [(0, .ref a0), (1, .int x1)] := hl
  have C : CallFix p m c cX4_tellOfBatchesLeft 8 s args TB RX4 := C
  have F : Fr g md_X4_tellOfBatchesLeft I I := fr_rf
  obtain ⟨o6, ko6⟩ : ∃ z : Nat, J.1 a0 6 = z := ⟨_, rfl⟩
  have ho6 : Is g o6 3 := ko6 ▸ is_old M h0_
  obtain ⟨o7, ko7⟩ : ∃ z : Nat, J.1 a0 7 = z := ⟨_, rfl⟩
  have ho7 : Is g o7 3 := ko7 ▸ is_next M h0_
  have h1 := is_ref M h0_ 0 1 rfl rfl
  obtain ⟨i2, ki2⟩ : ∃ z : Int32, I (gr g a0 0) 4 = z := ⟨_, rfl⟩
  have ti2 : 4 ≤ i2.toInt ∧ i2.toInt ≤ 40 := m_rng M h1 4 ki2 rfl
  have ci2 : (I (gr g a0 0) 4).toInt = i2.toInt := congrArg Int32.toInt ki2
  obtain ⟨i3, ki3⟩ : ∃ z : Int32, I o6 1 = z := ⟨_, rfl⟩
  have ti3 : 2 ≤ i3.toInt ∧ i3.toInt ≤ 7 := m_rng M ho6 1 ki3 rfl
  have ci3 : (I o6 1).toInt = i3.toInt := congrArg Int32.toInt ki3
  obtain ⟨i4, ki4⟩ : ∃ z : Int32, I o7 1 = z := ⟨_, rfl⟩
  have ti4 : 2 ≤ i4.toInt ∧ i4.toInt ≤ 7 := m_rng M ho7 1 ki4 rfl
  have ci4 : (I o7 1).toInt = i4.toInt := congrArg Int32.toInt ki4
  refine lv_aload_n C.1 C.2.1 dX4_tellOfBatchesLeft_0 rfl (lv_at hl 0 rfl) ?_
  refine gi_X4_81 C M h0_ dX4_tellOfBatchesLeft_1 (fun v5 kv5 => ?_)
  refine lv_ineg C.1 C.2.1 dX4_tellOfBatchesLeft_4 ?_
  refine lv_topi (fun v6 _ => ?_)
  refine lv_istore_n (lv' := [(2, .int v6), (0, .ref a0), (1, .int x1)]) C.1 C.2.1 dX4_tellOfBatchesLeft_5 rfl hl (by decide) rfl (fun ls hl => ?_)
  refine lv_iconst (v := 0) C.1 C.2.1 dX4_tellOfBatchesLeft_6 (by decide) ?_
  refine lv_istore_n (lv' := [(3, .int 0), (2, .int v6), (0, .ref a0), (1, .int x1)]) C.1 C.2.1 dX4_tellOfBatchesLeft_7 rfl hl (by decide) rfl (fun ls hl => ?_)
  refine lv_iconst (v := 0) C.1 C.2.1 dX4_tellOfBatchesLeft_8 (by decide) ?_
  refine lv_istore (lv' := [(4, .int 0), (3, .int 0), (2, .int v6), (0, .ref a0), (1, .int x1)]) C.1 C.2.1 dX4_tellOfBatchesLeft_9 hl (by decide) rfl (fun ls hl => ?_)
  refine lv_aload_n C.1 C.2.1 dX4_tellOfBatchesLeft_11 rfl (lv_at hl 3 rfl) ?_
  refine gi_X4_77 C M h0_ dX4_tellOfBatchesLeft_12 (fun v7 kv7 tv7 uv7 => ?_)
  refine lv_istore (lv' := [(5, .int v7), (4, .int 0), (3, .int 0), (2, .int v6), (0, .ref a0), (1, .int x1)]) C.1 C.2.1 dX4_tellOfBatchesLeft_15 hl (by decide) rfl (fun ls hl => ?_)
  refine lv_aload_n C.1 C.2.1 dX4_tellOfBatchesLeft_17 rfl (lv_at hl 4 rfl) ?_
  refine k_PI C M h0_ (by decide) rfl (ct_X4_newStripes l g I J a0 h0_) (cw_X4_195 C.2.2.2.2 (by decide)) rfl hl.1 rfl (Nat.le_of_ble_eq_true rfl) dX4_tellOfBatchesLeft_18 ⟨Nat.le_refl _, Nat.le_refl _⟩ (fun r8 H locs p9r M => ?_)
  have p9 : r8.toInt = nsI (I (gr g a0 0) 4).toInt (I (J.1 a0 6) 1).toInt (I (J.1 a0 7) 1).toInt := p9r
  have hE : r8.toInt = nsI i2.toInt i3.toInt i4.toInt := by
    have e9 := p9
    rw [ko6, ko7, ci2, ci3, ci4] at e9
    exact e9
  have hE2 : r8.toInt ≤ 143 := by
    rw [hE]
    exact nsI_le (by omega) (by omega) (by omega) (by omega) (by omega) (by omega)
  refine lv_istore (lv' := [(6, .int r8), (5, .int v7), (4, .int 0), (3, .int 0), (2, .int v6), (0, .ref a0), (1, .int x1)]) C.1 C.2.1 dX4_tellOfBatchesLeft_21 hl (by decide) rfl (fun ls hl => ?_)
  refine lv_iconst (v := 0) C.1 C.2.1 dX4_tellOfBatchesLeft_23 (by decide) ?_
  refine lv_istore (lv' := [(7, .int 0), (6, .int r8), (5, .int v7), (4, .int 0), (3, .int 0), (2, .int v6), (0, .ref a0), (1, .int x1)]) C.1 C.2.1 dX4_tellOfBatchesLeft_24 hl (by decide) rfl (fun ls hl => ?_)
  have L26 : ∀ (n26 : Nat) (y10 : Int32) (y11 : Int32) (y12 : Int32) (y13 : Int32) (y14 : Int32) (I15 : Ms) (H : Heap) (locs : List Loc) (ls : Array Slot), I15 a0 9 = v7 → I15 a0 11 = v5 → I15 o7 1 = i4 → I15 o6 1 = i3 → I15 (gr g a0 0) 4 = i2 → 0 ≤ y14.toInt → y14.toInt ≤ 40 → 0 ≤ y13.toInt → y13.toInt ≤ 200 → 40 - y14.toInt < (n26 : Int) → Fr g md_X4_tellOfBatchesLeft I I15 → Mm g s I15 J H locs → lv_has ls 8 [(0, .ref a0), (1, .int x1), (2, .int y10), (3, .int y11), (4, .int y12), (5, .int y13), (6, .int r8), (7, .int y14)] → W p l e (rmL 2) s m args below meth c H locs 0 0 (MQg below g (PM g md_X4_tellOfBatchesLeft I (fun z I1 J1 => J1 = J ∧ (True))) args s) (F0 m 26 ls []) := by
    intro n26
    induction n26 with
    | zero =>
      intro y10 y11 y12 y13 y14 I15 H locs ls k16 k17 k18 k19 k20 f21 f22 f23 f24 hm26 F M hl
      exact absurd hm26 (by omega)
    | succ n26 ih26 =>
      intro y10 y11 y12 y13 y14 I15 H locs ls k16 k17 k18 k19 k20 f21 f22 f23 f24 hm26 F M hl
      refine lv_iload C.1 C.2.1 dX4_tellOfBatchesLeft_26 (lv_at hl 7 rfl) ?_
      refine lv_bipush (v := 40) C.1 C.2.1 dX4_tellOfBatchesLeft_28 (by decide) ?_
      have J123 : ∀ (H : Heap) (locs : List Loc) (ls : Array Slot), Mm g s I15 J H locs → lv_has ls 8 [(1, .int x1), (2, .int y10), (3, .int y11), (4, .int y12)] → W p l e (rmL 2) s m args below meth c H locs 0 0 (MQg below g (PM g md_X4_tellOfBatchesLeft I (fun z I1 J1 => J1 = J ∧ (True))) args s) (F0 m 123 ls []) := by
        intro H locs ls M hl
        refine lv_iload_n C.1 C.2.1 dX4_tellOfBatchesLeft_123 rfl (lv_at hl 0 rfl) ?_
        refine lv_iconst (v := 3) C.1 C.2.1 dX4_tellOfBatchesLeft_124 (by decide) ?_
        refine n_icmp_ne C (tgt := 132) (Y := 3) dX4_tellOfBatchesLeft_125 (by decide) rfl rfl (fun q25 => ?_) (fun q25 => ?_)
        ·
          refine lv_iload_n C.1 C.2.1 dX4_tellOfBatchesLeft_132 rfl (lv_at hl 0 rfl) ?_
          refine lv_iconst (v := 4) C.1 C.2.1 dX4_tellOfBatchesLeft_133 (by decide) ?_
          refine n_icmp_ne C (tgt := 141) (Y := 4) dX4_tellOfBatchesLeft_134 (by decide) rfl rfl (fun q26 => ?_) (fun q26 => ?_)
          ·
            refine lv_iload C.1 C.2.1 dX4_tellOfBatchesLeft_141 (lv_at hl 3 rfl) ?_
            exact r_PM C M hr hlk F rfl ⟨rfl, trivial⟩ dX4_tellOfBatchesLeft_143
          ·
            refine lv_iload_n C.1 C.2.1 dX4_tellOfBatchesLeft_137 rfl (lv_at hl 2 rfl) ?_
            refine lv_goto (tgt := 143) C.1 C.2.1 dX4_tellOfBatchesLeft_138 (by decide) ?_
            exact r_PM C M hr hlk F rfl ⟨rfl, trivial⟩ dX4_tellOfBatchesLeft_143
        ·
          refine lv_iload_n C.1 C.2.1 dX4_tellOfBatchesLeft_128 rfl (lv_at hl 1 rfl) ?_
          refine lv_goto (tgt := 143) C.1 C.2.1 dX4_tellOfBatchesLeft_129 (by decide) ?_
          exact r_PM C M hr hlk F rfl ⟨rfl, trivial⟩ dX4_tellOfBatchesLeft_143
      refine n_icmp_ge C (tgt := 123) (Y := 40) dX4_tellOfBatchesLeft_30 (by decide) rfl rfl (fun q27 => ?_) (fun q27 => ?_)
      ·
        exact J123 _ _ _ M (lv_sub hl [1, 2, 3, 4] rfl)
      ·
        refine lv_iload C.1 C.2.1 dX4_tellOfBatchesLeft_33 (lv_at hl 5 rfl) ?_
        refine lv_iload C.1 C.2.1 dX4_tellOfBatchesLeft_35 (lv_at hl 6 rfl) ?_
        refine n_icmp_ge C (tgt := 123) dX4_tellOfBatchesLeft_37 (by decide) rfl rfl (fun q28 => ?_) (fun q28 => ?_)
        ·
          exact J123 _ _ _ M (lv_sub hl [1, 2, 3, 4] rfl)
        ·
          refine lv_aload_n C.1 C.2.1 dX4_tellOfBatchesLeft_40 rfl (lv_at hl 0 rfl) ?_
          refine gi_X4_42 C M h0_ dX4_tellOfBatchesLeft_41 (fun h29 => ?_)
          refine lv_aload_n C.1 C.2.1 dX4_tellOfBatchesLeft_44 rfl (lv_at hl 0 rfl) ?_
          refine gk_X4_66 C M h0_ ko6 dX4_tellOfBatchesLeft_45 ?_
          refine lv_aload_n C.1 C.2.1 dX4_tellOfBatchesLeft_48 rfl (lv_at hl 0 rfl) ?_
          refine gk_X4_70 C M h0_ ko7 dX4_tellOfBatchesLeft_49 ?_
          refine lv_aload_n C.1 C.2.1 dX4_tellOfBatchesLeft_52 rfl (lv_at hl 0 rfl) ?_
          refine gi_X4_12 C M h0_ dX4_tellOfBatchesLeft_53 (fun h30 => ?_)
          refine gk_X4_115 C M h1 k20 dX4_tellOfBatchesLeft_56 ?_
          refine lv_iload C.1 C.2.1 dX4_tellOfBatchesLeft_59 (lv_at hl 5 rfl) ?_
          refine lv_aload_n C.1 C.2.1 dX4_tellOfBatchesLeft_61 rfl (lv_at hl 0 rfl) ?_
          refine gi_X4_80 C M h0_ dX4_tellOfBatchesLeft_62 (fun v31 kv31 tv31 uv31 => ?_)
          refine k_PV C M h29 (by decide) rfl (ct_X1_plan l g I15 J (gr g a0 5) o6 o7 i2 y13 v31 h29 ho6 ho7 (by omega) (by omega) (by omega) (by omega) (by omega) (by omega) (by have e1 : (I15 o6 1).toInt = i3.toInt := congrArg Int32.toInt k19; have e2 : (I15 o7 1).toInt = i4.toInt := congrArg Int32.toInt k18; rw [e1, e2, ← hE]; omega)) (cw_X4_118 C.2.2.2.2 (by decide)) rfl hl.1 rfl (Nat.le_of_ble_eq_true rfl) dX4_tellOfBatchesLeft_65 ⟨Nat.le_refl _, Nat.le_refl _⟩ (fun I32 J33 H locs G34 p35r M => ?_)
          obtain ⟨eJ33, p35⟩ : J33 = J ∧ (True) := p35r
          have eJ33 := eJ33.symm
          subst eJ33
          have F := fr_call F G34 (by decide)
          refine lv_iload_n C.1 C.2.1 dX4_tellOfBatchesLeft_68 rfl (lv_at hl 2 rfl) ?_
          refine lv_aload_n C.1 C.2.1 dX4_tellOfBatchesLeft_69 rfl (lv_at hl 0 rfl) ?_
          refine gi_X4_42 C M h0_ dX4_tellOfBatchesLeft_70 (fun h36 => ?_)
          refine gi_X4_207 C M h29 dX4_tellOfBatchesLeft_73 (fun v37 kv37 tv37 uv37 => ?_)
          refine n_iaddU C dX4_tellOfBatchesLeft_76 (fun v38 => ?_)
          refine lv_istore_n (lv' := [(2, .int v38), (0, .ref a0), (1, .int x1), (3, .int y11), (4, .int y12), (5, .int y13), (6, .int r8), (7, .int y14)]) C.1 C.2.1 dX4_tellOfBatchesLeft_77 rfl hl (by decide) rfl (fun ls hl => ?_)
          refine lv_aload_n C.1 C.2.1 dX4_tellOfBatchesLeft_78 rfl (lv_at hl 1 rfl) ?_
          refine gi_X4_42 C M h0_ dX4_tellOfBatchesLeft_79 (fun h39 => ?_)
          refine gi_X4_295 C M h29 dX4_tellOfBatchesLeft_82 (fun v40 kv40 tv40 uv40 => ?_)
          have J105 : ∀ (w41 : Int32) (w42 : Int32) (H : Heap) (locs : List Loc) (ls : Array Slot), Mm g s I32 J H locs → lv_has ls 8 [(0, .ref a0), (1, .int x1), (2, .int v38), (3, .int w41), (4, .int w42), (5, .int y13), (6, .int r8), (7, .int y14)] → W p l e (rmL 2) s m args below meth c H locs 0 0 (MQg below g (PM g md_X4_tellOfBatchesLeft I (fun z I1 J1 => J1 = J ∧ (True))) args s) (F0 m 105 ls []) := by
            intro w41 w42 H locs ls M hl
            refine lv_iload C.1 C.2.1 dX4_tellOfBatchesLeft_105 (lv_at hl 5 rfl) ?_
            refine lv_aload_n C.1 C.2.1 dX4_tellOfBatchesLeft_107 rfl (lv_at hl 0 rfl) ?_
            refine gi_X4_42 C M h0_ dX4_tellOfBatchesLeft_108 (fun h43 => ?_)
            refine gi_X4_237 C M h29 dX4_tellOfBatchesLeft_111 (fun v44 kv44 tv44 uv44 => ?_)
            refine n_iadd C dX4_tellOfBatchesLeft_114 rfl rfl (by omega) (by omega) (fun v45 ev45 => ?_)
            refine lv_istore (lv' := [(5, .int v45), (0, .ref a0), (1, .int x1), (2, .int v38), (3, .int w41), (4, .int w42), (6, .int r8), (7, .int y14)]) C.1 C.2.1 dX4_tellOfBatchesLeft_115 hl (by decide) rfl (fun ls hl => ?_)
            refine n_iinc C (k := 7) (N := 1) (lv' := fun v => [(7, .int v), (5, .int v45), (0, .ref a0), (1, .int x1), (2, .int v38), (3, .int w41), (4, .int w42), (6, .int r8)]) dX4_tellOfBatchesLeft_117 hl rfl (by decide) rfl rfl (by omega) (by omega) (fun _ => rfl) (fun v46 ls ev46 hl => ?_)
            refine lv_goto (tgt := 26) C.1 C.2.1 dX4_tellOfBatchesLeft_120 (by decide) ?_
            exact ih26 v38 w41 w42 v45 v46 I32 _ _ _ ((G34 a0 2 9 h0_ (by decide) (by decide)).trans k16) ((G34 a0 2 11 h0_ (by decide) (by decide)).trans k17) ((G34 o7 3 1 ho7 (by decide) (by decide)).trans k18) ((G34 o6 3 1 ho6 (by decide) (by decide)).trans k19) ((G34 (gr g a0 0) 1 4 h1 (by decide) (by decide)).trans k20) (by omega) (by omega) (by omega) (by omega) (by omega) F M (lv_sub hl [2, 3, 4, 5, 6, 1, 7, 0] rfl)
          refine n_if_eq C (tgt := 105) dX4_tellOfBatchesLeft_85 (by decide) rfl (fun q47 => ?_) (fun q47 => ?_)
          ·
            exact J105 y11 y12 _ _ _ M (lv_sub hl [1, 2, 0, 3, 4, 5, 6, 7] rfl)
          ·
            refine n_iincU C (k := 3) (lv' := fun v => [(3, .int v), (2, .int v38), (0, .ref a0), (1, .int x1), (4, .int y12), (5, .int y13), (6, .int r8), (7, .int y14)]) dX4_tellOfBatchesLeft_88 hl rfl (by decide) (fun _ => rfl) (fun v48 ls hl => ?_)
            refine lv_iload C.1 C.2.1 dX4_tellOfBatchesLeft_91 (lv_at hl 4 rfl) ?_
            refine lv_aload_n C.1 C.2.1 dX4_tellOfBatchesLeft_93 rfl (lv_at hl 2 rfl) ?_
            refine gi_X4_42 C M h0_ dX4_tellOfBatchesLeft_94 (fun h49 => ?_)
            refine gi_X4_136 C M h29 dX4_tellOfBatchesLeft_97 (fun v50 kv50 tv50 uv50 => ?_)
            refine n_mmax (D := 1) C dX4_tellOfBatchesLeft_100 hl.1 ml_X4_301 rfl rfl (Nat.le_of_ble_eq_true rfl) (fun v51 ev51 => ?_)
            refine lv_istore (lv' := [(4, .int v51), (3, .int v48), (2, .int v38), (0, .ref a0), (1, .int x1), (5, .int y13), (6, .int r8), (7, .int y14)]) C.1 C.2.1 dX4_tellOfBatchesLeft_103 hl (by decide) rfl (fun ls hl => ?_)
            exact J105 v48 v51 _ _ _ M (lv_sub hl [3, 4, 2, 1, 0, 5, 6, 7] rfl)
  have cz52 : (0 : Int32).toInt = 0 := rfl
  have cz53 : (0 : Int32).toInt = 0 := rfl
  have cz54 : (0 : Int32).toInt = 0 := rfl
  exact L26 _ v6 0 0 v7 0 I _ _ _ kv7 kv5 ki4 ki3 ki2 (by omega) (by omega) (by omega) (by omega) (n_big _) F M (lv_sub hl [6, 7, 5, 4, 3, 2, 1, 0] rfl)

abbrev md_X4_tellOfBatch : List (Nat × Nat) := [(0, 1), (0, 2), (0, 3), (0, 4), (0, 5), (0, 6), (0, 7)]
set_option maxHeartbeats 4000000 in
set_option maxRecDepth 100000 in
theorem ct_X4_tellOfBatch (l : Launch) (g : Gs) (I : Ms) (J : Js) (a0 : Nat) (x1 : Int32) (h0_ : Is g a0 2) : Ctr l yX4_tellOfBatch cX4_tellOfBatch 2 (Option.some Jvm.ClassFile.FieldType.int) 5 g [.ref a0, .int x1] I J (PM g md_X4_tellOfBatch I (fun z I1 J1 => J1 = J ∧ (True))) := by
  refine m_start (by decide) (Nat.le_of_ble_eq_true rfl) ?_
  intro p e s m args below meth c C hr hlk M ls hl
  have hl : lv_has ls 2 [(0, .ref a0), (1, .int x1)] := hl
  have C : CallFix p m c cX4_tellOfBatch 2 s args TB RX4 := C
  have F : Fr g md_X4_tellOfBatch I I := fr_rf
  refine lv_iload_n C.1 C.2.1 dX4_tellOfBatch_0 rfl (lv_at hl 1 rfl) ?_
  by_cases q1 : x1.toInt = 0
  ·
    refine n_tabk (off := 47) (tgt := 48) C 0 dX4_tellOfBatch_1 q1 (by decide) (by decide) (by decide) (by decide) ?_
    refine lv_aload_n C.1 C.2.1 dX4_tellOfBatch_48 rfl (lv_at hl 0 rfl) ?_
    refine gi_X4_38 C M h0_ dX4_tellOfBatch_49 (fun h2 => ?_)
    refine gi_X4_207 C M h2 dX4_tellOfBatch_52 (fun v3 kv3 tv3 uv3 => ?_)
    exact r_PM C M hr hlk F rfl ⟨rfl, trivial⟩ dX4_tellOfBatch_55
  by_cases q4 : x1.toInt = 1
  ·
    refine n_tabk (off := 55) (tgt := 56) C 1 dX4_tellOfBatch_1 q4 (by decide) (by decide) (by decide) (by decide) ?_
    refine lv_aload_n C.1 C.2.1 dX4_tellOfBatch_56 rfl (lv_at hl 0 rfl) ?_
    refine gi_X4_81 C M h0_ dX4_tellOfBatch_57 (fun v5 kv5 => ?_)
    exact r_PM C M hr hlk F rfl ⟨rfl, trivial⟩ dX4_tellOfBatch_60
  by_cases q6 : x1.toInt = 2
  ·
    refine n_tabk (off := 60) (tgt := 61) C 2 dX4_tellOfBatch_1 q6 (by decide) (by decide) (by decide) (by decide) ?_
    refine lv_aload_n C.1 C.2.1 dX4_tellOfBatch_61 rfl (lv_at hl 0 rfl) ?_
    refine gi_X4_38 C M h0_ dX4_tellOfBatch_62 (fun h7 => ?_)
    refine gi_X4_295 C M h7 dX4_tellOfBatch_65 (fun v8 kv8 tv8 uv8 => ?_)
    refine n_if_eq C (tgt := 75) dX4_tellOfBatch_68 (by decide) rfl (fun q9 => ?_) (fun q9 => ?_)
    ·
      refine lv_iconst (v := 0) C.1 C.2.1 dX4_tellOfBatch_75 (by decide) ?_
      exact r_PM C M (z := 0) hr hlk F rfl ⟨rfl, trivial⟩ dX4_tellOfBatch_76
    ·
      refine lv_iconst (v := 1) C.1 C.2.1 dX4_tellOfBatch_71 (by decide) ?_
      refine lv_goto (tgt := 76) C.1 C.2.1 dX4_tellOfBatch_72 (by decide) ?_
      exact r_PM C M (z := 1) hr hlk F rfl ⟨rfl, trivial⟩ dX4_tellOfBatch_76
  by_cases q10 : x1.toInt = 3
  ·
    refine n_tabk (off := 76) (tgt := 77) C 3 dX4_tellOfBatch_1 q10 (by decide) (by decide) (by decide) (by decide) ?_
    refine lv_aload_n C.1 C.2.1 dX4_tellOfBatch_77 rfl (lv_at hl 0 rfl) ?_
    refine lv_iload_n C.1 C.2.1 dX4_tellOfBatch_78 rfl (lv_at hl 1 rfl) ?_
    refine k_PM C M h0_ (by decide) rfl (ct_X4_tellOfBatchesLeft l g I J a0 x1 h0_) (cw_X4_298 C.2.2.2.2 (by decide)) rfl hl.1 rfl (Nat.le_of_ble_eq_true rfl) dX4_tellOfBatch_79 ⟨Nat.le_refl _, Nat.le_refl _⟩ (fun r15 I11 J12 H locs G13 p14r M => ?_)
    obtain ⟨eJ12, p14⟩ : J12 = J ∧ (True) := p14r
    have eJ12 := eJ12.symm
    subst eJ12
    have F := fr_call F G13 (by decide)
    exact r_PM C M hr hlk F rfl ⟨rfl, trivial⟩ dX4_tellOfBatch_82
  by_cases q16 : x1.toInt = 4
  ·
    refine n_tabk (off := 76) (tgt := 77) C 4 dX4_tellOfBatch_1 q16 (by decide) (by decide) (by decide) (by decide) ?_
    refine lv_aload_n C.1 C.2.1 dX4_tellOfBatch_77 rfl (lv_at hl 0 rfl) ?_
    refine lv_iload_n C.1 C.2.1 dX4_tellOfBatch_78 rfl (lv_at hl 1 rfl) ?_
    refine k_PM C M h0_ (by decide) rfl (ct_X4_tellOfBatchesLeft l g I J a0 x1 h0_) (cw_X4_298 C.2.2.2.2 (by decide)) rfl hl.1 rfl (Nat.le_of_ble_eq_true rfl) dX4_tellOfBatch_79 ⟨Nat.le_refl _, Nat.le_refl _⟩ (fun r21 I17 J18 H locs G19 p20r M => ?_)
    obtain ⟨eJ18, p20⟩ : J18 = J ∧ (True) := p20r
    have eJ18 := eJ18.symm
    subst eJ18
    have F := fr_call F G19 (by decide)
    exact r_PM C M hr hlk F rfl ⟨rfl, trivial⟩ dX4_tellOfBatch_82
  by_cases q22 : x1.toInt = 5
  ·
    refine n_tabk (off := 76) (tgt := 77) C 5 dX4_tellOfBatch_1 q22 (by decide) (by decide) (by decide) (by decide) ?_
    refine lv_aload_n C.1 C.2.1 dX4_tellOfBatch_77 rfl (lv_at hl 0 rfl) ?_
    refine lv_iload_n C.1 C.2.1 dX4_tellOfBatch_78 rfl (lv_at hl 1 rfl) ?_
    refine k_PM C M h0_ (by decide) rfl (ct_X4_tellOfBatchesLeft l g I J a0 x1 h0_) (cw_X4_298 C.2.2.2.2 (by decide)) rfl hl.1 rfl (Nat.le_of_ble_eq_true rfl) dX4_tellOfBatch_79 ⟨Nat.le_refl _, Nat.le_refl _⟩ (fun r27 I23 J24 H locs G25 p26r M => ?_)
    obtain ⟨eJ24, p26⟩ : J24 = J ∧ (True) := p26r
    have eJ24 := eJ24.symm
    subst eJ24
    have F := fr_call F G25 (by decide)
    exact r_PM C M hr hlk F rfl ⟨rfl, trivial⟩ dX4_tellOfBatch_82
  by_cases q28 : x1.toInt = 6
  ·
    refine n_tabk (off := 82) (tgt := 83) C 6 dX4_tellOfBatch_1 q28 (by decide) (by decide) (by decide) (by decide) ?_
    refine lv_aload_n C.1 C.2.1 dX4_tellOfBatch_83 rfl (lv_at hl 0 rfl) ?_
    refine k_PI C M h0_ (by decide) rfl (ct_X4_isStuck l g I J a0 h0_) (cw_X4_198 C.2.2.2.2 (by decide)) rfl hl.1 rfl (Nat.le_of_ble_eq_true rfl) dX4_tellOfBatch_84 ⟨Nat.le_refl _, Nat.le_refl _⟩ (fun r29 H locs p30r M => ?_)
    have p30 : 0 ≤ r29.toInt ∧ r29.toInt ≤ 1 := p30r
    refine n_if_eq C (tgt := 94) dX4_tellOfBatch_87 (by decide) rfl (fun q31 => ?_) (fun q31 => ?_)
    ·
      refine lv_iconst (v := 0) C.1 C.2.1 dX4_tellOfBatch_94 (by decide) ?_
      exact r_PM C M (z := 0) hr hlk F rfl ⟨rfl, trivial⟩ dX4_tellOfBatch_95
    ·
      refine lv_iconst (v := 1) C.1 C.2.1 dX4_tellOfBatch_90 (by decide) ?_
      refine lv_goto (tgt := 95) C.1 C.2.1 dX4_tellOfBatch_91 (by decide) ?_
      exact r_PM C M (z := 1) hr hlk F rfl ⟨rfl, trivial⟩ dX4_tellOfBatch_95
  by_cases q32 : x1.toInt = 7
  ·
    refine n_tabk (off := 95) (tgt := 96) C 7 dX4_tellOfBatch_1 q32 (by decide) (by decide) (by decide) (by decide) ?_
    refine lv_aload_n C.1 C.2.1 dX4_tellOfBatch_96 rfl (lv_at hl 0 rfl) ?_
    refine gi_X4_84 C M h0_ dX4_tellOfBatch_97 (fun v33 kv33 tv33 uv33 => ?_)
    refine n_if_eq C (tgt := 107) dX4_tellOfBatch_100 (by decide) rfl (fun q34 => ?_) (fun q34 => ?_)
    ·
      refine lv_iconst (v := 0) C.1 C.2.1 dX4_tellOfBatch_107 (by decide) ?_
      exact r_PM C M (z := 0) hr hlk F rfl ⟨rfl, trivial⟩ dX4_tellOfBatch_108
    ·
      refine lv_iconst (v := 1) C.1 C.2.1 dX4_tellOfBatch_103 (by decide) ?_
      refine lv_goto (tgt := 108) C.1 C.2.1 dX4_tellOfBatch_104 (by decide) ?_
      exact r_PM C M (z := 1) hr hlk F rfl ⟨rfl, trivial⟩ dX4_tellOfBatch_108
  refine n_tabo (tgt := 109) C dX4_tellOfBatch_1 rfl (by omega) (by decide) ?_
  refine lv_iconst (v := -1) C.1 C.2.1 dX4_tellOfBatch_109 (by decide) ?_
  exact r_PM C M (z := (-1)) hr hlk F rfl ⟨rfl, trivial⟩ dX4_tellOfBatch_110

set_option maxHeartbeats 4000000 in
set_option maxRecDepth 100000 in
theorem ct_X4_tellCount (l : Launch) (g : Gs) (I : Ms) (J : Js) (a0 : Nat) (x1 : Int32) (h0_ : Is g a0 2) : Ctr l yX4_tellCount cX4_tellCount 2 (Option.some Jvm.ClassFile.FieldType.int) 6 g [.ref a0, .int x1] I J (PI I J (fun z => True)) := by
  refine m_start (by decide) (Nat.le_of_ble_eq_true rfl) ?_
  intro p e s m args below meth c C hr hlk M ls hl
  have hl : lv_has ls 2 [(0, .ref a0), (1, .int x1)] := hl
  have C : CallFix p m c cX4_tellCount 2 s args TB RX4 := C
  refine lv_iload_n C.1 C.2.1 dX4_tellCount_0 rfl (lv_at hl 1 rfl) ?_
  by_cases q1 : x1.toInt = 0
  ·
    refine n_tabk (off := 79) (tgt := 80) C 0 dX4_tellCount_1 q1 (by decide) (by decide) (by decide) (by decide) ?_
    refine lv_aload_n C.1 C.2.1 dX4_tellCount_80 rfl (lv_at hl 0 rfl) ?_
    refine gi_X4_12 C M h0_ dX4_tellCount_81 (fun h2 => ?_)
    refine gi_X4_186 C M h2 dX4_tellCount_84 (fun v3 kv3 tv3 uv3 => ?_)
    exact r_PI C M hr hlk rfl trivial dX4_tellCount_87
  by_cases q4 : x1.toInt = 1
  ·
    refine n_tabk (off := 87) (tgt := 88) C 1 dX4_tellCount_1 q4 (by decide) (by decide) (by decide) (by decide) ?_
    refine lv_aload_n C.1 C.2.1 dX4_tellCount_88 rfl (lv_at hl 0 rfl) ?_
    refine gi_X4_12 C M h0_ dX4_tellCount_89 (fun h5 => ?_)
    refine gi_X4_115 C M h5 dX4_tellCount_92 (fun v6 kv6 tv6 uv6 => ?_)
    exact r_PI C M hr hlk rfl trivial dX4_tellCount_95
  by_cases q7 : x1.toInt = 2
  ·
    refine n_tabk (off := 95) (tgt := 96) C 2 dX4_tellCount_1 q7 (by decide) (by decide) (by decide) (by decide) ?_
    refine lv_aload_n C.1 C.2.1 dX4_tellCount_96 rfl (lv_at hl 0 rfl) ?_
    refine k_PI C M h0_ (by decide) rfl (ct_X4_blocks l g I J a0 h0_) (cw_X4_125 C.2.2.2.2 (by decide)) rfl hl.1 rfl (Nat.le_of_ble_eq_true rfl) dX4_tellCount_97 ⟨Nat.le_refl _, Nat.le_refl _⟩ (fun r8 H locs p9r M => ?_)
    have p9 : r8.toInt = (I (gr g a0 0) 4).toInt * (I (J.1 a0 6) 1).toInt ∧ 0 ≤ r8.toInt ∧ r8.toInt ≤ 280 := p9r
    exact r_PI C M hr hlk rfl trivial dX4_tellCount_100
  by_cases q10 : x1.toInt = 3
  ·
    refine n_tabk (off := 100) (tgt := 101) C 3 dX4_tellCount_1 q10 (by decide) (by decide) (by decide) (by decide) ?_
    refine lv_aload_n C.1 C.2.1 dX4_tellCount_101 rfl (lv_at hl 0 rfl) ?_
    refine gi_X4_73 C M h0_ dX4_tellCount_102 (fun v11 kv11 tv11 uv11 => ?_)
    refine n_if_eq C (tgt := 112) dX4_tellCount_105 (by decide) rfl (fun q12 => ?_) (fun q12 => ?_)
    ·
      refine lv_iconst (v := 0) C.1 C.2.1 dX4_tellCount_112 (by decide) ?_
      exact r_PI C M (z := 0) hr hlk rfl trivial dX4_tellCount_113
    ·
      refine lv_iconst (v := 1) C.1 C.2.1 dX4_tellCount_108 (by decide) ?_
      refine lv_goto (tgt := 113) C.1 C.2.1 dX4_tellCount_109 (by decide) ?_
      exact r_PI C M (z := 1) hr hlk rfl trivial dX4_tellCount_113
  by_cases q13 : x1.toInt = 4
  ·
    refine n_tabk (off := 113) (tgt := 114) C 4 dX4_tellCount_1 q13 (by decide) (by decide) (by decide) (by decide) ?_
    refine lv_aload_n C.1 C.2.1 dX4_tellCount_114 rfl (lv_at hl 0 rfl) ?_
    refine gi_X4_77 C M h0_ dX4_tellCount_115 (fun v14 kv14 tv14 uv14 => ?_)
    exact r_PI C M hr hlk rfl trivial dX4_tellCount_118
  by_cases q15 : x1.toInt = 5
  ·
    refine n_tabk (off := 118) (tgt := 119) C 5 dX4_tellCount_1 q15 (by decide) (by decide) (by decide) (by decide) ?_
    refine lv_aload_n C.1 C.2.1 dX4_tellCount_119 rfl (lv_at hl 0 rfl) ?_
    refine gi_X4_21 C M h0_ dX4_tellCount_120 (fun h16 => ?_)
    refine gi_X4_59 C M h16 dX4_tellCount_123 (fun v17 kv17 => ?_)
    exact r_PI C M hr hlk rfl trivial dX4_tellCount_126
  by_cases q18 : x1.toInt = 6
  ·
    refine n_tabk (off := 126) (tgt := 127) C 6 dX4_tellCount_1 q18 (by decide) (by decide) (by decide) (by decide) ?_
    refine lv_aload_n C.1 C.2.1 dX4_tellCount_127 rfl (lv_at hl 0 rfl) ?_
    refine gi_X4_73 C M h0_ dX4_tellCount_128 (fun v19 kv19 tv19 uv19 => ?_)
    refine n_if_eq C (tgt := 141) dX4_tellCount_131 (by decide) rfl (fun q20 => ?_) (fun q20 => ?_)
    ·
      refine lv_iconst (v := -1) C.1 C.2.1 dX4_tellCount_141 (by decide) ?_
      exact r_PI C M (z := (-1)) hr hlk rfl trivial dX4_tellCount_142
    ·
      refine lv_aload_n C.1 C.2.1 dX4_tellCount_134 rfl (lv_at hl 0 rfl) ?_
      refine k_PI C M h0_ (by decide) rfl (ct_X4_newStripes l g I J a0 h0_) (cw_X4_195 C.2.2.2.2 (by decide)) rfl hl.1 rfl (Nat.le_of_ble_eq_true rfl) dX4_tellCount_135 ⟨Nat.le_refl _, Nat.le_refl _⟩ (fun r21 H locs p22r M => ?_)
      have p22 : r21.toInt = nsI (I (gr g a0 0) 4).toInt (I (J.1 a0 6) 1).toInt (I (J.1 a0 7) 1).toInt := p22r
      refine lv_goto (tgt := 142) C.1 C.2.1 dX4_tellCount_138 (by decide) ?_
      exact r_PI C M hr hlk rfl trivial dX4_tellCount_142
  by_cases q23 : x1.toInt = 7
  ·
    refine n_tabk (off := 142) (tgt := 143) C 7 dX4_tellCount_1 q23 (by decide) (by decide) (by decide) (by decide) ?_
    refine lv_aload_n C.1 C.2.1 dX4_tellCount_143 rfl (lv_at hl 0 rfl) ?_
    refine gi_X4_12 C M h0_ dX4_tellCount_144 (fun h24 => ?_)
    refine gi_X4_189 C M h24 dX4_tellCount_147 (fun v25 kv25 tv25 uv25 => ?_)
    exact r_PI C M hr hlk rfl trivial dX4_tellCount_150
  by_cases q26 : x1.toInt = 8
  ·
    refine n_tabk (off := 150) (tgt := 151) C 8 dX4_tellCount_1 q26 (by decide) (by decide) (by decide) (by decide) ?_
    refine lv_aload_n C.1 C.2.1 dX4_tellCount_151 rfl (lv_at hl 0 rfl) ?_
    refine gi_X4_12 C M h0_ dX4_tellCount_152 (fun h27 => ?_)
    refine k_PI C M h27 (by decide) rfl (ct_X3_badWords l g I J (gr g a0 0) h27) (cw_X4_304 C.2.2.2.2 (by decide)) rfl hl.1 rfl (Nat.le_of_ble_eq_true rfl) dX4_tellCount_155 ⟨Nat.le_refl _, Nat.le_refl _⟩ (fun r28 H locs p29r M => ?_)
    have p29 : True := p29r
    exact r_PI C M hr hlk rfl trivial dX4_tellCount_158
  by_cases q30 : x1.toInt = 9
  ·
    refine n_tabk (off := 158) (tgt := 159) C 9 dX4_tellCount_1 q30 (by decide) (by decide) (by decide) (by decide) ?_
    refine lv_aload_n C.1 C.2.1 dX4_tellCount_159 rfl (lv_at hl 0 rfl) ?_
    refine gi_X4_93 C M h0_ dX4_tellCount_160 (fun v31 kv31 => ?_)
    exact r_PI C M hr hlk rfl trivial dX4_tellCount_163
  by_cases q32 : x1.toInt = 10
  ·
    refine n_tabk (off := 163) (tgt := 164) C 10 dX4_tellCount_1 q32 (by decide) (by decide) (by decide) (by decide) ?_
    refine lv_aload_n C.1 C.2.1 dX4_tellCount_164 rfl (lv_at hl 0 rfl) ?_
    refine gi_X4_96 C M h0_ dX4_tellCount_165 (fun v33 kv33 => ?_)
    exact r_PI C M hr hlk rfl trivial dX4_tellCount_168
  by_cases q34 : x1.toInt = 11
  ·
    refine n_tabk (off := 168) (tgt := 169) C 11 dX4_tellCount_1 q34 (by decide) (by decide) (by decide) (by decide) ?_
    refine lv_aload_n C.1 C.2.1 dX4_tellCount_169 rfl (lv_at hl 0 rfl) ?_
    refine gi_X4_80 C M h0_ dX4_tellCount_170 (fun v35 kv35 tv35 uv35 => ?_)
    exact r_PI C M hr hlk rfl trivial dX4_tellCount_173
  by_cases q36 : x1.toInt = 12
  ·
    refine n_tabk (off := 173) (tgt := 174) C 12 dX4_tellCount_1 q36 (by decide) (by decide) (by decide) (by decide) ?_
    refine lv_aload_n C.1 C.2.1 dX4_tellCount_174 rfl (lv_at hl 0 rfl) ?_
    refine gi_X4_87 C M h0_ dX4_tellCount_175 (fun v37 kv37 tv37 uv37 => ?_)
    exact r_PI C M hr hlk rfl trivial dX4_tellCount_178
  by_cases q38 : x1.toInt = 13
  ·
    refine n_tabk (off := 178) (tgt := 179) C 13 dX4_tellCount_1 q38 (by decide) (by decide) (by decide) (by decide) ?_
    refine lv_aload_n C.1 C.2.1 dX4_tellCount_179 rfl (lv_at hl 0 rfl) ?_
    refine gi_X4_90 C M h0_ dX4_tellCount_180 (fun v39 kv39 tv39 uv39 => ?_)
    exact r_PI C M hr hlk rfl trivial dX4_tellCount_183
  by_cases q40 : x1.toInt = 14
  ·
    refine n_tabk (off := 183) (tgt := 184) C 14 dX4_tellCount_1 q40 (by decide) (by decide) (by decide) (by decide) ?_
    refine lv_aload_n C.1 C.2.1 dX4_tellCount_184 rfl (lv_at hl 0 rfl) ?_
    refine k_PI C M h0_ (by decide) rfl (ct_X4_unreadableBlocks l g I J a0 h0_) (cw_X4_307 C.2.2.2.2 (by decide)) rfl hl.1 rfl (Nat.le_of_ble_eq_true rfl) dX4_tellCount_185 ⟨Nat.le_refl _, Nat.le_refl _⟩ (fun r41 H locs p42r M => ?_)
    have p42 : True := p42r
    exact r_PI C M hr hlk rfl trivial dX4_tellCount_188
  by_cases q43 : x1.toInt = 15
  ·
    refine n_tabk (off := 188) (tgt := 189) C 15 dX4_tellCount_1 q43 (by decide) (by decide) (by decide) (by decide) ?_
    refine lv_aload_n C.1 C.2.1 dX4_tellCount_189 rfl (lv_at hl 0 rfl) ?_
    refine gi_X4_21 C M h0_ dX4_tellCount_190 (fun h44 => ?_)
    refine gi_X4_55 C M h44 dX4_tellCount_193 (fun v45 kv45 tv45 uv45 => ?_)
    exact r_PI C M hr hlk rfl trivial dX4_tellCount_196
  refine n_tabo (tgt := 197) C dX4_tellCount_1 rfl (by omega) (by decide) ?_
  refine lv_iconst (v := -1) C.1 C.2.1 dX4_tellCount_197 (by decide) ?_
  exact r_PI C M (z := (-1)) hr hlk rfl trivial dX4_tellCount_198
