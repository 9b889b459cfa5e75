abbrev md_X6_copyFrom : List (Nat × Nat) := [(4, 2), (4, 3), (19, 0)]
set_option maxHeartbeats 4000000 in
set_option maxRecDepth 100000 in
theorem ct_X6_copyFrom (l : Launch) (g : Gs) (I : Ms) (J : Js) (a0 : Nat) (a1 : Nat) (h0_ : Is g a0 4) (h1_ : Is g a1 4) : Ctr l yX6_copyFrom cX6_copyFrom 2 (Option.none : Option Jvm.ClassFile.FieldType) 1 g [.ref a0, .ref a1] I J (PV g md_X6_copyFrom I (fun I1 J1 => J1 = J ∧ (True))) := by
  refine m_start (by decide) (Nat.le_of_ble_eq_true rfl) ?_
  intro p e s m args below meth c C hr hlk M ls hl
  have hl : lv_has ls 2 [(0, .ref a0), (1, .ref a1)] := hl
  have C : CallFix p m c cX6_copyFrom 2 s args TB RX6 := C
  have F : Fr g md_X6_copyFrom I I := fr_rf
  refine lv_aload_n C.1 C.2.1 dX6_copyFrom_0 rfl (lv_at hl 1 rfl) ?_
  refine gi_X6_11 C M h1_ dX6_copyFrom_1 (fun h1 => ?_)
  refine lv_iconst (v := 0) C.1 C.2.1 dX6_copyFrom_4 (by decide) ?_
  refine lv_aload_n C.1 C.2.1 dX6_copyFrom_5 rfl (lv_at hl 0 rfl) ?_
  refine gi_X6_11 C M h0_ dX6_copyFrom_6 (fun h2 => ?_)
  refine lv_iconst (v := 0) C.1 C.2.1 dX6_copyFrom_9 (by decide) ?_
  refine lv_aload_n C.1 C.2.1 dX6_copyFrom_10 rfl (lv_at hl 0 rfl) ?_
  refine gi_X6_11 C M h0_ dX6_copyFrom_11 (fun h3 => ?_)
  refine a_ln C M h2 rfl (v := 100) rfl dX6_copyFrom_14 ?_
  refine a_cp (D := 0) (SP := 0) (DP := 0) (N := 100) C M h1 h2 (n0 := 100) (n1 := 100) rfl rfl rfl rfl (fun _ => rfl) hl.1 ml_X6_15 ac_nat ac_sta ac_ini rfl rfl rfl (by omega) (by omega) (by omega) (by omega) (by omega) (Nat.le_of_ble_eq_true rfl) dX6_copyFrom_15 (fun H locs I4 eI4 G5 M => ?_)
  have F := fr_call F G5 (by decide)
  refine lv_aload_n C.1 C.2.1 dX6_copyFrom_18 rfl (lv_at hl 0 rfl) ?_
  refine lv_aload_n C.1 C.2.1 dX6_copyFrom_19 rfl (lv_at hl 1 rfl) ?_
  refine gi_X6_21 C M h1_ dX6_copyFrom_20 (fun v6 kv6 tv6 uv6 => ?_)
  refine pi_X6_21 C M h0_ dX6_copyFrom_23 rfl (by omega) (by omega) (fun H locs I7 k9 f8 M => ?_)
  have F := fr_put F h0_ (Or.inr (by decide)) f8
  refine lv_aload_n C.1 C.2.1 dX6_copyFrom_26 rfl (lv_at hl 0 rfl) ?_
  refine lv_aload_n C.1 C.2.1 dX6_copyFrom_27 rfl (lv_at hl 1 rfl) ?_
  refine gi_X6_25 C M h1_ dX6_copyFrom_28 (fun v10 kv10 => ?_)
  refine pi_X6_25 C M h0_ dX6_copyFrom_31 (fun H locs I11 k13 f12 M => ?_)
  have F := fr_put F h0_ (Or.inr (by decide)) f12
  exact r_PV C M hr hlk F ⟨rfl, trivial⟩ dX6_copyFrom_34

set_option maxHeartbeats 4000000 in
set_option maxRecDepth 100000 in
theorem ct_X6_part (l : Launch) (g : Gs) (I : Ms) (J : Js) (a0 : Nat) (x1 : Int32) (x2 : Int32) (h0_ : Is g a0 4) : Ctr l yX6_part cX6_part 3 (Option.some Jvm.ClassFile.FieldType.int) 1 g [.ref a0, .int x1, .int x2] I J (PI I J (fun z => True)) := by
  refine m_start (by decide) (Nat.le_of_ble_eq_true rfl) ?_
  intro p e s m args below meth c C hr hlk M ls hl
  have hl : lv_has ls 3 [(0, .ref a0), (1, .int x1), (2, .int x2)] := hl
  have C : CallFix p m c cX6_part 3 s args TB RX6 := C
  refine lv_iload_n C.1 C.2.1 dX6_part_0 rfl (lv_at hl 1 rfl) ?_
  refine n_if_lt C (tgt := 21) dX6_part_1 (by decide) rfl (fun q1 => ?_) (fun q1 => ?_)
  ·
    refine lv_iconst (v := -1) C.1 C.2.1 dX6_part_21 (by decide) ?_
    refine lv_goto (tgt := 35) C.1 C.2.1 dX6_part_22 (by decide) ?_
    exact r_PI C M (z := (-1)) hr hlk rfl trivial dX6_part_35
  ·
    refine lv_iload_n C.1 C.2.1 dX6_part_4 rfl (lv_at hl 1 rfl) ?_
    refine lv_aload_n C.1 C.2.1 dX6_part_5 rfl (lv_at hl 0 rfl) ?_
    refine gi_X6_21 C M h0_ dX6_part_6 (fun v2 kv2 tv2 uv2 => ?_)
    refine n_icmp_ge C (tgt := 21) dX6_part_9 (by decide) rfl rfl (fun q3 => ?_) (fun q3 => ?_)
    ·
      refine lv_iconst (v := -1) C.1 C.2.1 dX6_part_21 (by decide) ?_
      refine lv_goto (tgt := 35) C.1 C.2.1 dX6_part_22 (by decide) ?_
      exact r_PI C M (z := (-1)) hr hlk rfl trivial dX6_part_35
    ·
      refine lv_iload_n C.1 C.2.1 dX6_part_12 rfl (lv_at hl 2 rfl) ?_
      refine n_if_lt C (tgt := 21) dX6_part_13 (by decide) rfl (fun q4 => ?_) (fun q4 => ?_)
      ·
        refine lv_iconst (v := -1) C.1 C.2.1 dX6_part_21 (by decide) ?_
        refine lv_goto (tgt := 35) C.1 C.2.1 dX6_part_22 (by decide) ?_
        exact r_PI C M (z := (-1)) hr hlk rfl trivial dX6_part_35
      ·
        refine lv_iload_n C.1 C.2.1 dX6_part_16 rfl (lv_at hl 2 rfl) ?_
        refine lv_iconst (v := 5) C.1 C.2.1 dX6_part_17 (by decide) ?_
        refine n_icmp_lt C (tgt := 25) (Y := 5) dX6_part_18 (by decide) rfl rfl (fun q5 => ?_) (fun q5 => ?_)
        ·
          refine lv_aload_n C.1 C.2.1 dX6_part_25 rfl (lv_at hl 0 rfl) ?_
          refine gi_X6_11 C M h0_ dX6_part_26 (fun h6 => ?_)
          refine lv_iload_n C.1 C.2.1 dX6_part_29 rfl (lv_at hl 1 rfl) ?_
          refine lv_iconst (v := 5) C.1 C.2.1 dX6_part_30 (by decide) ?_
          refine n_imul C (Y := 5) dX6_part_31 rfl rfl (by omega) (by omega) (fun v7 ev7 => ?_)
          refine lv_iload_n C.1 C.2.1 dX6_part_32 rfl (lv_at hl 2 rfl) ?_
          refine n_iadd C dX6_part_33 rfl rfl (by omega) (by omega) (fun v8 ev8 => ?_)
          refine a_ld C M h6 (n := 100) rfl rfl rfl (by omega) (by omega) rfl dX6_part_34 (fun v9 kv9 => ?_)
          exact r_PI C M hr hlk rfl trivial dX6_part_35
        ·
          refine lv_iconst (v := -1) C.1 C.2.1 dX6_part_21 (by decide) ?_
          refine lv_goto (tgt := 35) C.1 C.2.1 dX6_part_22 (by decide) ?_
          exact r_PI C M (z := (-1)) hr hlk rfl trivial dX6_part_35

set_option maxHeartbeats 4000000 in
set_option maxRecDepth 100000 in
theorem ct_X6_tell (l : Launch) (g : Gs) (I : Ms) (J : Js) (a0 : Nat) (x1 : Int32) (x2 : Int32) (h0_ : Is g a0 4) : Ctr l yX6_tell cX6_tell 3 (Option.some Jvm.ClassFile.FieldType.int) 2 g [.ref a0, .int x1, .int x2] I J (PI I J (fun z => True)) := by
  refine m_start (by decide) (Nat.le_of_ble_eq_true rfl) ?_
  intro p e s m args below meth c C hr hlk M ls hl
  have hl : lv_has ls 3 [(0, .ref a0), (1, .int x1), (2, .int x2)] := hl
  have C : CallFix p m c cX6_tell 3 s args TB RX6 := C
  refine lv_iload_n C.1 C.2.1 dX6_tell_0 rfl (lv_at hl 2 rfl) ?_
  refine lv_iconst (v := 4) C.1 C.2.1 dX6_tell_1 (by decide) ?_
  refine n_icmp_ne C (tgt := 9) (Y := 4) dX6_tell_2 (by decide) rfl rfl (fun q1 => ?_) (fun q1 => ?_)
  ·
    refine lv_aload_n C.1 C.2.1 dX6_tell_9 rfl (lv_at hl 0 rfl) ?_
    refine lv_iload_n C.1 C.2.1 dX6_tell_10 rfl (lv_at hl 1 rfl) ?_
    refine lv_iload_n C.1 C.2.1 dX6_tell_11 rfl (lv_at hl 2 rfl) ?_
    refine k_PI C M h0_ (by decide) rfl (ct_X6_part l g I J a0 x1 x2 h0_) (cw_X6_32 C.2.2.2.2 (by decide)) rfl hl.1 rfl (Nat.le_of_ble_eq_true rfl) dX6_tell_12 ⟨Nat.le_refl _, Nat.le_refl _⟩ (fun r2 H locs p3r M => ?_)
    have p3 : True := p3r
    exact r_PI C M hr hlk rfl trivial dX6_tell_15
  ·
    refine lv_iconst (v := -1) C.1 C.2.1 dX6_tell_5 (by decide) ?_
    refine lv_goto (tgt := 15) C.1 C.2.1 dX6_tell_6 (by decide) ?_
    exact r_PI C M (z := (-1)) hr hlk rfl trivial dX6_tell_15

set_option maxHeartbeats 4000000 in
set_option maxRecDepth 100000 in
theorem ct_X6_placeFor (l : Launch) (g : Gs) (I : Ms) (J : Js) (a0 : Nat) (x1 : Int32) (h0_ : Is g a0 4) : Ctr l yX6_placeFor cX6_placeFor 3 (Option.some Jvm.ClassFile.FieldType.int) 2 g [.ref a0, .int x1] I J (PI I J (fun z => 0 ≤ z ∧ z ≤ (I a0 1).toInt)) := by
  refine m_start (by decide) (Nat.le_of_ble_eq_true rfl) ?_
  intro p e s m args below meth c C hr hlk M ls hl
  have hl : lv_has ls 3 [(0, .ref a0), (1, .int x1)] := hl
  have C : CallFix p m c cX6_placeFor 3 s args TB RX6 := C
  obtain ⟨i1, ki1⟩ : ∃ z : Int32, I a0 1 = z := ⟨_, rfl⟩
  have ti1 : 0 ≤ i1.toInt ∧ i1.toInt ≤ 20 := m_rng M h0_ 1 ki1 rfl
  have ci1 : (I a0 1).toInt = i1.toInt := congrArg Int32.toInt ki1
  refine lv_iconst (v := 0) C.1 C.2.1 dX6_placeFor_0 (by decide) ?_
  refine lv_istore_n (lv' := [(2, .int 0), (0, .ref a0), (1, .int x1)]) C.1 C.2.1 dX6_placeFor_1 rfl hl (by decide) rfl (fun ls hl => ?_)
  have L2 : ∀ (n2 : Nat) (y2 : Int32) (H : Heap) (locs : List Loc) (ls : Array Slot), 0 ≤ y2.toInt → y2.toInt ≤ 20 → 20 - y2.toInt < (n2 : Int) → Mm g s I J H locs → lv_has ls 3 [(0, .ref a0), (1, .int x1), (2, .int y2)] → W p l e (rmL 2) s m args below meth c H locs 0 0 (MQg below g (PI I J (fun z => 0 ≤ z ∧ z ≤ (I a0 1).toInt)) args s) (F0 m 2 ls []) := by
    intro n2
    induction n2 with
    | zero =>
      intro y2 H locs ls f3 f4 hm2 M hl
      exact absurd hm2 (by omega)
    | succ n2 ih2 =>
      intro y2 H locs ls f3 f4 hm2 M hl
      refine lv_iload_n C.1 C.2.1 dX6_placeFor_2 rfl (lv_at hl 2 rfl) ?_
      refine lv_aload_n C.1 C.2.1 dX6_placeFor_3 rfl (lv_at hl 0 rfl) ?_
      refine gk_X6_21 C M h0_ ki1 dX6_placeFor_4 ?_
      refine n_icmp_ge C (tgt := 28) dX6_placeFor_7 (by decide) rfl rfl (fun q5 => ?_) (fun q5 => ?_)
      ·
        refine lv_aload_n C.1 C.2.1 dX6_placeFor_28 rfl (lv_at hl 0 rfl) ?_
        refine gk_X6_21 C M h0_ ki1 dX6_placeFor_29 ?_
        exact r_PI C M hr hlk rfl (by omega) dX6_placeFor_32
      ·
        refine lv_aload_n C.1 C.2.1 dX6_placeFor_10 rfl (lv_at hl 0 rfl) ?_
        refine lv_iload_n C.1 C.2.1 dX6_placeFor_11 rfl (lv_at hl 2 rfl) ?_
        refine lv_iconst (v := 2) C.1 C.2.1 dX6_placeFor_12 (by decide) ?_
        refine k_PI C M h0_ (by decide) rfl (ct_X6_part l g I J a0 y2 2 h0_) (cw_X6_32 C.2.2.2.2 (by decide)) rfl hl.1 rfl (Nat.le_of_ble_eq_true rfl) dX6_placeFor_13 ⟨Nat.le_refl _, Nat.le_refl _⟩ (fun r6 H locs p7r M => ?_)
        have p7 : True := p7r
        refine lv_iload_n C.1 C.2.1 dX6_placeFor_16 rfl (lv_at hl 1 rfl) ?_
        refine n_icmp_le C (tgt := 22) dX6_placeFor_17 (by decide) rfl rfl (fun q8 => ?_) (fun q8 => ?_)
        ·
          refine n_iinc C (k := 2) (N := 1) (lv' := fun v => [(2, .int v), (0, .ref a0), (1, .int x1)]) dX6_placeFor_22 hl rfl (by decide) rfl rfl (by omega) (by omega) (fun _ => rfl) (fun v9 ls ev9 hl => ?_)
          refine lv_goto (tgt := 2) C.1 C.2.1 dX6_placeFor_25 (by decide) ?_
          exact ih2 v9 _ _ _ (by omega) (by omega) (by omega) M (lv_sub hl [1, 2, 0] rfl)
        ·
          refine lv_iload_n C.1 C.2.1 dX6_placeFor_20 rfl (lv_at hl 2 rfl) ?_
          exact r_PI C M hr hlk rfl (by omega) dX6_placeFor_21
  have cz10 : (0 : Int32).toInt = 0 := rfl
  exact L2 _ 0 _ _ _ (by omega) (by omega) (n_big _) M (lv_sub hl [1, 2, 0] rfl)

abbrev md_X6_add : List (Nat × Nat) := [(4, 2), (4, 3), (19, 0)]
set_option maxHeartbeats 4000000 in
set_option maxRecDepth 100000 in
theorem ct_X6_add (l : Launch) (g : Gs) (I : Ms) (J : Js) (a0 : Nat) (x1 : Int32) (x2 : Int32) (x3 : Int32) (x4 : Int32) (h0_ : Is g a0 4) : Ctr l yX6_add cX6_add 6 (Option.some Jvm.ClassFile.FieldType.int) 3 g [.ref a0, .int x1, .int x2, .int x3, .int x4] I J (PM g md_X6_add I (fun z I1 J1 => J1 = J ∧ (True))) := by
  refine m_start (by decide) (Nat.le_of_ble_eq_true rfl) ?_
  intro p e s m args below meth c C hr hlk M ls hl
  have hl : lv_has ls 6 [(0, .ref a0), (1, .int x1), (2, .int x2), (3, .int x3), (4, .int x4)] := hl
  have C : CallFix p m c cX6_add 6 s args TB RX6 := C
  have F : Fr g md_X6_add I I := fr_rf
  refine lv_iload C.1 C.2.1 dX6_add_0 (lv_at hl 4 rfl) ?_
  refine n_if_lt C (tgt := 28) dX6_add_2 (by decide) rfl (fun q1 => ?_) (fun q1 => ?_)
  ·
    refine lv_iconst (v := -1) C.1 C.2.1 dX6_add_28 (by decide) ?_
    exact r_PM C M (z := (-1)) hr hlk F rfl ⟨rfl, trivial⟩ dX6_add_29
  ·
    refine lv_iload C.1 C.2.1 dX6_add_5 (lv_at hl 4 rfl) ?_
    refine lv_bipush (v := 9) C.1 C.2.1 dX6_add_7 (by decide) ?_
    refine n_icmp_gt C (tgt := 28) (Y := 9) dX6_add_9 (by decide) rfl rfl (fun q2 => ?_) (fun q2 => ?_)
    ·
      refine lv_iconst (v := -1) C.1 C.2.1 dX6_add_28 (by decide) ?_
      exact r_PM C M (z := (-1)) hr hlk F rfl ⟨rfl, trivial⟩ dX6_add_29
    ·
      refine lv_aload_n C.1 C.2.1 dX6_add_12 rfl (lv_at hl 0 rfl) ?_
      refine gi_X6_21 C M h0_ dX6_add_13 (fun v3 kv3 tv3 uv3 => ?_)
      have cv3 : (I a0 1).toInt = v3.toInt := congrArg Int32.toInt kv3
      refine n_if_lt C (tgt := 28) dX6_add_16 (by decide) rfl (fun q4 => ?_) (fun q4 => ?_)
      ·
        exact absurd q4 (by omega)
      ·
        refine lv_aload_n C.1 C.2.1 dX6_add_19 rfl (lv_at hl 0 rfl) ?_
        refine gk_X6_21 C M h0_ kv3 dX6_add_20 ?_
        refine lv_bipush (v := 20) C.1 C.2.1 dX6_add_23 (by decide) ?_
        refine n_icmp_lt C (tgt := 30) (Y := 20) dX6_add_25 (by decide) rfl rfl (fun q5 => ?_) (fun q5 => ?_)
        ·
          refine lv_aload_n C.1 C.2.1 dX6_add_30 rfl (lv_at hl 0 rfl) ?_
          refine lv_iload C.1 C.2.1 dX6_add_31 (lv_at hl 4 rfl) ?_
          refine k_PI C M h0_ (by decide) rfl (ct_X6_placeFor l g I J a0 x4 h0_) (cw_X6_28 C.2.2.2.2 (by decide)) rfl hl.1 rfl (Nat.le_of_ble_eq_true rfl) dX6_add_33 ⟨Nat.le_refl _, Nat.le_refl _⟩ (fun r6 H locs p7r M => ?_)
          have p7 : 0 ≤ r6.toInt ∧ r6.toInt ≤ (I a0 1).toInt := p7r
          refine lv_iconst (v := 5) C.1 C.2.1 dX6_add_36 (by decide) ?_
          refine n_imul C (Y := 5) dX6_add_37 rfl rfl (by omega) (by omega) (fun v8 ev8 => ?_)
          refine lv_istore (lv' := [(5, .int v8), (0, .ref a0), (1, .int x1), (2, .int x2), (3, .int x3), (4, .int x4)]) C.1 C.2.1 dX6_add_38 hl (by decide) rfl (fun ls hl => ?_)
          refine lv_aload_n C.1 C.2.1 dX6_add_40 rfl (lv_at hl 1 rfl) ?_
          refine gi_X6_11 C M h0_ dX6_add_41 (fun h9 => ?_)
          refine lv_iload C.1 C.2.1 dX6_add_44 (lv_at hl 0 rfl) ?_
          refine lv_aload_n C.1 C.2.1 dX6_add_46 rfl (lv_at hl 1 rfl) ?_
          refine gi_X6_11 C M h0_ dX6_add_47 (fun h10 => ?_)
          refine lv_iload C.1 C.2.1 dX6_add_50 (lv_at hl 0 rfl) ?_
          refine lv_iconst (v := 5) C.1 C.2.1 dX6_add_52 (by decide) ?_
          refine n_iadd C (Y := 5) dX6_add_53 rfl rfl (by omega) (by omega) (fun v11 ev11 => ?_)
          refine lv_aload_n C.1 C.2.1 dX6_add_54 rfl (lv_at hl 1 rfl) ?_
          refine gk_X6_21 C M h0_ kv3 dX6_add_55 ?_
          refine lv_iconst (v := 5) C.1 C.2.1 dX6_add_58 (by decide) ?_
          refine n_imul C (Y := 5) dX6_add_59 rfl rfl (by omega) (by omega) (fun v12 ev12 => ?_)
          refine lv_iload C.1 C.2.1 dX6_add_60 (lv_at hl 0 rfl) ?_
          refine n_isub C dX6_add_62 rfl rfl (by omega) (by omega) (fun v13 ev13 => ?_)
          refine a_cp (D := 2) C M h9 h9 (n0 := 100) (n1 := 100) rfl rfl rfl rfl (fun _ => rfl) hl.1 ml_X6_15 ac_nat ac_sta ac_ini rfl rfl rfl (by omega) (by omega) (by omega) (by omega) (by omega) (Nat.le_of_ble_eq_true rfl) dX6_add_63 (fun H locs I14 eI14 G15 M => ?_)
          have F := fr_call F G15 (by decide)
          refine lv_aload_n C.1 C.2.1 dX6_add_66 rfl (lv_at hl 1 rfl) ?_
          refine gi_X6_11 C M h0_ dX6_add_67 (fun h16 => ?_)
          refine lv_iload C.1 C.2.1 dX6_add_70 (lv_at hl 0 rfl) ?_
          refine lv_iconst (v := 0) C.1 C.2.1 dX6_add_72 (by decide) ?_
          refine n_iadd C (Y := 0) dX6_add_73 rfl rfl (by omega) (by omega) (fun v17 ev17 => ?_)
          refine lv_aload_n C.1 C.2.1 dX6_add_74 rfl (lv_at hl 1 rfl) ?_
          refine gi_X6_25 C M h0_ dX6_add_75 (fun v18 kv18 => ?_)
          have cv18 : (I14 a0 2).toInt = v18.toInt := congrArg Int32.toInt kv18
          refine a_stU C M h9 (n := 100) rfl rfl rfl (by omega) (by omega) rfl rfl dX6_add_78 (fun H locs I19 k21 f20 M => ?_)
          have F := fr_put F h9 (Or.inl (by decide)) f20
          refine lv_aload_n C.1 C.2.1 dX6_add_79 rfl (lv_at hl 1 rfl) ?_
          refine gi_X6_11 C M h0_ dX6_add_80 (fun h22 => ?_)
          refine lv_iload C.1 C.2.1 dX6_add_83 (lv_at hl 0 rfl) ?_
          refine lv_iconst (v := 1) C.1 C.2.1 dX6_add_85 (by decide) ?_
          refine n_iadd C (Y := 1) dX6_add_86 rfl rfl (by omega) (by omega) (fun v23 ev23 => ?_)
          refine lv_iload_n C.1 C.2.1 dX6_add_87 rfl (lv_at hl 3 rfl) ?_
          refine a_stU C M h9 (n := 100) rfl rfl rfl (by omega) (by omega) rfl rfl dX6_add_88 (fun H locs I24 k26 f25 M => ?_)
          have F := fr_put F h9 (Or.inl (by decide)) f25
          refine lv_aload_n C.1 C.2.1 dX6_add_89 rfl (lv_at hl 1 rfl) ?_
          refine gi_X6_11 C M h0_ dX6_add_90 (fun h27 => ?_)
          refine lv_iload C.1 C.2.1 dX6_add_93 (lv_at hl 0 rfl) ?_
          refine lv_iconst (v := 2) C.1 C.2.1 dX6_add_95 (by decide) ?_
          refine n_iadd C (Y := 2) dX6_add_96 rfl rfl (by omega) (by omega) (fun v28 ev28 => ?_)
          refine lv_iload C.1 C.2.1 dX6_add_97 (lv_at hl 5 rfl) ?_
          refine a_stU C M h9 (n := 100) rfl rfl rfl (by omega) (by omega) rfl rfl dX6_add_99 (fun H locs I29 k31 f30 M => ?_)
          have F := fr_put F h9 (Or.inl (by decide)) f30
          refine lv_aload_n C.1 C.2.1 dX6_add_100 rfl (lv_at hl 1 rfl) ?_
          refine gi_X6_11 C M h0_ dX6_add_101 (fun h32 => ?_)
          refine lv_iload C.1 C.2.1 dX6_add_104 (lv_at hl 0 rfl) ?_
          refine lv_iconst (v := 3) C.1 C.2.1 dX6_add_106 (by decide) ?_
          refine n_iadd C (Y := 3) dX6_add_107 rfl rfl (by omega) (by omega) (fun v33 ev33 => ?_)
          refine lv_iload_n C.1 C.2.1 dX6_add_108 rfl (lv_at hl 2 rfl) ?_
          have J117 : ∀ (w34 : Int32) (H : Heap) (locs : List Loc) (ls : Array Slot), 0 ≤ w34.toInt → w34.toInt ≤ 1 → Mm g s I29 J H locs → lv_has ls 6 [(0, .ref a0), (3, .int x3), (5, .int v8)] → W p l e (rmL 3) s m args below meth c H locs 0 0 (MQg below g (PM g md_X6_add I (fun z I1 J1 => J1 = J ∧ (True))) args s) (F0 m 117 ls [.int w34, .int v33, .ref (gr g a0 0)]) := by
            intro w34 H locs ls f35 f36 M hl
            refine a_stU C M h9 (n := 100) rfl rfl rfl (by omega) (by omega) rfl rfl dX6_add_117 (fun H locs I37 k39 f38 M => ?_)
            have F := fr_put F h9 (Or.inl (by decide)) f38
            refine lv_aload_n C.1 C.2.1 dX6_add_118 rfl (lv_at hl 0 rfl) ?_
            refine gi_X6_11 C M h0_ dX6_add_119 (fun h40 => ?_)
            refine lv_iload C.1 C.2.1 dX6_add_122 (lv_at hl 2 rfl) ?_
            refine lv_iconst (v := 4) C.1 C.2.1 dX6_add_124 (by decide) ?_
            refine n_iadd C (Y := 4) dX6_add_125 rfl rfl (by omega) (by omega) (fun v41 ev41 => ?_)
            refine lv_iload_n C.1 C.2.1 dX6_add_126 rfl (lv_at hl 1 rfl) ?_
            refine a_stU C M h9 (n := 100) rfl rfl rfl (by omega) (by omega) rfl rfl dX6_add_127 (fun H locs I42 k44 f43 M => ?_)
            have F := fr_put F h9 (Or.inl (by decide)) f43
            refine lv_aload_n C.1 C.2.1 dX6_add_128 rfl (lv_at hl 0 rfl) ?_
            refine lv_dup C.1 C.2.1 dX6_add_129 rfl ?_
            refine gk_X6_21 C M h0_ ((f43 a0 1 (Or.inl (is_ne h9 h0_ (by decide)))).trans ((f38 a0 1 (Or.inl (is_ne h9 h0_ (by decide)))).trans ((f30 a0 1 (Or.inl (is_ne h9 h0_ (by decide)))).trans ((f25 a0 1 (Or.inl (is_ne h9 h0_ (by decide)))).trans ((f20 a0 1 (Or.inl (is_ne h9 h0_ (by decide)))).trans ((G15 a0 4 1 h0_ (by decide) (by decide)).trans kv3)))))) dX6_add_130 ?_
            refine lv_iconst (v := 1) C.1 C.2.1 dX6_add_133 (by decide) ?_
            refine n_iadd C (Y := 1) dX6_add_134 rfl rfl (by omega) (by omega) (fun v45 ev45 => ?_)
            refine pi_X6_21 C M h0_ dX6_add_135 rfl (by omega) (by omega) (fun H locs I46 k48 f47 M => ?_)
            have F := fr_put F h0_ (Or.inr (by decide)) f47
            refine lv_aload_n C.1 C.2.1 dX6_add_138 rfl (lv_at hl 0 rfl) ?_
            refine lv_dup C.1 C.2.1 dX6_add_139 rfl ?_
            refine gk_X6_25 C M h0_ ((f47 a0 2 (Or.inr (by decide))).trans ((f43 a0 2 (Or.inl (is_ne h9 h0_ (by decide)))).trans ((f38 a0 2 (Or.inl (is_ne h9 h0_ (by decide)))).trans ((f30 a0 2 (Or.inl (is_ne h9 h0_ (by decide)))).trans ((f25 a0 2 (Or.inl (is_ne h9 h0_ (by decide)))).trans ((f20 a0 2 (Or.inl (is_ne h9 h0_ (by decide)))).trans kv18)))))) dX6_add_140 ?_
            refine lv_iconst (v := 1) C.1 C.2.1 dX6_add_143 (by decide) ?_
            refine n_iaddU C dX6_add_144 (fun v49 => ?_)
            refine pi_X6_25 C M h0_ dX6_add_145 (fun H locs I50 k52 f51 M => ?_)
            have F := fr_put F h0_ (Or.inr (by decide)) f51
            refine lv_aload_n C.1 C.2.1 dX6_add_148 rfl (lv_at hl 0 rfl) ?_
            refine gk_X6_25 C M h0_ k52 dX6_add_149 ?_
            refine lv_iconst (v := 1) C.1 C.2.1 dX6_add_152 (by decide) ?_
            refine n_isubU C dX6_add_153 (fun v53 => ?_)
            exact r_PM C M hr hlk F rfl ⟨rfl, trivial⟩ dX6_add_154
          refine n_if_eq C (tgt := 116) dX6_add_109 (by decide) rfl (fun q54 => ?_) (fun q54 => ?_)
          ·
            refine lv_iconst (v := 0) C.1 C.2.1 dX6_add_116 (by decide) ?_
            have cz55 : (0 : Int32).toInt = 0 := rfl
            exact J117 0 _ _ _ (by omega) (by omega) M (lv_sub hl [1, 4, 0] rfl)
          ·
            refine lv_iconst (v := 1) C.1 C.2.1 dX6_add_112 (by decide) ?_
            refine lv_goto (tgt := 117) C.1 C.2.1 dX6_add_113 (by decide) ?_
            have cz56 : (1 : Int32).toInt = 1 := rfl
            exact J117 1 _ _ _ (by omega) (by omega) M (lv_sub hl [1, 4, 0] rfl)
        ·
          refine lv_iconst (v := -1) C.1 C.2.1 dX6_add_28 (by decide) ?_
          exact r_PM C M (z := (-1)) hr hlk F rfl ⟨rfl, trivial⟩ dX6_add_29

abbrev md_X6_remove : List (Nat × Nat) := [(4, 2), (19, 0)]
set_option maxHeartbeats 4000000 in
set_option maxRecDepth 100000 in
theorem ct_X6_remove (l : Launch) (g : Gs) (I : Ms) (J : Js) (a0 : Nat) (x1 : Int32) (h0_ : Is g a0 4) : Ctr l yX6_remove cX6_remove 3 (Option.none : Option Jvm.ClassFile.FieldType) 1 g [.ref a0, .int x1] I J (PV g md_X6_remove I (fun I1 J1 => J1 = J ∧ (True))) := by
  refine m_start (by decide) (Nat.le_of_ble_eq_true rfl) ?_
  intro p e s m args below meth c C hr hlk M ls hl
  have hl : lv_has ls 3 [(0, .ref a0), (1, .int x1)] := hl
  have C : CallFix p m c cX6_remove 3 s args TB RX6 := C
  have F : Fr g md_X6_remove I I := fr_rf
  refine lv_iload_n C.1 C.2.1 dX6_remove_0 rfl (lv_at hl 1 rfl) ?_
  refine n_if_lt C (tgt := 12) dX6_remove_1 (by decide) rfl (fun q1 => ?_) (fun q1 => ?_)
  ·
    exact r_PV C M hr hlk F ⟨rfl, trivial⟩ dX6_remove_12
  ·
    refine lv_iload_n C.1 C.2.1 dX6_remove_4 rfl (lv_at hl 1 rfl) ?_
    refine lv_aload_n C.1 C.2.1 dX6_remove_5 rfl (lv_at hl 0 rfl) ?_
    refine gi_X6_21 C M h0_ dX6_remove_6 (fun v2 kv2 tv2 uv2 => ?_)
    refine n_icmp_lt C (tgt := 13) dX6_remove_9 (by decide) rfl rfl (fun q3 => ?_) (fun q3 => ?_)
    ·
      refine lv_iload_n C.1 C.2.1 dX6_remove_13 rfl (lv_at hl 1 rfl) ?_
      refine lv_iconst (v := 1) C.1 C.2.1 dX6_remove_14 (by decide) ?_
      refine n_iadd C (Y := 1) dX6_remove_15 rfl rfl (by omega) (by omega) (fun v4 ev4 => ?_)
      refine lv_iconst (v := 5) C.1 C.2.1 dX6_remove_16 (by decide) ?_
      refine n_imul C (Y := 5) dX6_remove_17 rfl rfl (by omega) (by omega) (fun v5 ev5 => ?_)
      refine lv_istore_n (lv' := [(2, .int v5), (0, .ref a0), (1, .int x1)]) C.1 C.2.1 dX6_remove_18 rfl hl (by decide) rfl (fun ls hl => ?_)
      refine lv_aload_n C.1 C.2.1 dX6_remove_19 rfl (lv_at hl 1 rfl) ?_
      refine gi_X6_11 C M h0_ dX6_remove_20 (fun h6 => ?_)
      refine lv_iload_n C.1 C.2.1 dX6_remove_23 rfl (lv_at hl 0 rfl) ?_
      refine lv_aload_n C.1 C.2.1 dX6_remove_24 rfl (lv_at hl 1 rfl) ?_
      refine gi_X6_11 C M h0_ dX6_remove_25 (fun h7 => ?_)
      refine lv_iload_n C.1 C.2.1 dX6_remove_28 rfl (lv_at hl 2 rfl) ?_
      refine lv_iconst (v := 5) C.1 C.2.1 dX6_remove_29 (by decide) ?_
      refine n_imul C (Y := 5) dX6_remove_30 rfl rfl (by omega) (by omega) (fun v8 ev8 => ?_)
      refine lv_aload_n C.1 C.2.1 dX6_remove_31 rfl (lv_at hl 1 rfl) ?_
      refine gk_X6_21 C M h0_ kv2 dX6_remove_32 ?_
      refine lv_iconst (v := 5) C.1 C.2.1 dX6_remove_35 (by decide) ?_
      refine n_imul C (Y := 5) dX6_remove_36 rfl rfl (by omega) (by omega) (fun v9 ev9 => ?_)
      refine lv_iload_n C.1 C.2.1 dX6_remove_37 rfl (lv_at hl 0 rfl) ?_
      refine n_isub C dX6_remove_38 rfl rfl (by omega) (by omega) (fun v10 ev10 => ?_)
      refine a_cp (D := 0) C M h6 h6 (n0 := 100) (n1 := 100) rfl rfl rfl rfl (fun _ => rfl) hl.1 ml_X6_15 ac_nat ac_sta ac_ini rfl rfl rfl (by omega) (by omega) (by omega) (by omega) (by omega) (Nat.le_of_ble_eq_true rfl) dX6_remove_39 (fun H locs I11 eI11 G12 M => ?_)
      have F := fr_call F G12 (by decide)
      refine lv_aload_n C.1 C.2.1 dX6_remove_42 rfl (lv_at hl 1 rfl) ?_
      refine lv_dup C.1 C.2.1 dX6_remove_43 rfl ?_
      refine gk_X6_21 C M h0_ ((G12 a0 4 1 h0_ (by decide) (by decide)).trans kv2) dX6_remove_44 ?_
      refine lv_iconst (v := 1) C.1 C.2.1 dX6_remove_47 (by decide) ?_
      refine n_isub C (Y := 1) dX6_remove_48 rfl rfl (by omega) (by omega) (fun v13 ev13 => ?_)
      refine pi_X6_21 C M h0_ dX6_remove_49 rfl (by omega) (by omega) (fun H locs I14 k16 f15 M => ?_)
      have F := fr_put F h0_ (Or.inr (by decide)) f15
      exact r_PV C M hr hlk F ⟨rfl, trivial⟩ dX6_remove_52
    ·
      exact r_PV C M hr hlk F ⟨rfl, trivial⟩ dX6_remove_12

abbrev md_X8_clear : List (Nat × Nat) := [(6, 2), (6, 3)]
set_option maxHeartbeats 4000000 in
set_option maxRecDepth 100000 in
theorem ct_X8_clear (l : Launch) (g : Gs) (I : Ms) (J : Js) (a0 : Nat) (h0_ : Is g a0 6) : Ctr l yX8_clear cX8_clear 1 (Option.none : Option Jvm.ClassFile.FieldType) 1 g [.ref a0] I J (PV g md_X8_clear I (fun I1 J1 => J1 = J ∧ (True))) := by
  refine m_start (by decide) (Nat.le_of_ble_eq_true rfl) ?_
  intro p e s m args below meth c C hr hlk M ls hl
  have hl : lv_has ls 1 [(0, .ref a0)] := hl
  have C : CallFix p m c cX8_clear 1 s args TB RX8 := C
  have F : Fr g md_X8_clear I I := fr_rf
  refine lv_aload_n C.1 C.2.1 dX8_clear_0 rfl (lv_at hl 0 rfl) ?_
  refine lv_iconst (v := 0) C.1 C.2.1 dX8_clear_1 (by decide) ?_
  refine pi_X8_15 C M (X := 0) h0_ dX8_clear_2 rfl (by omega) (by omega) (fun H locs I1 k3 f2 M => ?_)
  have F := fr_put F h0_ (Or.inr (by decide)) f2
  refine lv_aload_n C.1 C.2.1 dX8_clear_5 rfl (lv_at hl 0 rfl) ?_
  refine lv_iconst (v := 0) C.1 C.2.1 dX8_clear_6 (by decide) ?_
  refine pi_X8_19 C M (X := 0) h0_ dX8_clear_7 rfl (by omega) (by omega) (fun H locs I4 k6 f5 M => ?_)
  have F := fr_put F h0_ (Or.inr (by decide)) f5
  exact r_PV C M hr hlk F ⟨rfl, trivial⟩ dX8_clear_10

abbrev md_X8_record : List (Nat × Nat) := [(6, 2), (6, 3), (20, 0)]
set_option maxHeartbeats 4000000 in
set_option maxRecDepth 100000 in
theorem ct_X8_record (l : Launch) (g : Gs) (I : Ms) (J : Js) (a0 : Nat) (x1 : Int32) (x2 : Int32) (x3 : Int32) (x4 : Int32) (h0_ : Is g a0 6) : Ctr l yX8_record cX8_record 6 (Option.none : Option Jvm.ClassFile.FieldType) 1 g [.ref a0, .int x1, .int x2, .int x3, .int x4] I J (PV g md_X8_record I (fun I1 J1 => J1 = J ∧ (True))) := by
  refine m_start (by decide) (Nat.le_of_ble_eq_true rfl) ?_
  intro p e s m args below meth c C hr hlk M ls hl
  have hl : lv_has ls 6 [(0, .ref a0), (1, .int x1), (2, .int x2), (3, .int x3), (4, .int x4)] := hl
  have C : CallFix p m c cX8_record 6 s args TB RX8 := C
  have F : Fr g md_X8_record I I := fr_rf
  refine lv_aload_n C.1 C.2.1 dX8_record_0 rfl (lv_at hl 0 rfl) ?_
  refine gi_X8_19 C M h0_ dX8_record_1 (fun v1 kv1 tv1 uv1 => ?_)
  refine lv_iconst (v := 4) C.1 C.2.1 dX8_record_4 (by decide) ?_
  refine n_imul C (Y := 4) dX8_record_5 rfl rfl (by omega) (by omega) (fun v2 ev2 => ?_)
  refine lv_istore (lv' := [(5, .int v2), (0, .ref a0), (1, .int x1), (2, .int x2), (3, .int x3), (4, .int x4)]) C.1 C.2.1 dX8_record_6 hl (by decide) rfl (fun ls hl => ?_)
  refine lv_aload_n C.1 C.2.1 dX8_record_8 rfl (lv_at hl 1 rfl) ?_
  refine gi_X8_11 C M h0_ dX8_record_9 (fun h3 => ?_)
  refine lv_iload C.1 C.2.1 dX8_record_12 (lv_at hl 0 rfl) ?_
  refine lv_iload_n C.1 C.2.1 dX8_record_14 rfl (lv_at hl 3 rfl) ?_
  refine a_stU C M h3 (n := 120) rfl rfl rfl (by omega) (by omega) rfl rfl dX8_record_15 (fun H locs I4 k6 f5 M => ?_)
  have F := fr_put F h3 (Or.inl (by decide)) f5
  refine lv_aload_n C.1 C.2.1 dX8_record_16 rfl (lv_at hl 1 rfl) ?_
  refine gi_X8_11 C M h0_ dX8_record_17 (fun h7 => ?_)
  refine lv_iload C.1 C.2.1 dX8_record_20 (lv_at hl 0 rfl) ?_
  refine lv_iconst (v := 1) C.1 C.2.1 dX8_record_22 (by decide) ?_
  refine n_iadd C (Y := 1) dX8_record_23 rfl rfl (by omega) (by omega) (fun v8 ev8 => ?_)
  refine lv_iload_n C.1 C.2.1 dX8_record_24 rfl (lv_at hl 4 rfl) ?_
  refine a_stU C M h3 (n := 120) rfl rfl rfl (by omega) (by omega) rfl rfl dX8_record_25 (fun H locs I9 k11 f10 M => ?_)
  have F := fr_put F h3 (Or.inl (by decide)) f10
  refine lv_aload_n C.1 C.2.1 dX8_record_26 rfl (lv_at hl 1 rfl) ?_
  refine gi_X8_11 C M h0_ dX8_record_27 (fun h12 => ?_)
  refine lv_iload C.1 C.2.1 dX8_record_30 (lv_at hl 0 rfl) ?_
  refine lv_iconst (v := 2) C.1 C.2.1 dX8_record_32 (by decide) ?_
  refine n_iadd C (Y := 2) dX8_record_33 rfl rfl (by omega) (by omega) (fun v13 ev13 => ?_)
  refine lv_iload C.1 C.2.1 dX8_record_34 (lv_at hl 5 rfl) ?_
  refine a_stU C M h3 (n := 120) rfl rfl rfl (by omega) (by omega) rfl rfl dX8_record_36 (fun H locs I14 k16 f15 M => ?_)
  have F := fr_put F h3 (Or.inl (by decide)) f15
  refine lv_aload_n C.1 C.2.1 dX8_record_37 rfl (lv_at hl 1 rfl) ?_
  refine gi_X8_11 C M h0_ dX8_record_38 (fun h17 => ?_)
  refine lv_iload C.1 C.2.1 dX8_record_41 (lv_at hl 0 rfl) ?_
  refine lv_iconst (v := 3) C.1 C.2.1 dX8_record_43 (by decide) ?_
  refine n_iadd C (Y := 3) dX8_record_44 rfl rfl (by omega) (by omega) (fun v18 ev18 => ?_)
  refine lv_iload_n C.1 C.2.1 dX8_record_45 rfl (lv_at hl 2 rfl) ?_
  refine a_stU C M h3 (n := 120) rfl rfl rfl (by omega) (by omega) rfl rfl dX8_record_46 (fun H locs I19 k21 f20 M => ?_)
  have F := fr_put F h3 (Or.inl (by decide)) f20
  refine lv_aload_n C.1 C.2.1 dX8_record_47 rfl (lv_at hl 1 rfl) ?_
  refine lv_aload_n C.1 C.2.1 dX8_record_48 rfl (lv_at hl 1 rfl) ?_
  refine gk_X8_19 C M h0_ ((f20 a0 2 (Or.inl (is_ne h3 h0_ (by decide)))).trans ((f15 a0 2 (Or.inl (is_ne h3 h0_ (by decide)))).trans ((f10 a0 2 (Or.inl (is_ne h3 h0_ (by decide)))).trans ((f5 a0 2 (Or.inl (is_ne h3 h0_ (by decide)))).trans kv1)))) dX8_record_49 ?_
  refine lv_bipush (v := 29) C.1 C.2.1 dX8_record_52 (by decide) ?_
  have J67 : ∀ (w22 : Int32) (H : Heap) (locs : List Loc) (ls : Array Slot), 0 ≤ w22.toInt → w22.toInt ≤ 29 → Mm g s I19 J H locs → lv_has ls 6 [(0, .ref a0)] → W p l e (rmL 1) s m args below meth c H locs 0 0 (MQg below g (PV g md_X8_record I (fun I1 J1 => J1 = J ∧ (True))) args s) (F0 m 67 ls [.int w22, .ref a0]) := by
    intro w22 H locs ls f23 f24 M hl
    refine pi_X8_19 C M h0_ dX8_record_67 rfl (by omega) (by omega) (fun H locs I25 k27 f26 M => ?_)
    have F := fr_put F h0_ (Or.inr (by decide)) f26
    refine lv_aload_n C.1 C.2.1 dX8_record_70 rfl (lv_at hl 0 rfl) ?_
    refine lv_aload_n C.1 C.2.1 dX8_record_71 rfl (lv_at hl 0 rfl) ?_
    refine gi_X8_15 C M h0_ dX8_record_72 (fun v28 kv28 tv28 uv28 => ?_)
    refine lv_bipush (v := 30) C.1 C.2.1 dX8_record_75 (by decide) ?_
    refine n_icmp_ge C (tgt := 89) (Y := 30) dX8_record_77 (by decide) rfl rfl (fun q29 => ?_) (fun q29 => ?_)
    ·
      refine lv_bipush (v := 30) C.1 C.2.1 dX8_record_89 (by decide) ?_
      refine pi_X8_15 C M (X := 30) h0_ dX8_record_91 rfl (by omega) (by omega) (fun H locs I30 k32 f31 M => ?_)
      have F := fr_put F h0_ (Or.inr (by decide)) f31
      exact r_PV C M hr hlk F ⟨rfl, trivial⟩ dX8_record_94
    ·
      refine lv_aload_n C.1 C.2.1 dX8_record_80 rfl (lv_at hl 0 rfl) ?_
      refine gk_X8_15 C M h0_ kv28 dX8_record_81 ?_
      refine lv_iconst (v := 1) C.1 C.2.1 dX8_record_84 (by decide) ?_
      refine n_iadd C (Y := 1) dX8_record_85 rfl rfl (by omega) (by omega) (fun v33 ev33 => ?_)
      refine lv_goto (tgt := 91) C.1 C.2.1 dX8_record_86 (by decide) ?_
      refine pi_X8_15 C M h0_ dX8_record_91 rfl (by omega) (by omega) (fun H locs I34 k36 f35 M => ?_)
      have F := fr_put F h0_ (Or.inr (by decide)) f35
      exact r_PV C M hr hlk F ⟨rfl, trivial⟩ dX8_record_94
  refine n_icmp_ge C (tgt := 66) (Y := 29) dX8_record_54 (by decide) rfl rfl (fun q37 => ?_) (fun q37 => ?_)
  ·
    refine lv_iconst (v := 0) C.1 C.2.1 dX8_record_66 (by decide) ?_
    have cz38 : (0 : Int32).toInt = 0 := rfl
    exact J67 0 _ _ _ (by omega) (by omega) M (lv_sub hl [1] rfl)
  ·
    refine lv_aload_n C.1 C.2.1 dX8_record_57 rfl (lv_at hl 1 rfl) ?_
    refine gk_X8_19 C M h0_ ((f20 a0 2 (Or.inl (is_ne h3 h0_ (by decide)))).trans ((f15 a0 2 (Or.inl (is_ne h3 h0_ (by decide)))).trans ((f10 a0 2 (Or.inl (is_ne h3 h0_ (by decide)))).trans ((f5 a0 2 (Or.inl (is_ne h3 h0_ (by decide)))).trans kv1)))) dX8_record_58 ?_
    refine lv_iconst (v := 1) C.1 C.2.1 dX8_record_61 (by decide) ?_
    refine n_iadd C (Y := 1) dX8_record_62 rfl rfl (by omega) (by omega) (fun v39 ev39 => ?_)
    refine lv_goto (tgt := 67) C.1 C.2.1 dX8_record_63 (by decide) ?_
    exact J67 v39 _ _ _ (by omega) (by omega) M (lv_sub hl [1] rfl)

set_option maxHeartbeats 4000000 in
set_option maxRecDepth 100000 in
theorem ct_X8_tell (l : Launch) (g : Gs) (I : Ms) (J : Js) (a0 : Nat) (x1 : Int32) (x2 : Int32) (h0_ : Is g a0 6) : Ctr l yX8_tell cX8_tell 3 (Option.some Jvm.ClassFile.FieldType.int) 1 g [.ref a0, .int x1, .int x2] I J (PI I J (fun z => True)) := by
  refine m_start (by decide) (Nat.le_of_ble_eq_true rfl) ?_
  intro p e s m args below meth c C hr hlk M ls hl
  have hl : lv_has ls 3 [(0, .ref a0), (1, .int x1), (2, .int x2)] := hl
  have C : CallFix p m c cX8_tell 3 s args TB RX8 := C
  refine lv_iload_n C.1 C.2.1 dX8_tell_0 rfl (lv_at hl 1 rfl) ?_
  refine n_if_lt C (tgt := 19) dX8_tell_1 (by decide) rfl (fun q1 => ?_) (fun q1 => ?_)
  ·
    refine lv_iconst (v := -1) C.1 C.2.1 dX8_tell_19 (by decide) ?_
    refine lv_goto (tgt := 33) C.1 C.2.1 dX8_tell_20 (by decide) ?_
    exact r_PI C M (z := (-1)) hr hlk rfl trivial dX8_tell_33
  ·
    refine lv_iload_n C.1 C.2.1 dX8_tell_4 rfl (lv_at hl 1 rfl) ?_
    refine lv_bipush (v := 30) C.1 C.2.1 dX8_tell_5 (by decide) ?_
    refine n_icmp_ge C (tgt := 19) (Y := 30) dX8_tell_7 (by decide) rfl rfl (fun q2 => ?_) (fun q2 => ?_)
    ·
      refine lv_iconst (v := -1) C.1 C.2.1 dX8_tell_19 (by decide) ?_
      refine lv_goto (tgt := 33) C.1 C.2.1 dX8_tell_20 (by decide) ?_
      exact r_PI C M (z := (-1)) hr hlk rfl trivial dX8_tell_33
    ·
      refine lv_iload_n C.1 C.2.1 dX8_tell_10 rfl (lv_at hl 2 rfl) ?_
      refine n_if_lt C (tgt := 19) dX8_tell_11 (by decide) rfl (fun q3 => ?_) (fun q3 => ?_)
      ·
        refine lv_iconst (v := -1) C.1 C.2.1 dX8_tell_19 (by decide) ?_
        refine lv_goto (tgt := 33) C.1 C.2.1 dX8_tell_20 (by decide) ?_
        exact r_PI C M (z := (-1)) hr hlk rfl trivial dX8_tell_33
      ·
        refine lv_iload_n C.1 C.2.1 dX8_tell_14 rfl (lv_at hl 2 rfl) ?_
        refine lv_iconst (v := 4) C.1 C.2.1 dX8_tell_15 (by decide) ?_
        refine n_icmp_lt C (tgt := 23) (Y := 4) dX8_tell_16 (by decide) rfl rfl (fun q4 => ?_) (fun q4 => ?_)
        ·
          refine lv_aload_n C.1 C.2.1 dX8_tell_23 rfl (lv_at hl 0 rfl) ?_
          refine gi_X8_11 C M h0_ dX8_tell_24 (fun h5 => ?_)
          refine lv_iload_n C.1 C.2.1 dX8_tell_27 rfl (lv_at hl 1 rfl) ?_
          refine lv_iconst (v := 4) C.1 C.2.1 dX8_tell_28 (by decide) ?_
          refine n_imul C (Y := 4) dX8_tell_29 rfl rfl (by omega) (by omega) (fun v6 ev6 => ?_)
          refine lv_iload_n C.1 C.2.1 dX8_tell_30 rfl (lv_at hl 2 rfl) ?_
          refine n_iadd C dX8_tell_31 rfl rfl (by omega) (by omega) (fun v7 ev7 => ?_)
          refine a_ld C M h5 (n := 120) rfl rfl rfl (by omega) (by omega) rfl dX8_tell_32 (fun v8 kv8 => ?_)
          exact r_PI C M hr hlk rfl trivial dX8_tell_33
        ·
          refine lv_iconst (v := -1) C.1 C.2.1 dX8_tell_19 (by decide) ?_
          refine lv_goto (tgt := 33) C.1 C.2.1 dX8_tell_20 (by decide) ?_
          exact r_PI C M (z := (-1)) hr hlk rfl trivial dX8_tell_33

set_option maxHeartbeats 4000000 in
set_option maxRecDepth 100000 in
theorem ct_X8_slotOf (l : Launch) (g : Gs) (I : Ms) (J : Js) (a0 : Nat) (x1 : Int32) (h0_ : Is g a0 6) : Ctr l yX8_slotOf cX8_slotOf 4 (Option.some Jvm.ClassFile.FieldType.int) 2 g [.ref a0, .int x1] I J (PI I J (fun z => True)) := by
  refine m_start (by decide) (Nat.le_of_ble_eq_true rfl) ?_
  intro p e s m args below meth c C hr hlk M ls hl
  have hl : lv_has ls 4 [(0, .ref a0), (1, .int x1)] := hl
  have C : CallFix p m c cX8_slotOf 4 s args TB RX8 := C
  refine lv_iconst (v := 1) C.1 C.2.1 dX8_slotOf_0 (by decide) ?_
  refine lv_istore_n (lv' := [(2, .int 1), (0, .ref a0), (1, .int x1)]) C.1 C.2.1 dX8_slotOf_1 rfl hl (by decide) rfl (fun ls hl => ?_)
  have L2 : ∀ (n2 : Nat) (y1 : Int32) (H : Heap) (locs : List Loc) (ls : Array Slot), 0 ≤ y1.toInt → y1.toInt ≤ 31 → 31 - y1.toInt < (n2 : Int) → Mm g s I J H locs → lv_has ls 4 [(0, .ref a0), (1, .int x1), (2, .int y1)] → W p l e (rmL 2) s m args below meth c H locs 0 0 (MQg below g (PI I J (fun z => True)) args s) (F0 m 2 ls []) := by
    intro n2
    induction n2 with
    | zero =>
      intro y1 H locs ls f2 f3 hm2 M hl
      exact absurd hm2 (by omega)
    | succ n2 ih2 =>
      intro y1 H locs ls f2 f3 hm2 M hl
      refine lv_iload_n C.1 C.2.1 dX8_slotOf_2 rfl (lv_at hl 2 rfl) ?_
      refine lv_aload_n C.1 C.2.1 dX8_slotOf_3 rfl (lv_at hl 0 rfl) ?_
      refine gi_X8_15 C M h0_ dX8_slotOf_4 (fun v4 kv4 tv4 uv4 => ?_)
      refine n_icmp_gt C (tgt := 55) dX8_slotOf_7 (by decide) rfl rfl (fun q5 => ?_) (fun q5 => ?_)
      ·
        refine lv_iconst (v := -1) C.1 C.2.1 dX8_slotOf_55 (by decide) ?_
        exact r_PI C M (z := (-1)) hr hlk rfl trivial dX8_slotOf_56
      ·
        refine lv_aload_n C.1 C.2.1 dX8_slotOf_10 rfl (lv_at hl 0 rfl) ?_
        refine gi_X8_19 C M h0_ dX8_slotOf_11 (fun v6 kv6 tv6 uv6 => ?_)
        refine lv_iload_n C.1 C.2.1 dX8_slotOf_14 rfl (lv_at hl 2 rfl) ?_
        have J36 : ∀ (w7 : Int32) (H : Heap) (locs : List Loc) (ls : Array Slot), (-29) ≤ w7.toInt → w7.toInt ≤ 58 → Mm g s I J H locs → lv_has ls 4 [(0, .ref a0), (1, .int x1), (2, .int y1)] → W p l e (rmL 2) s m args below meth c H locs 0 0 (MQg below g (PI I J (fun z => True)) args s) (F0 m 36 ls [.int w7]) := by
          intro w7 H locs ls f8 f9 M hl
          refine lv_istore_n (lv' := [(3, .int w7), (0, .ref a0), (1, .int x1), (2, .int y1)]) C.1 C.2.1 dX8_slotOf_36 rfl hl (by decide) rfl (fun ls hl => ?_)
          refine lv_aload_n C.1 C.2.1 dX8_slotOf_37 rfl (lv_at hl 1 rfl) ?_
          refine lv_iload_n C.1 C.2.1 dX8_slotOf_38 rfl (lv_at hl 0 rfl) ?_
          refine lv_iconst (v := 3) C.1 C.2.1 dX8_slotOf_39 (by decide) ?_
          refine k_PI C M h0_ (by decide) rfl (ct_X8_tell l g I J a0 w7 3 h0_) (cw_X8_22 C.2.2.2.2 (by decide)) rfl hl.1 rfl (Nat.le_of_ble_eq_true rfl) dX8_slotOf_40 ⟨Nat.le_refl _, Nat.le_refl _⟩ (fun r10 H locs p11r M => ?_)
          have p11 : True := p11r
          refine lv_iload_n C.1 C.2.1 dX8_slotOf_43 rfl (lv_at hl 2 rfl) ?_
          refine n_icmp_ne C (tgt := 49) dX8_slotOf_44 (by decide) rfl rfl (fun q12 => ?_) (fun q12 => ?_)
          ·
            refine n_iinc C (k := 3) (N := 1) (lv' := fun v => [(2, .int v), (3, .int w7), (0, .ref a0), (1, .int x1)]) dX8_slotOf_49 hl rfl (by decide) rfl rfl (by omega) (by omega) (fun _ => rfl) (fun v13 ls ev13 hl => ?_)
            refine lv_goto (tgt := 2) C.1 C.2.1 dX8_slotOf_52 (by decide) ?_
            exact ih2 v13 _ _ _ (by omega) (by omega) (by omega) M (lv_sub hl [2, 3, 0] rfl)
          ·
            refine lv_iload_n C.1 C.2.1 dX8_slotOf_47 rfl (lv_at hl 0 rfl) ?_
            exact r_PI C M hr hlk rfl trivial dX8_slotOf_48
        refine n_icmp_lt C (tgt := 27) dX8_slotOf_15 (by decide) rfl rfl (fun q14 => ?_) (fun q14 => ?_)
        ·
          refine lv_aload_n C.1 C.2.1 dX8_slotOf_27 rfl (lv_at hl 0 rfl) ?_
          refine gk_X8_19 C M h0_ kv6 dX8_slotOf_28 ?_
          refine lv_iload_n C.1 C.2.1 dX8_slotOf_31 rfl (lv_at hl 2 rfl) ?_
          refine n_isub C dX8_slotOf_32 rfl rfl (by omega) (by omega) (fun v15 ev15 => ?_)
          refine lv_bipush (v := 30) C.1 C.2.1 dX8_slotOf_33 (by decide) ?_
          refine n_iadd C (Y := 30) dX8_slotOf_35 rfl rfl (by omega) (by omega) (fun v16 ev16 => ?_)
          exact J36 v16 _ _ _ (by omega) (by omega) M hl
        ·
          refine lv_aload_n C.1 C.2.1 dX8_slotOf_18 rfl (lv_at hl 0 rfl) ?_
          refine gk_X8_19 C M h0_ kv6 dX8_slotOf_19 ?_
          refine lv_iload_n C.1 C.2.1 dX8_slotOf_22 rfl (lv_at hl 2 rfl) ?_
          refine n_isub C dX8_slotOf_23 rfl rfl (by omega) (by omega) (fun v17 ev17 => ?_)
          refine lv_goto (tgt := 36) C.1 C.2.1 dX8_slotOf_24 (by decide) ?_
          exact J36 v17 _ _ _ (by omega) (by omega) M hl
  have cz18 : (1 : Int32).toInt = 1 := rfl
  exact L2 _ 1 _ _ _ (by omega) (by omega) (n_big _) M (lv_sub hl [1, 2, 0] rfl)

abbrev md_X9_append : List (Nat × Nat) := [(7, 2), (26, 0)]
set_option maxHeartbeats 4000000 in
set_option maxRecDepth 100000 in
theorem ct_X9_append (l : Launch) (g : Gs) (I : Ms) (J : Js) (a0 : Nat) (l1 : Int64) (h0_ : Is g a0 7) : Ctr l yX9_append cX9_append 4 (Option.none : Option Jvm.ClassFile.FieldType) 1 g [.ref a0, .long l1] I J (PV g md_X9_append I (fun I1 J1 => J1 = J ∧ (True))) := by
  refine m_start (by decide) (Nat.le_of_ble_eq_true rfl) ?_
  intro p e s m args below meth c C hr hlk M ls hl
  have hl : lv_has ls 4 [(0, .ref a0), (1, .long l1)] := hl
  have C : CallFix p m c cX9_append 4 s args TB RX9 := C
  have F : Fr g md_X9_append I I := fr_rf
  refine lv_bipush (v := 56) C.1 C.2.1 dX9_append_0 (by decide) ?_
  refine lv_istore_n (lv' := [(3, .int 56), (0, .ref a0), (1, .long l1)]) C.1 C.2.1 dX9_append_2 rfl hl (by decide) rfl (fun ls hl => ?_)
  have L3 : ∀ (n3 : Nat) (y1 : Int32) (I2 : Ms) (H : Heap) (locs : List Loc) (ls : Array Slot), (-8) ≤ y1.toInt → y1.toInt ≤ 56 → y1.toInt + 8 < (n3 : Int) → Fr g md_X9_append I I2 → Mm g s I2 J H locs → lv_has ls 4 [(0, .ref a0), (1, .long l1), (3, .int y1)] → W p l e (rmL 1) s m args below meth c H locs 0 0 (MQg below g (PV g md_X9_append I (fun I1 J1 => J1 = J ∧ (True))) args s) (F0 m 3 ls []) := by
    intro n3
    induction n3 with
    | zero =>
      intro y1 I2 H locs ls f3 f4 hm3 F M hl
      exact absurd hm3 (by omega)
    | succ n3 ih3 =>
      intro y1 I2 H locs ls f3 f4 hm3 F M hl
      refine lv_iload_n C.1 C.2.1 dX9_append_3 rfl (lv_at hl 2 rfl) ?_
      refine n_if_lt C (tgt := 47) dX9_append_4 (by decide) rfl (fun q5 => ?_) (fun q5 => ?_)
      ·
        exact r_PV C M hr hlk F ⟨rfl, trivial⟩ dX9_append_47
      ·
        refine lv_aload_n C.1 C.2.1 dX9_append_7 rfl (lv_at hl 0 rfl) ?_
        refine gi_X9_15 C M h0_ dX9_append_8 (fun v6 kv6 tv6 uv6 => ?_)
        refine lv_sipush (v := 264) C.1 C.2.1 dX9_append_11 (by decide) ?_
        refine n_icmp_ge C (tgt := 47) (Y := 264) dX9_append_14 (by decide) rfl rfl (fun q7 => ?_) (fun q7 => ?_)
        ·
          exact r_PV C M hr hlk F ⟨rfl, trivial⟩ dX9_append_47
        ·
          refine lv_aload_n C.1 C.2.1 dX9_append_17 rfl (lv_at hl 0 rfl) ?_
          refine gi_X9_9 C M h0_ dX9_append_18 (fun h8 => ?_)
          refine lv_aload_n C.1 C.2.1 dX9_append_21 rfl (lv_at hl 0 rfl) ?_
          refine gk_X9_15 C M h0_ kv6 dX9_append_22 ?_
          refine lv_lload_n C.1 C.2.1 dX9_append_25 rfl (lv_at hl 1 rfl) ?_
          refine lv_iload_n C.1 C.2.1 dX9_append_26 rfl (lv_at hl 2 rfl) ?_
          refine lv_lushr C.1 C.2.1 dX9_append_27 rfl ?_
          refine lv_topl (fun l9 _ => ?_)
          refine lv_l2i C.1 C.2.1 dX9_append_28 rfl ?_
          refine lv_topi (fun v10 _ => ?_)
          refine lv_i2b C.1 C.2.1 dX9_append_29 rfl ?_
          refine lv_topi (fun v11 _ => ?_)
          refine a_stB C M h8 rfl (by omega) (by omega) dX9_append_30 (fun H locs I12 f13 M => ?_)
          have F := fr_put F h8 (Or.inl (by decide)) f13
          refine lv_aload_n C.1 C.2.1 dX9_append_31 rfl (lv_at hl 0 rfl) ?_
          refine lv_dup C.1 C.2.1 dX9_append_32 rfl ?_
          refine gk_X9_15 C M h0_ ((f13 a0 1 (Or.inl (is_ne h8 h0_ (by decide)))).trans kv6) dX9_append_33 ?_
          refine lv_iconst (v := 1) C.1 C.2.1 dX9_append_36 (by decide) ?_
          refine n_iadd C (Y := 1) dX9_append_37 rfl rfl (by omega) (by omega) (fun v15 ev15 => ?_)
          refine pi_X9_15 C M h0_ dX9_append_38 rfl (by omega) (by omega) (fun H locs I16 k18 f17 M => ?_)
          have F := fr_put F h0_ (Or.inr (by decide)) f17
          refine n_iinc C (k := 2) (N := -8) (lv' := fun v => [(3, .int v), (0, .ref a0), (1, .long l1)]) dX9_append_41 hl rfl (by decide) rfl rfl (by omega) (by omega) (fun _ => rfl) (fun v19 ls ev19 hl => ?_)
          refine lv_goto (tgt := 3) C.1 C.2.1 dX9_append_44 (by decide) ?_
          exact ih3 v19 I16 _ _ _ (by omega) (by omega) (by omega) F M (lv_sub hl [1, 2, 0] rfl)
  have cz20 : (56 : Int32).toInt = 56 := rfl
  exact L3 _ 56 I _ _ _ (by omega) (by omega) (n_big _) F M (lv_sub hl [1, 2, 0] rfl)

set_option maxHeartbeats 4000000 in
set_option maxRecDepth 100000 in
theorem ct_X9_at (l : Launch) (g : Gs) (I : Ms) (J : Js) (a0 : Nat) (x1 : Int32) (h0_ : Is g a0 7) : Ctr l yX9_at cX9_at 2 (Option.some Jvm.ClassFile.FieldType.int) 1 g [.ref a0, .int x1] I J (PI I J (fun z => z = -1 ∨ (x1.toInt < (I a0 1).toInt ∧ 0 ≤ z))) := by
  refine m_start (by decide) (Nat.le_of_ble_eq_true rfl) ?_
  intro p e s m args below meth c C hr hlk M ls hl
  have hl : lv_has ls 2 [(0, .ref a0), (1, .int x1)] := hl
  have C : CallFix p m c cX9_at 2 s args TB RX9 := C
  obtain ⟨i1, ki1⟩ : ∃ z : Int32, I a0 1 = z := ⟨_, rfl⟩
  have ti1 : 0 ≤ i1.toInt ∧ i1.toInt ≤ 264 := m_rng M h0_ 1 ki1 rfl
  have ci1 : (I a0 1).toInt = i1.toInt := congrArg Int32.toInt ki1
  refine lv_iload_n C.1 C.2.1 dX9_at_0 rfl (lv_at hl 1 rfl) ?_
  refine n_if_lt C (tgt := 12) dX9_at_1 (by decide) rfl (fun q2 => ?_) (fun q2 => ?_)
  ·
    refine lv_iconst (v := -1) C.1 C.2.1 dX9_at_12 (by decide) ?_
    refine lv_goto (tgt := 26) C.1 C.2.1 dX9_at_13 (by decide) ?_
    exact r_PI C M (z := (-1)) hr hlk rfl (by rw [ci1]; omega) dX9_at_26
  ·
    refine lv_iload_n C.1 C.2.1 dX9_at_4 rfl (lv_at hl 1 rfl) ?_
    refine lv_aload_n C.1 C.2.1 dX9_at_5 rfl (lv_at hl 0 rfl) ?_
    refine gk_X9_15 C M h0_ ki1 dX9_at_6 ?_
    refine n_icmp_lt C (tgt := 16) dX9_at_9 (by decide) rfl rfl (fun q3 => ?_) (fun q3 => ?_)
    ·
      refine lv_aload_n C.1 C.2.1 dX9_at_16 rfl (lv_at hl 0 rfl) ?_
      refine gi_X9_9 C M h0_ dX9_at_17 (fun h4 => ?_)
      refine lv_iload_n C.1 C.2.1 dX9_at_20 rfl (lv_at hl 1 rfl) ?_
      refine a_ldB C M h4 rfl (by omega) (by omega) dX9_at_21 (fun v5 kv5 => ?_)
      refine lv_sipush (v := 255) C.1 C.2.1 dX9_at_22 (by decide) ?_
      refine n_iand255 C dX9_at_25 (fun v6 lv6 uv6 => ?_)
      exact r_PI C M hr hlk rfl (by rw [ci1]; omega) dX9_at_26
    ·
      refine lv_iconst (v := -1) C.1 C.2.1 dX9_at_12 (by decide) ?_
      refine lv_goto (tgt := 26) C.1 C.2.1 dX9_at_13 (by decide) ?_
      exact r_PI C M (z := (-1)) hr hlk rfl (by rw [ci1]; omega) dX9_at_26

abbrev md_X1_plan : List (Nat × Nat) := [(0, 1), (0, 2), (0, 3), (0, 4), (0, 5), (0, 6), (0, 7)]
set_option maxHeartbeats 4000000 in
set_option maxRecDepth 100000 in
theorem ct_X1_plan (l : Launch) (g : Gs) (I : Ms) (J : Js) (a0 : Nat) (a1 : Nat) (a2 : Nat) (x3 : Int32) (x4 : Int32) (x5 : Int32) (h0_ : Is g a0 0) (h1_ : Is g a1 3) (h2_ : Is g a2 3) (g0 : 4 ≤ x3.toInt) (g1 : x3.toInt ≤ 40) (g2 : 0 ≤ x4.toInt) (g3 : x4.toInt ≤ 200) (g4 : 1 ≤ x5.toInt) (g5 : x5.toInt ≤ 4) (g6 : x4.toInt ≤ nsI x3.toInt (I a1 1).toInt (I a2 1).toInt) : Ctr l yX1_plan cX1_plan 8 (Option.none : Option Jvm.ClassFile.FieldType) 1 g [.ref a0, .ref a1, .ref a2, .int x3, .int x4, .int x5] I J (PV g md_X1_plan I (fun I1 J1 => J1 = J ∧ (True))) := by
  refine m_start (by decide) (Nat.le_of_ble_eq_true rfl) ?_
  intro p e s m args below meth c C hr hlk M ls hl
  have hl : lv_has ls 8 [(0, .ref a0), (1, .ref a1), (2, .ref a2), (3, .int x3), (4, .int x4), (5, .int x5)] := hl
  have C : CallFix p m c cX1_plan 8 s args TB RX1 := C
  have F : Fr g md_X1_plan I I := fr_rf
  obtain ⟨i1, ki1⟩ : ∃ z : Int32, I a1 1 = z := ⟨_, rfl⟩
  have ti1 : 2 ≤ i1.toInt ∧ i1.toInt ≤ 7 := m_rng M h1_ 1 ki1 rfl
  have ci1 : (I a1 1).toInt = i1.toInt := congrArg Int32.toInt ki1
  obtain ⟨i2, ki2⟩ : ∃ z : Int32, I a2 1 = z := ⟨_, rfl⟩
  have ti2 : 2 ≤ i2.toInt ∧ i2.toInt ≤ 7 := m_rng M h2_ 1 ki2 rfl
  have ci2 : (I a2 1).toInt = i2.toInt := congrArg Int32.toInt ki2
  refine lv_iload_n C.1 C.2.1 dX1_plan_0 rfl (lv_at hl 3 rfl) ?_
  refine lv_aload_n C.1 C.2.1 dX1_plan_1 rfl (lv_at hl 1 rfl) ?_
  refine gk_X1_7 C M h1_ ki1 dX1_plan_2 ?_
  have bp4 := i_prod (x := x3.toInt) (y := i1.toInt) (A := 40) (B := 7) (by omega) (by omega) (by omega) (by omega)
  refine n_imul C dX1_plan_5 rfl rfl (by omega) (by omega) (fun v3 ev3 => ?_)
  refine lv_istore (lv' := [(6, .int v3), (0, .ref a0), (1, .ref a1), (2, .ref a2), (3, .int x3), (4, .int x4), (5, .int x5)]) C.1 C.2.1 dX1_plan_6 hl (by decide) rfl (fun ls hl => ?_)
  refine lv_iload C.1 C.2.1 dX1_plan_8 (lv_at hl 0 rfl) ?_
  refine lv_aload_n C.1 C.2.1 dX1_plan_10 rfl (lv_at hl 3 rfl) ?_
  refine gk_X1_7 C M h2_ ki2 dX1_plan_11 ?_
  refine n_iadd C dX1_plan_14 rfl rfl (by omega) (by omega) (fun v5 ev5 => ?_)
  refine lv_iconst (v := 1) C.1 C.2.1 dX1_plan_15 (by decide) ?_
  refine n_isub C (Y := 1) dX1_plan_16 rfl rfl (by omega) (by omega) (fun v6 ev6 => ?_)
  refine lv_aload_n C.1 C.2.1 dX1_plan_17 rfl (lv_at hl 3 rfl) ?_
  refine gk_X1_7 C M h2_ ki2 dX1_plan_18 ?_
  refine n_idiv0 C dX1_plan_21 rfl rfl (by omega) (by omega) (fun v7 ev7 lv7 uv7 => ?_)
  have q8 : v7.toInt ≤ 143 := by rw [ev7]; exact i_dle (by omega) (by omega) (by omega)
  have hns : x4.toInt ≤ v7.toInt := by
    have e9 := g6
    unfold nsI at e9
    rw [ci1, ci2] at e9
    have e8 : v7.toInt = (x3.toInt * i1.toInt + i2.toInt - 1) / i2.toInt := by rw [ev7, ev6, ev5, ev3]
    omega
  refine lv_istore (lv' := [(7, .int v7), (6, .int v3), (0, .ref a0), (1, .ref a1), (2, .ref a2), (3, .int x3), (4, .int x4), (5, .int x5)]) C.1 C.2.1 dX1_plan_22 hl (by decide) rfl (fun ls hl => ?_)
  refine lv_aload_n C.1 C.2.1 dX1_plan_24 rfl (lv_at hl 2 rfl) ?_
  refine lv_iload C.1 C.2.1 dX1_plan_25 (lv_at hl 6 rfl) ?_
  refine lv_aload_n C.1 C.2.1 dX1_plan_27 rfl (lv_at hl 4 rfl) ?_
  refine gk_X1_7 C M h2_ ki2 dX1_plan_28 ?_
  have bp10 := i_prod (x := x4.toInt) (y := i2.toInt) (A := 200) (B := 7) (by omega) (by omega) (by omega) (by omega)
  refine n_imul C dX1_plan_31 rfl rfl (by omega) (by omega) (fun v9 ev9 => ?_)
  refine pi_X1_13 C M h0_ dX1_plan_32 rfl (by omega) (by omega) (fun H locs I11 k13 f12 M => ?_)
  have F := fr_put F h0_ (Or.inr (by decide)) f12
  refine lv_aload_n C.1 C.2.1 dX1_plan_35 rfl (lv_at hl 2 rfl) ?_
  refine lv_iload C.1 C.2.1 dX1_plan_36 (lv_at hl 7 rfl) ?_
  refine lv_iload C.1 C.2.1 dX1_plan_38 (lv_at hl 0 rfl) ?_
  refine lv_iload C.1 C.2.1 dX1_plan_40 (lv_at hl 6 rfl) ?_
  refine n_isub C dX1_plan_42 rfl rfl (by omega) (by omega) (fun v14 ev14 => ?_)
  have J56 : ∀ (w15 : Int32) (H : Heap) (locs : List Loc) (ls : Array Slot), (-200) ≤ w15.toInt → w15.toInt ≤ 143 → 0 ≤ w15.toInt → w15.toInt ≤ 4 → Mm g s I11 J H locs → lv_has ls 8 [(0, .ref a0), (1, .ref a1), (2, .ref a2), (4, .int x4), (6, .int v3)] → W p l e (rmL 1) s m args below meth c H locs 0 0 (MQg below g (PV g md_X1_plan I (fun I1 J1 => J1 = J ∧ (True))) args s) (F0 m 56 ls [.int w15, .ref a0]) := by
    intro w15 H locs ls f16 f17 f18 f19 M hl
    refine pi_X1_18 C M h0_ dX1_plan_56 rfl (by omega) (by omega) (fun H locs I20 k22 f21 M => ?_)
    have F := fr_put F h0_ (Or.inr (by decide)) f21
    refine lv_aload_n C.1 C.2.1 dX1_plan_59 rfl (lv_at hl 0 rfl) ?_
    refine lv_aload_n C.1 C.2.1 dX1_plan_60 rfl (lv_at hl 0 rfl) ?_
    refine gk_X1_18 C M h0_ k22 dX1_plan_61 ?_
    refine lv_aload_n C.1 C.2.1 dX1_plan_64 rfl (lv_at hl 2 rfl) ?_
    refine gk_X1_7 C M h2_ ((f21 a2 1 (Or.inl (is_ne h0_ h2_ (by decide)))).trans ((f12 a2 1 (Or.inl (is_ne h0_ h2_ (by decide)))).trans ki2)) dX1_plan_65 ?_
    have bp24 := i_prod (x := w15.toInt) (y := i2.toInt) (A := 4) (B := 7) (by omega) (by omega) (by omega) (by omega)
    refine n_imul C dX1_plan_68 rfl rfl (by omega) (by omega) (fun v23 ev23 => ?_)
    refine pi_X1_21 C M h0_ dX1_plan_69 rfl (by omega) (by omega) (fun H locs I25 k27 f26 M => ?_)
    have F := fr_put F h0_ (Or.inr (by decide)) f26
    refine lv_aload_n C.1 C.2.1 dX1_plan_72 rfl (lv_at hl 0 rfl) ?_
    refine lv_aload_n C.1 C.2.1 dX1_plan_73 rfl (lv_at hl 0 rfl) ?_
    refine gk_X1_21 C M h0_ k27 dX1_plan_74 ?_
    refine lv_iload C.1 C.2.1 dX1_plan_77 (lv_at hl 4 rfl) ?_
    refine lv_aload_n C.1 C.2.1 dX1_plan_79 rfl (lv_at hl 0 rfl) ?_
    refine gk_X1_13 C M h0_ ((f26 a0 0 (Or.inr (by decide))).trans ((f21 a0 0 (Or.inr (by decide))).trans k13)) dX1_plan_80 ?_
    refine n_isub C dX1_plan_83 rfl rfl (by omega) (by omega) (fun v28 ev28 => ?_)
    have J101 : ∀ (w29 : Int32) (H : Heap) (locs : List Loc) (ls : Array Slot), (-1400) ≤ w29.toInt → w29.toInt ≤ 280 → Mm g s I25 J H locs → lv_has ls 8 [(0, .ref a0), (1, .ref a1), (2, .ref a2), (4, .int x4)] → W p l e (rmL 1) s m args below meth c H locs 0 0 (MQg below g (PV g md_X1_plan I (fun I1 J1 => J1 = J ∧ (True))) args s) (F0 m 101 ls [.int w29, .ref a0]) := by
      intro w29 H locs ls f30 f31 M hl
      refine pi_X1_24 C M h0_ dX1_plan_101 rfl (by omega) (by omega) (fun H locs I32 k34 f33 M => ?_)
      have F := fr_put F h0_ (Or.inr (by decide)) f33
      refine lv_aload_n C.1 C.2.1 dX1_plan_104 rfl (lv_at hl 0 rfl) ?_
      refine lv_aload_n C.1 C.2.1 dX1_plan_105 rfl (lv_at hl 0 rfl) ?_
      refine gk_X1_13 C M h0_ ((f33 a0 0 (Or.inr (by decide))).trans ((f26 a0 0 (Or.inr (by decide))).trans ((f21 a0 0 (Or.inr (by decide))).trans k13))) dX1_plan_106 ?_
      refine lv_aload_n C.1 C.2.1 dX1_plan_109 rfl (lv_at hl 1 rfl) ?_
      refine gk_X1_7 C M h1_ ((f33 a1 1 (Or.inl (is_ne h0_ h1_ (by decide)))).trans ((f26 a1 1 (Or.inl (is_ne h0_ h1_ (by decide)))).trans ((f21 a1 1 (Or.inl (is_ne h0_ h1_ (by decide)))).trans ((f12 a1 1 (Or.inl (is_ne h0_ h1_ (by decide)))).trans ki1)))) dX1_plan_110 ?_
      refine n_idiv0 C dX1_plan_113 rfl rfl (by omega) (by omega) (fun v35 ev35 lv35 uv35 => ?_)
      have q36 : v35.toInt ≤ 700 := by rw [ev35]; exact i_dle (by omega) (by omega) (by omega)
      refine lv_iload C.1 C.2.1 dX1_plan_114 (lv_at hl 3 rfl) ?_
      refine lv_aload_n C.1 C.2.1 dX1_plan_116 rfl (lv_at hl 0 rfl) ?_
      refine gk_X1_18 C M h0_ ((f33 a0 1 (Or.inr (by decide))).trans ((f26 a0 1 (Or.inr (by decide))).trans k22)) dX1_plan_117 ?_
      refine n_iadd C dX1_plan_120 rfl rfl (by omega) (by omega) (fun v37 ev37 => ?_)
      refine lv_iconst (v := 1) C.1 C.2.1 dX1_plan_121 (by decide) ?_
      refine n_isub C (Y := 1) dX1_plan_122 rfl rfl (by omega) (by omega) (fun v38 ev38 => ?_)
      have J131 : ∀ (w39 : Int32) (H : Heap) (locs : List Loc) (ls : Array Slot), 0 ≤ w39.toInt → w39.toInt ≤ 1 → Mm g s I32 J H locs → lv_has ls 8 [(0, .ref a0), (2, .ref a2)] → W p l e (rmL 1) s m args below meth c H locs 0 0 (MQg below g (PV g md_X1_plan I (fun I1 J1 => J1 = J ∧ (True))) args s) (F0 m 131 ls [.int w39, .ref a0]) := by
        intro w39 H locs ls f40 f41 M hl
        refine pi_X1_27 C M h0_ dX1_plan_131 rfl (by omega) (by omega) (fun H locs I42 k44 f43 M => ?_)
        have F := fr_put F h0_ (Or.inr (by decide)) f43
        refine lv_aload_n C.1 C.2.1 dX1_plan_134 rfl (lv_at hl 0 rfl) ?_
        refine lv_aload_n C.1 C.2.1 dX1_plan_135 rfl (lv_at hl 0 rfl) ?_
        refine gk_X1_27 C M h0_ k44 dX1_plan_136 ?_
        have J160 : ∀ (w45 : Int32) (H : Heap) (locs : List Loc) (ls : Array Slot), (-1400) ≤ w45.toInt → w45.toInt ≤ 309 → Mm g s I42 J H locs → lv_has ls 8 [(0, .ref a0), (2, .ref a2)] → W p l e (rmL 1) s m args below meth c H locs 0 0 (MQg below g (PV g md_X1_plan I (fun I1 J1 => J1 = J ∧ (True))) args s) (F0 m 160 ls [.int w45, .ref a0]) := by
          intro w45 H locs ls f46 f47 M hl
          refine pi_X1_31 C M h0_ dX1_plan_160 rfl (by omega) (by omega) (fun H locs I48 k50 f49 M => ?_)
          have F := fr_put F h0_ (Or.inr (by decide)) f49
          refine lv_aload_n C.1 C.2.1 dX1_plan_163 rfl (lv_at hl 0 rfl) ?_
          refine lv_aload_n C.1 C.2.1 dX1_plan_164 rfl (lv_at hl 0 rfl) ?_
          refine gk_X1_31 C M h0_ k50 dX1_plan_165 ?_
          refine lv_aload_n C.1 C.2.1 dX1_plan_168 rfl (lv_at hl 0 rfl) ?_
          refine gk_X1_18 C M h0_ ((f49 a0 1 (Or.inr (by decide))).trans ((f43 a0 1 (Or.inr (by decide))).trans ((f33 a0 1 (Or.inr (by decide))).trans ((f26 a0 1 (Or.inr (by decide))).trans k22)))) dX1_plan_169 ?_
          refine lv_aload_n C.1 C.2.1 dX1_plan_172 rfl (lv_at hl 1 rfl) ?_
          refine gi_X1_34 C M h2_ dX1_plan_173 (fun v51 kv51 tv51 uv51 => ?_)
          have bp53 := i_prod (x := w15.toInt) (y := v51.toInt) (A := 4) (B := 8) (by omega) (by omega) (by omega) (by omega)
          refine n_imul C dX1_plan_176 rfl rfl (by omega) (by omega) (fun v52 ev52 => ?_)
          refine n_iadd C dX1_plan_177 rfl rfl (by omega) (by omega) (fun v54 ev54 => ?_)
          refine lv_iconst (v := 1) C.1 C.2.1 dX1_plan_178 (by decide) ?_
          refine n_iadd C (Y := 1) dX1_plan_179 rfl rfl (by omega) (by omega) (fun v55 ev55 => ?_)
          refine pi_X1_37 C M h0_ dX1_plan_180 rfl (by omega) (by omega) (fun H locs I56 k58 f57 M => ?_)
          have F := fr_put F h0_ (Or.inr (by decide)) f57
          exact r_PV C M hr hlk F ⟨rfl, trivial⟩ dX1_plan_183
        refine n_if_eq C (tgt := 156) dX1_plan_139 (by decide) rfl (fun q59 => ?_) (fun q59 => ?_)
        ·
          refine lv_aload_n C.1 C.2.1 dX1_plan_156 rfl (lv_at hl 0 rfl) ?_
          refine gk_X1_24 C M h0_ ((f43 a0 3 (Or.inr (by decide))).trans k34) dX1_plan_157 ?_
          exact J160 w29 _ _ _ (by omega) (by omega) M hl
        ·
          refine lv_aload_n C.1 C.2.1 dX1_plan_142 rfl (lv_at hl 0 rfl) ?_
          refine gk_X1_24 C M h0_ ((f43 a0 3 (Or.inr (by decide))).trans k34) dX1_plan_143 ?_
          refine lv_aload_n C.1 C.2.1 dX1_plan_146 rfl (lv_at hl 0 rfl) ?_
          refine gk_X1_21 C M h0_ ((f43 a0 2 (Or.inr (by decide))).trans ((f33 a0 2 (Or.inr (by decide))).trans k27)) dX1_plan_147 ?_
          refine n_iadd C dX1_plan_150 rfl rfl (by omega) (by omega) (fun v60 ev60 => ?_)
          refine lv_iconst (v := 1) C.1 C.2.1 dX1_plan_151 (by decide) ?_
          refine n_iadd C (Y := 1) dX1_plan_152 rfl rfl (by omega) (by omega) (fun v61 ev61 => ?_)
          refine lv_goto (tgt := 160) C.1 C.2.1 dX1_plan_153 (by decide) ?_
          exact J160 v61 _ _ _ (by omega) (by omega) M hl
      refine n_icmp_gt C (tgt := 130) dX1_plan_123 (by decide) rfl rfl (fun q62 => ?_) (fun q62 => ?_)
      ·
        refine lv_iconst (v := 0) C.1 C.2.1 dX1_plan_130 (by decide) ?_
        have cz63 : (0 : Int32).toInt = 0 := rfl
        exact J131 0 _ _ _ (by omega) (by omega) M (lv_sub hl [0, 2] rfl)
      ·
        refine lv_iconst (v := 1) C.1 C.2.1 dX1_plan_126 (by decide) ?_
        refine lv_goto (tgt := 131) C.1 C.2.1 dX1_plan_127 (by decide) ?_
        have cz64 : (1 : Int32).toInt = 1 := rfl
        exact J131 1 _ _ _ (by omega) (by omega) M (lv_sub hl [0, 2] rfl)
    refine n_icmp_ge C (tgt := 94) dX1_plan_84 (by decide) rfl rfl (fun q65 => ?_) (fun q65 => ?_)
    ·
      refine lv_iload C.1 C.2.1 dX1_plan_94 (lv_at hl 4 rfl) ?_
      refine lv_aload_n C.1 C.2.1 dX1_plan_96 rfl (lv_at hl 0 rfl) ?_
      refine gk_X1_13 C M h0_ ((f26 a0 0 (Or.inr (by decide))).trans ((f21 a0 0 (Or.inr (by decide))).trans k13)) dX1_plan_97 ?_
      refine n_isub C dX1_plan_100 rfl rfl (by omega) (by omega) (fun v66 ev66 => ?_)
      exact J101 v66 _ _ _ (by omega) (by omega) M (lv_sub hl [0, 1, 2, 3] rfl)
    ·
      refine lv_aload_n C.1 C.2.1 dX1_plan_87 rfl (lv_at hl 0 rfl) ?_
      refine gk_X1_21 C M h0_ k27 dX1_plan_88 ?_
      refine lv_goto (tgt := 101) C.1 C.2.1 dX1_plan_91 (by decide) ?_
      exact J101 v23 _ _ _ (by omega) (by omega) M (lv_sub hl [0, 1, 2, 3] rfl)
  refine n_icmp_ge C (tgt := 51) dX1_plan_43 (by decide) rfl rfl (fun q67 => ?_) (fun q67 => ?_)
  ·
    refine lv_iload C.1 C.2.1 dX1_plan_51 (lv_at hl 0 rfl) ?_
    refine lv_iload C.1 C.2.1 dX1_plan_53 (lv_at hl 6 rfl) ?_
    refine n_isub C dX1_plan_55 rfl rfl (by omega) (by omega) (fun v68 ev68 => ?_)
    exact J56 v68 _ _ _ (by omega) (by omega) (by omega) (by omega) M (lv_sub hl [2, 3, 4, 6, 1] rfl)
  ·
    refine lv_iload C.1 C.2.1 dX1_plan_46 (lv_at hl 7 rfl) ?_
    refine lv_goto (tgt := 56) C.1 C.2.1 dX1_plan_48 (by decide) ?_
    exact J56 x5 _ _ _ (by omega) (by omega) (by omega) (by omega) M (lv_sub hl [2, 3, 4, 6, 1] rfl)
