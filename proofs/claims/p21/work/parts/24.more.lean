set_option maxHeartbeats 4000000 in
set_option maxRecDepth 100000 in
theorem ct_X11_stepsLeft (l : Launch) (g : Gs) (I : Ms) (J : Js) (a0 : Nat) (h0_ : Is g a0 9) (g0 : jm (I (gr g a0 0) 717).toInt (I (gr g a0 0) 715).toInt (I (gr g a0 0) 716).toInt (I (gr g a0 0) 722).toInt (I (gr g a0 0) 718).toInt (I (gr g a0 0) 719).toInt) (g1 : (I (gr g a0 0) 717).toInt = 1) : Ctr l yX11_stepsLeft cX11_stepsLeft 3 (Option.some Jvm.ClassFile.FieldType.int) 7 g [.ref a0] I J (PI I J (fun z => True)) := by
  refine m_start (by decide) (Nat.le_of_ble_eq_true rfl) ?_
  intro p e s m args below meth c C hr hlk M ls hl
  have hl : lv_has ls 3 [(0, .ref a0)] := hl
  have C : CallFix p m c cX11_stepsLeft 3 s args TB RX11 := C
  have h1 := is_ref M h0_ 0 28 rfl rfl
  obtain ⟨i2, ki2⟩ : ∃ z : Int32, I (gr g a0 0) 717 = z := ⟨_, rfl⟩
  have ti2 : 0 ≤ i2.toInt ∧ i2.toInt ≤ 1 := m_rng M h1 717 ki2 rfl
  have ci2 : (I (gr g a0 0) 717).toInt = i2.toInt := congrArg Int32.toInt ki2
  obtain ⟨i3, ki3⟩ : ∃ z : Int32, I (gr g a0 0) 715 = z := ⟨_, rfl⟩
  have ti3 : 3 ≤ i3.toInt ∧ i3.toInt ≤ 7 := m_rng M h1 715 ki3 rfl
  have ci3 : (I (gr g a0 0) 715).toInt = i3.toInt := congrArg Int32.toInt ki3
  obtain ⟨i4, ki4⟩ : ∃ z : Int32, I (gr g a0 0) 716 = z := ⟨_, rfl⟩
  have ti4 : 4 ≤ i4.toInt ∧ i4.toInt ≤ 40 := m_rng M h1 716 ki4 rfl
  have ci4 : (I (gr g a0 0) 716).toInt = i4.toInt := congrArg Int32.toInt ki4
  obtain ⟨i5, ki5⟩ : ∃ z : Int32, I (gr g a0 0) 722 = z := ⟨_, rfl⟩
  have ti5 : 1 ≤ i5.toInt ∧ i5.toInt ≤ 4 := m_rng M h1 722 ki5 rfl
  have ci5 : (I (gr g a0 0) 722).toInt = i5.toInt := congrArg Int32.toInt ki5
  obtain ⟨i6, ki6⟩ : ∃ z : Int32, I (gr g a0 0) 718 = z := ⟨_, rfl⟩
  have ti6 : 0 ≤ i6.toInt ∧ i6.toInt ≤ 200 := m_rng M h1 718 ki6 rfl
  have ci6 : (I (gr g a0 0) 718).toInt = i6.toInt := congrArg Int32.toInt ki6
  obtain ⟨i7, ki7⟩ : ∃ z : Int32, I (gr g a0 0) 719 = z := ⟨_, rfl⟩
  have ti7 : 0 ≤ i7.toInt ∧ i7.toInt ≤ 200 := m_rng M h1 719 ki7 rfl
  have ci7 : (I (gr g a0 0) 719).toInt = i7.toInt := congrArg Int32.toInt ki7
  simp only [ci2, ci3, ci4, ci5, ci6, ci7] at g0 g1
  have hj := g0 (by omega)
  have hns := mNs_b (R := i4.toInt) (N := i3.toInt) (by omega) (by omega) (by omega) (by omega)
  refine lv_aload_n C.1 C.2.1 dX11_stepsLeft_0 rfl (lv_at hl 0 rfl) ?_
  refine gi_X11_7 C M h0_ dX11_stepsLeft_1 (fun h8 => ?_)
  refine lv_sipush (v := 719) C.1 C.2.1 dX11_stepsLeft_4 (by decide) ?_
  refine a_ldK C M (X := 719) (j := 719) h1 (n := 729) rfl rfl rfl (by omega) (by omega) rfl ki7 dX11_stepsLeft_7 ?_
  refine n_ineg C dX11_stepsLeft_8 rfl (by omega) (fun v9 ev9 => ?_)
  refine lv_istore_n (lv' := [(1, .int v9), (0, .ref a0)]) C.1 C.2.1 dX11_stepsLeft_9 rfl hl (by decide) rfl (fun ls hl => ?_)
  refine lv_aload_n C.1 C.2.1 dX11_stepsLeft_10 rfl (lv_at hl 1 rfl) ?_
  refine gi_X11_7 C M h0_ dX11_stepsLeft_11 (fun h10 => ?_)
  refine lv_sipush (v := 718) C.1 C.2.1 dX11_stepsLeft_14 (by decide) ?_
  refine a_ldK C M (X := 718) (j := 718) h1 (n := 729) rfl rfl rfl (by omega) (by omega) rfl ki6 dX11_stepsLeft_17 ?_
  refine lv_istore_n (lv' := [(2, .int i6), (1, .int v9), (0, .ref a0)]) C.1 C.2.1 dX11_stepsLeft_18 rfl hl (by decide) rfl (fun ls hl => ?_)
  have L19 : ∀ (n19 : Nat) (y11 : Int32) (y12 : Int32) (H : Heap) (locs : List Loc) (ls : Array Slot), 0 ≤ y12.toInt → y12.toInt ≤ 200 → 200 - y12.toInt < (n19 : Int) → Mm g s I J H locs → lv_has ls 3 [(0, .ref a0), (1, .int y11), (2, .int y12)] → W p l e (rmL 7) s m args below meth c H locs 0 0 (MQg below g (PI I J (fun z => True)) args s) (F0 m 19 ls []) := by
    intro n19
    induction n19 with
    | zero =>
      intro y11 y12 H locs ls f13 f14 hm19 M hl
      exact absurd hm19 (by omega)
    | succ n19 ih19 =>
      intro y11 y12 H locs ls f13 f14 hm19 M hl
      refine lv_iload_n C.1 C.2.1 dX11_stepsLeft_19 rfl (lv_at hl 2 rfl) ?_
      refine lv_aload_n C.1 C.2.1 dX11_stepsLeft_20 rfl (lv_at hl 0 rfl) ?_
      have em15 : (I (gr g a0 0) 715).toInt = i3.toInt := congrArg Int32.toInt ki3
      have em16 : (I (gr g a0 0) 716).toInt = i4.toInt := congrArg Int32.toInt ki4
      refine k_PI C M h0_ (by decide) rfl (ct_X11_newStripes l g I J a0 h0_) (cw_X11_67 C.2.2.2.2 (by decide)) rfl hl.1 rfl (Nat.le_of_ble_eq_true rfl) dX11_stepsLeft_21 ⟨Nat.le_refl _, Nat.le_refl _⟩ (fun r17 H locs p18r M => ?_)
      have p18 : r17.toInt = mNs (I (gr g a0 0) 716).toInt (I (gr g a0 0) 715).toInt ∧ 1 ≤ r17.toInt ∧ r17.toInt ≤ (I (gr g a0 0) 716).toInt := p18r
      simp only [em15, em16] at p18
      have p18 : r17.toInt = mNs i4.toInt i3.toInt ∧ 1 ≤ r17.toInt ∧ r17.toInt ≤ i4.toInt := p18
      refine n_icmp_ge C (tgt := 46) dX11_stepsLeft_24 (by decide) rfl rfl (fun q19 => ?_) (fun q19 => ?_)
      ·
        refine lv_iload_n C.1 C.2.1 dX11_stepsLeft_46 rfl (lv_at hl 1 rfl) ?_
        exact r_PI C M hr hlk rfl trivial dX11_stepsLeft_47
      ·
        refine lv_iload_n C.1 C.2.1 dX11_stepsLeft_27 rfl (lv_at hl 1 rfl) ?_
        refine lv_aload_n C.1 C.2.1 dX11_stepsLeft_28 rfl (lv_at hl 0 rfl) ?_
        refine lv_iload_n C.1 C.2.1 dX11_stepsLeft_29 rfl (lv_at hl 2 rfl) ?_
        have em20 : (I (gr g a0 0) 715).toInt = i3.toInt := congrArg Int32.toInt ki3
        have em21 : (I (gr g a0 0) 716).toInt = i4.toInt := congrArg Int32.toInt ki4
        have em22 : (I (gr g a0 0) 722).toInt = i5.toInt := congrArg Int32.toInt ki5
        refine k_PI C M h0_ (by decide) rfl (ct_X11_stepsFrom l g I J a0 y12 h0_ (by omega) (by omega) (by simp only [em20, em21, em22]; first | assumption | omega)) (cw_X11_104 C.2.2.2.2 (by decide)) rfl hl.1 rfl (Nat.le_of_ble_eq_true rfl) dX11_stepsLeft_30 ⟨Nat.le_refl _, Nat.le_refl _⟩ (fun r23 H locs p24r M => ?_)
        have p24 : r23.toInt = mSp (I (gr g a0 0) 716).toInt (I (gr g a0 0) 715).toInt (I (gr g a0 0) 722).toInt y12.toInt ∧ 5 ≤ r23.toInt ∧ r23.toInt ≤ 120 := p24r
        simp only [em20, em21, em22] at p24
        have p24 : r23.toInt = mSp i4.toInt i3.toInt i5.toInt y12.toInt ∧ 5 ≤ r23.toInt ∧ r23.toInt ≤ 120 := p24
        refine n_iaddU C dX11_stepsLeft_33 (fun v25 => ?_)
        refine lv_istore_n (lv' := [(1, .int v25), (0, .ref a0), (2, .int y12)]) C.1 C.2.1 dX11_stepsLeft_34 rfl hl (by decide) rfl (fun ls hl => ?_)
        refine lv_iload_n C.1 C.2.1 dX11_stepsLeft_35 rfl (lv_at hl 2 rfl) ?_
        refine lv_aload_n C.1 C.2.1 dX11_stepsLeft_36 rfl (lv_at hl 1 rfl) ?_
        refine lv_iload_n C.1 C.2.1 dX11_stepsLeft_37 rfl (lv_at hl 2 rfl) ?_
        have em26 : (I (gr g a0 0) 715).toInt = i3.toInt := congrArg Int32.toInt ki3
        have em27 : (I (gr g a0 0) 716).toInt = i4.toInt := congrArg Int32.toInt ki4
        have em28 : (I (gr g a0 0) 722).toInt = i5.toInt := congrArg Int32.toInt ki5
        refine k_PI C M h0_ (by decide) rfl (ct_X11_stripesFrom l g I J a0 y12 h0_ (by omega) (by omega) (by simp only [em26, em27, em28]; first | assumption | omega)) (cw_X11_70 C.2.2.2.2 (by decide)) rfl hl.1 rfl (Nat.le_of_ble_eq_true rfl) dX11_stepsLeft_38 ⟨Nat.le_refl _, Nat.le_refl _⟩ (fun r29 H locs p30r M => ?_)
        have p30 : r29.toInt = mSt (I (gr g a0 0) 716).toInt (I (gr g a0 0) 715).toInt (I (gr g a0 0) 722).toInt y12.toInt ∧ 1 ≤ r29.toInt ∧ r29.toInt ≤ 4 := p30r
        simp only [em26, em27, em28] at p30
        have p30 : r29.toInt = mSt i4.toInt i3.toInt i5.toInt y12.toInt ∧ 1 ≤ r29.toInt ∧ r29.toInt ≤ 4 := p30
        refine n_iadd C dX11_stepsLeft_41 rfl rfl (by omega) (by omega) (fun v31 ev31 => ?_)
        refine lv_istore_n (lv' := [(2, .int v31), (1, .int v25), (0, .ref a0)]) C.1 C.2.1 dX11_stepsLeft_42 rfl hl (by decide) rfl (fun ls hl => ?_)
        refine lv_goto (tgt := 19) C.1 C.2.1 dX11_stepsLeft_43 (by decide) ?_
        exact ih19 v25 v31 _ _ _ (by omega) (by omega) (by omega) M (lv_sub hl [2, 1, 0] rfl)
  exact L19 _ v9 i6 _ _ _ (by omega) (by omega) (n_big _) M (lv_sub hl [2, 1, 0] rfl)

set_option maxHeartbeats 4000000 in
set_option maxRecDepth 100000 in
theorem ct_X11_critical (l : Launch) (g : Gs) (I : Ms) (J : Js) (a0 : Nat) (x1 : Int32) (h0_ : Is g a0 9) (g0 : jm (I (gr g a0 0) 717).toInt (I (gr g a0 0) 715).toInt (I (gr g a0 0) 716).toInt (I (gr g a0 0) 722).toInt (I (gr g a0 0) 718).toInt (I (gr g a0 0) 719).toInt) (g1 : (I (gr g a0 0) 717).toInt = 1) : Ctr l yX11_critical cX11_critical 5 (Option.some Jvm.ClassFile.FieldType.int) 6 g [.ref a0, .int x1] I J (PI I J (fun z => True)) := by
  refine m_start (by decide) (Nat.le_of_ble_eq_true rfl) ?_
  intro p e s m args below meth c C hr hlk M ls hl
  have hl : lv_has ls 5 [(0, .ref a0), (1, .int x1)] := hl
  have C : CallFix p m c cX11_critical 5 s args TB RX11 := C
  have h1 := is_ref M h0_ 0 28 rfl rfl
  obtain ⟨i2, ki2⟩ : ∃ z : Int32, I (gr g a0 0) 717 = z := ⟨_, rfl⟩
  have ti2 : 0 ≤ i2.toInt ∧ i2.toInt ≤ 1 := m_rng M h1 717 ki2 rfl
  have ci2 : (I (gr g a0 0) 717).toInt = i2.toInt := congrArg Int32.toInt ki2
  obtain ⟨i3, ki3⟩ : ∃ z : Int32, I (gr g a0 0) 715 = z := ⟨_, rfl⟩
  have ti3 : 3 ≤ i3.toInt ∧ i3.toInt ≤ 7 := m_rng M h1 715 ki3 rfl
  have ci3 : (I (gr g a0 0) 715).toInt = i3.toInt := congrArg Int32.toInt ki3
  obtain ⟨i4, ki4⟩ : ∃ z : Int32, I (gr g a0 0) 716 = z := ⟨_, rfl⟩
  have ti4 : 4 ≤ i4.toInt ∧ i4.toInt ≤ 40 := m_rng M h1 716 ki4 rfl
  have ci4 : (I (gr g a0 0) 716).toInt = i4.toInt := congrArg Int32.toInt ki4
  obtain ⟨i5, ki5⟩ : ∃ z : Int32, I (gr g a0 0) 722 = z := ⟨_, rfl⟩
  have ti5 : 1 ≤ i5.toInt ∧ i5.toInt ≤ 4 := m_rng M h1 722 ki5 rfl
  have ci5 : (I (gr g a0 0) 722).toInt = i5.toInt := congrArg Int32.toInt ki5
  obtain ⟨i6, ki6⟩ : ∃ z : Int32, I (gr g a0 0) 718 = z := ⟨_, rfl⟩
  have ti6 : 0 ≤ i6.toInt ∧ i6.toInt ≤ 200 := m_rng M h1 718 ki6 rfl
  have ci6 : (I (gr g a0 0) 718).toInt = i6.toInt := congrArg Int32.toInt ki6
  obtain ⟨i7, ki7⟩ : ∃ z : Int32, I (gr g a0 0) 719 = z := ⟨_, rfl⟩
  have ti7 : 0 ≤ i7.toInt ∧ i7.toInt ≤ 200 := m_rng M h1 719 ki7 rfl
  have ci7 : (I (gr g a0 0) 719).toInt = i7.toInt := congrArg Int32.toInt ki7
  simp only [ci2, ci3, ci4, ci5, ci6, ci7] at g0 g1
  have hj := g0 (by omega)
  have hns := mNs_b (R := i4.toInt) (N := i3.toInt) (by omega) (by omega) (by omega) (by omega)
  refine lv_iconst (v := 0) C.1 C.2.1 dX11_critical_0 (by decide) ?_
  refine lv_istore_n (lv' := [(2, .int 0), (0, .ref a0), (1, .int x1)]) C.1 C.2.1 dX11_critical_1 rfl hl (by decide) rfl (fun ls hl => ?_)
  refine lv_iconst (v := 0) C.1 C.2.1 dX11_critical_2 (by decide) ?_
  refine lv_istore_n (lv' := [(3, .int 0), (2, .int 0), (0, .ref a0), (1, .int x1)]) C.1 C.2.1 dX11_critical_3 rfl hl (by decide) rfl (fun ls hl => ?_)
  refine lv_aload_n C.1 C.2.1 dX11_critical_4 rfl (lv_at hl 2 rfl) ?_
  refine gi_X11_7 C M h0_ dX11_critical_5 (fun h8 => ?_)
  refine lv_sipush (v := 718) C.1 C.2.1 dX11_critical_8 (by decide) ?_
  refine a_ldK C M (X := 718) (j := 718) h1 (n := 729) rfl rfl rfl (by omega) (by omega) rfl ki6 dX11_critical_11 ?_
  refine lv_istore (lv' := [(4, .int i6), (3, .int 0), (2, .int 0), (0, .ref a0), (1, .int x1)]) C.1 C.2.1 dX11_critical_12 hl (by decide) rfl (fun ls hl => ?_)
  have L14 : ∀ (n14 : Nat) (y9 : Int32) (y10 : Int32) (y11 : Int32) (H : Heap) (locs : List Loc) (ls : Array Slot), 0 ≤ y11.toInt → y11.toInt ≤ 200 → 200 - y11.toInt < (n14 : Int) → Mm g s I J H locs → lv_has ls 5 [(0, .ref a0), (1, .int x1), (2, .int y9), (3, .int y10), (4, .int y11)] → W p l e (rmL 6) s m args below meth c H locs 0 0 (MQg below g (PI I J (fun z => True)) args s) (F0 m 14 ls []) := by
    intro n14
    induction n14 with
    | zero =>
      intro y9 y10 y11 H locs ls f12 f13 hm14 M hl
      exact absurd hm14 (by omega)
    | succ n14 ih14 =>
      intro y9 y10 y11 H locs ls f12 f13 hm14 M hl
      refine lv_iload C.1 C.2.1 dX11_critical_14 (lv_at hl 4 rfl) ?_
      refine lv_aload_n C.1 C.2.1 dX11_critical_16 rfl (lv_at hl 0 rfl) ?_
      have em14 : (I (gr g a0 0) 715).toInt = i3.toInt := congrArg Int32.toInt ki3
      have em15 : (I (gr g a0 0) 716).toInt = i4.toInt := congrArg Int32.toInt ki4
      refine k_PI C M h0_ (by decide) rfl (ct_X11_newStripes l g I J a0 h0_) (cw_X11_67 C.2.2.2.2 (by decide)) rfl hl.1 rfl (Nat.le_of_ble_eq_true rfl) dX11_critical_17 ⟨Nat.le_refl _, Nat.le_refl _⟩ (fun r16 H locs p17r M => ?_)
      have p17 : r16.toInt = mNs (I (gr g a0 0) 716).toInt (I (gr g a0 0) 715).toInt ∧ 1 ≤ r16.toInt ∧ r16.toInt ≤ (I (gr g a0 0) 716).toInt := p17r
      simp only [em14, em15] at p17
      have p17 : r16.toInt = mNs i4.toInt i3.toInt ∧ 1 ≤ r16.toInt ∧ r16.toInt ≤ i4.toInt := p17
      refine n_icmp_ge C (tgt := 69) dX11_critical_20 (by decide) rfl rfl (fun q18 => ?_) (fun q18 => ?_)
      ·
        refine lv_iload_n C.1 C.2.1 dX11_critical_69 rfl (lv_at hl 1 rfl) ?_
        refine n_if_eq C (tgt := 77) dX11_critical_70 (by decide) rfl (fun q19 => ?_) (fun q19 => ?_)
        ·
          refine lv_iload_n C.1 C.2.1 dX11_critical_77 rfl (lv_at hl 2 rfl) ?_
          exact r_PI C M hr hlk rfl trivial dX11_critical_78
        ·
          refine lv_iload_n C.1 C.2.1 dX11_critical_73 rfl (lv_at hl 3 rfl) ?_
          refine lv_goto (tgt := 78) C.1 C.2.1 dX11_critical_74 (by decide) ?_
          exact r_PI C M hr hlk rfl trivial dX11_critical_78
      ·
        refine lv_aload_n C.1 C.2.1 dX11_critical_23 rfl (lv_at hl 0 rfl) ?_
        refine lv_iload C.1 C.2.1 dX11_critical_24 (lv_at hl 4 rfl) ?_
        have em20 : (I (gr g a0 0) 715).toInt = i3.toInt := congrArg Int32.toInt ki3
        have em21 : (I (gr g a0 0) 716).toInt = i4.toInt := congrArg Int32.toInt ki4
        have em22 : (I (gr g a0 0) 722).toInt = i5.toInt := congrArg Int32.toInt ki5
        refine k_PI C M h0_ (by decide) rfl (ct_X11_isCritical l g I J a0 y11 h0_ (by omega) (by omega) (by simp only [em20, em21, em22]; first | assumption | omega)) (cw_X11_74 C.2.2.2.2 (by decide)) rfl hl.1 rfl (Nat.le_of_ble_eq_true rfl) dX11_critical_26 ⟨Nat.le_refl _, Nat.le_refl _⟩ (fun r23 H locs p24r M => ?_)
        have p24 : 0 ≤ r23.toInt ∧ r23.toInt ≤ 1 ∧ (r23.toInt = 1 ↔ mCr (I (gr g a0 0) 716).toInt (I (gr g a0 0) 715).toInt (I (gr g a0 0) 722).toInt y11.toInt = true) := p24r
        simp only [em20, em21, em22] at p24
        have p24 : 0 ≤ r23.toInt ∧ r23.toInt ≤ 1 ∧ (r23.toInt = 1 ↔ mCr i4.toInt i3.toInt i5.toInt y11.toInt = true) := p24
        refine n_if_ne C (tgt := 35) dX11_critical_29 (by decide) rfl (fun q25 => ?_) (fun q25 => ?_)
        ·
          refine n_iincU C (k := 2) (lv' := fun v => [(2, .int v), (0, .ref a0), (1, .int x1), (3, .int y10), (4, .int y11)]) dX11_critical_35 hl rfl (by decide) (fun _ => rfl) (fun v26 ls hl => ?_)
          refine lv_aload_n C.1 C.2.1 dX11_critical_38 rfl (lv_at hl 1 rfl) ?_
          refine lv_iload C.1 C.2.1 dX11_critical_39 (lv_at hl 4 rfl) ?_
          have em27 : (I (gr g a0 0) 715).toInt = i3.toInt := congrArg Int32.toInt ki3
          have em28 : (I (gr g a0 0) 716).toInt = i4.toInt := congrArg Int32.toInt ki4
          have em29 : (I (gr g a0 0) 722).toInt = i5.toInt := congrArg Int32.toInt ki5
          refine k_PI C M h0_ (by decide) rfl (ct_X11_backupsFrom l g I J a0 y11 h0_ (by omega) (by omega) (by simp only [em27, em28, em29]; first | assumption | omega)) (cw_X11_81 C.2.2.2.2 (by decide)) rfl hl.1 rfl (Nat.le_of_ble_eq_true rfl) dX11_critical_41 ⟨Nat.le_refl _, Nat.le_refl _⟩ (fun r30 H locs p31r M => ?_)
          have p31 : r30.toInt = mBk (I (gr g a0 0) 716).toInt (I (gr g a0 0) 715).toInt (I (gr g a0 0) 722).toInt y11.toInt ∧ 0 ≤ r30.toInt ∧ r30.toInt ≤ 28 ∧ ((I (gr g a0 0) 715).toInt ≤ 6 → r30.toInt ≤ 24) := p31r
          simp only [em27, em28, em29] at p31
          have p31 : r30.toInt = mBk i4.toInt i3.toInt i5.toInt y11.toInt ∧ 0 ≤ r30.toInt ∧ r30.toInt ≤ 28 ∧ (i3.toInt ≤ 6 → r30.toInt ≤ 24) := p31
          refine lv_iload_n C.1 C.2.1 dX11_critical_44 rfl (lv_at hl 3 rfl) ?_
          refine n_icmp_le C (tgt := 55) dX11_critical_45 (by decide) rfl rfl (fun q32 => ?_) (fun q32 => ?_)
          ·
            refine lv_iload C.1 C.2.1 dX11_critical_55 (lv_at hl 4 rfl) ?_
            refine lv_aload_n C.1 C.2.1 dX11_critical_57 rfl (lv_at hl 1 rfl) ?_
            refine lv_iload C.1 C.2.1 dX11_critical_58 (lv_at hl 4 rfl) ?_
            have em33 : (I (gr g a0 0) 715).toInt = i3.toInt := congrArg Int32.toInt ki3
            have em34 : (I (gr g a0 0) 716).toInt = i4.toInt := congrArg Int32.toInt ki4
            have em35 : (I (gr g a0 0) 722).toInt = i5.toInt := congrArg Int32.toInt ki5
            refine k_PI C M h0_ (by decide) rfl (ct_X11_stripesFrom l g I J a0 y11 h0_ (by omega) (by omega) (by simp only [em33, em34, em35]; first | assumption | omega)) (cw_X11_70 C.2.2.2.2 (by decide)) rfl hl.1 rfl (Nat.le_of_ble_eq_true rfl) dX11_critical_60 ⟨Nat.le_refl _, Nat.le_refl _⟩ (fun r36 H locs p37r M => ?_)
            have p37 : r36.toInt = mSt (I (gr g a0 0) 716).toInt (I (gr g a0 0) 715).toInt (I (gr g a0 0) 722).toInt y11.toInt ∧ 1 ≤ r36.toInt ∧ r36.toInt ≤ 4 := p37r
            simp only [em33, em34, em35] at p37
            have p37 : r36.toInt = mSt i4.toInt i3.toInt i5.toInt y11.toInt ∧ 1 ≤ r36.toInt ∧ r36.toInt ≤ 4 := p37
            refine n_iadd C dX11_critical_63 rfl rfl (by omega) (by omega) (fun v38 ev38 => ?_)
            refine lv_istore (lv' := [(4, .int v38), (2, .int v26), (0, .ref a0), (1, .int x1), (3, .int y10)]) C.1 C.2.1 dX11_critical_64 hl (by decide) rfl (fun ls hl => ?_)
            refine lv_goto (tgt := 14) C.1 C.2.1 dX11_critical_66 (by decide) ?_
            exact ih14 v26 y10 v38 _ _ _ (by omega) (by omega) (by omega) M (lv_sub hl [2, 3, 1, 4, 0] rfl)
          ·
            refine lv_aload_n C.1 C.2.1 dX11_critical_48 rfl (lv_at hl 1 rfl) ?_
            refine lv_iload C.1 C.2.1 dX11_critical_49 (lv_at hl 4 rfl) ?_
            have em39 : (I (gr g a0 0) 715).toInt = i3.toInt := congrArg Int32.toInt ki3
            have em40 : (I (gr g a0 0) 716).toInt = i4.toInt := congrArg Int32.toInt ki4
            have em41 : (I (gr g a0 0) 722).toInt = i5.toInt := congrArg Int32.toInt ki5
            refine k_PI C M h0_ (by decide) rfl (ct_X11_backupsFrom l g I J a0 y11 h0_ (by omega) (by omega) (by simp only [em39, em40, em41]; first | assumption | omega)) (cw_X11_81 C.2.2.2.2 (by decide)) rfl hl.1 rfl (Nat.le_of_ble_eq_true rfl) dX11_critical_51 ⟨Nat.le_refl _, Nat.le_refl _⟩ (fun r42 H locs p43r M => ?_)
            have p43 : r42.toInt = mBk (I (gr g a0 0) 716).toInt (I (gr g a0 0) 715).toInt (I (gr g a0 0) 722).toInt y11.toInt ∧ 0 ≤ r42.toInt ∧ r42.toInt ≤ 28 ∧ ((I (gr g a0 0) 715).toInt ≤ 6 → r42.toInt ≤ 24) := p43r
            simp only [em39, em40, em41] at p43
            have p43 : r42.toInt = mBk i4.toInt i3.toInt i5.toInt y11.toInt ∧ 0 ≤ r42.toInt ∧ r42.toInt ≤ 28 ∧ (i3.toInt ≤ 6 → r42.toInt ≤ 24) := p43
            refine lv_istore_n (lv' := [(3, .int r42), (2, .int v26), (0, .ref a0), (1, .int x1), (4, .int y11)]) C.1 C.2.1 dX11_critical_54 rfl hl (by decide) rfl (fun ls hl => ?_)
            refine lv_iload C.1 C.2.1 dX11_critical_55 (lv_at hl 4 rfl) ?_
            refine lv_aload_n C.1 C.2.1 dX11_critical_57 rfl (lv_at hl 2 rfl) ?_
            refine lv_iload C.1 C.2.1 dX11_critical_58 (lv_at hl 4 rfl) ?_
            have em44 : (I (gr g a0 0) 715).toInt = i3.toInt := congrArg Int32.toInt ki3
            have em45 : (I (gr g a0 0) 716).toInt = i4.toInt := congrArg Int32.toInt ki4
            have em46 : (I (gr g a0 0) 722).toInt = i5.toInt := congrArg Int32.toInt ki5
            refine k_PI C M h0_ (by decide) rfl (ct_X11_stripesFrom l g I J a0 y11 h0_ (by omega) (by omega) (by simp only [em44, em45, em46]; first | assumption | omega)) (cw_X11_70 C.2.2.2.2 (by decide)) rfl hl.1 rfl (Nat.le_of_ble_eq_true rfl) dX11_critical_60 ⟨Nat.le_refl _, Nat.le_refl _⟩ (fun r47 H locs p48r M => ?_)
            have p48 : r47.toInt = mSt (I (gr g a0 0) 716).toInt (I (gr g a0 0) 715).toInt (I (gr g a0 0) 722).toInt y11.toInt ∧ 1 ≤ r47.toInt ∧ r47.toInt ≤ 4 := p48r
            simp only [em44, em45, em46] at p48
            have p48 : r47.toInt = mSt i4.toInt i3.toInt i5.toInt y11.toInt ∧ 1 ≤ r47.toInt ∧ r47.toInt ≤ 4 := p48
            refine n_iadd C dX11_critical_63 rfl rfl (by omega) (by omega) (fun v49 ev49 => ?_)
            refine lv_istore (lv' := [(4, .int v49), (3, .int r42), (2, .int v26), (0, .ref a0), (1, .int x1)]) C.1 C.2.1 dX11_critical_64 hl (by decide) rfl (fun ls hl => ?_)
            refine lv_goto (tgt := 14) C.1 C.2.1 dX11_critical_66 (by decide) ?_
            exact ih14 v26 r42 v49 _ _ _ (by omega) (by omega) (by omega) M (lv_sub hl [3, 4, 2, 1, 0] rfl)
        ·
          refine lv_goto (tgt := 55) C.1 C.2.1 dX11_critical_32 (by decide) ?_
          refine lv_iload C.1 C.2.1 dX11_critical_55 (lv_at hl 4 rfl) ?_
          refine lv_aload_n C.1 C.2.1 dX11_critical_57 rfl (lv_at hl 0 rfl) ?_
          refine lv_iload C.1 C.2.1 dX11_critical_58 (lv_at hl 4 rfl) ?_
          have em50 : (I (gr g a0 0) 715).toInt = i3.toInt := congrArg Int32.toInt ki3
          have em51 : (I (gr g a0 0) 716).toInt = i4.toInt := congrArg Int32.toInt ki4
          have em52 : (I (gr g a0 0) 722).toInt = i5.toInt := congrArg Int32.toInt ki5
          refine k_PI C M h0_ (by decide) rfl (ct_X11_stripesFrom l g I J a0 y11 h0_ (by omega) (by omega) (by simp only [em50, em51, em52]; first | assumption | omega)) (cw_X11_70 C.2.2.2.2 (by decide)) rfl hl.1 rfl (Nat.le_of_ble_eq_true rfl) dX11_critical_60 ⟨Nat.le_refl _, Nat.le_refl _⟩ (fun r53 H locs p54r M => ?_)
          have p54 : r53.toInt = mSt (I (gr g a0 0) 716).toInt (I (gr g a0 0) 715).toInt (I (gr g a0 0) 722).toInt y11.toInt ∧ 1 ≤ r53.toInt ∧ r53.toInt ≤ 4 := p54r
          simp only [em50, em51, em52] at p54
          have p54 : r53.toInt = mSt i4.toInt i3.toInt i5.toInt y11.toInt ∧ 1 ≤ r53.toInt ∧ r53.toInt ≤ 4 := p54
          refine n_iadd C dX11_critical_63 rfl rfl (by omega) (by omega) (fun v55 ev55 => ?_)
          refine lv_istore (lv' := [(4, .int v55), (0, .ref a0), (1, .int x1), (2, .int y9), (3, .int y10)]) C.1 C.2.1 dX11_critical_64 hl (by decide) rfl (fun ls hl => ?_)
          refine lv_goto (tgt := 14) C.1 C.2.1 dX11_critical_66 (by decide) ?_
          exact ih14 y9 y10 v55 _ _ _ (by omega) (by omega) (by omega) M (lv_sub hl [1, 2, 3, 4, 0] rfl)
  have cz56 : (0 : Int32).toInt = 0 := rfl
  have cz57 : (0 : Int32).toInt = 0 := rfl
  exact L14 _ 0 0 i6 _ _ _ (by omega) (by omega) (n_big _) M (lv_sub hl [3, 4, 2, 1, 0] rfl)

abbrev md_X11_isStuck : List (Nat × Nat) := [(9, 11), (9, 12)]
set_option maxHeartbeats 4000000 in
set_option maxRecDepth 100000 in
theorem ct_X11_isStuck (l : Launch) (g : Gs) (I : Ms) (J : Js) (a0 : Nat) (h0_ : Is g a0 9) (g0 : jm (I (gr g a0 0) 717).toInt (I (gr g a0 0) 715).toInt (I (gr g a0 0) 716).toInt (I (gr g a0 0) 722).toInt (I (gr g a0 0) 718).toInt (I (gr g a0 0) 719).toInt) (g1 : (I (gr g a0 0) 717).toInt = 1) : Ctr l yX11_isStuck cX11_isStuck 2 (Option.some Jvm.ClassFile.FieldType.boolean) 5 g [.ref a0] I J (PM g md_X11_isStuck I (fun z I1 J1 => J1 = J ∧ (0 ≤ z ∧ z ≤ 1))) := by
  refine m_start (by decide) (Nat.le_of_ble_eq_true rfl) ?_
  intro p e s m args below meth c C hr hlk M ls hl
  have hl : lv_has ls 2 [(0, .ref a0)] := hl
  have C : CallFix p m c cX11_isStuck 2 s args TB RX11 := C
  have F : Fr g md_X11_isStuck I I := fr_rf
  have h1 := is_ref M h0_ 0 28 rfl rfl
  obtain ⟨i2, ki2⟩ : ∃ z : Int32, I (gr g a0 0) 717 = z := ⟨_, rfl⟩
  have ti2 : 0 ≤ i2.toInt ∧ i2.toInt ≤ 1 := m_rng M h1 717 ki2 rfl
  have ci2 : (I (gr g a0 0) 717).toInt = i2.toInt := congrArg Int32.toInt ki2
  obtain ⟨i3, ki3⟩ : ∃ z : Int32, I (gr g a0 0) 715 = z := ⟨_, rfl⟩
  have ti3 : 3 ≤ i3.toInt ∧ i3.toInt ≤ 7 := m_rng M h1 715 ki3 rfl
  have ci3 : (I (gr g a0 0) 715).toInt = i3.toInt := congrArg Int32.toInt ki3
  obtain ⟨i4, ki4⟩ : ∃ z : Int32, I (gr g a0 0) 716 = z := ⟨_, rfl⟩
  have ti4 : 4 ≤ i4.toInt ∧ i4.toInt ≤ 40 := m_rng M h1 716 ki4 rfl
  have ci4 : (I (gr g a0 0) 716).toInt = i4.toInt := congrArg Int32.toInt ki4
  obtain ⟨i5, ki5⟩ : ∃ z : Int32, I (gr g a0 0) 722 = z := ⟨_, rfl⟩
  have ti5 : 1 ≤ i5.toInt ∧ i5.toInt ≤ 4 := m_rng M h1 722 ki5 rfl
  have ci5 : (I (gr g a0 0) 722).toInt = i5.toInt := congrArg Int32.toInt ki5
  obtain ⟨i6, ki6⟩ : ∃ z : Int32, I (gr g a0 0) 718 = z := ⟨_, rfl⟩
  have ti6 : 0 ≤ i6.toInt ∧ i6.toInt ≤ 200 := m_rng M h1 718 ki6 rfl
  have ci6 : (I (gr g a0 0) 718).toInt = i6.toInt := congrArg Int32.toInt ki6
  obtain ⟨i7, ki7⟩ : ∃ z : Int32, I (gr g a0 0) 719 = z := ⟨_, rfl⟩
  have ti7 : 0 ≤ i7.toInt ∧ i7.toInt ≤ 200 := m_rng M h1 719 ki7 rfl
  have ci7 : (I (gr g a0 0) 719).toInt = i7.toInt := congrArg Int32.toInt ki7
  simp only [ci2, ci3, ci4, ci5, ci6, ci7] at g0 g1
  have hj := g0 (by omega)
  have hrc := mRd_c (R := i4.toInt) (N := i3.toInt) (S := i5.toInt) (b := i6.toInt) (by omega) (by omega) (by omega) (by omega) (by omega) (by omega) (by omega)
  have hbl := mBl_b (R := i4.toInt) (N := i3.toInt) (by omega) (by omega) (by omega) (by omega)
  refine lv_aload_n C.1 C.2.1 dX11_isStuck_0 rfl (lv_at hl 0 rfl) ?_
  refine gi_X11_7 C M h0_ dX11_isStuck_1 (fun h8 => ?_)
  refine lv_sipush (v := 719) C.1 C.2.1 dX11_isStuck_4 (by decide) ?_
  refine a_ldK C M (X := 719) (j := 719) h1 (n := 729) rfl rfl rfl (by omega) (by omega) rfl ki7 dX11_isStuck_7 ?_
  refine lv_aload_n C.1 C.2.1 dX11_isStuck_8 rfl (lv_at hl 0 rfl) ?_
  refine lv_aload_n C.1 C.2.1 dX11_isStuck_9 rfl (lv_at hl 0 rfl) ?_
  refine gi_X11_7 C M h0_ dX11_isStuck_10 (fun h9 => ?_)
  refine lv_sipush (v := 718) C.1 C.2.1 dX11_isStuck_13 (by decide) ?_
  refine a_ldK C M (X := 718) (j := 718) h1 (n := 729) rfl rfl rfl (by omega) (by omega) rfl ki6 dX11_isStuck_16 ?_
  have em10 : (I (gr g a0 0) 715).toInt = i3.toInt := congrArg Int32.toInt ki3
  have em11 : (I (gr g a0 0) 716).toInt = i4.toInt := congrArg Int32.toInt ki4
  have em12 : (I (gr g a0 0) 722).toInt = i5.toInt := congrArg Int32.toInt ki5
  refine k_PI C M h0_ (by decide) rfl (ct_X11_readsFrom l g I J a0 i6 h0_ (by omega) (by omega) (by simp only [em10, em11, em12]; first | assumption | omega)) (cw_X11_78 C.2.2.2.2 (by decide)) rfl hl.1 rfl (Nat.le_of_ble_eq_true rfl) dX11_isStuck_17 ⟨Nat.le_refl _, Nat.le_refl _⟩ (fun r13 H locs p14r M => ?_)
  have p14 : r13.toInt = mRd (I (gr g a0 0) 716).toInt (I (gr g a0 0) 715).toInt (I (gr g a0 0) 722).toInt i6.toInt ∧ 1 ≤ r13.toInt ∧ r13.toInt ≤ 28 ∧ ((I (gr g a0 0) 715).toInt ≤ 6 → r13.toInt ≤ 24) := p14r
  simp only [em10, em11, em12] at p14
  have p14 : r13.toInt = mRd i4.toInt i3.toInt i5.toInt i6.toInt ∧ 1 ≤ r13.toInt ∧ r13.toInt ≤ 28 ∧ (i3.toInt ≤ 6 → r13.toInt ≤ 24) := p14
  refine n_icmp_lt C (tgt := 25) dX11_isStuck_20 (by decide) rfl rfl (fun q15 => ?_) (fun q15 => ?_)
  ·
    refine lv_aload_n C.1 C.2.1 dX11_isStuck_25 rfl (lv_at hl 0 rfl) ?_
    refine gi_X11_7 C M h0_ dX11_isStuck_26 (fun h16 => ?_)
    refine lv_sipush (v := 718) C.1 C.2.1 dX11_isStuck_29 (by decide) ?_
    refine a_ldK C M (X := 718) (j := 718) h1 (n := 729) rfl rfl rfl (by omega) (by omega) rfl ki6 dX11_isStuck_32 ?_
    refine lv_aload_n C.1 C.2.1 dX11_isStuck_33 rfl (lv_at hl 0 rfl) ?_
    refine gi_X11_7 C M h0_ dX11_isStuck_34 (fun h17 => ?_)
    refine lv_sipush (v := 715) C.1 C.2.1 dX11_isStuck_37 (by decide) ?_
    refine a_ldK C M (X := 715) (j := 715) h1 (n := 729) rfl rfl rfl (by omega) (by omega) rfl ki3 dX11_isStuck_40 ?_
    have bp19 := i_prod (x := i6.toInt) (y := i3.toInt) (A := 200) (B := 7) (by omega) (by omega) (by omega) (by omega)
    refine n_imul C dX11_isStuck_41 rfl rfl (by omega) (by omega) (fun v18 ev18 => ?_)
    refine lv_aload_n C.1 C.2.1 dX11_isStuck_42 rfl (lv_at hl 0 rfl) ?_
    refine gi_X11_7 C M h0_ dX11_isStuck_43 (fun h20 => ?_)
    refine lv_sipush (v := 719) C.1 C.2.1 dX11_isStuck_46 (by decide) ?_
    refine a_ldK C M (X := 719) (j := 719) h1 (n := 729) rfl rfl rfl (by omega) (by omega) rfl ki7 dX11_isStuck_49 ?_
    refine n_iadd C dX11_isStuck_50 rfl rfl (by omega) (by omega) (fun v21 ev21 => ?_)
    refine lv_istore_n (lv' := [(1, .int v21), (0, .ref a0)]) C.1 C.2.1 dX11_isStuck_51 rfl hl (by decide) rfl (fun ls hl => ?_)
    refine lv_aload_n C.1 C.2.1 dX11_isStuck_52 rfl (lv_at hl 1 rfl) ?_
    refine lv_aload_n C.1 C.2.1 dX11_isStuck_53 rfl (lv_at hl 1 rfl) ?_
    refine gi_X11_7 C M h0_ dX11_isStuck_54 (fun h22 => ?_)
    refine lv_sipush (v := 715) C.1 C.2.1 dX11_isStuck_57 (by decide) ?_
    refine a_ldK C M (X := 715) (j := 715) h1 (n := 729) rfl rfl rfl (by omega) (by omega) rfl ki3 dX11_isStuck_60 ?_
    refine lv_aload_n C.1 C.2.1 dX11_isStuck_61 rfl (lv_at hl 1 rfl) ?_
    refine gi_X11_7 C M h0_ dX11_isStuck_62 (fun h23 => ?_)
    refine lv_sipush (v := 715) C.1 C.2.1 dX11_isStuck_65 (by decide) ?_
    refine a_ldK C M (X := 715) (j := 715) h1 (n := 729) rfl rfl rfl (by omega) (by omega) rfl ki3 dX11_isStuck_68 ?_
    refine lv_iload_n C.1 C.2.1 dX11_isStuck_69 rfl (lv_at hl 0 rfl) ?_
    refine ks_PI C M (ct_X11_diskOf l g I J i3 v21 (by omega) (by omega) (by omega) (by omega)) (cw_X11_91 C.2.2.2.2 (by decide)) rfl hl.1 rfl (Nat.le_of_ble_eq_true rfl) dX11_isStuck_70 ⟨Nat.le_refl _, Nat.le_refl _⟩ (fun r24 H locs p25r M => ?_)
    have p25 : 0 ≤ r24.toInt ∧ r24.toInt ≤ i3.toInt - 1 := p25r
    refine lv_aload_n C.1 C.2.1 dX11_isStuck_73 rfl (lv_at hl 1 rfl) ?_
    refine gi_X11_7 C M h0_ dX11_isStuck_74 (fun h26 => ?_)
    refine lv_sipush (v := 715) C.1 C.2.1 dX11_isStuck_77 (by decide) ?_
    refine a_ldK C M (X := 715) (j := 715) h1 (n := 729) rfl rfl rfl (by omega) (by omega) rfl ki3 dX11_isStuck_80 ?_
    refine lv_iload_n C.1 C.2.1 dX11_isStuck_81 rfl (lv_at hl 0 rfl) ?_
    refine ks_PI C M (ct_X11_rowOf l g I J i3 v21 (by omega) (by omega) (by omega) (by omega)) (cw_X11_94 C.2.2.2.2 (by decide)) rfl hl.1 rfl (Nat.le_of_ble_eq_true rfl) dX11_isStuck_82 ⟨Nat.le_refl _, Nat.le_refl _⟩ (fun r27 H locs p28r M => ?_)
    have p28 : r27.toInt = v21.toInt / (i3.toInt - 1) ∧ 0 ≤ r27.toInt ∧ 2 * r27.toInt ≤ v21.toInt := p28r
    refine k_PM C M h0_ (by decide) rfl (ct_X11_reads l g I J a0 i3 r24 r27 h0_ (by omega) (by omega) (by omega) (by omega) (by omega) (by omega)) (cw_X11_97 C.2.2.2.2 (by decide)) rfl hl.1 rfl (Nat.le_of_ble_eq_true rfl) dX11_isStuck_85 ⟨Nat.le_refl _, Nat.le_refl _⟩ (fun r33 I29 J30 H locs G31 p32r M => ?_)
    obtain ⟨eJ30, p32⟩ : J30 = J ∧ (0 ≤ r33.toInt ∧ r33.toInt ≤ 1) := p32r
    have eJ30 := eJ30.symm
    subst eJ30
    have F := fr_call F G31 (by decide)
    refine n_if_ne C (tgt := 95) dX11_isStuck_88 (by decide) rfl (fun q34 => ?_) (fun q34 => ?_)
    ·
      refine lv_iconst (v := 0) C.1 C.2.1 dX11_isStuck_95 (by decide) ?_
      exact r_PMz C M (z := 0) hr hlk F rfl (by omega) (by omega) ⟨rfl, (by omega)⟩ dX11_isStuck_96
    ·
      refine lv_iconst (v := 1) C.1 C.2.1 dX11_isStuck_91 (by decide) ?_
      refine lv_goto (tgt := 96) C.1 C.2.1 dX11_isStuck_92 (by decide) ?_
      exact r_PMz C M (z := 1) hr hlk F rfl (by omega) (by omega) ⟨rfl, (by omega)⟩ dX11_isStuck_96
  ·
    refine lv_iconst (v := 0) C.1 C.2.1 dX11_isStuck_23 (by decide) ?_
    exact r_PMz C M (z := 0) hr hlk F rfl (by omega) (by omega) ⟨rfl, (by omega)⟩ dX11_isStuck_24

abbrev md_X11_batch : List (Nat × Nat) := [(9, 10), (9, 11), (9, 12)]
set_option maxHeartbeats 4000000 in
set_option maxRecDepth 100000 in
theorem ct_X11_batch (l : Launch) (g : Gs) (I : Ms) (J : Js) (a0 : Nat) (x1 : Int32) (h0_ : Is g a0 9) (g0 : jm (I (gr g a0 0) 717).toInt (I (gr g a0 0) 715).toInt (I (gr g a0 0) 716).toInt (I (gr g a0 0) 722).toInt (I (gr g a0 0) 718).toInt (I (gr g a0 0) 719).toInt) : Ctr l yX11_batch cX11_batch 2 (Option.some Jvm.ClassFile.FieldType.int) 8 g [.ref a0, .int x1] I J (PM g md_X11_batch I (fun z I1 J1 => J1 = J ∧ (True))) := by
  refine m_start (by decide) (Nat.le_of_ble_eq_true rfl) ?_
  intro p e s m args below meth c C hr hlk M ls hl
  have hl : lv_has ls 2 [(0, .ref a0), (1, .int x1)] := hl
  have C : CallFix p m c cX11_batch 2 s args TB RX11 := C
  have F : Fr g md_X11_batch I I := fr_rf
  have h1 := is_ref M h0_ 0 28 rfl rfl
  obtain ⟨i2, ki2⟩ : ∃ z : Int32, I (gr g a0 0) 717 = z := ⟨_, rfl⟩
  have ti2 : 0 ≤ i2.toInt ∧ i2.toInt ≤ 1 := m_rng M h1 717 ki2 rfl
  have ci2 : (I (gr g a0 0) 717).toInt = i2.toInt := congrArg Int32.toInt ki2
  obtain ⟨i3, ki3⟩ : ∃ z : Int32, I (gr g a0 0) 715 = z := ⟨_, rfl⟩
  have ti3 : 3 ≤ i3.toInt ∧ i3.toInt ≤ 7 := m_rng M h1 715 ki3 rfl
  have ci3 : (I (gr g a0 0) 715).toInt = i3.toInt := congrArg Int32.toInt ki3
  obtain ⟨i4, ki4⟩ : ∃ z : Int32, I (gr g a0 0) 716 = z := ⟨_, rfl⟩
  have ti4 : 4 ≤ i4.toInt ∧ i4.toInt ≤ 40 := m_rng M h1 716 ki4 rfl
  have ci4 : (I (gr g a0 0) 716).toInt = i4.toInt := congrArg Int32.toInt ki4
  obtain ⟨i5, ki5⟩ : ∃ z : Int32, I (gr g a0 0) 722 = z := ⟨_, rfl⟩
  have ti5 : 1 ≤ i5.toInt ∧ i5.toInt ≤ 4 := m_rng M h1 722 ki5 rfl
  have ci5 : (I (gr g a0 0) 722).toInt = i5.toInt := congrArg Int32.toInt ki5
  obtain ⟨i6, ki6⟩ : ∃ z : Int32, I (gr g a0 0) 718 = z := ⟨_, rfl⟩
  have ti6 : 0 ≤ i6.toInt ∧ i6.toInt ≤ 200 := m_rng M h1 718 ki6 rfl
  have ci6 : (I (gr g a0 0) 718).toInt = i6.toInt := congrArg Int32.toInt ki6
  obtain ⟨i7, ki7⟩ : ∃ z : Int32, I (gr g a0 0) 719 = z := ⟨_, rfl⟩
  have ti7 : 0 ≤ i7.toInt ∧ i7.toInt ≤ 200 := m_rng M h1 719 ki7 rfl
  have ci7 : (I (gr g a0 0) 719).toInt = i7.toInt := congrArg Int32.toInt ki7
  simp only [ci2, ci3, ci4, ci5, ci6, ci7] at g0
  have hj6 : i2.toInt = 1 → i3.toInt ≤ 6 := fun q => (g0 q).1
  refine lv_aload_n C.1 C.2.1 dX11_batch_0 rfl (lv_at hl 0 rfl) ?_
  refine lv_iconst (v := 0) C.1 C.2.1 dX11_batch_1 (by decide) ?_
  refine pi_X11_39 C M h0_ dX11_batch_2 (fun H locs I8 k10 f9 M => ?_)
  have F := fr_put F h0_ (Or.inr (by decide)) f9
  refine lv_aload_n C.1 C.2.1 dX11_batch_5 rfl (lv_at hl 0 rfl) ?_
  have em11 : (I8 (gr g a0 0) 717).toInt = i2.toInt := congrArg Int32.toInt ((f9 (gr g a0 0) 717 (Or.inl (is_ne h0_ h1 (by decide)))).trans ki2)
  refine k_PI C M h0_ (by decide) rfl (ct_X11_isGrown l g I8 J a0 h0_) (cw_X11_84 C.2.2.2.2 (by decide)) rfl hl.1 rfl (Nat.le_of_ble_eq_true rfl) dX11_batch_6 ⟨Nat.le_refl _, Nat.le_refl _⟩ (fun r12 H locs p13r M => ?_)
  have p13 : 0 ≤ r12.toInt ∧ r12.toInt ≤ 1 ∧ (r12.toInt = 1 ↔ (I8 (gr g a0 0) 717).toInt = 1) := p13r
  simp only [em11] at p13
  have p13 : 0 ≤ r12.toInt ∧ r12.toInt ≤ 1 ∧ (r12.toInt = 1 ↔ i2.toInt = 1) := p13
  refine n_if_ne C (tgt := 14) dX11_batch_9 (by decide) rfl (fun q14 => ?_) (fun q14 => ?_)
  ·
    have hj := g0 (by omega)
    refine lv_iload_n C.1 C.2.1 dX11_batch_14 rfl (lv_at hl 1 rfl) ?_
    by_cases q15 : x1.toInt = 0
    ·
      refine n_tabk (off := 45) (tgt := 60) C 0 dX11_batch_15 q15 (by decide) (by decide) (by decide) (by decide) ?_
      refine lv_aload_n C.1 C.2.1 dX11_batch_60 rfl (lv_at hl 0 rfl) ?_
      refine lv_aload_n C.1 C.2.1 dX11_batch_61 rfl (lv_at hl 0 rfl) ?_
      refine gi_X11_7 C M h0_ dX11_batch_62 (fun h16 => ?_)
      refine lv_sipush (v := 718) C.1 C.2.1 dX11_batch_65 (by decide) ?_
      refine a_ldK C M (X := 718) (j := 718) h1 (n := 729) rfl rfl rfl (by omega) (by omega) rfl ((f9 (gr g a0 0) 718 (Or.inl (is_ne h0_ h1 (by decide)))).trans ki6) dX11_batch_68 ?_
      have em17 : (I8 (gr g a0 0) 715).toInt = i3.toInt := congrArg Int32.toInt ((f9 (gr g a0 0) 715 (Or.inl (is_ne h0_ h1 (by decide)))).trans ki3)
      have em18 : (I8 (gr g a0 0) 716).toInt = i4.toInt := congrArg Int32.toInt ((f9 (gr g a0 0) 716 (Or.inl (is_ne h0_ h1 (by decide)))).trans ki4)
      have em19 : (I8 (gr g a0 0) 722).toInt = i5.toInt := congrArg Int32.toInt ((f9 (gr g a0 0) 722 (Or.inl (is_ne h0_ h1 (by decide)))).trans ki5)
      refine k_PI C M h0_ (by decide) rfl (ct_X11_stepsFrom l g I8 J a0 i6 h0_ (by omega) (by omega) (by simp only [em17, em18, em19]; first | assumption | omega)) (cw_X11_104 C.2.2.2.2 (by decide)) rfl hl.1 rfl (Nat.le_of_ble_eq_true rfl) dX11_batch_69 ⟨Nat.le_refl _, Nat.le_refl _⟩ (fun r20 H locs p21r M => ?_)
      have p21 : r20.toInt = mSp (I8 (gr g a0 0) 716).toInt (I8 (gr g a0 0) 715).toInt (I8 (gr g a0 0) 722).toInt i6.toInt ∧ 5 ≤ r20.toInt ∧ r20.toInt ≤ 120 := p21r
      simp only [em17, em18, em19] at p21
      have p21 : r20.toInt = mSp i4.toInt i3.toInt i5.toInt i6.toInt ∧ 5 ≤ r20.toInt ∧ r20.toInt ≤ 120 := p21
      exact r_PM C M hr hlk F rfl ⟨rfl, trivial⟩ dX11_batch_72
    by_cases q22 : x1.toInt = 1
    ·
      refine n_tabk (off := 58) (tgt := 73) C 1 dX11_batch_15 q22 (by decide) (by decide) (by decide) (by decide) ?_
      refine lv_aload_n C.1 C.2.1 dX11_batch_73 rfl (lv_at hl 0 rfl) ?_
      refine gi_X11_7 C M h0_ dX11_batch_74 (fun h23 => ?_)
      refine lv_sipush (v := 719) C.1 C.2.1 dX11_batch_77 (by decide) ?_
      refine a_ldK C M (X := 719) (j := 719) h1 (n := 729) rfl rfl rfl (by omega) (by omega) rfl ((f9 (gr g a0 0) 719 (Or.inl (is_ne h0_ h1 (by decide)))).trans ki7) dX11_batch_80 ?_
      exact r_PM C M hr hlk F rfl ⟨rfl, trivial⟩ dX11_batch_81
    by_cases q24 : x1.toInt = 2
    ·
      refine n_tabk (off := 67) (tgt := 82) C 2 dX11_batch_15 q24 (by decide) (by decide) (by decide) (by decide) ?_
      refine lv_aload_n C.1 C.2.1 dX11_batch_82 rfl (lv_at hl 0 rfl) ?_
      refine lv_aload_n C.1 C.2.1 dX11_batch_83 rfl (lv_at hl 0 rfl) ?_
      refine gi_X11_7 C M h0_ dX11_batch_84 (fun h25 => ?_)
      refine lv_sipush (v := 718) C.1 C.2.1 dX11_batch_87 (by decide) ?_
      refine a_ldK C M (X := 718) (j := 718) h1 (n := 729) rfl rfl rfl (by omega) (by omega) rfl ((f9 (gr g a0 0) 718 (Or.inl (is_ne h0_ h1 (by decide)))).trans ki6) dX11_batch_90 ?_
      have em26 : (I8 (gr g a0 0) 715).toInt = i3.toInt := congrArg Int32.toInt ((f9 (gr g a0 0) 715 (Or.inl (is_ne h0_ h1 (by decide)))).trans ki3)
      have em27 : (I8 (gr g a0 0) 716).toInt = i4.toInt := congrArg Int32.toInt ((f9 (gr g a0 0) 716 (Or.inl (is_ne h0_ h1 (by decide)))).trans ki4)
      have em28 : (I8 (gr g a0 0) 722).toInt = i5.toInt := congrArg Int32.toInt ((f9 (gr g a0 0) 722 (Or.inl (is_ne h0_ h1 (by decide)))).trans ki5)
      refine k_PI C M h0_ (by decide) rfl (ct_X11_isCritical l g I8 J a0 i6 h0_ (by omega) (by omega) (by simp only [em26, em27, em28]; first | assumption | omega)) (cw_X11_74 C.2.2.2.2 (by decide)) rfl hl.1 rfl (Nat.le_of_ble_eq_true rfl) dX11_batch_91 ⟨Nat.le_refl _, Nat.le_refl _⟩ (fun r29 H locs p30r M => ?_)
      have p30 : 0 ≤ r29.toInt ∧ r29.toInt ≤ 1 ∧ (r29.toInt = 1 ↔ mCr (I8 (gr g a0 0) 716).toInt (I8 (gr g a0 0) 715).toInt (I8 (gr g a0 0) 722).toInt i6.toInt = true) := p30r
      simp only [em26, em27, em28] at p30
      have p30 : 0 ≤ r29.toInt ∧ r29.toInt ≤ 1 ∧ (r29.toInt = 1 ↔ mCr i4.toInt i3.toInt i5.toInt i6.toInt = true) := p30
      refine n_if_eq C (tgt := 101) dX11_batch_94 (by decide) rfl (fun q31 => ?_) (fun q31 => ?_)
      ·
        refine lv_iconst (v := 0) C.1 C.2.1 dX11_batch_101 (by decide) ?_
        exact r_PM C M (z := 0) hr hlk F rfl ⟨rfl, trivial⟩ dX11_batch_102
      ·
        refine lv_iconst (v := 1) C.1 C.2.1 dX11_batch_97 (by decide) ?_
        refine lv_goto (tgt := 102) C.1 C.2.1 dX11_batch_98 (by decide) ?_
        exact r_PM C M (z := 1) hr hlk F rfl ⟨rfl, trivial⟩ dX11_batch_102
    by_cases q32 : x1.toInt = 3
    ·
      refine n_tabk (off := 88) (tgt := 103) C 3 dX11_batch_15 q32 (by decide) (by decide) (by decide) (by decide) ?_
      refine lv_aload_n C.1 C.2.1 dX11_batch_103 rfl (lv_at hl 0 rfl) ?_
      have em33 : (I8 (gr g a0 0) 717).toInt = i2.toInt := congrArg Int32.toInt ((f9 (gr g a0 0) 717 (Or.inl (is_ne h0_ h1 (by decide)))).trans ki2)
      have em34 : (I8 (gr g a0 0) 715).toInt = i3.toInt := congrArg Int32.toInt ((f9 (gr g a0 0) 715 (Or.inl (is_ne h0_ h1 (by decide)))).trans ki3)
      have em35 : (I8 (gr g a0 0) 716).toInt = i4.toInt := congrArg Int32.toInt ((f9 (gr g a0 0) 716 (Or.inl (is_ne h0_ h1 (by decide)))).trans ki4)
      have em36 : (I8 (gr g a0 0) 722).toInt = i5.toInt := congrArg Int32.toInt ((f9 (gr g a0 0) 722 (Or.inl (is_ne h0_ h1 (by decide)))).trans ki5)
      have em37 : (I8 (gr g a0 0) 718).toInt = i6.toInt := congrArg Int32.toInt ((f9 (gr g a0 0) 718 (Or.inl (is_ne h0_ h1 (by decide)))).trans ki6)
      have em38 : (I8 (gr g a0 0) 719).toInt = i7.toInt := congrArg Int32.toInt ((f9 (gr g a0 0) 719 (Or.inl (is_ne h0_ h1 (by decide)))).trans ki7)
      refine k_PI C M h0_ (by decide) rfl (ct_X11_stepsLeft l g I8 J a0 h0_ (by simp only [em33, em34, em35, em36, em37, em38]; first | assumption | omega) (by simp only [em33, em34, em35, em36, em37, em38]; first | assumption | omega)) (cw_X11_341 C.2.2.2.2 (by decide)) rfl hl.1 rfl (Nat.le_of_ble_eq_true rfl) dX11_batch_104 ⟨Nat.le_refl _, Nat.le_refl _⟩ (fun r39 H locs p40r M => ?_)
      have p40 : True := p40r
      exact r_PM C M hr hlk F rfl ⟨rfl, trivial⟩ dX11_batch_107
    by_cases q41 : x1.toInt = 4
    ·
      refine n_tabk (off := 93) (tgt := 108) C 4 dX11_batch_15 q41 (by decide) (by decide) (by decide) (by decide) ?_
      refine lv_aload_n C.1 C.2.1 dX11_batch_108 rfl (lv_at hl 0 rfl) ?_
      refine lv_iconst (v := 0) C.1 C.2.1 dX11_batch_109 (by decide) ?_
      have em42 : (I8 (gr g a0 0) 717).toInt = i2.toInt := congrArg Int32.toInt ((f9 (gr g a0 0) 717 (Or.inl (is_ne h0_ h1 (by decide)))).trans ki2)
      have em43 : (I8 (gr g a0 0) 715).toInt = i3.toInt := congrArg Int32.toInt ((f9 (gr g a0 0) 715 (Or.inl (is_ne h0_ h1 (by decide)))).trans ki3)
      have em44 : (I8 (gr g a0 0) 716).toInt = i4.toInt := congrArg Int32.toInt ((f9 (gr g a0 0) 716 (Or.inl (is_ne h0_ h1 (by decide)))).trans ki4)
      have em45 : (I8 (gr g a0 0) 722).toInt = i5.toInt := congrArg Int32.toInt ((f9 (gr g a0 0) 722 (Or.inl (is_ne h0_ h1 (by decide)))).trans ki5)
      have em46 : (I8 (gr g a0 0) 718).toInt = i6.toInt := congrArg Int32.toInt ((f9 (gr g a0 0) 718 (Or.inl (is_ne h0_ h1 (by decide)))).trans ki6)
      have em47 : (I8 (gr g a0 0) 719).toInt = i7.toInt := congrArg Int32.toInt ((f9 (gr g a0 0) 719 (Or.inl (is_ne h0_ h1 (by decide)))).trans ki7)
      refine k_PI C M h0_ (by decide) rfl (ct_X11_critical l g I8 J a0 0 h0_ (by simp only [em42, em43, em44, em45, em46, em47]; have : (0 : Int32).toInt = 0 := rfl; first | assumption | omega) (by simp only [em42, em43, em44, em45, em46, em47]; have : (0 : Int32).toInt = 0 := rfl; first | assumption | omega)) (cw_X11_344 C.2.2.2.2 (by decide)) rfl hl.1 rfl (Nat.le_of_ble_eq_true rfl) dX11_batch_110 ⟨Nat.le_refl _, Nat.le_refl _⟩ (fun r48 H locs p49r M => ?_)
      have p49 : True := p49r
      exact r_PM C M hr hlk F rfl ⟨rfl, trivial⟩ dX11_batch_113
    by_cases q50 : x1.toInt = 5
    ·
      refine n_tabk (off := 99) (tgt := 114) C 5 dX11_batch_15 q50 (by decide) (by decide) (by decide) (by decide) ?_
      refine lv_aload_n C.1 C.2.1 dX11_batch_114 rfl (lv_at hl 0 rfl) ?_
      refine lv_iconst (v := 1) C.1 C.2.1 dX11_batch_115 (by decide) ?_
      have em51 : (I8 (gr g a0 0) 717).toInt = i2.toInt := congrArg Int32.toInt ((f9 (gr g a0 0) 717 (Or.inl (is_ne h0_ h1 (by decide)))).trans ki2)
      have em52 : (I8 (gr g a0 0) 715).toInt = i3.toInt := congrArg Int32.toInt ((f9 (gr g a0 0) 715 (Or.inl (is_ne h0_ h1 (by decide)))).trans ki3)
      have em53 : (I8 (gr g a0 0) 716).toInt = i4.toInt := congrArg Int32.toInt ((f9 (gr g a0 0) 716 (Or.inl (is_ne h0_ h1 (by decide)))).trans ki4)
      have em54 : (I8 (gr g a0 0) 722).toInt = i5.toInt := congrArg Int32.toInt ((f9 (gr g a0 0) 722 (Or.inl (is_ne h0_ h1 (by decide)))).trans ki5)
      have em55 : (I8 (gr g a0 0) 718).toInt = i6.toInt := congrArg Int32.toInt ((f9 (gr g a0 0) 718 (Or.inl (is_ne h0_ h1 (by decide)))).trans ki6)
      have em56 : (I8 (gr g a0 0) 719).toInt = i7.toInt := congrArg Int32.toInt ((f9 (gr g a0 0) 719 (Or.inl (is_ne h0_ h1 (by decide)))).trans ki7)
      refine k_PI C M h0_ (by decide) rfl (ct_X11_critical l g I8 J a0 1 h0_ (by simp only [em51, em52, em53, em54, em55, em56]; have : (1 : Int32).toInt = 1 := rfl; first | assumption | omega) (by simp only [em51, em52, em53, em54, em55, em56]; have : (1 : Int32).toInt = 1 := rfl; first | assumption | omega)) (cw_X11_344 C.2.2.2.2 (by decide)) rfl hl.1 rfl (Nat.le_of_ble_eq_true rfl) dX11_batch_116 ⟨Nat.le_refl _, Nat.le_refl _⟩ (fun r57 H locs p58r M => ?_)
      have p58 : True := p58r
      exact r_PM C M hr hlk F rfl ⟨rfl, trivial⟩ dX11_batch_119
    by_cases q59 : x1.toInt = 6
    ·
      refine n_tabk (off := 105) (tgt := 120) C 6 dX11_batch_15 q59 (by decide) (by decide) (by decide) (by decide) ?_
      refine lv_aload_n C.1 C.2.1 dX11_batch_120 rfl (lv_at hl 0 rfl) ?_
      have em60 : (I8 (gr g a0 0) 717).toInt = i2.toInt := congrArg Int32.toInt ((f9 (gr g a0 0) 717 (Or.inl (is_ne h0_ h1 (by decide)))).trans ki2)
      have em61 : (I8 (gr g a0 0) 715).toInt = i3.toInt := congrArg Int32.toInt ((f9 (gr g a0 0) 715 (Or.inl (is_ne h0_ h1 (by decide)))).trans ki3)
      have em62 : (I8 (gr g a0 0) 716).toInt = i4.toInt := congrArg Int32.toInt ((f9 (gr g a0 0) 716 (Or.inl (is_ne h0_ h1 (by decide)))).trans ki4)
      have em63 : (I8 (gr g a0 0) 722).toInt = i5.toInt := congrArg Int32.toInt ((f9 (gr g a0 0) 722 (Or.inl (is_ne h0_ h1 (by decide)))).trans ki5)
      have em64 : (I8 (gr g a0 0) 718).toInt = i6.toInt := congrArg Int32.toInt ((f9 (gr g a0 0) 718 (Or.inl (is_ne h0_ h1 (by decide)))).trans ki6)
      have em65 : (I8 (gr g a0 0) 719).toInt = i7.toInt := congrArg Int32.toInt ((f9 (gr g a0 0) 719 (Or.inl (is_ne h0_ h1 (by decide)))).trans ki7)
      refine k_PM C M h0_ (by decide) rfl (ct_X11_isStuck l g I8 J a0 h0_ (by simp only [em60, em61, em62, em63, em64, em65]; first | assumption | omega) (by simp only [em60, em61, em62, em63, em64, em65]; first | assumption | omega)) (cw_X11_348 C.2.2.2.2 (by decide)) rfl hl.1 rfl (Nat.le_of_ble_eq_true rfl) dX11_batch_121 ⟨Nat.le_refl _, Nat.le_refl _⟩ (fun r70 I66 J67 H locs G68 p69r M => ?_)
      obtain ⟨eJ67, p69⟩ : J67 = J ∧ (0 ≤ r70.toInt ∧ r70.toInt ≤ 1) := p69r
      have eJ67 := eJ67.symm
      subst eJ67
      have F := fr_call F G68 (by decide)
      refine n_if_eq C (tgt := 131) dX11_batch_124 (by decide) rfl (fun q71 => ?_) (fun q71 => ?_)
      ·
        refine lv_iconst (v := 0) C.1 C.2.1 dX11_batch_131 (by decide) ?_
        exact r_PM C M (z := 0) hr hlk F rfl ⟨rfl, trivial⟩ dX11_batch_132
      ·
        refine lv_iconst (v := 1) C.1 C.2.1 dX11_batch_127 (by decide) ?_
        refine lv_goto (tgt := 132) C.1 C.2.1 dX11_batch_128 (by decide) ?_
        exact r_PM C M (z := 1) hr hlk F rfl ⟨rfl, trivial⟩ dX11_batch_132
    by_cases q72 : x1.toInt = 7
    ·
      refine n_tabk (off := 118) (tgt := 133) C 7 dX11_batch_15 q72 (by decide) (by decide) (by decide) (by decide) ?_
      refine lv_aload_n C.1 C.2.1 dX11_batch_133 rfl (lv_at hl 0 rfl) ?_
      refine gi_X11_7 C M h0_ dX11_batch_134 (fun h73 => ?_)
      refine lv_sipush (v := 720) C.1 C.2.1 dX11_batch_137 (by decide) ?_
      refine a_ld C M (X := 720) (j := 720) h1 (n := 729) rfl rfl rfl (by omega) (by omega) rfl dX11_batch_140 (fun v74 kv74 => ?_)
      have tv74 := m_rng M h1 720 kv74 rfl
      have tv74 : 0 ≤ v74.toInt ∧ v74.toInt ≤ 1 := tv74
      exact r_PM C M hr hlk F rfl ⟨rfl, trivial⟩ dX11_batch_141
    refine n_tabo (tgt := 142) C dX11_batch_15 rfl (by omega) (by decide) ?_
    refine lv_iconst (v := -1) C.1 C.2.1 dX11_batch_142 (by decide) ?_
    exact r_PM C M (z := (-1)) hr hlk F rfl ⟨rfl, trivial⟩ dX11_batch_143
  ·
    refine lv_iconst (v := -1) C.1 C.2.1 dX11_batch_12 (by decide) ?_
    exact r_PM C M (z := (-1)) hr hlk F rfl ⟨rfl, trivial⟩ dX11_batch_13

abbrev md_X11_notes : List (Nat × Nat) := [(9, 6), (32, 0)]
set_option maxHeartbeats 4000000 in
set_option maxRecDepth 100000 in
theorem ct_X11_notes (l : Launch) (g : Gs) (I : Ms) (J : Js) (a0 : Nat) (x1 : Int32) (x2 : Int32) (x3 : Int32) (h0_ : Is g a0 9) : Ctr l yX11_notes cX11_notes 5 (Option.none : Option Jvm.ClassFile.FieldType) 1 g [.ref a0, .int x1, .int x2, .int x3] I J (PV g md_X11_notes I (fun I1 J1 => J1 = J ∧ (True))) := by
  refine m_start (by decide) (Nat.le_of_ble_eq_true rfl) ?_
  intro p e s m args below meth c C hr hlk M ls hl
  have hl : lv_has ls 5 [(0, .ref a0), (1, .int x1), (2, .int x2), (3, .int x3)] := hl
  have C : CallFix p m c cX11_notes 5 s args TB RX11 := C
  have F : Fr g md_X11_notes I I := fr_rf
  refine lv_aload_n C.1 C.2.1 dX11_notes_0 rfl (lv_at hl 0 rfl) ?_
  refine gi_X11_153 C M h0_ dX11_notes_1 (fun v1 kv1 tv1 uv1 => ?_)
  have cv1 : (I a0 6).toInt = v1.toInt := congrArg Int32.toInt kv1
  refine n_if_eq C (tgt := 8) dX11_notes_4 (by decide) rfl (fun q2 => ?_) (fun q2 => ?_)
  ·
    refine lv_aload_n C.1 C.2.1 dX11_notes_8 rfl (lv_at hl 0 rfl) ?_
    refine gi_X11_43 C M h0_ dX11_notes_9 (fun v3 kv3 tv3 uv3 => ?_)
    have cv3 : (I a0 5).toInt = v3.toInt := congrArg Int32.toInt kv3
    refine lv_bipush (v := 30) C.1 C.2.1 dX11_notes_12 (by decide) ?_
    have J59 : ∀ (I4 : Ms) (H : Heap) (locs : List Loc) (ls : Array Slot), I4 a0 6 = v1 → (I4 a0 5).toInt ≤ 29 → Fr g md_X11_notes I I4 → Mm g s I4 J H locs → lv_has ls 5 [(0, .ref a0), (1, .int x1), (2, .int x2), (3, .int x3)] → W p l e (rmL 1) s m args below meth c H locs 0 0 (MQg below g (PV g md_X11_notes I (fun I1 J1 => J1 = J ∧ (True))) args s) (F0 m 59 ls []) := by
      intro I4 H locs ls k5 f6 F M hl
      refine lv_aload_n C.1 C.2.1 dX11_notes_59 rfl (lv_at hl 0 rfl) ?_
      refine gi_X11_23 C M h0_ dX11_notes_60 (fun h7 => ?_)
      refine lv_iconst (v := 4) C.1 C.2.1 dX11_notes_63 (by decide) ?_
      refine lv_aload_n C.1 C.2.1 dX11_notes_64 rfl (lv_at hl 0 rfl) ?_
      refine gi_X11_43 C M h0_ dX11_notes_65 (fun v8 kv8 tv8 uv8 => ?_)
      have cv8 : (I4 a0 5).toInt = v8.toInt := congrArg Int32.toInt kv8
      refine n_imul C (X := 4) dX11_notes_68 rfl rfl (by omega) (by omega) (fun v9 ev9 => ?_)
      refine lv_iload_n C.1 C.2.1 dX11_notes_69 rfl (lv_at hl 1 rfl) ?_
      refine a_stU C M h7 (n := 120) rfl rfl rfl (by omega) (by omega) rfl rfl dX11_notes_70 (fun H locs I10 k12 f11 M => ?_)
      have F := fr_put F h7 (Or.inl (by decide)) f11
      refine lv_aload_n C.1 C.2.1 dX11_notes_71 rfl (lv_at hl 0 rfl) ?_
      refine gi_X11_23 C M h0_ dX11_notes_72 (fun h13 => ?_)
      refine lv_iconst (v := 4) C.1 C.2.1 dX11_notes_75 (by decide) ?_
      refine lv_aload_n C.1 C.2.1 dX11_notes_76 rfl (lv_at hl 0 rfl) ?_
      refine gk_X11_43 C M h0_ ((f11 a0 5 (Or.inl (is_ne h7 h0_ (by decide)))).trans kv8) dX11_notes_77 ?_
      refine n_imul C (X := 4) dX11_notes_80 rfl rfl (by omega) (by omega) (fun v14 ev14 => ?_)
      refine lv_iconst (v := 1) C.1 C.2.1 dX11_notes_81 (by decide) ?_
      refine n_iadd C (Y := 1) dX11_notes_82 rfl rfl (by omega) (by omega) (fun v15 ev15 => ?_)
      refine lv_iload_n C.1 C.2.1 dX11_notes_83 rfl (lv_at hl 2 rfl) ?_
      refine a_stU C M h7 (n := 120) rfl rfl rfl (by omega) (by omega) rfl rfl dX11_notes_84 (fun H locs I16 k18 f17 M => ?_)
      have F := fr_put F h7 (Or.inl (by decide)) f17
      refine lv_aload_n C.1 C.2.1 dX11_notes_85 rfl (lv_at hl 0 rfl) ?_
      refine gi_X11_23 C M h0_ dX11_notes_86 (fun h19 => ?_)
      refine lv_iconst (v := 4) C.1 C.2.1 dX11_notes_89 (by decide) ?_
      refine lv_aload_n C.1 C.2.1 dX11_notes_90 rfl (lv_at hl 0 rfl) ?_
      refine gk_X11_43 C M h0_ ((f17 a0 5 (Or.inl (is_ne h7 h0_ (by decide)))).trans ((f11 a0 5 (Or.inl (is_ne h7 h0_ (by decide)))).trans kv8)) dX11_notes_91 ?_
      refine n_imul C (X := 4) dX11_notes_94 rfl rfl (by omega) (by omega) (fun v20 ev20 => ?_)
      refine lv_iconst (v := 2) C.1 C.2.1 dX11_notes_95 (by decide) ?_
      refine n_iadd C (Y := 2) dX11_notes_96 rfl rfl (by omega) (by omega) (fun v21 ev21 => ?_)
      refine lv_iload_n C.1 C.2.1 dX11_notes_97 rfl (lv_at hl 3 rfl) ?_
      refine a_stU C M h7 (n := 120) rfl rfl rfl (by omega) (by omega) rfl rfl dX11_notes_98 (fun H locs I22 k24 f23 M => ?_)
      have F := fr_put F h7 (Or.inl (by decide)) f23
      refine lv_aload_n C.1 C.2.1 dX11_notes_99 rfl (lv_at hl 0 rfl) ?_
      refine gi_X11_23 C M h0_ dX11_notes_100 (fun h25 => ?_)
      refine lv_iconst (v := 4) C.1 C.2.1 dX11_notes_103 (by decide) ?_
      refine lv_aload_n C.1 C.2.1 dX11_notes_104 rfl (lv_at hl 0 rfl) ?_
      refine gk_X11_43 C M h0_ ((f23 a0 5 (Or.inl (is_ne h7 h0_ (by decide)))).trans ((f17 a0 5 (Or.inl (is_ne h7 h0_ (by decide)))).trans ((f11 a0 5 (Or.inl (is_ne h7 h0_ (by decide)))).trans kv8))) dX11_notes_105 ?_
      refine n_imul C (X := 4) dX11_notes_108 rfl rfl (by omega) (by omega) (fun v26 ev26 => ?_)
      refine lv_iconst (v := 3) C.1 C.2.1 dX11_notes_109 (by decide) ?_
      refine n_iadd C (Y := 3) dX11_notes_110 rfl rfl (by omega) (by omega) (fun v27 ev27 => ?_)
      refine lv_aload_n C.1 C.2.1 dX11_notes_111 rfl (lv_at hl 0 rfl) ?_
      refine gi_X11_7 C M h0_ dX11_notes_112 (fun h28 => ?_)
      refine lv_sipush (v := 727) C.1 C.2.1 dX11_notes_115 (by decide) ?_
      refine a_ld C M (X := 727) (j := 727) h28 (n := 729) rfl rfl rfl (by omega) (by omega) rfl dX11_notes_118 (fun v29 kv29 => ?_)
      refine lv_iconst (v := 1) C.1 C.2.1 dX11_notes_119 (by decide) ?_
      refine n_iaddU C dX11_notes_120 (fun v30 => ?_)
      refine a_stU C M h7 (n := 120) rfl rfl rfl (by omega) (by omega) rfl rfl dX11_notes_121 (fun H locs I31 k33 f32 M => ?_)
      have F := fr_put F h7 (Or.inl (by decide)) f32
      refine lv_aload_n C.1 C.2.1 dX11_notes_122 rfl (lv_at hl 0 rfl) ?_
      refine lv_dup C.1 C.2.1 dX11_notes_123 rfl ?_
      refine gk_X11_43 C M h0_ ((f32 a0 5 (Or.inl (is_ne h7 h0_ (by decide)))).trans ((f23 a0 5 (Or.inl (is_ne h7 h0_ (by decide)))).trans ((f17 a0 5 (Or.inl (is_ne h7 h0_ (by decide)))).trans ((f11 a0 5 (Or.inl (is_ne h7 h0_ (by decide)))).trans kv8)))) dX11_notes_124 ?_
      refine lv_iconst (v := 1) C.1 C.2.1 dX11_notes_127 (by decide) ?_
      refine n_iadd C (Y := 1) dX11_notes_128 rfl rfl (by omega) (by omega) (fun v34 ev34 => ?_)
      refine pi_X11_43 C M h0_ dX11_notes_129 rfl (by omega) (by omega) (fun H locs I35 k37 f36 M => ?_)
      have F := fr_put F h0_ (Or.inr (by decide)) f36
      exact r_PV C M hr hlk F ⟨rfl, trivial⟩ dX11_notes_132
    refine n_icmp_ne C (tgt := 59) (Y := 30) dX11_notes_14 (by decide) rfl rfl (fun q38 => ?_) (fun q38 => ?_)
    ·
      have jc39 : (I a0 5).toInt = v3.toInt := congrArg Int32.toInt kv3
      exact J59 I _ _ _ kv1 (by omega) F M hl
    ·
      refine lv_iconst (v := 0) C.1 C.2.1 dX11_notes_17 (by decide) ?_
      refine lv_istore (lv' := [(4, .int 0), (0, .ref a0), (1, .int x1), (2, .int x2), (3, .int x3)]) C.1 C.2.1 dX11_notes_18 hl (by decide) rfl (fun ls hl => ?_)
      have L20 : ∀ (n20 : Nat) (y40 : Int32) (I41 : Ms) (H : Heap) (locs : List Loc) (ls : Array Slot), I41 a0 5 = v3 → I41 a0 6 = v1 → 0 ≤ y40.toInt → y40.toInt ≤ 116 → 116 - y40.toInt < (n20 : Int) → Fr g md_X11_notes I I41 → Mm g s I41 J H locs → lv_has ls 5 [(0, .ref a0), (1, .int x1), (2, .int x2), (3, .int x3), (4, .int y40)] → W p l e (rmL 1) s m args below meth c H locs 0 0 (MQg below g (PV g md_X11_notes I (fun I1 J1 => J1 = J ∧ (True))) args s) (F0 m 20 ls []) := by
        intro n20
        induction n20 with
        | zero =>
          intro y40 I41 H locs ls k42 k43 f44 f45 hm20 F M hl
          exact absurd hm20 (by omega)
        | succ n20 ih20 =>
          intro y40 I41 H locs ls k42 k43 f44 f45 hm20 F M hl
          refine lv_iload C.1 C.2.1 dX11_notes_20 (lv_at hl 4 rfl) ?_
          refine lv_bipush (v := 116) C.1 C.2.1 dX11_notes_22 (by decide) ?_
          refine n_icmp_ge C (tgt := 49) (Y := 116) dX11_notes_24 (by decide) rfl rfl (fun q46 => ?_) (fun q46 => ?_)
          ·
            refine lv_aload_n C.1 C.2.1 dX11_notes_49 rfl (lv_at hl 0 rfl) ?_
            refine lv_dup C.1 C.2.1 dX11_notes_50 rfl ?_
            refine gk_X11_43 C M h0_ k42 dX11_notes_51 ?_
            refine lv_iconst (v := 1) C.1 C.2.1 dX11_notes_54 (by decide) ?_
            refine n_isub C (Y := 1) dX11_notes_55 rfl rfl (by omega) (by omega) (fun v47 ev47 => ?_)
            refine pi_X11_43 C M h0_ dX11_notes_56 rfl (by omega) (by omega) (fun H locs I48 k50 f49 M => ?_)
            have F := fr_put F h0_ (Or.inr (by decide)) f49
            have jc51 : (I48 a0 5).toInt = v47.toInt := congrArg Int32.toInt k50
            exact J59 I48 _ _ _ ((f49 a0 6 (Or.inr (by decide))).trans k43) (by omega) F M (lv_sub hl [0, 1, 2, 3] rfl)
          ·
            refine lv_aload_n C.1 C.2.1 dX11_notes_27 rfl (lv_at hl 0 rfl) ?_
            refine gi_X11_23 C M h0_ dX11_notes_28 (fun h52 => ?_)
            refine lv_iload C.1 C.2.1 dX11_notes_31 (lv_at hl 4 rfl) ?_
            refine lv_aload_n C.1 C.2.1 dX11_notes_33 rfl (lv_at hl 0 rfl) ?_
            refine gi_X11_23 C M h0_ dX11_notes_34 (fun h53 => ?_)
            refine lv_iload C.1 C.2.1 dX11_notes_37 (lv_at hl 4 rfl) ?_
            refine lv_iconst (v := 4) C.1 C.2.1 dX11_notes_39 (by decide) ?_
            refine n_iadd C (Y := 4) dX11_notes_40 rfl rfl (by omega) (by omega) (fun v54 ev54 => ?_)
            refine a_ld C M h52 (n := 120) rfl rfl rfl (by omega) (by omega) rfl dX11_notes_41 (fun v55 kv55 => ?_)
            refine a_stU C M h52 (n := 120) rfl rfl rfl (by omega) (by omega) rfl rfl dX11_notes_42 (fun H locs I56 k58 f57 M => ?_)
            have F := fr_put F h52 (Or.inl (by decide)) f57
            refine n_iinc C (k := 4) (N := 1) (lv' := fun v => [(4, .int v), (0, .ref a0), (1, .int x1), (2, .int x2), (3, .int x3)]) dX11_notes_43 hl rfl (by decide) rfl rfl (by omega) (by omega) (fun _ => rfl) (fun v59 ls ev59 hl => ?_)
            refine lv_goto (tgt := 20) C.1 C.2.1 dX11_notes_46 (by decide) ?_
            exact ih20 v59 I56 _ _ _ ((f57 a0 5 (Or.inl (is_ne h52 h0_ (by decide)))).trans k42) ((f57 a0 6 (Or.inl (is_ne h52 h0_ (by decide)))).trans k43) (by omega) (by omega) (by omega) F M (lv_sub hl [1, 2, 3, 4, 0] rfl)
      have cz60 : (0 : Int32).toInt = 0 := rfl
      exact L20 _ 0 I _ _ _ kv3 kv1 (by omega) (by omega) (n_big _) F M (lv_sub hl [1, 2, 3, 4, 0] rfl)
  ·
    exact r_PV C M hr hlk F ⟨rfl, trivial⟩ dX11_notes_7

abbrev md_X11_costOf : List (Nat × Nat) := [(9, 11), (9, 12)]
set_option maxHeartbeats 4000000 in
set_option maxRecDepth 100000 in
theorem ct_X11_costOf (l : Launch) (g : Gs) (I : Ms) (J : Js) (a0 : Nat) (x1 : Int32) (h0_ : Is g a0 9) (g0 : jm (I (gr g a0 0) 717).toInt (I (gr g a0 0) 715).toInt (I (gr g a0 0) 716).toInt (I (gr g a0 0) 722).toInt (I (gr g a0 0) 718).toInt (I (gr g a0 0) 719).toInt) (g1 : 0 ≤ x1.toInt) (g2 : x1.toInt ≤ 19) : Ctr l yX11_costOf cX11_costOf 3 (Option.some Jvm.ClassFile.FieldType.int) 7 g [.ref a0, .int x1] I J (PM g md_X11_costOf I (fun z I1 J1 => J1 = J ∧ (True))) := by
  refine m_start (by decide) (Nat.le_of_ble_eq_true rfl) ?_
  intro p e s m args below meth c C hr hlk M ls hl
  have hl : lv_has ls 3 [(0, .ref a0), (1, .int x1)] := hl
  have C : CallFix p m c cX11_costOf 3 s args TB RX11 := C
  have F : Fr g md_X11_costOf I I := fr_rf
  have h1 := is_ref M h0_ 0 28 rfl rfl
  obtain ⟨i2, ki2⟩ : ∃ z : Int32, I (gr g a0 0) 717 = z := ⟨_, rfl⟩
  have ti2 : 0 ≤ i2.toInt ∧ i2.toInt ≤ 1 := m_rng M h1 717 ki2 rfl
  have ci2 : (I (gr g a0 0) 717).toInt = i2.toInt := congrArg Int32.toInt ki2
  obtain ⟨i3, ki3⟩ : ∃ z : Int32, I (gr g a0 0) 715 = z := ⟨_, rfl⟩
  have ti3 : 3 ≤ i3.toInt ∧ i3.toInt ≤ 7 := m_rng M h1 715 ki3 rfl
  have ci3 : (I (gr g a0 0) 715).toInt = i3.toInt := congrArg Int32.toInt ki3
  obtain ⟨i4, ki4⟩ : ∃ z : Int32, I (gr g a0 0) 716 = z := ⟨_, rfl⟩
  have ti4 : 4 ≤ i4.toInt ∧ i4.toInt ≤ 40 := m_rng M h1 716 ki4 rfl
  have ci4 : (I (gr g a0 0) 716).toInt = i4.toInt := congrArg Int32.toInt ki4
  obtain ⟨i5, ki5⟩ : ∃ z : Int32, I (gr g a0 0) 722 = z := ⟨_, rfl⟩
  have ti5 : 1 ≤ i5.toInt ∧ i5.toInt ≤ 4 := m_rng M h1 722 ki5 rfl
  have ci5 : (I (gr g a0 0) 722).toInt = i5.toInt := congrArg Int32.toInt ki5
  obtain ⟨i6, ki6⟩ : ∃ z : Int32, I (gr g a0 0) 718 = z := ⟨_, rfl⟩
  have ti6 : 0 ≤ i6.toInt ∧ i6.toInt ≤ 200 := m_rng M h1 718 ki6 rfl
  have ci6 : (I (gr g a0 0) 718).toInt = i6.toInt := congrArg Int32.toInt ki6
  obtain ⟨i7, ki7⟩ : ∃ z : Int32, I (gr g a0 0) 719 = z := ⟨_, rfl⟩
  have ti7 : 0 ≤ i7.toInt ∧ i7.toInt ≤ 200 := m_rng M h1 719 ki7 rfl
  have ci7 : (I (gr g a0 0) 719).toInt = i7.toInt := congrArg Int32.toInt ki7
  simp only [ci2, ci3, ci4, ci5, ci6, ci7] at g0
  have hj6 : i2.toInt = 1 → i3.toInt ≤ 6 := fun q => (g0 q).1
  refine lv_aload_n C.1 C.2.1 dX11_costOf_0 rfl (lv_at hl 0 rfl) ?_
  refine gi_X11_7 C M h0_ dX11_costOf_1 (fun h8 => ?_)
  refine lv_sipush (v := 608) C.1 C.2.1 dX11_costOf_4 (by decide) ?_
  refine lv_iconst (v := 5) C.1 C.2.1 dX11_costOf_7 (by decide) ?_
  refine lv_iload_n C.1 C.2.1 dX11_costOf_8 rfl (lv_at hl 1 rfl) ?_
  refine n_imul C (X := 5) dX11_costOf_9 rfl rfl (by omega) (by omega) (fun v9 ev9 => ?_)
  refine n_iadd C (X := 608) dX11_costOf_10 rfl rfl (by omega) (by omega) (fun v10 ev10 => ?_)
  refine lv_iconst (v := 1) C.1 C.2.1 dX11_costOf_11 (by decide) ?_
  refine n_iadd C (Y := 1) dX11_costOf_12 rfl rfl (by omega) (by omega) (fun v11 ev11 => ?_)
  refine a_ld C M h1 (n := 729) rfl rfl rfl (by omega) (by omega) rfl dX11_costOf_13 (fun v12 kv12 => ?_)
  have hblk : 0 ≤ v12.toInt ∧ v12.toInt ≤ 300 := m_rng M h1 _ kv12 (rng28_blk (by omega) (by omega) (by omega))
  refine lv_istore_n (lv' := [(2, .int v12), (0, .ref a0), (1, .int x1)]) C.1 C.2.1 dX11_costOf_14 rfl hl (by decide) rfl (fun ls hl => ?_)
  refine lv_aload_n C.1 C.2.1 dX11_costOf_15 rfl (lv_at hl 1 rfl) ?_
  refine gi_X11_7 C M h0_ dX11_costOf_16 (fun h13 => ?_)
  refine lv_sipush (v := 608) C.1 C.2.1 dX11_costOf_19 (by decide) ?_
  refine lv_iconst (v := 5) C.1 C.2.1 dX11_costOf_22 (by decide) ?_
  refine lv_iload_n C.1 C.2.1 dX11_costOf_23 rfl (lv_at hl 2 rfl) ?_
  refine n_imul C (X := 5) dX11_costOf_24 rfl rfl (by omega) (by omega) (fun v14 ev14 => ?_)
  refine n_iadd C (X := 608) dX11_costOf_25 rfl rfl (by omega) (by omega) (fun v15 ev15 => ?_)
  refine lv_iconst (v := 4) C.1 C.2.1 dX11_costOf_26 (by decide) ?_
  refine n_iadd C (Y := 4) dX11_costOf_27 rfl rfl (by omega) (by omega) (fun v16 ev16 => ?_)
  refine a_ld C M h1 (n := 729) rfl rfl rfl (by omega) (by omega) rfl dX11_costOf_28 (fun v17 kv17 => ?_)
  refine n_if_ne C (tgt := 59) dX11_costOf_29 (by decide) rfl (fun q18 => ?_) (fun q18 => ?_)
  ·
    refine lv_aload_n C.1 C.2.1 dX11_costOf_59 rfl (lv_at hl 1 rfl) ?_
    refine lv_iload_n C.1 C.2.1 dX11_costOf_60 rfl (lv_at hl 0 rfl) ?_
    have em19 : (I (gr g a0 0) 717).toInt = i2.toInt := congrArg Int32.toInt ki2
    have em20 : (I (gr g a0 0) 715).toInt = i3.toInt := congrArg Int32.toInt ki3
    have em21 : (I (gr g a0 0) 716).toInt = i4.toInt := congrArg Int32.toInt ki4
    have em22 : (I (gr g a0 0) 722).toInt = i5.toInt := congrArg Int32.toInt ki5
    have em23 : (I (gr g a0 0) 718).toInt = i6.toInt := congrArg Int32.toInt ki6
    have em24 : (I (gr g a0 0) 719).toInt = i7.toInt := congrArg Int32.toInt ki7
    refine k_PI C M h0_ (by decide) rfl (ct_X11_isInBatch l g I J a0 v12 h0_ (by simp only [em19, em20, em21, em22, em23, em24]; first | assumption | omega)) (cw_X11_129 C.2.2.2.2 (by decide)) rfl hl.1 rfl (Nat.le_of_ble_eq_true rfl) dX11_costOf_61 ⟨Nat.le_refl _, Nat.le_refl _⟩ (fun r25 H locs p26r M => ?_)
    have p26 : 0 ≤ r25.toInt ∧ r25.toInt ≤ 1 ∧ (r25.toInt = 1 → (I (gr g a0 0) 717).toInt = 1 ∧ 0 < (I (gr g a0 0) 719).toInt ∧ (I (gr g a0 0) 718).toInt * (I (gr g a0 0) 715).toInt ≤ v12.toInt ∧ v12.toInt < (I (gr g a0 0) 718).toInt * (I (gr g a0 0) 715).toInt + mRd (I (gr g a0 0) 716).toInt (I (gr g a0 0) 715).toInt (I (gr g a0 0) 722).toInt (I (gr g a0 0) 718).toInt) := p26r
    simp only [em19, em20, em21, em22, em23, em24] at p26
    have p26 : 0 ≤ r25.toInt ∧ r25.toInt ≤ 1 ∧ (r25.toInt = 1 → i2.toInt = 1 ∧ 0 < i7.toInt ∧ i6.toInt * i3.toInt ≤ v12.toInt ∧ v12.toInt < i6.toInt * i3.toInt + mRd i4.toInt i3.toInt i5.toInt i6.toInt) := p26
    refine n_if_eq C (tgt := 69) dX11_costOf_64 (by decide) rfl (fun q27 => ?_) (fun q27 => ?_)
    ·
      refine lv_aload_n C.1 C.2.1 dX11_costOf_69 rfl (lv_at hl 1 rfl) ?_
      refine lv_iload_n C.1 C.2.1 dX11_costOf_70 rfl (lv_at hl 0 rfl) ?_
      refine k_PM C M h0_ (by decide) rfl (ct_X11_canWrite l g I J a0 v12 h0_ (by omega) (by omega)) (cw_X11_157 C.2.2.2.2 (by decide)) rfl hl.1 rfl (Nat.le_of_ble_eq_true rfl) dX11_costOf_71 ⟨Nat.le_refl _, Nat.le_refl _⟩ (fun r32 I28 J29 H locs G30 p31r M => ?_)
      obtain ⟨eJ29, p31⟩ : J29 = J ∧ (0 ≤ r32.toInt ∧ r32.toInt ≤ 1) := p31r
      have eJ29 := eJ29.symm
      subst eJ29
      have F := fr_call F G30 (by decide)
      refine n_if_eq C (tgt := 81) dX11_costOf_74 (by decide) rfl (fun q33 => ?_) (fun q33 => ?_)
      ·
        refine lv_iconst (v := 1) C.1 C.2.1 dX11_costOf_81 (by decide) ?_
        exact r_PM C M (z := 1) hr hlk F rfl ⟨rfl, trivial⟩ dX11_costOf_82
      ·
        refine lv_iconst (v := 2) C.1 C.2.1 dX11_costOf_77 (by decide) ?_
        refine lv_goto (tgt := 82) C.1 C.2.1 dX11_costOf_78 (by decide) ?_
        exact r_PM C M (z := 2) hr hlk F rfl ⟨rfl, trivial⟩ dX11_costOf_82
    ·
      refine lv_iconst (v := -1) C.1 C.2.1 dX11_costOf_67 (by decide) ?_
      exact r_PM C M (z := (-1)) hr hlk F rfl ⟨rfl, trivial⟩ dX11_costOf_68
  ·
    refine lv_aload_n C.1 C.2.1 dX11_costOf_32 rfl (lv_at hl 1 rfl) ?_
    refine lv_iload_n C.1 C.2.1 dX11_costOf_33 rfl (lv_at hl 0 rfl) ?_
    have em34 : (I (gr g a0 0) 717).toInt = i2.toInt := congrArg Int32.toInt ki2
    have em35 : (I (gr g a0 0) 715).toInt = i3.toInt := congrArg Int32.toInt ki3
    have em36 : (I (gr g a0 0) 716).toInt = i4.toInt := congrArg Int32.toInt ki4
    have em37 : (I (gr g a0 0) 722).toInt = i5.toInt := congrArg Int32.toInt ki5
    have em38 : (I (gr g a0 0) 718).toInt = i6.toInt := congrArg Int32.toInt ki6
    have em39 : (I (gr g a0 0) 719).toInt = i7.toInt := congrArg Int32.toInt ki7
    refine k_PM C M h0_ (by decide) rfl (ct_X11_readsBlock l g I J a0 v12 h0_ (by simp only [em34, em35, em36, em37, em38, em39]; first | assumption | omega) (by omega) (by omega)) (cw_X11_141 C.2.2.2.2 (by decide)) rfl hl.1 rfl (Nat.le_of_ble_eq_true rfl) dX11_costOf_34 ⟨Nat.le_refl _, Nat.le_refl _⟩ (fun r44 I40 J41 H locs G42 p43r M => ?_)
    obtain ⟨eJ41, p43⟩ : J41 = J ∧ (0 ≤ r44.toInt ∧ r44.toInt ≤ 1) := p43r
    have eJ41 := eJ41.symm
    subst eJ41
    have F := fr_call F G42 (by decide)
    refine n_if_ne C (tgt := 42) dX11_costOf_37 (by decide) rfl (fun q45 => ?_) (fun q45 => ?_)
    ·
      refine lv_aload_n C.1 C.2.1 dX11_costOf_42 rfl (lv_at hl 1 rfl) ?_
      refine gi_X11_56 C M h0_ dX11_costOf_43 (fun v46 kv46 => ?_)
      refine lv_iconst (v := 1) C.1 C.2.1 dX11_costOf_46 (by decide) ?_
      refine n_icmp_ge C (tgt := 54) (Y := 1) dX11_costOf_47 (by decide) rfl rfl (fun q47 => ?_) (fun q47 => ?_)
      ·
        refine lv_aload_n C.1 C.2.1 dX11_costOf_54 rfl (lv_at hl 1 rfl) ?_
        refine gk_X11_56 C M h0_ kv46 dX11_costOf_55 ?_
        exact r_PM C M hr hlk F rfl ⟨rfl, trivial⟩ dX11_costOf_58
      ·
        refine lv_iconst (v := 1) C.1 C.2.1 dX11_costOf_50 (by decide) ?_
        refine lv_goto (tgt := 58) C.1 C.2.1 dX11_costOf_51 (by decide) ?_
        exact r_PM C M (z := 1) hr hlk F rfl ⟨rfl, trivial⟩ dX11_costOf_58
    ·
      refine lv_iconst (v := 1) C.1 C.2.1 dX11_costOf_40 (by decide) ?_
      exact r_PM C M (z := 1) hr hlk F rfl ⟨rfl, trivial⟩ dX11_costOf_41

abbrev md_X11_ask : List (Nat × Nat) := [(9, 10), (28, 0)]
set_option maxHeartbeats 4000000 in
set_option maxRecDepth 100000 in
theorem ct_X11_ask (l : Launch) (g : Gs) (I : Ms) (J : Js) (a0 : Nat) (x1 : Int32) (x2 : Int32) (x3 : Int32) (x4 : Int32) (h0_ : Is g a0 9) : Ctr l yX11_ask cX11_ask 7 (Option.some Jvm.ClassFile.FieldType.int) 3 g [.ref a0, .int x1, .int x2, .int x3, .int x4] I J (PM g md_X11_ask I (fun z I1 J1 => J1 = J ∧ ((True) ∧ (∀ j, 715 ≤ j → j ≠ 725 → j ≠ 726 → I1 (gr g a0 0) j = I (gr g a0 0) j)))) := by
  refine m_start (by decide) (Nat.le_of_ble_eq_true rfl) ?_
  intro p e s m args below meth c C hr hlk M ls hl
  have hl : lv_has ls 7 [(0, .ref a0), (1, .int x1), (2, .int x2), (3, .int x3), (4, .int x4)] := hl
  have C : CallFix p m c cX11_ask 7 s args TB RX11 := C
  have F : Fr g md_X11_ask I I := fr_rf
  have hS0 := is_ref M h0_ 0 28 rfl rfl
  have Hi : ∀ j, 715 ≤ j → j ≠ 725 → j ≠ 726 → I (gr g a0 0) j = I (gr g a0 0) j := by intros; rfl
  refine lv_aload_n C.1 C.2.1 dX11_ask_0 rfl (lv_at hl 0 rfl) ?_
  refine lv_iconst (v := 0) C.1 C.2.1 dX11_ask_1 (by decide) ?_
  refine pi_X11_39 C M h0_ dX11_ask_2 (fun H locs I1 k3 f2 M => ?_)
  have F := fr_put F h0_ (Or.inr (by decide)) f2
  have Hi : ∀ j, 715 ≤ j → j ≠ 725 → j ≠ 726 → I1 (gr g a0 0) j = I (gr g a0 0) j := fun j hj hn725 hn726 => (f2 (gr g a0 0) j (Or.inl (is_ne h0_ hS0 (by decide)))).trans (Hi j hj hn725 hn726)
  refine lv_aload_n C.1 C.2.1 dX11_ask_5 rfl (lv_at hl 0 rfl) ?_
  refine lv_iload_n C.1 C.2.1 dX11_ask_6 rfl (lv_at hl 2 rfl) ?_
  have h4 := is_ref M h0_ 0 28 rfl rfl
  obtain ⟨u5, ku5⟩ : ∃ z : Int32, I1 (gr g a0 0) 715 = z := ⟨_, rfl⟩
  have tu5 : 3 ≤ u5.toInt ∧ u5.toInt ≤ 7 := m_rng M h4 715 ku5 rfl
  have em6 : (I1 (gr g a0 0) 715).toInt = u5.toInt := congrArg Int32.toInt ku5
  obtain ⟨u7, ku7⟩ : ∃ z : Int32, I1 (gr g a0 0) 716 = z := ⟨_, rfl⟩
  have tu7 : 4 ≤ u7.toInt ∧ u7.toInt ≤ 40 := m_rng M h4 716 ku7 rfl
  have em8 : (I1 (gr g a0 0) 716).toInt = u7.toInt := congrArg Int32.toInt ku7
  refine k_PI C M h0_ (by decide) rfl (ct_X11_isBlock l g I1 J a0 x2 h0_) (cw_X11_138 C.2.2.2.2 (by decide)) rfl hl.1 rfl (Nat.le_of_ble_eq_true rfl) dX11_ask_7 ⟨Nat.le_refl _, Nat.le_refl _⟩ (fun r9 H locs p10r M => ?_)
  have p10 : 0 ≤ r9.toInt ∧ r9.toInt ≤ 1 ∧ (r9.toInt = 1 ↔ 0 ≤ x2.toInt ∧ x2.toInt < mBl (I1 (gr g a0 0) 716).toInt (I1 (gr g a0 0) 715).toInt) ∧ (r9.toInt = 1 → x2.toInt ≤ 239) := p10r
  simp only [em6, em8] at p10
  have p10 : 0 ≤ r9.toInt ∧ r9.toInt ≤ 1 ∧ (r9.toInt = 1 ↔ 0 ≤ x2.toInt ∧ x2.toInt < mBl u7.toInt u5.toInt) ∧ (r9.toInt = 1 → x2.toInt ≤ 239) := p10
  refine n_if_eq C (tgt := 37) dX11_ask_10 (by decide) rfl (fun q11 => ?_) (fun q11 => ?_)
  ·
    refine lv_iconst (v := -1) C.1 C.2.1 dX11_ask_37 (by decide) ?_
    exact r_PM C M (z := (-1)) hr hlk F rfl ⟨rfl, ⟨trivial, Hi⟩⟩ dX11_ask_38
  ·
    refine lv_iload C.1 C.2.1 dX11_ask_13 (lv_at hl 4 rfl) ?_
    refine lv_iconst (v := 0) C.1 C.2.1 dX11_ask_15 (by decide) ?_
    refine lv_bipush (v := 9) C.1 C.2.1 dX11_ask_16 (by decide) ?_
    refine ks_PI C M (ct_X11_within l g I1 J x4 0 9) (cw_X11_114 C.2.2.2.2 (by decide)) rfl hl.1 rfl (Nat.le_of_ble_eq_true rfl) dX11_ask_18 ⟨Nat.le_refl _, Nat.le_refl _⟩ (fun r12 H locs p13r M => ?_)
    have p13 : 0 ≤ r12.toInt ∧ r12.toInt ≤ 1 ∧ (r12.toInt = 1 ↔ 0 ≤ x4.toInt ∧ x4.toInt ≤ 9) := p13r
    refine n_if_eq C (tgt := 37) dX11_ask_21 (by decide) rfl (fun q14 => ?_) (fun q14 => ?_)
    ·
      refine lv_iconst (v := -1) C.1 C.2.1 dX11_ask_37 (by decide) ?_
      exact r_PM C M (z := (-1)) hr hlk F rfl ⟨rfl, ⟨trivial, Hi⟩⟩ dX11_ask_38
    ·
      refine lv_aload_n C.1 C.2.1 dX11_ask_24 rfl (lv_at hl 0 rfl) ?_
      refine gi_X11_7 C M h0_ dX11_ask_25 (fun h15 => ?_)
      refine lv_sipush (v := 725) C.1 C.2.1 dX11_ask_28 (by decide) ?_
      refine a_ld C M (X := 725) (j := 725) h4 (n := 729) rfl rfl rfl (by omega) (by omega) rfl dX11_ask_31 (fun v16 kv16 => ?_)
      have tv16 := m_rng M h4 725 kv16 rfl
      have tv16 : 0 ≤ v16.toInt ∧ v16.toInt ≤ 20 := tv16
      refine lv_bipush (v := 20) C.1 C.2.1 dX11_ask_32 (by decide) ?_
      refine n_icmp_ne C (tgt := 39) (Y := 20) dX11_ask_34 (by decide) rfl rfl (fun q17 => ?_) (fun q17 => ?_)
      ·
        refine lv_aload_n C.1 C.2.1 dX11_ask_39 rfl (lv_at hl 0 rfl) ?_
        refine gi_X11_7 C M h0_ dX11_ask_40 (fun h18 => ?_)
        refine lv_sipush (v := 725) C.1 C.2.1 dX11_ask_43 (by decide) ?_
        refine a_ldK C M (X := 725) (j := 725) h4 (n := 729) rfl rfl rfl (by omega) (by omega) rfl kv16 dX11_ask_46 ?_
        refine lv_istore (lv' := [(5, .int v16), (0, .ref a0), (1, .int x1), (2, .int x2), (3, .int x3), (4, .int x4)]) C.1 C.2.1 dX11_ask_47 hl (by decide) rfl (fun ls hl => ?_)
        have L49 : ∀ (n49 : Nat) (y19 : Int32) (I20 : Ms) (H : Heap) (locs : List Loc) (ls : Array Slot), I20 (gr g a0 0) 725 = v16 → I20 (gr g a0 0) 716 = u7 → I20 (gr g a0 0) 715 = u5 → I20 a0 9 = 0 → 0 ≤ y19.toInt → y19.toInt ≤ 19 → y19.toInt < (n49 : Int) → Fr g md_X11_ask I I20 → (∀ j, 715 ≤ j → j ≠ 725 → j ≠ 726 → I20 (gr g a0 0) j = I (gr g a0 0) j) → Mm g s I20 J H locs → lv_has ls 7 [(0, .ref a0), (1, .int x1), (2, .int x2), (3, .int x3), (4, .int x4), (5, .int y19)] → W p l e (rmL 3) s m args below meth c H locs 0 0 (MQg below g (PM g md_X11_ask I (fun z I1 J1 => J1 = J ∧ ((True) ∧ (∀ j, 715 ≤ j → j ≠ 725 → j ≠ 726 → I1 (gr g a0 0) j = I (gr g a0 0) j)))) args s) (F0 m 49 ls []) := by
          intro n49
          induction n49 with
          | zero =>
            intro y19 I20 H locs ls k21 k22 k23 k24 f25 f26 hm49 F Hi M hl
            exact absurd hm49 (by omega)
          | succ n49 ih49 =>
            intro y19 I20 H locs ls k21 k22 k23 k24 f25 f26 hm49 F Hi M hl
            refine lv_iload C.1 C.2.1 dX11_ask_49 (lv_at hl 5 rfl) ?_
            have J131 : ∀ (H : Heap) (locs : List Loc) (ls : Array Slot), Mm g s I20 J H locs → lv_has ls 7 [(0, .ref a0), (1, .int x1), (2, .int x2), (3, .int x3), (4, .int x4), (5, .int y19)] → W p l e (rmL 3) s m args below meth c H locs 0 0 (MQg below g (PM g md_X11_ask I (fun z I1 J1 => J1 = J ∧ ((True) ∧ (∀ j, 715 ≤ j → j ≠ 725 → j ≠ 726 → I1 (gr g a0 0) j = I (gr g a0 0) j)))) args s) (F0 m 131 ls []) := by
              intro H locs ls M hl
              refine lv_sipush (v := 608) C.1 C.2.1 dX11_ask_131 (by decide) ?_
              refine lv_iconst (v := 5) C.1 C.2.1 dX11_ask_134 (by decide) ?_
              refine lv_iload C.1 C.2.1 dX11_ask_135 (lv_at hl 5 rfl) ?_
              refine n_imul C (X := 5) dX11_ask_137 rfl rfl (by omega) (by omega) (fun v27 ev27 => ?_)
              refine n_iadd C (X := 608) dX11_ask_138 rfl rfl (by omega) (by omega) (fun v28 ev28 => ?_)
              refine lv_istore (lv' := [(6, .int v28), (0, .ref a0), (1, .int x1), (2, .int x2), (3, .int x3), (4, .int x4), (5, .int y19)]) C.1 C.2.1 dX11_ask_139 hl (by decide) rfl (fun ls hl => ?_)
              refine lv_aload_n C.1 C.2.1 dX11_ask_141 rfl (lv_at hl 1 rfl) ?_
              refine gi_X11_7 C M h0_ dX11_ask_142 (fun h29 => ?_)
              refine lv_iload C.1 C.2.1 dX11_ask_145 (lv_at hl 0 rfl) ?_
              refine lv_aload_n C.1 C.2.1 dX11_ask_147 rfl (lv_at hl 1 rfl) ?_
              refine gi_X11_7 C M h0_ dX11_ask_148 (fun h30 => ?_)
              refine lv_sipush (v := 726) C.1 C.2.1 dX11_ask_151 (by decide) ?_
              refine a_ld C M (X := 726) (j := 726) h4 (n := 729) rfl rfl rfl (by omega) (by omega) rfl dX11_ask_154 (fun v31 kv31 => ?_)
              refine a_stU C M h4 (n := 729) rfl rfl rfl (by omega) (by omega) rfl (rng28_ask (by omega) (by omega) (by omega)) dX11_ask_155 (fun H locs I32 k34 f33 M => ?_)
              have F := fr_put F h4 (Or.inl (by decide)) f33
              have Hi : ∀ j, 715 ≤ j → j ≠ 725 → j ≠ 726 → I32 (gr g a0 0) j = I (gr g a0 0) j := fun j hj hn725 hn726 => (f33 (gr g a0 0) j (Or.inr (by omega))).trans (Hi j hj hn725 hn726)
              refine lv_aload_n C.1 C.2.1 dX11_ask_156 rfl (lv_at hl 1 rfl) ?_
              refine gi_X11_7 C M h0_ dX11_ask_157 (fun h35 => ?_)
              refine lv_iload C.1 C.2.1 dX11_ask_160 (lv_at hl 0 rfl) ?_
              refine lv_iconst (v := 1) C.1 C.2.1 dX11_ask_162 (by decide) ?_
              refine n_iadd C (Y := 1) dX11_ask_163 rfl rfl (by omega) (by omega) (fun v36 ev36 => ?_)
              refine lv_iload_n C.1 C.2.1 dX11_ask_164 rfl (lv_at hl 3 rfl) ?_
              refine a_st C M h4 (n := 729) rfl rfl rfl (by omega) (by omega) rfl rfl (lo := 0) (hi := 300) (rng28_blk (by omega) (by omega) (by omega)) (by omega) (by omega) dX11_ask_165 (fun H locs I37 k39 f38 M => ?_)
              have F := fr_put F h4 (Or.inl (by decide)) f38
              have Hi : ∀ j, 715 ≤ j → j ≠ 725 → j ≠ 726 → I37 (gr g a0 0) j = I (gr g a0 0) j := fun j hj hn725 hn726 => (f38 (gr g a0 0) j (Or.inr (by omega))).trans (Hi j hj hn725 hn726)
              refine lv_aload_n C.1 C.2.1 dX11_ask_166 rfl (lv_at hl 1 rfl) ?_
              refine gi_X11_7 C M h0_ dX11_ask_167 (fun h40 => ?_)
              refine lv_iload C.1 C.2.1 dX11_ask_170 (lv_at hl 0 rfl) ?_
              refine lv_iconst (v := 2) C.1 C.2.1 dX11_ask_172 (by decide) ?_
              refine n_iadd C (Y := 2) dX11_ask_173 rfl rfl (by omega) (by omega) (fun v41 ev41 => ?_)
              refine lv_iload_n C.1 C.2.1 dX11_ask_174 rfl (lv_at hl 4 rfl) ?_
              refine a_stU C M h4 (n := 729) rfl rfl rfl (by omega) (by omega) rfl (rng28_ask (by omega) (by omega) (by omega)) dX11_ask_175 (fun H locs I42 k44 f43 M => ?_)
              have F := fr_put F h4 (Or.inl (by decide)) f43
              have Hi : ∀ j, 715 ≤ j → j ≠ 725 → j ≠ 726 → I42 (gr g a0 0) j = I (gr g a0 0) j := fun j hj hn725 hn726 => (f43 (gr g a0 0) j (Or.inr (by omega))).trans (Hi j hj hn725 hn726)
              refine lv_aload_n C.1 C.2.1 dX11_ask_176 rfl (lv_at hl 1 rfl) ?_
              refine gi_X11_7 C M h0_ dX11_ask_177 (fun h45 => ?_)
              refine lv_iload C.1 C.2.1 dX11_ask_180 (lv_at hl 0 rfl) ?_
              refine lv_iconst (v := 3) C.1 C.2.1 dX11_ask_182 (by decide) ?_
              refine n_iadd C (Y := 3) dX11_ask_183 rfl rfl (by omega) (by omega) (fun v46 ev46 => ?_)
              refine lv_iload C.1 C.2.1 dX11_ask_184 (lv_at hl 5 rfl) ?_
              refine a_stU C M h4 (n := 729) rfl rfl rfl (by omega) (by omega) rfl (rng28_ask (by omega) (by omega) (by omega)) dX11_ask_186 (fun H locs I47 k49 f48 M => ?_)
              have F := fr_put F h4 (Or.inl (by decide)) f48
              have Hi : ∀ j, 715 ≤ j → j ≠ 725 → j ≠ 726 → I47 (gr g a0 0) j = I (gr g a0 0) j := fun j hj hn725 hn726 => (f48 (gr g a0 0) j (Or.inr (by omega))).trans (Hi j hj hn725 hn726)
              refine lv_aload_n C.1 C.2.1 dX11_ask_187 rfl (lv_at hl 1 rfl) ?_
              refine gi_X11_7 C M h0_ dX11_ask_188 (fun h50 => ?_)
              refine lv_iload C.1 C.2.1 dX11_ask_191 (lv_at hl 0 rfl) ?_
              refine lv_iconst (v := 4) C.1 C.2.1 dX11_ask_193 (by decide) ?_
              refine n_iadd C (Y := 4) dX11_ask_194 rfl rfl (by omega) (by omega) (fun v51 ev51 => ?_)
              refine lv_iload_n C.1 C.2.1 dX11_ask_195 rfl (lv_at hl 2 rfl) ?_
              have J204 : ∀ (w52 : Int32) (H : Heap) (locs : List Loc) (ls : Array Slot), 0 ≤ w52.toInt → w52.toInt ≤ 1 → Mm g s I47 J H locs → lv_has ls 7 [(0, .ref a0)] → W p l e (rmL 3) s m args below meth c H locs 0 0 (MQg below g (PM g md_X11_ask I (fun z I1 J1 => J1 = J ∧ ((True) ∧ (∀ j, 715 ≤ j → j ≠ 725 → j ≠ 726 → I1 (gr g a0 0) j = I (gr g a0 0) j)))) args s) (F0 m 204 ls [.int w52, .int v51, .ref (gr g a0 0)]) := by
                intro w52 H locs ls f53 f54 M hl
                refine a_stU C M h4 (n := 729) rfl rfl rfl (by omega) (by omega) rfl (rng28_ask (by omega) (by omega) (by omega)) dX11_ask_204 (fun H locs I55 k57 f56 M => ?_)
                have F := fr_put F h4 (Or.inl (by decide)) f56
                have Hi : ∀ j, 715 ≤ j → j ≠ 725 → j ≠ 726 → I55 (gr g a0 0) j = I (gr g a0 0) j := fun j hj hn725 hn726 => (f56 (gr g a0 0) j (Or.inr (by omega))).trans (Hi j hj hn725 hn726)
                refine lv_aload_n C.1 C.2.1 dX11_ask_205 rfl (lv_at hl 0 rfl) ?_
                refine gi_X11_7 C M h0_ dX11_ask_206 (fun h58 => ?_)
                refine lv_sipush (v := 725) C.1 C.2.1 dX11_ask_209 (by decide) ?_
                refine lv_dup2_11 C.1 C.2.1 dX11_ask_212 rfl rfl ?_
                refine a_ldK C M (X := 725) (j := 725) h4 (n := 729) rfl rfl rfl (by omega) (by omega) rfl ((f56 (gr g a0 0) 725 (Or.inr (by omega))).trans ((f48 (gr g a0 0) 725 (Or.inr (by omega))).trans ((f43 (gr g a0 0) 725 (Or.inr (by omega))).trans ((f38 (gr g a0 0) 725 (Or.inr (by omega))).trans ((f33 (gr g a0 0) 725 (Or.inr (by omega))).trans k21))))) dX11_ask_213 ?_
                refine lv_iconst (v := 1) C.1 C.2.1 dX11_ask_214 (by decide) ?_
                refine n_iadd C (Y := 1) dX11_ask_215 rfl rfl (by omega) (by omega) (fun v59 ev59 => ?_)
                refine a_st C M (X := 725) (j := 725) h4 (n := 729) rfl rfl rfl (by omega) (by omega) rfl rfl (lo := 0) (hi := 20) rfl (by omega) (by omega) dX11_ask_216 (fun H locs I60 k62 f61 M => ?_)
                have F := fr_put F h4 (Or.inl (by decide)) f61
                have Hi : ∀ j, 715 ≤ j → j ≠ 725 → j ≠ 726 → I60 (gr g a0 0) j = I (gr g a0 0) j := fun j hj hn725 hn726 => (f61 (gr g a0 0) j (Or.inr (by omega))).trans (Hi j hj hn725 hn726)
                refine lv_aload_n C.1 C.2.1 dX11_ask_217 rfl (lv_at hl 0 rfl) ?_
                refine gi_X11_7 C M h0_ dX11_ask_218 (fun h63 => ?_)
                refine lv_sipush (v := 726) C.1 C.2.1 dX11_ask_221 (by decide) ?_
                refine lv_dup2_11 C.1 C.2.1 dX11_ask_224 rfl rfl ?_
                refine a_ldK C M (X := 726) (j := 726) h4 (n := 729) rfl rfl rfl (by omega) (by omega) rfl ((f61 (gr g a0 0) 726 (Or.inr (by decide))).trans ((f56 (gr g a0 0) 726 (Or.inr (by omega))).trans ((f48 (gr g a0 0) 726 (Or.inr (by omega))).trans ((f43 (gr g a0 0) 726 (Or.inr (by omega))).trans ((f38 (gr g a0 0) 726 (Or.inr (by omega))).trans ((f33 (gr g a0 0) 726 (Or.inr (by omega))).trans kv31)))))) dX11_ask_225 ?_
                refine lv_iconst (v := 1) C.1 C.2.1 dX11_ask_226 (by decide) ?_
                refine n_iaddU C dX11_ask_227 (fun v64 => ?_)
                refine a_stU C M (X := 726) (j := 726) h4 (n := 729) rfl rfl rfl (by omega) (by omega) rfl rfl dX11_ask_228 (fun H locs I65 k67 f66 M => ?_)
                have F := fr_put F h4 (Or.inl (by decide)) f66
                have Hi : ∀ j, 715 ≤ j → j ≠ 725 → j ≠ 726 → I65 (gr g a0 0) j = I (gr g a0 0) j := fun j hj hn725 hn726 => (f66 (gr g a0 0) j (Or.inr (by omega))).trans (Hi j hj hn725 hn726)
                refine lv_aload_n C.1 C.2.1 dX11_ask_229 rfl (lv_at hl 0 rfl) ?_
                refine gi_X11_7 C M h0_ dX11_ask_230 (fun h68 => ?_)
                refine lv_sipush (v := 726) C.1 C.2.1 dX11_ask_233 (by decide) ?_
                refine a_ldK C M (X := 726) (j := 726) h4 (n := 729) rfl rfl rfl (by omega) (by omega) rfl k67 dX11_ask_236 ?_
                refine lv_iconst (v := 1) C.1 C.2.1 dX11_ask_237 (by decide) ?_
                refine n_isubU C dX11_ask_238 (fun v69 => ?_)
                exact r_PM C M hr hlk F rfl ⟨rfl, ⟨trivial, Hi⟩⟩ dX11_ask_239
              refine n_if_eq C (tgt := 203) dX11_ask_196 (by decide) rfl (fun q70 => ?_) (fun q70 => ?_)
              ·
                refine lv_iconst (v := 0) C.1 C.2.1 dX11_ask_203 (by decide) ?_
                have cz71 : (0 : Int32).toInt = 0 := rfl
                exact J204 0 _ _ _ (by omega) (by omega) M (lv_sub hl [1] rfl)
              ·
                refine lv_iconst (v := 1) C.1 C.2.1 dX11_ask_199 (by decide) ?_
                refine lv_goto (tgt := 204) C.1 C.2.1 dX11_ask_200 (by decide) ?_
                have cz72 : (1 : Int32).toInt = 1 := rfl
                exact J204 1 _ _ _ (by omega) (by omega) M (lv_sub hl [1] rfl)
            refine n_if_le C (tgt := 131) dX11_ask_51 (by decide) rfl (fun q73 => ?_) (fun q73 => ?_)
            ·
              exact J131 _ _ _ M hl
            ·
              refine lv_aload_n C.1 C.2.1 dX11_ask_54 rfl (lv_at hl 0 rfl) ?_
              refine gi_X11_7 C M h0_ dX11_ask_55 (fun h74 => ?_)
              refine lv_sipush (v := 608) C.1 C.2.1 dX11_ask_58 (by decide) ?_
              refine lv_iconst (v := 5) C.1 C.2.1 dX11_ask_61 (by decide) ?_
              refine lv_iload C.1 C.2.1 dX11_ask_62 (lv_at hl 5 rfl) ?_
              refine lv_iconst (v := 1) C.1 C.2.1 dX11_ask_64 (by decide) ?_
              refine n_isub C (Y := 1) dX11_ask_65 rfl rfl (by omega) (by omega) (fun v75 ev75 => ?_)
              refine n_imul C (X := 5) dX11_ask_66 rfl rfl (by omega) (by omega) (fun v76 ev76 => ?_)
              refine n_iadd C (X := 608) dX11_ask_67 rfl rfl (by omega) (by omega) (fun v77 ev77 => ?_)
              refine lv_iconst (v := 3) C.1 C.2.1 dX11_ask_68 (by decide) ?_
              refine n_iadd C (Y := 3) dX11_ask_69 rfl rfl (by omega) (by omega) (fun v78 ev78 => ?_)
              refine a_ld C M h4 (n := 729) rfl rfl rfl (by omega) (by omega) rfl dX11_ask_70 (fun v79 kv79 => ?_)
              refine lv_iload C.1 C.2.1 dX11_ask_71 (lv_at hl 4 rfl) ?_
              refine n_icmp_le C (tgt := 131) dX11_ask_73 (by decide) rfl rfl (fun q80 => ?_) (fun q80 => ?_)
              ·
                exact J131 _ _ _ M hl
              ·
                refine lv_iconst (v := 0) C.1 C.2.1 dX11_ask_76 (by decide) ?_
                refine lv_istore (lv' := [(6, .int 0), (0, .ref a0), (1, .int x1), (2, .int x2), (3, .int x3), (4, .int x4), (5, .int y19)]) C.1 C.2.1 dX11_ask_77 hl (by decide) rfl (fun ls hl => ?_)
                have L79 : ∀ (n79 : Nat) (y81 : Int32) (I82 : Ms) (H : Heap) (locs : List Loc) (ls : Array Slot), I82 a0 9 = 0 → I82 (gr g a0 0) 715 = u5 → I82 (gr g a0 0) 716 = u7 → I82 (gr g a0 0) 725 = v16 → 0 ≤ y81.toInt → y81.toInt ≤ 5 → 5 - y81.toInt < (n79 : Int) → Fr g md_X11_ask I I82 → (∀ j, 715 ≤ j → j ≠ 725 → j ≠ 726 → I82 (gr g a0 0) j = I (gr g a0 0) j) → Mm g s I82 J H locs → lv_has ls 7 [(0, .ref a0), (1, .int x1), (2, .int x2), (3, .int x3), (4, .int x4), (5, .int y19), (6, .int y81)] → W p l e (rmL 3) s m args below meth c H locs 0 0 (MQg below g (PM g md_X11_ask I (fun z I1 J1 => J1 = J ∧ ((True) ∧ (∀ j, 715 ≤ j → j ≠ 725 → j ≠ 726 → I1 (gr g a0 0) j = I (gr g a0 0) j)))) args s) (F0 m 79 ls []) := by
                  intro n79
                  induction n79 with
                  | zero =>
                    intro y81 I82 H locs ls k83 k84 k85 k86 f87 f88 hm79 F Hi M hl
                    exact absurd hm79 (by omega)
                  | succ n79 ih79 =>
                    intro y81 I82 H locs ls k83 k84 k85 k86 f87 f88 hm79 F Hi M hl
                    refine lv_iload C.1 C.2.1 dX11_ask_79 (lv_at hl 6 rfl) ?_
                    refine lv_iconst (v := 5) C.1 C.2.1 dX11_ask_81 (by decide) ?_
                    refine n_icmp_ge C (tgt := 125) (Y := 5) dX11_ask_82 (by decide) rfl rfl (fun q89 => ?_) (fun q89 => ?_)
                    ·
                      refine n_iinc C (k := 5) (N := -1) (lv' := fun v => [(5, .int v), (0, .ref a0), (1, .int x1), (2, .int x2), (3, .int x3), (4, .int x4), (6, .int y81)]) dX11_ask_125 hl rfl (by decide) rfl rfl (by omega) (by omega) (fun _ => rfl) (fun v90 ls ev90 hl => ?_)
                      refine lv_goto (tgt := 49) C.1 C.2.1 dX11_ask_128 (by decide) ?_
                      exact ih49 v90 I82 _ _ _ k86 k85 k84 k83 (by omega) (by omega) (by omega) F Hi M (lv_sub hl [1, 2, 3, 4, 5, 0] rfl)
                    ·
                      refine lv_aload_n C.1 C.2.1 dX11_ask_85 rfl (lv_at hl 0 rfl) ?_
                      refine gi_X11_7 C M h0_ dX11_ask_86 (fun h91 => ?_)
                      refine lv_sipush (v := 608) C.1 C.2.1 dX11_ask_89 (by decide) ?_
                      refine lv_iconst (v := 5) C.1 C.2.1 dX11_ask_92 (by decide) ?_
                      refine lv_iload C.1 C.2.1 dX11_ask_93 (lv_at hl 5 rfl) ?_
                      refine n_imul C (X := 5) dX11_ask_95 rfl rfl (by omega) (by omega) (fun v92 ev92 => ?_)
                      refine n_iadd C (X := 608) dX11_ask_96 rfl rfl (by omega) (by omega) (fun v93 ev93 => ?_)
                      refine lv_iload C.1 C.2.1 dX11_ask_97 (lv_at hl 6 rfl) ?_
                      refine n_iadd C dX11_ask_99 rfl rfl (by omega) (by omega) (fun v94 ev94 => ?_)
                      refine lv_aload_n C.1 C.2.1 dX11_ask_100 rfl (lv_at hl 0 rfl) ?_
                      refine gi_X11_7 C M h0_ dX11_ask_101 (fun h95 => ?_)
                      refine lv_sipush (v := 608) C.1 C.2.1 dX11_ask_104 (by decide) ?_
                      refine lv_iconst (v := 5) C.1 C.2.1 dX11_ask_107 (by decide) ?_
                      refine lv_iload C.1 C.2.1 dX11_ask_108 (lv_at hl 5 rfl) ?_
                      refine lv_iconst (v := 1) C.1 C.2.1 dX11_ask_110 (by decide) ?_
                      refine n_isub C (Y := 1) dX11_ask_111 rfl rfl (by omega) (by omega) (fun v96 ev96 => ?_)
                      refine n_imul C (X := 5) dX11_ask_112 rfl rfl (by omega) (by omega) (fun v97 ev97 => ?_)
                      refine n_iadd C (X := 608) dX11_ask_113 rfl rfl (by omega) (by omega) (fun v98 ev98 => ?_)
                      refine lv_iload C.1 C.2.1 dX11_ask_114 (lv_at hl 6 rfl) ?_
                      refine n_iadd C dX11_ask_116 rfl rfl (by omega) (by omega) (fun v99 ev99 => ?_)
                      refine a_ld C M h4 (n := 729) rfl rfl rfl (by omega) (by omega) rfl dX11_ask_117 (fun v100 kv100 => ?_)
                      refine a_stC C M h4 rfl (by omega) (by omega) kv100 (by omega) (by omega) (by omega) dX11_ask_118 (fun H locs I101 k103 f102 M => ?_)
                      have F := fr_put F h4 (Or.inl (by decide)) f102
                      have Hi : ∀ j, 715 ≤ j → j ≠ 725 → j ≠ 726 → I101 (gr g a0 0) j = I (gr g a0 0) j := fun j hj hn725 hn726 => (f102 (gr g a0 0) j (Or.inr (by omega))).trans (Hi j hj hn725 hn726)
                      refine n_iinc C (k := 6) (N := 1) (lv' := fun v => [(6, .int v), (0, .ref a0), (1, .int x1), (2, .int x2), (3, .int x3), (4, .int x4), (5, .int y19)]) dX11_ask_119 hl rfl (by decide) rfl rfl (by omega) (by omega) (fun _ => rfl) (fun v104 ls ev104 hl => ?_)
                      refine lv_goto (tgt := 79) C.1 C.2.1 dX11_ask_122 (by decide) ?_
                      exact ih79 v104 I101 _ _ _ ((f102 a0 9 (Or.inl (is_ne h4 h0_ (by decide)))).trans k83) ((f102 (gr g a0 0) 715 (Or.inr (by omega))).trans k84) ((f102 (gr g a0 0) 716 (Or.inr (by omega))).trans k85) ((f102 (gr g a0 0) 725 (Or.inr (by omega))).trans k86) (by omega) (by omega) (by omega) F Hi M (lv_sub hl [1, 2, 3, 4, 5, 6, 0] rfl)
                have cz105 : (0 : Int32).toInt = 0 := rfl
                exact L79 _ 0 I20 _ _ _ k24 k23 k22 k21 (by omega) (by omega) (n_big _) F Hi M (lv_sub hl [1, 2, 3, 4, 5, 6, 0] rfl)
        exact L49 _ v16 I1 _ _ _ kv16 ku7 ku5 k3 (by omega) (by omega) (n_big _) F Hi M (lv_sub hl [1, 2, 3, 4, 5, 0] rfl)
      ·
        refine lv_iconst (v := -1) C.1 C.2.1 dX11_ask_37 (by decide) ?_
        exact r_PM C M (z := (-1)) hr hlk F rfl ⟨rfl, ⟨trivial, Hi⟩⟩ dX11_ask_38
