abbrev md_X11_image : List (Nat × Nat) := [(9, 10), (30, 0), (31, 0)]
set_option maxHeartbeats 4000000 in
set_option maxRecDepth 100000 in
theorem ct_X11_image (l : Launch) (g : Gs) (I : Ms) (J : Js) (a0 : Nat) (x1 : Int32) (h0_ : Is g a0 9) (g0 : jm (I (gr g a0 0) 717).toInt (I (gr g a0 0) 715).toInt (I (gr g a0 0) 716).toInt (I (gr g a0 0) 722).toInt (I (gr g a0 0) 718).toInt (I (gr g a0 0) 719).toInt) (g1 : IM g I a0) : Ctr l yX11_image cX11_image 3 (Option.some Jvm.ClassFile.FieldType.boolean) 2 g [.ref a0, .int x1] I J (PM g md_X11_image I (fun z I1 J1 => J1 = J ∧ (0 ≤ z ∧ z ≤ 1 ∧ (z = 1 ↔ 0 ≤ x1.toInt ∧ x1.toInt ≤ 1) ∧ IM g I1 a0))) := by
  refine m_start (by decide) (Nat.le_of_ble_eq_true rfl) ?_
  intro p e s m args below meth c C hr hlk M ls hl
  have hl : lv_has ls 3 [(0, .ref a0), (1, .int x1)] := hl
  have C : CallFix p m c cX11_image 3 s args TB RX11 := C
  have F : Fr g md_X11_image I I := fr_rf
  have h1 := is_ref M h0_ 0 28 rfl rfl
  obtain ⟨i2, ki2⟩ : ∃ z : Int32, I (gr g a0 0) 717 = z := ⟨_, rfl⟩
  have ti2 : 0 ≤ i2.toInt ∧ i2.toInt ≤ 1 := m_rng M h1 717 ki2 rfl
  have ci2 : (I (gr g a0 0) 717).toInt = i2.toInt := congrArg Int32.toInt ki2
  obtain ⟨i3, ki3⟩ : ∃ z : Int32, I (gr g a0 0) 715 = z := ⟨_, rfl⟩
  have ti3 : 3 ≤ i3.toInt ∧ i3.toInt ≤ 7 := m_rng M h1 715 ki3 rfl
  have ci3 : (I (gr g a0 0) 715).toInt = i3.toInt := congrArg Int32.toInt ki3
  obtain ⟨i4, ki4⟩ : ∃ z : Int32, I (gr g a0 0) 716 = z := ⟨_, rfl⟩
  have ti4 : 4 ≤ i4.toInt ∧ i4.toInt ≤ 40 := m_rng M h1 716 ki4 rfl
  have ci4 : (I (gr g a0 0) 716).toInt = i4.toInt := congrArg Int32.toInt ki4
  obtain ⟨i5, ki5⟩ : ∃ z : Int32, I (gr g a0 0) 722 = z := ⟨_, rfl⟩
  have ti5 : 1 ≤ i5.toInt ∧ i5.toInt ≤ 4 := m_rng M h1 722 ki5 rfl
  have ci5 : (I (gr g a0 0) 722).toInt = i5.toInt := congrArg Int32.toInt ki5
  obtain ⟨i6, ki6⟩ : ∃ z : Int32, I (gr g a0 0) 718 = z := ⟨_, rfl⟩
  have ti6 : 0 ≤ i6.toInt ∧ i6.toInt ≤ 200 := m_rng M h1 718 ki6 rfl
  have ci6 : (I (gr g a0 0) 718).toInt = i6.toInt := congrArg Int32.toInt ki6
  obtain ⟨i7, ki7⟩ : ∃ z : Int32, I (gr g a0 0) 719 = z := ⟨_, rfl⟩
  have ti7 : 0 ≤ i7.toInt ∧ i7.toInt ≤ 200 := m_rng M h1 719 ki7 rfl
  have ci7 : (I (gr g a0 0) 719).toInt = i7.toInt := congrArg Int32.toInt ki7
  have h8 := is_ref M h0_ 2 30 rfl rfl
  have h9 := is_ref M h0_ 3 31 rfl rfl
  simp only [ci2, ci3, ci4, ci5, ci6, ci7] at g0
  have hj6 : i2.toInt = 1 → i3.toInt ≤ 6 := fun q => (g0 q).1
  have hW0 := wd_of M h1
  refine lv_aload_n C.1 C.2.1 dX11_image_0 rfl (lv_at hl 0 rfl) ?_
  refine lv_iconst (v := 0) C.1 C.2.1 dX11_image_1 (by decide) ?_
  refine pi_X11_39 C M h0_ dX11_image_2 (fun H locs I10 k12 f11 M => ?_)
  have F := fr_put F h0_ (Or.inr (by decide)) f11
  refine lv_iload_n C.1 C.2.1 dX11_image_5 rfl (lv_at hl 1 rfl) ?_
  refine lv_iconst (v := 0) C.1 C.2.1 dX11_image_6 (by decide) ?_
  refine lv_iconst (v := 1) C.1 C.2.1 dX11_image_7 (by decide) ?_
  refine ks_PI C M (ct_X11_within l g I10 J x1 0 1) (cw_X11_114 C.2.2.2.2 (by decide)) rfl hl.1 rfl (Nat.le_of_ble_eq_true rfl) dX11_image_8 ⟨Nat.le_refl _, Nat.le_refl _⟩ (fun r13 H locs p14r M => ?_)
  have p14 : 0 ≤ r13.toInt ∧ r13.toInt ≤ 1 ∧ (r13.toInt = 1 ↔ 0 ≤ x1.toInt ∧ x1.toInt ≤ 1) := p14r
  refine n_if_ne C (tgt := 16) dX11_image_11 (by decide) rfl (fun q15 => ?_) (fun q15 => ?_)
  ·
    refine lv_iconst (v := 0) C.1 C.2.1 dX11_image_16 (by decide) ?_
    refine lv_istore_n (lv' := [(2, .int 0), (0, .ref a0), (1, .int x1)]) C.1 C.2.1 dX11_image_17 rfl hl (by decide) rfl (fun ls hl => ?_)
    have L18 : ∀ (n18 : Nat) (y16 : Int32) (I17 : Ms) (H : Heap) (locs : List Loc) (ls : Array Slot), I17 a0 9 = 0 → I17 (gr g a0 0) 719 = i7 → I17 (gr g a0 0) 718 = i6 → I17 (gr g a0 0) 722 = i5 → I17 (gr g a0 0) 716 = i4 → I17 (gr g a0 0) 715 = i3 → I17 (gr g a0 0) 717 = i2 → 0 ≤ y16.toInt → y16.toInt ≤ 729 → (∀ j : Nat, (j : Int) < y16.toInt → I17 (gr g a0 2) (729 * x1.toInt.toNat + j) = I (gr g a0 0) (0 + j)) → (∀ j : Nat, (j < 729 * x1.toInt.toNat ∨ 729 * x1.toInt.toNat + 729 ≤ j) → I17 (gr g a0 2) j = I (gr g a0 2) j) → (∀ j : Nat, I17 (gr g a0 3) j = I (gr g a0 3) j) → 729 - y16.toInt < (n18 : Int) → Fr g md_X11_image I I17 → Mm g s I17 J H locs → lv_has ls 3 [(0, .ref a0), (1, .int x1), (2, .int y16)] → W p l e (rmL 2) s m args below meth c H locs 0 0 (MQg below g (PM g md_X11_image I (fun z I1 J1 => J1 = J ∧ (0 ≤ z ∧ z ≤ 1 ∧ (z = 1 ↔ 0 ≤ x1.toInt ∧ x1.toInt ≤ 1) ∧ IM g I1 a0))) args s) (F0 m 18 ls []) := by
      intro n18
      induction n18 with
      | zero =>
        intro y16 I17 H locs ls k18 k19 k20 k21 k22 k23 k24 f25 f26 hc ho hi3 hm18 F M hl
        exact absurd hm18 (by omega)
      | succ n18 ih18 =>
        intro y16 I17 H locs ls k18 k19 k20 k21 k22 k23 k24 f25 f26 hc ho hi3 hm18 F M hl
        refine lv_iload_n C.1 C.2.1 dX11_image_18 rfl (lv_at hl 2 rfl) ?_
        refine lv_sipush (v := 729) C.1 C.2.1 dX11_image_19 (by decide) ?_
        refine n_icmp_ge C (tgt := 49) (Y := 729) dX11_image_22 (by decide) rfl rfl (fun q27 => ?_) (fun q27 => ?_)
        ·
          refine lv_aload_n C.1 C.2.1 dX11_image_49 rfl (lv_at hl 0 rfl) ?_
          refine gi_X11_19 C M h0_ dX11_image_50 (fun h28 => ?_)
          refine lv_iload_n C.1 C.2.1 dX11_image_53 rfl (lv_at hl 1 rfl) ?_
          refine lv_iconst (v := 1) C.1 C.2.1 dX11_image_54 (by decide) ?_
          refine a_stZ C M (V := 1) h9 (n := 2) (by decide) (by decide) rfl rfl rfl (by omega) (by omega) rfl rfl (by omega) (by omega) rfl dX11_image_55 (fun H locs I29 k31 f30 M => ?_)
          have F := fr_put F h9 (Or.inl (by decide)) f30
          refine lv_iconst (v := 1) C.1 C.2.1 dX11_image_56 (by decide) ?_
          exact r_PMz C M (z := 1) hr hlk F rfl (by omega) (by omega) ⟨rfl, ⟨by omega, by omega, by omega, im_img (n := x1.toInt.toNat) g1 (by omega) (fun j hj => (f30 (gr g a0 2) _ (Or.inl (is_ne h9 h8 (by decide)))).trans (by have e9 := hc j (by omega); rw [Nat.zero_add] at e9; exact e9)) (fun j hj => (f30 (gr g a0 2) j (Or.inl (is_ne h9 h8 (by decide)))).trans (ho j hj)) (fun i hi => (f30 (gr g a0 3) i (Or.inr hi)).trans (hi3 i)) hW0 (by simp only [ci2, ci3, ci4, ci5, ci6, ci7]; exact g0)⟩⟩ dX11_image_57
        ·
          refine lv_aload_n C.1 C.2.1 dX11_image_25 rfl (lv_at hl 0 rfl) ?_
          refine gi_X11_16 C M h0_ dX11_image_26 (fun h32 => ?_)
          refine lv_sipush (v := 729) C.1 C.2.1 dX11_image_29 (by decide) ?_
          refine lv_iload_n C.1 C.2.1 dX11_image_32 rfl (lv_at hl 1 rfl) ?_
          refine n_imul C (X := 729) dX11_image_33 rfl rfl (by omega) (by omega) (fun v33 ev33 => ?_)
          refine lv_iload_n C.1 C.2.1 dX11_image_34 rfl (lv_at hl 2 rfl) ?_
          refine n_iadd C dX11_image_35 rfl rfl (by omega) (by omega) (fun v34 ev34 => ?_)
          refine lv_aload_n C.1 C.2.1 dX11_image_36 rfl (lv_at hl 0 rfl) ?_
          refine gi_X11_7 C M h0_ dX11_image_37 (fun h35 => ?_)
          refine lv_iload_n C.1 C.2.1 dX11_image_40 rfl (lv_at hl 2 rfl) ?_
          refine a_ld C M h1 (n := 729) rfl rfl rfl (by omega) (by omega) rfl dX11_image_41 (fun v36 kv36 => ?_)
          have hv9 : v36 = I (gr g a0 0) (0 + y16.toInt.toNat) := (by rw [Nat.zero_add]; exact kv36.symm.trans (F (gr g a0 0) 28 _ h1 (by decide) (by simp)))
          refine a_stU C M h8 (n := 1458) rfl rfl rfl (by omega) (by omega) rfl rfl dX11_image_42 (fun H locs I37 k39 f38 M => ?_)
          have F := fr_put F h8 (Or.inl (by decide)) f38
          refine n_iinc C (k := 2) (N := 1) (lv' := fun v => [(2, .int v), (0, .ref a0), (1, .int x1)]) dX11_image_43 hl rfl (by decide) rfl rfl (by omega) (by omega) (fun _ => rfl) (fun v40 ls ev40 hl => ?_)
          refine lv_goto (tgt := 18) C.1 C.2.1 dX11_image_46 (by decide) ?_
          exact ih18 v40 I37 _ _ _ ((f38 a0 9 (Or.inl (is_ne h8 h0_ (by decide)))).trans k18) ((f38 (gr g a0 0) 719 (Or.inl (is_ne h8 h1 (by decide)))).trans k19) ((f38 (gr g a0 0) 718 (Or.inl (is_ne h8 h1 (by decide)))).trans k20) ((f38 (gr g a0 0) 722 (Or.inl (is_ne h8 h1 (by decide)))).trans k21) ((f38 (gr g a0 0) 716 (Or.inl (is_ne h8 h1 (by decide)))).trans k22) ((f38 (gr g a0 0) 715 (Or.inl (is_ne h8 h1 (by decide)))).trans k23) ((f38 (gr g a0 0) 717 (Or.inl (is_ne h8 h1 (by decide)))).trans k24) (by omega) (by omega) (by first | (intro j hj; exact absurd hj (by omega)) | (rw [ev40]; exact c_step (by omega) (by omega) hc k39 f38 hv9)) (by first | exact fun j _ => f38 (gr g a0 2) j (Or.inl (is_ne h0_ h8 (by decide))) | exact fun j hj => (f38 (gr g a0 2) j (Or.inr (by omega))).trans (ho j hj)) (by first | exact fun j => f38 (gr g a0 3) j (Or.inl (is_ne h0_ h9 (by decide))) | exact fun j => (f38 (gr g a0 3) j (Or.inl (is_ne h8 h9 (by decide)))).trans (hi3 j)) (by omega) F M (lv_sub hl [1, 2, 0] rfl)
    have cz41 : (0 : Int32).toInt = 0 := rfl
    exact L18 _ 0 I10 _ _ _ k12 ((f11 (gr g a0 0) 719 (Or.inl (is_ne h0_ h1 (by decide)))).trans ki7) ((f11 (gr g a0 0) 718 (Or.inl (is_ne h0_ h1 (by decide)))).trans ki6) ((f11 (gr g a0 0) 722 (Or.inl (is_ne h0_ h1 (by decide)))).trans ki5) ((f11 (gr g a0 0) 716 (Or.inl (is_ne h0_ h1 (by decide)))).trans ki4) ((f11 (gr g a0 0) 715 (Or.inl (is_ne h0_ h1 (by decide)))).trans ki3) ((f11 (gr g a0 0) 717 (Or.inl (is_ne h0_ h1 (by decide)))).trans ki2) (by omega) (by omega) (by first | (intro j hj; exact absurd hj (by omega)) | (rw [e0]; exact c_step (by omega) (by omega) hc k12 f11 hv9)) (by first | exact fun j _ => f11 (gr g a0 2) j (Or.inl (is_ne h0_ h8 (by decide))) | exact fun j hj => (f11 (gr g a0 2) j (Or.inr (by omega))).trans (ho j hj)) (by first | exact fun j => f11 (gr g a0 3) j (Or.inl (is_ne h0_ h9 (by decide))) | exact fun j => (f11 (gr g a0 3) j (Or.inl (is_ne h8 h9 (by decide)))).trans (hi3 j)) (n_big _) F M (lv_sub hl [1, 2, 0] rfl)
  ·
    refine lv_iconst (v := 0) C.1 C.2.1 dX11_image_14 (by decide) ?_
    exact r_PMz C M (z := 0) hr hlk F rfl (by omega) (by omega) ⟨rfl, ⟨by omega, by omega, by omega, im_put M.2.2.2.2.2.1 h0_ h0_ rfl f11 g1⟩⟩ dX11_image_15

abbrev md_X11_back : List (Nat × Nat) := [(9, 10), (28, 0)]
set_option maxHeartbeats 4000000 in
set_option maxRecDepth 100000 in
theorem ct_X11_back (l : Launch) (g : Gs) (I : Ms) (J : Js) (a0 : Nat) (x1 : Int32) (h0_ : Is g a0 9) (g0 : jm (I (gr g a0 0) 717).toInt (I (gr g a0 0) 715).toInt (I (gr g a0 0) 716).toInt (I (gr g a0 0) 722).toInt (I (gr g a0 0) 718).toInt (I (gr g a0 0) 719).toInt) (g1 : IM g I a0) : Ctr l yX11_back cX11_back 3 (Option.some Jvm.ClassFile.FieldType.boolean) 2 g [.ref a0, .int x1] I J (PM g md_X11_back I (fun z I1 J1 => J1 = J ∧ (0 ≤ z ∧ z ≤ 1 ∧ jm (I1 (gr g a0 0) 717).toInt (I1 (gr g a0 0) 715).toInt (I1 (gr g a0 0) 716).toInt (I1 (gr g a0 0) 722).toInt (I1 (gr g a0 0) 718).toInt (I1 (gr g a0 0) 719).toInt))) := by
  refine m_start (by decide) (Nat.le_of_ble_eq_true rfl) ?_
  intro p e s m args below meth c C hr hlk M ls hl
  have hl : lv_has ls 3 [(0, .ref a0), (1, .int x1)] := hl
  have C : CallFix p m c cX11_back 3 s args TB RX11 := C
  have F : Fr g md_X11_back I I := fr_rf
  have h1 := is_ref M h0_ 0 28 rfl rfl
  obtain ⟨i2, ki2⟩ : ∃ z : Int32, I (gr g a0 0) 717 = z := ⟨_, rfl⟩
  have ti2 : 0 ≤ i2.toInt ∧ i2.toInt ≤ 1 := m_rng M h1 717 ki2 rfl
  have ci2 : (I (gr g a0 0) 717).toInt = i2.toInt := congrArg Int32.toInt ki2
  obtain ⟨i3, ki3⟩ : ∃ z : Int32, I (gr g a0 0) 715 = z := ⟨_, rfl⟩
  have ti3 : 3 ≤ i3.toInt ∧ i3.toInt ≤ 7 := m_rng M h1 715 ki3 rfl
  have ci3 : (I (gr g a0 0) 715).toInt = i3.toInt := congrArg Int32.toInt ki3
  obtain ⟨i4, ki4⟩ : ∃ z : Int32, I (gr g a0 0) 716 = z := ⟨_, rfl⟩
  have ti4 : 4 ≤ i4.toInt ∧ i4.toInt ≤ 40 := m_rng M h1 716 ki4 rfl
  have ci4 : (I (gr g a0 0) 716).toInt = i4.toInt := congrArg Int32.toInt ki4
  obtain ⟨i5, ki5⟩ : ∃ z : Int32, I (gr g a0 0) 722 = z := ⟨_, rfl⟩
  have ti5 : 1 ≤ i5.toInt ∧ i5.toInt ≤ 4 := m_rng M h1 722 ki5 rfl
  have ci5 : (I (gr g a0 0) 722).toInt = i5.toInt := congrArg Int32.toInt ki5
  obtain ⟨i6, ki6⟩ : ∃ z : Int32, I (gr g a0 0) 718 = z := ⟨_, rfl⟩
  have ti6 : 0 ≤ i6.toInt ∧ i6.toInt ≤ 200 := m_rng M h1 718 ki6 rfl
  have ci6 : (I (gr g a0 0) 718).toInt = i6.toInt := congrArg Int32.toInt ki6
  obtain ⟨i7, ki7⟩ : ∃ z : Int32, I (gr g a0 0) 719 = z := ⟨_, rfl⟩
  have ti7 : 0 ≤ i7.toInt ∧ i7.toInt ≤ 200 := m_rng M h1 719 ki7 rfl
  have ci7 : (I (gr g a0 0) 719).toInt = i7.toInt := congrArg Int32.toInt ki7
  have h8 := is_ref M h0_ 2 30 rfl rfl
  have h9 := is_ref M h0_ 3 31 rfl rfl
  simp only [ci2, ci3, ci4, ci5, ci6, ci7] at g0
  have hj6 : i2.toInt = 1 → i3.toInt ≤ 6 := fun q => (g0 q).1
  refine lv_aload_n C.1 C.2.1 dX11_back_0 rfl (lv_at hl 0 rfl) ?_
  refine lv_iconst (v := 0) C.1 C.2.1 dX11_back_1 (by decide) ?_
  refine pi_X11_39 C M h0_ dX11_back_2 (fun H locs I10 k12 f11 M => ?_)
  have F := fr_put F h0_ (Or.inr (by decide)) f11
  refine lv_iload_n C.1 C.2.1 dX11_back_5 rfl (lv_at hl 1 rfl) ?_
  refine lv_iconst (v := 0) C.1 C.2.1 dX11_back_6 (by decide) ?_
  refine lv_iconst (v := 1) C.1 C.2.1 dX11_back_7 (by decide) ?_
  refine ks_PI C M (ct_X11_within l g I10 J x1 0 1) (cw_X11_114 C.2.2.2.2 (by decide)) rfl hl.1 rfl (Nat.le_of_ble_eq_true rfl) dX11_back_8 ⟨Nat.le_refl _, Nat.le_refl _⟩ (fun r13 H locs p14r M => ?_)
  have p14 : 0 ≤ r13.toInt ∧ r13.toInt ≤ 1 ∧ (r13.toInt = 1 ↔ 0 ≤ x1.toInt ∧ x1.toInt ≤ 1) := p14r
  refine n_if_eq C (tgt := 23) dX11_back_11 (by decide) rfl (fun q15 => ?_) (fun q15 => ?_)
  ·
    refine lv_iconst (v := 0) C.1 C.2.1 dX11_back_23 (by decide) ?_
    have rk16 : (I10 (gr g a0 0) 717).toInt = i2.toInt := congrArg Int32.toInt ((f11 (gr g a0 0) 717 (Or.inl (is_ne h0_ h1 (by decide)))).trans ki2)
    have rk17 : (I10 (gr g a0 0) 715).toInt = i3.toInt := congrArg Int32.toInt ((f11 (gr g a0 0) 715 (Or.inl (is_ne h0_ h1 (by decide)))).trans ki3)
    have rk18 : (I10 (gr g a0 0) 716).toInt = i4.toInt := congrArg Int32.toInt ((f11 (gr g a0 0) 716 (Or.inl (is_ne h0_ h1 (by decide)))).trans ki4)
    have rk19 : (I10 (gr g a0 0) 722).toInt = i5.toInt := congrArg Int32.toInt ((f11 (gr g a0 0) 722 (Or.inl (is_ne h0_ h1 (by decide)))).trans ki5)
    have rk20 : (I10 (gr g a0 0) 718).toInt = i6.toInt := congrArg Int32.toInt ((f11 (gr g a0 0) 718 (Or.inl (is_ne h0_ h1 (by decide)))).trans ki6)
    have rk21 : (I10 (gr g a0 0) 719).toInt = i7.toInt := congrArg Int32.toInt ((f11 (gr g a0 0) 719 (Or.inl (is_ne h0_ h1 (by decide)))).trans ki7)
    exact r_PMz C M (z := 0) hr hlk F rfl (by omega) (by omega) ⟨rfl, (by simp only [ci2, ci3, ci4, ci5, ci6, ci7, rk16, rk17, rk18, rk19, rk20, rk21]; exact ⟨by omega, by omega, g0⟩)⟩ dX11_back_24
  ·
    refine lv_aload_n C.1 C.2.1 dX11_back_14 rfl (lv_at hl 0 rfl) ?_
    refine gi_X11_19 C M h0_ dX11_back_15 (fun h22 => ?_)
    refine lv_iload_n C.1 C.2.1 dX11_back_18 rfl (lv_at hl 1 rfl) ?_
    refine a_ldZ C M h9 (n := 2) (by decide) (by decide) rfl rfl rfl (by omega) (by omega) rfl dX11_back_19 (fun v23 kv23 => ?_)
    have tv23 : 0 ≤ v23.toInt ∧ v23.toInt ≤ 1 := m_rng M h9 x1.toInt.toNat kv23 rfl
    refine n_if_ne C (tgt := 25) dX11_back_20 (by decide) rfl (fun q24 => ?_) (fun q24 => ?_)
    ·
      have hIM := g1 x1.toInt.toNat (by omega) (by rw [← f11 (gr g a0 3) _ (Or.inl (is_ne h0_ h9 (by decide))), kv23]; omega)
      refine lv_iconst (v := 0) C.1 C.2.1 dX11_back_25 (by decide) ?_
      refine lv_istore_n (lv' := [(2, .int 0), (0, .ref a0), (1, .int x1)]) C.1 C.2.1 dX11_back_26 rfl hl (by decide) rfl (fun ls hl => ?_)
      have L27 : ∀ (n27 : Nat) (y25 : Int32) (I26 : Ms) (H : Heap) (locs : List Loc) (ls : Array Slot), I26 (gr g a0 3) x1.toInt.toNat = v23 → I26 a0 9 = 0 → 0 ≤ y25.toInt → y25.toInt ≤ 729 → (∀ j : Nat, (j : Int) < y25.toInt → I26 (gr g a0 0) (0 + j) = I (gr g a0 2) (729 * x1.toInt.toNat + j)) → 729 - y25.toInt < (n27 : Int) → Fr g md_X11_back I I26 → Mm g s I26 J H locs → lv_has ls 3 [(0, .ref a0), (1, .int x1), (2, .int y25)] → W p l e (rmL 2) s m args below meth c H locs 0 0 (MQg below g (PM g md_X11_back I (fun z I1 J1 => J1 = J ∧ (0 ≤ z ∧ z ≤ 1 ∧ jm (I1 (gr g a0 0) 717).toInt (I1 (gr g a0 0) 715).toInt (I1 (gr g a0 0) 716).toInt (I1 (gr g a0 0) 722).toInt (I1 (gr g a0 0) 718).toInt (I1 (gr g a0 0) 719).toInt))) args s) (F0 m 27 ls []) := by
        intro n27
        induction n27 with
        | zero =>
          intro y25 I26 H locs ls k27 k28 f29 f30 hc hm27 F M hl
          exact absurd hm27 (by omega)
        | succ n27 ih27 =>
          intro y25 I26 H locs ls k27 k28 f29 f30 hc hm27 F M hl
          refine lv_iload_n C.1 C.2.1 dX11_back_27 rfl (lv_at hl 2 rfl) ?_
          refine lv_sipush (v := 729) C.1 C.2.1 dX11_back_28 (by decide) ?_
          refine n_icmp_ge C (tgt := 58) (Y := 729) dX11_back_31 (by decide) rfl rfl (fun q31 => ?_) (fun q31 => ?_)
          ·
            refine lv_iconst (v := 1) C.1 C.2.1 dX11_back_58 (by decide) ?_
            obtain ⟨u32, ku32⟩ : ∃ z : Int32, I26 (gr g a0 0) 717 = z := ⟨_, rfl⟩
            have tu32 : 0 ≤ u32.toInt ∧ u32.toInt ≤ 1 := m_rng M h1 717 ku32 rfl
            have rk33 : (I26 (gr g a0 0) 717).toInt = u32.toInt := congrArg Int32.toInt ku32
            obtain ⟨u34, ku34⟩ : ∃ z : Int32, I26 (gr g a0 0) 715 = z := ⟨_, rfl⟩
            have tu34 : 3 ≤ u34.toInt ∧ u34.toInt ≤ 7 := m_rng M h1 715 ku34 rfl
            have rk35 : (I26 (gr g a0 0) 715).toInt = u34.toInt := congrArg Int32.toInt ku34
            obtain ⟨u36, ku36⟩ : ∃ z : Int32, I26 (gr g a0 0) 716 = z := ⟨_, rfl⟩
            have tu36 : 4 ≤ u36.toInt ∧ u36.toInt ≤ 40 := m_rng M h1 716 ku36 rfl
            have rk37 : (I26 (gr g a0 0) 716).toInt = u36.toInt := congrArg Int32.toInt ku36
            obtain ⟨u38, ku38⟩ : ∃ z : Int32, I26 (gr g a0 0) 722 = z := ⟨_, rfl⟩
            have tu38 : 1 ≤ u38.toInt ∧ u38.toInt ≤ 4 := m_rng M h1 722 ku38 rfl
            have rk39 : (I26 (gr g a0 0) 722).toInt = u38.toInt := congrArg Int32.toInt ku38
            obtain ⟨u40, ku40⟩ : ∃ z : Int32, I26 (gr g a0 0) 718 = z := ⟨_, rfl⟩
            have tu40 : 0 ≤ u40.toInt ∧ u40.toInt ≤ 200 := m_rng M h1 718 ku40 rfl
            have rk41 : (I26 (gr g a0 0) 718).toInt = u40.toInt := congrArg Int32.toInt ku40
            obtain ⟨u42, ku42⟩ : ∃ z : Int32, I26 (gr g a0 0) 719 = z := ⟨_, rfl⟩
            have tu42 : 0 ≤ u42.toInt ∧ u42.toInt ≤ 200 := m_rng M h1 719 ku42 rfl
            have rk43 : (I26 (gr g a0 0) 719).toInt = u42.toInt := congrArg Int32.toInt ku42
            exact r_PMz C M (z := 1) hr hlk F rfl (by omega) (by omega) ⟨rfl, (by refine ⟨by omega, by omega, ?_⟩; have e9 : ∀ j, j < 729 → I26 (gr g a0 0) j = I (gr g a0 2) (729 * x1.toInt.toNat + j) := (fun j hj => by have e8 := hc j (by omega); rw [Nat.zero_add] at e8; exact e8); rw [e9 717 (by decide), e9 715 (by decide), e9 716 (by decide), e9 722 (by decide), e9 718 (by decide), e9 719 (by decide)]; exact hIM.2)⟩ dX11_back_59
          ·
            refine lv_aload_n C.1 C.2.1 dX11_back_34 rfl (lv_at hl 0 rfl) ?_
            refine gi_X11_7 C M h0_ dX11_back_35 (fun h44 => ?_)
            refine lv_iload_n C.1 C.2.1 dX11_back_38 rfl (lv_at hl 2 rfl) ?_
            refine lv_aload_n C.1 C.2.1 dX11_back_39 rfl (lv_at hl 0 rfl) ?_
            refine gi_X11_16 C M h0_ dX11_back_40 (fun h45 => ?_)
            refine lv_sipush (v := 729) C.1 C.2.1 dX11_back_43 (by decide) ?_
            refine lv_iload_n C.1 C.2.1 dX11_back_46 rfl (lv_at hl 1 rfl) ?_
            refine n_imul C (X := 729) dX11_back_47 rfl rfl (by omega) (by omega) (fun v46 ev46 => ?_)
            refine lv_iload_n C.1 C.2.1 dX11_back_48 rfl (lv_at hl 2 rfl) ?_
            refine n_iadd C dX11_back_49 rfl rfl (by omega) (by omega) (fun v47 ev47 => ?_)
            refine a_ld C M h8 (n := 1458) rfl rfl rfl (by omega) (by omega) rfl dX11_back_50 (fun v48 kv48 => ?_)
            have hv9 : v48 = I (gr g a0 2) (729 * x1.toInt.toNat + y25.toInt.toNat) := (by have e8 : v47.toInt.toNat = 729 * x1.toInt.toNat + y25.toInt.toNat := (by omega); rw [← e8]; exact kv48.symm.trans (F (gr g a0 2) 30 _ h8 (by decide) (by simp)))
            refine a_st C M h1 (n := 729) rfl rfl rfl (by omega) (by omega) rfl rfl (lo := (rng 28 (y25.toInt.toNat)).1) (hi := (rng 28 (y25.toInt.toNat)).2) rfl (show _ ∧ _ from by rw [hv9]; exact hIM.1 _ (by omega)).1 (show _ ∧ _ from by rw [hv9]; exact hIM.1 _ (by omega)).2 dX11_back_51 (fun H locs I49 k51 f50 M => ?_)
            have F := fr_put F h1 (Or.inl (by decide)) f50
            refine n_iinc C (k := 2) (N := 1) (lv' := fun v => [(2, .int v), (0, .ref a0), (1, .int x1)]) dX11_back_52 hl rfl (by decide) rfl rfl (by omega) (by omega) (fun _ => rfl) (fun v52 ls ev52 hl => ?_)
            refine lv_goto (tgt := 27) C.1 C.2.1 dX11_back_55 (by decide) ?_
            exact ih27 v52 I49 _ _ _ ((f50 (gr g a0 3) x1.toInt.toNat (Or.inl (is_ne h1 h9 (by decide)))).trans k27) ((f50 a0 9 (Or.inl (is_ne h1 h0_ (by decide)))).trans k28) (by omega) (by omega) (by first | (intro j hj; exact absurd hj (by omega)) | (rw [ev52]; exact c_step (by omega) (by omega) hc k51 f50 hv9)) (by omega) F M (lv_sub hl [1, 2, 0] rfl)
      have cz53 : (0 : Int32).toInt = 0 := rfl
      exact L27 _ 0 I10 _ _ _ kv23 k12 (by omega) (by omega) (by first | (intro j hj; exact absurd hj (by omega)) | (rw [e0]; exact c_step (by omega) (by omega) hc kv23 f11 hv9)) (n_big _) F M (lv_sub hl [1, 2, 0] rfl)
    ·
      refine lv_iconst (v := 0) C.1 C.2.1 dX11_back_23 (by decide) ?_
      have rk54 : (I10 (gr g a0 0) 717).toInt = i2.toInt := congrArg Int32.toInt ((f11 (gr g a0 0) 717 (Or.inl (is_ne h0_ h1 (by decide)))).trans ki2)
      have rk55 : (I10 (gr g a0 0) 715).toInt = i3.toInt := congrArg Int32.toInt ((f11 (gr g a0 0) 715 (Or.inl (is_ne h0_ h1 (by decide)))).trans ki3)
      have rk56 : (I10 (gr g a0 0) 716).toInt = i4.toInt := congrArg Int32.toInt ((f11 (gr g a0 0) 716 (Or.inl (is_ne h0_ h1 (by decide)))).trans ki4)
      have rk57 : (I10 (gr g a0 0) 722).toInt = i5.toInt := congrArg Int32.toInt ((f11 (gr g a0 0) 722 (Or.inl (is_ne h0_ h1 (by decide)))).trans ki5)
      have rk58 : (I10 (gr g a0 0) 718).toInt = i6.toInt := congrArg Int32.toInt ((f11 (gr g a0 0) 718 (Or.inl (is_ne h0_ h1 (by decide)))).trans ki6)
      have rk59 : (I10 (gr g a0 0) 719).toInt = i7.toInt := congrArg Int32.toInt ((f11 (gr g a0 0) 719 (Or.inl (is_ne h0_ h1 (by decide)))).trans ki7)
      exact r_PMz C M (z := 0) hr hlk F rfl (by omega) (by omega) ⟨rfl, (by simp only [ci2, ci3, ci4, ci5, ci6, ci7, rk54, rk55, rk56, rk57, rk58, rk59]; exact ⟨by omega, by omega, g0⟩)⟩ dX11_back_24
