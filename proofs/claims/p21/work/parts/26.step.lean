abbrev md_X11_step : List (Nat × Nat) := [(9, 11), (9, 12), (28, 0)]
set_option maxHeartbeats 4000000 in
set_option maxRecDepth 100000 in
theorem ct_X11_step (l : Launch) (g : Gs) (I : Ms) (J : Js) (a0 : Nat) (h0_ : Is g a0 9) (g0 : jm (I (gr g a0 0) 717).toInt (I (gr g a0 0) 715).toInt (I (gr g a0 0) 716).toInt (I (gr g a0 0) 722).toInt (I (gr g a0 0) 718).toInt (I (gr g a0 0) 719).toInt) (g1 : (I (gr g a0 0) 717).toInt = 1) : Ctr l yX11_step cX11_step 6 (Option.some Jvm.ClassFile.FieldType.boolean) 7 g [.ref a0] I J (PM g md_X11_step I (fun z I1 J1 => J1 = J ∧ ((0 ≤ z ∧ z ≤ 1 ∧ jm (I1 (gr g a0 0) 717).toInt (I1 (gr g a0 0) 715).toInt (I1 (gr g a0 0) 716).toInt (I1 (gr g a0 0) 722).toInt (I1 (gr g a0 0) 718).toInt (I1 (gr g a0 0) 719).toInt) ∧ (∀ j, 715 ≤ j → j ≠ 715 → j ≠ 717 → j ≠ 718 → j ≠ 719 → j ≠ 720 → j ≠ 728 → I1 (gr g a0 0) j = I (gr g a0 0) j)))) := by
  refine m_start (by decide) (Nat.le_of_ble_eq_true rfl) ?_
  intro p e s m args below meth c C hr hlk M ls hl
  have hl : lv_has ls 6 [(0, .ref a0)] := hl
  have C : CallFix p m c cX11_step 6 s args TB RX11 := C
  have F : Fr g md_X11_step I I := fr_rf
  have hS0 := is_ref M h0_ 0 28 rfl rfl
  have Hi : ∀ j, 715 ≤ j → j ≠ 715 → j ≠ 717 → j ≠ 718 → j ≠ 719 → j ≠ 720 → j ≠ 728 → I (gr g a0 0) j = I (gr g a0 0) j := by intros; rfl
  have h1 := is_ref M h0_ 0 28 rfl rfl
  obtain ⟨i2, ki2⟩ : ∃ z : Int32, I (gr g a0 0) 717 = z := ⟨_, rfl⟩
  have ti2 : 0 ≤ i2.toInt ∧ i2.toInt ≤ 1 := m_rng M h1 717 ki2 rfl
  have ci2 : (I (gr g a0 0) 717).toInt = i2.toInt := congrArg Int32.toInt ki2
  obtain ⟨i3, ki3⟩ : ∃ z : Int32, I (gr g a0 0) 715 = z := ⟨_, rfl⟩
  have ti3 : 3 ≤ i3.toInt ∧ i3.toInt ≤ 7 := m_rng M h1 715 ki3 rfl
  have ci3 : (I (gr g a0 0) 715).toInt = i3.toInt := congrArg Int32.toInt ki3
  obtain ⟨i4, ki4⟩ : ∃ z : Int32, I (gr g a0 0) 716 = z := ⟨_, rfl⟩
  have ti4 : 4 ≤ i4.toInt ∧ i4.toInt ≤ 40 := m_rng M h1 716 ki4 rfl
  have ci4 : (I (gr g a0 0) 716).toInt = i4.toInt := congrArg Int32.toInt ki4
  obtain ⟨i5, ki5⟩ : ∃ z : Int32, I (gr g a0 0) 722 = z := ⟨_, rfl⟩
  have ti5 : 1 ≤ i5.toInt ∧ i5.toInt ≤ 4 := m_rng M h1 722 ki5 rfl
  have ci5 : (I (gr g a0 0) 722).toInt = i5.toInt := congrArg Int32.toInt ki5
  obtain ⟨i6, ki6⟩ : ∃ z : Int32, I (gr g a0 0) 718 = z := ⟨_, rfl⟩
  have ti6 : 0 ≤ i6.toInt ∧ i6.toInt ≤ 200 := m_rng M h1 718 ki6 rfl
  have ci6 : (I (gr g a0 0) 718).toInt = i6.toInt := congrArg Int32.toInt ki6
  obtain ⟨i7, ki7⟩ : ∃ z : Int32, I (gr g a0 0) 719 = z := ⟨_, rfl⟩
  have ti7 : 0 ≤ i7.toInt ∧ i7.toInt ≤ 200 := m_rng M h1 719 ki7 rfl
  have ci7 : (I (gr g a0 0) 719).toInt = i7.toInt := congrArg Int32.toInt ki7
  simp only [ci2, ci3, ci4, ci5, ci6, ci7] at g0 g1
  have hj := g0 (by omega)
  have hrc := mRd_c (R := i4.toInt) (N := i3.toInt) (S := i5.toInt) (b := i6.toInt) (by omega) (by omega) (by omega) (by omega) (by omega) (by omega) (by omega)
  have hbl := mBl_b (R := i4.toInt) (N := i3.toInt) (by omega) (by omega) (by omega) (by omega)
  have hj2 := hj.2.1
  have hsp := mSp_b (R := i4.toInt) (N := i3.toInt) (S := i5.toInt) (b := i6.toInt) (by omega) (by omega) (by omega) (by omega) (by omega) (by omega) (by omega) (by omega)
  refine lv_aload_n C.1 C.2.1 dX11_step_0 rfl (lv_at hl 0 rfl) ?_
  refine gi_X11_7 C M h0_ dX11_step_1 (fun h8 => ?_)
  refine lv_sipush (v := 718) C.1 C.2.1 dX11_step_4 (by decide) ?_
  refine a_ldK C M (X := 718) (j := 718) h1 (n := 729) rfl rfl rfl (by omega) (by omega) rfl ki6 dX11_step_7 ?_
  refine lv_istore_n (lv' := [(1, .int i6), (0, .ref a0)]) C.1 C.2.1 dX11_step_8 rfl hl (by decide) rfl (fun ls hl => ?_)
  refine lv_aload_n C.1 C.2.1 dX11_step_9 rfl (lv_at hl 1 rfl) ?_
  refine gi_X11_7 C M h0_ dX11_step_10 (fun h9 => ?_)
  refine lv_sipush (v := 719) C.1 C.2.1 dX11_step_13 (by decide) ?_
  refine a_ldK C M (X := 719) (j := 719) h1 (n := 729) rfl rfl rfl (by omega) (by omega) rfl ki7 dX11_step_16 ?_
  refine lv_istore_n (lv' := [(2, .int i7), (1, .int i6), (0, .ref a0)]) C.1 C.2.1 dX11_step_17 rfl hl (by decide) rfl (fun ls hl => ?_)
  refine lv_aload_n C.1 C.2.1 dX11_step_18 rfl (lv_at hl 2 rfl) ?_
  refine lv_iload_n C.1 C.2.1 dX11_step_19 rfl (lv_at hl 1 rfl) ?_
  have em10 : (I (gr g a0 0) 715).toInt = i3.toInt := congrArg Int32.toInt ki3
  have em11 : (I (gr g a0 0) 716).toInt = i4.toInt := congrArg Int32.toInt ki4
  have em12 : (I (gr g a0 0) 722).toInt = i5.toInt := congrArg Int32.toInt ki5
  refine k_PI C M h0_ (by decide) rfl (ct_X11_readsFrom l g I J a0 i6 h0_ (by omega) (by omega) (by simp only [em10, em11, em12]; first | assumption | omega)) (cw_X11_78 C.2.2.2.2 (by decide)) rfl hl.1 rfl (Nat.le_of_ble_eq_true rfl) dX11_step_20 ⟨Nat.le_refl _, Nat.le_refl _⟩ (fun r13 H locs p14r M => ?_)
  have p14 : r13.toInt = mRd (I (gr g a0 0) 716).toInt (I (gr g a0 0) 715).toInt (I (gr g a0 0) 722).toInt i6.toInt ∧ 1 ≤ r13.toInt ∧ r13.toInt ≤ 28 ∧ ((I (gr g a0 0) 715).toInt ≤ 6 → r13.toInt ≤ 24) := p14r
  simp only [em10, em11, em12] at p14
  have p14 : r13.toInt = mRd i4.toInt i3.toInt i5.toInt i6.toInt ∧ 1 ≤ r13.toInt ∧ r13.toInt ≤ 28 ∧ (i3.toInt ≤ 6 → r13.toInt ≤ 24) := p14
  refine lv_istore_n (lv' := [(3, .int r13), (2, .int i7), (1, .int i6), (0, .ref a0)]) C.1 C.2.1 dX11_step_23 rfl hl (by decide) rfl (fun ls hl => ?_)
  refine lv_iload_n C.1 C.2.1 dX11_step_24 rfl (lv_at hl 1 rfl) ?_
  have J56 : ∀ (I15 : Ms) (H : Heap) (locs : List Loc) (ls : Array Slot), I15 (gr g a0 0) 719 = i7 → I15 (gr g a0 0) 718 = i6 → I15 (gr g a0 0) 722 = i5 → I15 (gr g a0 0) 716 = i4 → I15 (gr g a0 0) 715 = i3 → I15 (gr g a0 0) 717 = i2 → Fr g md_X11_step I I15 → (∀ j, 715 ≤ j → j ≠ 715 → j ≠ 717 → j ≠ 718 → j ≠ 719 → j ≠ 720 → j ≠ 728 → I15 (gr g a0 0) j = I (gr g a0 0) j) → Mm g s I15 J H locs → lv_has ls 6 [(0, .ref a0), (1, .int i6), (2, .int i7), (3, .int r13)] → W p l e (rmL 7) s m args below meth c H locs 0 0 (MQg below g (PM g md_X11_step I (fun z I1 J1 => J1 = J ∧ ((0 ≤ z ∧ z ≤ 1 ∧ jm (I1 (gr g a0 0) 717).toInt (I1 (gr g a0 0) 715).toInt (I1 (gr g a0 0) 716).toInt (I1 (gr g a0 0) 722).toInt (I1 (gr g a0 0) 718).toInt (I1 (gr g a0 0) 719).toInt) ∧ (∀ j, 715 ≤ j → j ≠ 715 → j ≠ 717 → j ≠ 718 → j ≠ 719 → j ≠ 720 → j ≠ 728 → I1 (gr g a0 0) j = I (gr g a0 0) j)))) args s) (F0 m 56 ls []) := by
    intro I15 H locs ls k16 k17 k18 k19 k20 k21 F Hi M hl
    refine lv_iload_n C.1 C.2.1 dX11_step_56 rfl (lv_at hl 2 rfl) ?_
    refine lv_iload_n C.1 C.2.1 dX11_step_57 rfl (lv_at hl 3 rfl) ?_
    have J230 : ∀ (I22 : Ms) (H : Heap) (locs : List Loc) (ls : Array Slot), I22 (gr g a0 0) 717 = i2 → I22 (gr g a0 0) 715 = i3 → I22 (gr g a0 0) 716 = i4 → I22 (gr g a0 0) 722 = i5 → I22 (gr g a0 0) 718 = i6 → I22 (gr g a0 0) 719 = i7 → Fr g md_X11_step I I22 → (∀ j, 715 ≤ j → j ≠ 715 → j ≠ 717 → j ≠ 718 → j ≠ 719 → j ≠ 720 → j ≠ 728 → I22 (gr g a0 0) j = I (gr g a0 0) j) → Mm g s I22 J H locs → lv_has ls 6 [(0, .ref a0), (1, .int i6)] → W p l e (rmL 7) s m args below meth c H locs 0 0 (MQg below g (PM g md_X11_step I (fun z I1 J1 => J1 = J ∧ ((0 ≤ z ∧ z ≤ 1 ∧ jm (I1 (gr g a0 0) 717).toInt (I1 (gr g a0 0) 715).toInt (I1 (gr g a0 0) 716).toInt (I1 (gr g a0 0) 722).toInt (I1 (gr g a0 0) 718).toInt (I1 (gr g a0 0) 719).toInt) ∧ (∀ j, 715 ≤ j → j ≠ 715 → j ≠ 717 → j ≠ 718 → j ≠ 719 → j ≠ 720 → j ≠ 728 → I1 (gr g a0 0) j = I (gr g a0 0) j)))) args s) (F0 m 230 ls []) := by
      intro I22 H locs ls k23 k24 k25 k26 k27 k28 F Hi M hl
      refine lv_aload_n C.1 C.2.1 dX11_step_230 rfl (lv_at hl 0 rfl) ?_
      refine gi_X11_7 C M h0_ dX11_step_231 (fun h29 => ?_)
      refine lv_sipush (v := 719) C.1 C.2.1 dX11_step_234 (by decide) ?_
      refine lv_dup2_11 C.1 C.2.1 dX11_step_237 rfl rfl ?_
      refine a_ldK C M (X := 719) (j := 719) h1 (n := 729) rfl rfl rfl (by omega) (by omega) rfl k28 dX11_step_238 ?_
      refine lv_iconst (v := 1) C.1 C.2.1 dX11_step_239 (by decide) ?_
      refine n_iadd C (Y := 1) dX11_step_240 rfl rfl (by omega) (by omega) (fun v30 ev30 => ?_)
      refine a_st C M (X := 719) (j := 719) h1 (n := 729) rfl rfl rfl (by omega) (by omega) rfl rfl (lo := 0) (hi := 200) rfl (by omega) (by omega) dX11_step_241 (fun H locs I31 k33 f32 M => ?_)
      have F := fr_put F h1 (Or.inl (by decide)) f32
      have Hi : ∀ j, 715 ≤ j → j ≠ 715 → j ≠ 717 → j ≠ 718 → j ≠ 719 → j ≠ 720 → j ≠ 728 → I31 (gr g a0 0) j = I (gr g a0 0) j := fun j hj hn715 hn717 hn718 hn719 hn720 hn728 => (f32 (gr g a0 0) j (Or.inr (by omega))).trans (Hi j hj hn715 hn717 hn718 hn719 hn720 hn728)
      refine lv_aload_n C.1 C.2.1 dX11_step_242 rfl (lv_at hl 0 rfl) ?_
      refine gi_X11_7 C M h0_ dX11_step_243 (fun h34 => ?_)
      refine lv_sipush (v := 728) C.1 C.2.1 dX11_step_246 (by decide) ?_
      refine lv_dup2_11 C.1 C.2.1 dX11_step_249 rfl rfl ?_
      refine a_ld C M (X := 728) (j := 728) h1 (n := 729) rfl rfl rfl (by omega) (by omega) rfl dX11_step_250 (fun v35 kv35 => ?_)
      refine lv_iconst (v := 1) C.1 C.2.1 dX11_step_251 (by decide) ?_
      refine n_iaddU C dX11_step_252 (fun v36 => ?_)
      refine a_stU C M (X := 728) (j := 728) h1 (n := 729) rfl rfl rfl (by omega) (by omega) rfl rfl dX11_step_253 (fun H locs I37 k39 f38 M => ?_)
      have F := fr_put F h1 (Or.inl (by decide)) f38
      have Hi : ∀ j, 715 ≤ j → j ≠ 715 → j ≠ 717 → j ≠ 718 → j ≠ 719 → j ≠ 720 → j ≠ 728 → I37 (gr g a0 0) j = I (gr g a0 0) j := fun j hj hn715 hn717 hn718 hn719 hn720 hn728 => (f38 (gr g a0 0) j (Or.inr (by omega))).trans (Hi j hj hn715 hn717 hn718 hn719 hn720 hn728)
      refine lv_aload_n C.1 C.2.1 dX11_step_254 rfl (lv_at hl 0 rfl) ?_
      refine gi_X11_7 C M h0_ dX11_step_255 (fun h40 => ?_)
      refine lv_sipush (v := 719) C.1 C.2.1 dX11_step_258 (by decide) ?_
      refine a_ldK C M (X := 719) (j := 719) h1 (n := 729) rfl rfl rfl (by omega) (by omega) rfl ((f38 (gr g a0 0) 719 (Or.inr (by decide))).trans k33) dX11_step_261 ?_
      refine lv_aload_n C.1 C.2.1 dX11_step_262 rfl (lv_at hl 0 rfl) ?_
      refine lv_iload_n C.1 C.2.1 dX11_step_263 rfl (lv_at hl 1 rfl) ?_
      have em41 : (I37 (gr g a0 0) 715).toInt = i3.toInt := congrArg Int32.toInt ((f38 (gr g a0 0) 715 (Or.inr (by decide))).trans ((f32 (gr g a0 0) 715 (Or.inr (by decide))).trans k24))
      have em42 : (I37 (gr g a0 0) 716).toInt = i4.toInt := congrArg Int32.toInt ((f38 (gr g a0 0) 716 (Or.inr (by decide))).trans ((f32 (gr g a0 0) 716 (Or.inr (by decide))).trans k25))
      have em43 : (I37 (gr g a0 0) 722).toInt = i5.toInt := congrArg Int32.toInt ((f38 (gr g a0 0) 722 (Or.inr (by decide))).trans ((f32 (gr g a0 0) 722 (Or.inr (by decide))).trans k26))
      refine k_PI C M h0_ (by decide) rfl (ct_X11_stepsFrom l g I37 J a0 i6 h0_ (by omega) (by omega) (by simp only [em41, em42, em43]; first | assumption | omega)) (cw_X11_104 C.2.2.2.2 (by decide)) rfl hl.1 rfl (Nat.le_of_ble_eq_true rfl) dX11_step_264 ⟨Nat.le_refl _, Nat.le_refl _⟩ (fun r44 H locs p45r M => ?_)
      have p45 : r44.toInt = mSp (I37 (gr g a0 0) 716).toInt (I37 (gr g a0 0) 715).toInt (I37 (gr g a0 0) 722).toInt i6.toInt ∧ 5 ≤ r44.toInt ∧ r44.toInt ≤ 120 := p45r
      simp only [em41, em42, em43] at p45
      have p45 : r44.toInt = mSp i4.toInt i3.toInt i5.toInt i6.toInt ∧ 5 ≤ r44.toInt ∧ r44.toInt ≤ 120 := p45
      refine n_icmp_ne C (tgt := 274) dX11_step_267 (by decide) rfl rfl (fun q46 => ?_) (fun q46 => ?_)
      ·
        refine lv_iconst (v := 1) C.1 C.2.1 dX11_step_274 (by decide) ?_
        have rk47 : (I37 (gr g a0 0) 717).toInt = i2.toInt := congrArg Int32.toInt ((f38 (gr g a0 0) 717 (Or.inr (by decide))).trans ((f32 (gr g a0 0) 717 (Or.inr (by decide))).trans k23))
        have rk48 : (I37 (gr g a0 0) 715).toInt = i3.toInt := congrArg Int32.toInt ((f38 (gr g a0 0) 715 (Or.inr (by decide))).trans ((f32 (gr g a0 0) 715 (Or.inr (by decide))).trans k24))
        have rk49 : (I37 (gr g a0 0) 716).toInt = i4.toInt := congrArg Int32.toInt ((f38 (gr g a0 0) 716 (Or.inr (by decide))).trans ((f32 (gr g a0 0) 716 (Or.inr (by decide))).trans k25))
        have rk50 : (I37 (gr g a0 0) 722).toInt = i5.toInt := congrArg Int32.toInt ((f38 (gr g a0 0) 722 (Or.inr (by decide))).trans ((f32 (gr g a0 0) 722 (Or.inr (by decide))).trans k26))
        have rk51 : (I37 (gr g a0 0) 718).toInt = i6.toInt := congrArg Int32.toInt ((f38 (gr g a0 0) 718 (Or.inr (by decide))).trans ((f32 (gr g a0 0) 718 (Or.inr (by decide))).trans k27))
        have rk52 : (I37 (gr g a0 0) 719).toInt = v30.toInt := congrArg Int32.toInt ((f38 (gr g a0 0) 719 (Or.inr (by decide))).trans k33)
        exact r_PMz C M (z := 1) hr hlk F rfl (by omega) (by omega) ⟨rfl, ⟨(by simp only [ci2, ci3, ci4, ci5, ci6, ci7, rk47, rk48, rk49, rk50, rk51, rk52]; refine ⟨by omega, by omega, ?_⟩; first | exact g0 | assumption | exact fun _ => ⟨hj.1, hj.2.1, by omega⟩), Hi⟩⟩ dX11_step_275
      ·
        refine lv_aload_n C.1 C.2.1 dX11_step_270 rfl (lv_at hl 0 rfl) ?_
        have em53 : (I37 (gr g a0 0) 717).toInt = i2.toInt := congrArg Int32.toInt ((f38 (gr g a0 0) 717 (Or.inr (by decide))).trans ((f32 (gr g a0 0) 717 (Or.inr (by decide))).trans k23))
        have em54 : (I37 (gr g a0 0) 715).toInt = i3.toInt := congrArg Int32.toInt ((f38 (gr g a0 0) 715 (Or.inr (by decide))).trans ((f32 (gr g a0 0) 715 (Or.inr (by decide))).trans k24))
        have em55 : (I37 (gr g a0 0) 716).toInt = i4.toInt := congrArg Int32.toInt ((f38 (gr g a0 0) 716 (Or.inr (by decide))).trans ((f32 (gr g a0 0) 716 (Or.inr (by decide))).trans k25))
        have em56 : (I37 (gr g a0 0) 722).toInt = i5.toInt := congrArg Int32.toInt ((f38 (gr g a0 0) 722 (Or.inr (by decide))).trans ((f32 (gr g a0 0) 722 (Or.inr (by decide))).trans k26))
        have em57 : (I37 (gr g a0 0) 718).toInt = i6.toInt := congrArg Int32.toInt ((f38 (gr g a0 0) 718 (Or.inr (by decide))).trans ((f32 (gr g a0 0) 718 (Or.inr (by decide))).trans k27))
        have em58 : (I37 (gr g a0 0) 719).toInt = v30.toInt := congrArg Int32.toInt ((f38 (gr g a0 0) 719 (Or.inr (by decide))).trans k33)
        refine k_PV C M h0_ (by decide) rfl (ct_X11_checkpoints l g I37 J a0 h0_ (by simp only [em53, em54, em55, em56, em57, em58]; first | assumption | omega) (by simp only [em53, em54, em55, em56, em57, em58]; first | assumption | omega) (by simp only [em53, em54, em55, em56, em57, em58]; first | assumption | omega)) (cw_X11_107 C.2.2.2.2 (by decide)) rfl hl.1 rfl (Nat.le_of_ble_eq_true rfl) dX11_step_271 ⟨Nat.le_refl _, Nat.le_refl _⟩ (fun I59 J60 H locs G61 p62r M => ?_)
        obtain ⟨eJ60, ⟨p62, fx63⟩⟩ : J60 = J ∧ ((jm (I59 (gr g a0 0) 717).toInt (I59 (gr g a0 0) 715).toInt (I59 (gr g a0 0) 716).toInt (I59 (gr g a0 0) 722).toInt (I59 (gr g a0 0) 718).toInt (I59 (gr g a0 0) 719).toInt) ∧ (∀ j, 715 ≤ j → j ≠ 715 → j ≠ 717 → j ≠ 718 → j ≠ 719 → j ≠ 720 → I59 (gr g a0 0) j = I37 (gr g a0 0) j)) := p62r
        have eJ60 := eJ60.symm
        subst eJ60
        have Hi : ∀ j, 715 ≤ j → j ≠ 715 → j ≠ 717 → j ≠ 718 → j ≠ 719 → j ≠ 720 → j ≠ 728 → I59 (gr g a0 0) j = I (gr g a0 0) j := fun j hj hn715 hn717 hn718 hn719 hn720 hn728 => (fx63 j hj hn715 hn717 hn718 hn719 hn720).trans (Hi j hj hn715 hn717 hn718 hn719 hn720 hn728)
        obtain ⟨u64, ku64⟩ : ∃ z : Int32, I59 (gr g a0 0) 717 = z := ⟨_, rfl⟩
        have tu64 : 0 ≤ u64.toInt ∧ u64.toInt ≤ 1 := m_rng M h1 717 ku64 rfl
        have em65 : (I59 (gr g a0 0) 717).toInt = u64.toInt := congrArg Int32.toInt ku64
        obtain ⟨u66, ku66⟩ : ∃ z : Int32, I59 (gr g a0 0) 715 = z := ⟨_, rfl⟩
        have tu66 : 3 ≤ u66.toInt ∧ u66.toInt ≤ 7 := m_rng M h1 715 ku66 rfl
        have em67 : (I59 (gr g a0 0) 715).toInt = u66.toInt := congrArg Int32.toInt ku66
        have em68 : (I59 (gr g a0 0) 716).toInt = i4.toInt := congrArg Int32.toInt ((fx63 716 (by decide) (by decide) (by decide) (by decide) (by decide) (by decide)).trans ((f38 (gr g a0 0) 716 (Or.inr (by decide))).trans ((f32 (gr g a0 0) 716 (Or.inr (by decide))).trans k25)))
        have em69 : (I59 (gr g a0 0) 722).toInt = i5.toInt := congrArg Int32.toInt ((fx63 722 (by decide) (by decide) (by decide) (by decide) (by decide) (by decide)).trans ((f38 (gr g a0 0) 722 (Or.inr (by decide))).trans ((f32 (gr g a0 0) 722 (Or.inr (by decide))).trans k26)))
        obtain ⟨u70, ku70⟩ : ∃ z : Int32, I59 (gr g a0 0) 718 = z := ⟨_, rfl⟩
        have tu70 : 0 ≤ u70.toInt ∧ u70.toInt ≤ 200 := m_rng M h1 718 ku70 rfl
        have em71 : (I59 (gr g a0 0) 718).toInt = u70.toInt := congrArg Int32.toInt ku70
        obtain ⟨u72, ku72⟩ : ∃ z : Int32, I59 (gr g a0 0) 719 = z := ⟨_, rfl⟩
        have tu72 : 0 ≤ u72.toInt ∧ u72.toInt ≤ 200 := m_rng M h1 719 ku72 rfl
        have em73 : (I59 (gr g a0 0) 719).toInt = u72.toInt := congrArg Int32.toInt ku72
        simp only [em53, em54, em55, em56, em57, em58, em65, em67, em68, em69, em71, em73] at p62
        have F := fr_call F G61 (by decide)
        refine lv_iconst (v := 1) C.1 C.2.1 dX11_step_274 (by decide) ?_
        have rk74 : (I59 (gr g a0 0) 717).toInt = u64.toInt := congrArg Int32.toInt ku64
        have rk75 : (I59 (gr g a0 0) 715).toInt = u66.toInt := congrArg Int32.toInt ku66
        have rk76 : (I59 (gr g a0 0) 716).toInt = i4.toInt := congrArg Int32.toInt ((fx63 716 (by decide) (by decide) (by decide) (by decide) (by decide) (by decide)).trans ((f38 (gr g a0 0) 716 (Or.inr (by decide))).trans ((f32 (gr g a0 0) 716 (Or.inr (by decide))).trans k25)))
        have rk77 : (I59 (gr g a0 0) 722).toInt = i5.toInt := congrArg Int32.toInt ((fx63 722 (by decide) (by decide) (by decide) (by decide) (by decide) (by decide)).trans ((f38 (gr g a0 0) 722 (Or.inr (by decide))).trans ((f32 (gr g a0 0) 722 (Or.inr (by decide))).trans k26)))
        have rk78 : (I59 (gr g a0 0) 718).toInt = u70.toInt := congrArg Int32.toInt ku70
        have rk79 : (I59 (gr g a0 0) 719).toInt = u72.toInt := congrArg Int32.toInt ku72
        exact r_PMz C M (z := 1) hr hlk F rfl (by omega) (by omega) ⟨rfl, ⟨(by simp only [ci2, ci3, ci4, ci5, ci6, ci7, rk74, rk75, rk76, rk77, rk78, rk79]; refine ⟨by omega, by omega, ?_⟩; first | exact g0 | assumption | exact fun _ => ⟨hj.1, hj.2.1, by omega⟩), Hi⟩⟩ dX11_step_275
    refine n_icmp_ge C (tgt := 135) dX11_step_58 (by decide) rfl rfl (fun q80 => ?_) (fun q80 => ?_)
    ·
      refine lv_iload_n C.1 C.2.1 dX11_step_135 rfl (lv_at hl 2 rfl) ?_
      refine lv_iload_n C.1 C.2.1 dX11_step_136 rfl (lv_at hl 3 rfl) ?_
      refine n_isub C dX11_step_137 rfl rfl (by omega) (by omega) (fun v81 ev81 => ?_)
      refine lv_istore_n (lv' := [(2, .int v81), (0, .ref a0), (1, .int i6), (3, .int r13)]) C.1 C.2.1 dX11_step_138 rfl hl (by decide) rfl (fun ls hl => ?_)
      refine lv_aload_n C.1 C.2.1 dX11_step_139 rfl (lv_at hl 1 rfl) ?_
      refine lv_iload_n C.1 C.2.1 dX11_step_140 rfl (lv_at hl 2 rfl) ?_
      have em82 : (I15 (gr g a0 0) 715).toInt = i3.toInt := congrArg Int32.toInt k20
      have em83 : (I15 (gr g a0 0) 716).toInt = i4.toInt := congrArg Int32.toInt k19
      have em84 : (I15 (gr g a0 0) 722).toInt = i5.toInt := congrArg Int32.toInt k18
      refine k_PI C M h0_ (by decide) rfl (ct_X11_backupsFrom l g I15 J a0 i6 h0_ (by omega) (by omega) (by simp only [em82, em83, em84]; first | assumption | omega)) (cw_X11_81 C.2.2.2.2 (by decide)) rfl hl.1 rfl (Nat.le_of_ble_eq_true rfl) dX11_step_141 ⟨Nat.le_refl _, Nat.le_refl _⟩ (fun r85 H locs p86r M => ?_)
      have p86 : r85.toInt = mBk (I15 (gr g a0 0) 716).toInt (I15 (gr g a0 0) 715).toInt (I15 (gr g a0 0) 722).toInt i6.toInt ∧ 0 ≤ r85.toInt ∧ r85.toInt ≤ 28 ∧ ((I15 (gr g a0 0) 715).toInt ≤ 6 → r85.toInt ≤ 24) := p86r
      simp only [em82, em83, em84] at p86
      have p86 : r85.toInt = mBk i4.toInt i3.toInt i5.toInt i6.toInt ∧ 0 ≤ r85.toInt ∧ r85.toInt ≤ 28 ∧ (i3.toInt ≤ 6 → r85.toInt ≤ 24) := p86
      refine lv_istore (lv' := [(4, .int r85), (2, .int v81), (0, .ref a0), (1, .int i6), (3, .int r13)]) C.1 C.2.1 dX11_step_144 hl (by decide) rfl (fun ls hl => ?_)
      refine lv_aload_n C.1 C.2.1 dX11_step_146 rfl (lv_at hl 2 rfl) ?_
      refine lv_iload_n C.1 C.2.1 dX11_step_147 rfl (lv_at hl 3 rfl) ?_
      have em87 : (I15 (gr g a0 0) 715).toInt = i3.toInt := congrArg Int32.toInt k20
      have em88 : (I15 (gr g a0 0) 716).toInt = i4.toInt := congrArg Int32.toInt k19
      have em89 : (I15 (gr g a0 0) 722).toInt = i5.toInt := congrArg Int32.toInt k18
      refine k_PI C M h0_ (by decide) rfl (ct_X11_isCritical l g I15 J a0 i6 h0_ (by omega) (by omega) (by simp only [em87, em88, em89]; first | assumption | omega)) (cw_X11_74 C.2.2.2.2 (by decide)) rfl hl.1 rfl (Nat.le_of_ble_eq_true rfl) dX11_step_148 ⟨Nat.le_refl _, Nat.le_refl _⟩ (fun r90 H locs p91r M => ?_)
      have p91 : 0 ≤ r90.toInt ∧ r90.toInt ≤ 1 ∧ (r90.toInt = 1 ↔ mCr (I15 (gr g a0 0) 716).toInt (I15 (gr g a0 0) 715).toInt (I15 (gr g a0 0) 722).toInt i6.toInt = true) := p91r
      simp only [em87, em88, em89] at p91
      have p91 : 0 ≤ r90.toInt ∧ r90.toInt ≤ 1 ∧ (r90.toInt = 1 ↔ mCr i4.toInt i3.toInt i5.toInt i6.toInt = true) := p91
      refine lv_istore (lv' := [(5, .int r90), (4, .int r85), (2, .int v81), (0, .ref a0), (1, .int i6), (3, .int r13)]) C.1 C.2.1 dX11_step_151 hl (by decide) rfl (fun ls hl => ?_)
      refine lv_iload C.1 C.2.1 dX11_step_153 (lv_at hl 0 rfl) ?_
      refine n_if_eq C (tgt := 187) dX11_step_155 (by decide) rfl (fun q92 => ?_) (fun q92 => ?_)
      ·
        refine lv_iload C.1 C.2.1 dX11_step_187 (lv_at hl 0 rfl) ?_
        refine n_if_eq C (tgt := 210) dX11_step_189 (by decide) rfl (fun q93 => ?_) (fun q93 => ?_)
        ·
          refine lv_aload_n C.1 C.2.1 dX11_step_210 rfl (lv_at hl 3 rfl) ?_
          refine lv_iload_n C.1 C.2.1 dX11_step_211 rfl (lv_at hl 4 rfl) ?_
          refine lv_iload C.1 C.2.1 dX11_step_212 (lv_at hl 0 rfl) ?_
          refine n_if_eq C (tgt := 226) dX11_step_214 (by decide) rfl (fun q94 => ?_) (fun q94 => ?_)
          ·
            refine lv_iload_n C.1 C.2.1 dX11_step_226 rfl (lv_at hl 2 rfl) ?_
            have em95 : (I15 (gr g a0 0) 717).toInt = i2.toInt := congrArg Int32.toInt k21
            have em96 : (I15 (gr g a0 0) 715).toInt = i3.toInt := congrArg Int32.toInt k20
            have em97 : (I15 (gr g a0 0) 716).toInt = i4.toInt := congrArg Int32.toInt k19
            have em98 : (I15 (gr g a0 0) 722).toInt = i5.toInt := congrArg Int32.toInt k18
            have em99 : (I15 (gr g a0 0) 718).toInt = i6.toInt := congrArg Int32.toInt k17
            have em100 : (I15 (gr g a0 0) 719).toInt = i7.toInt := congrArg Int32.toInt k16
            refine k_PV C M h0_ (by decide) rfl (ct_X11_writes l g I15 J a0 i6 v81 h0_ (by omega) (by simp only [em95, em96, em97, em98, em99, em100]; first | assumption | omega) (by omega) (by simp only [em95, em96, em97, em98, em99, em100]; first | assumption | omega) (by omega) (by omega)) (cw_X11_101 C.2.2.2.2 (by decide)) rfl hl.1 rfl (Nat.le_of_ble_eq_true rfl) dX11_step_227 ⟨Nat.le_refl _, Nat.le_refl _⟩ (fun I101 J102 H locs G103 p104r M => ?_)
            obtain ⟨eJ102, ⟨p104, fx105⟩⟩ : J102 = J ∧ ((True) ∧ (∀ j, 715 ≤ j → I101 (gr g a0 0) j = I15 (gr g a0 0) j)) := p104r
            have eJ102 := eJ102.symm
            subst eJ102
            have Hi : ∀ j, 715 ≤ j → j ≠ 715 → j ≠ 717 → j ≠ 718 → j ≠ 719 → j ≠ 720 → j ≠ 728 → I101 (gr g a0 0) j = I (gr g a0 0) j := fun j hj hn715 hn717 hn718 hn719 hn720 hn728 => (fx105 j hj).trans (Hi j hj hn715 hn717 hn718 hn719 hn720 hn728)
            have F := fr_call F G103 (by decide)
            exact J230 I101 _ _ _ ((fx105 717 (by decide)).trans k21) ((fx105 715 (by decide)).trans k20) ((fx105 716 (by decide)).trans k19) ((fx105 722 (by decide)).trans k18) ((fx105 718 (by decide)).trans k17) ((fx105 719 (by decide)).trans k16) F Hi M (lv_sub hl [3, 4] rfl)
          ·
            exact absurd q94 (by omega)
        ·
          exact absurd q93 (by omega)
      ·
        refine lv_iload_n C.1 C.2.1 dX11_step_158 rfl (lv_at hl 2 rfl) ?_
        refine lv_iload C.1 C.2.1 dX11_step_159 (lv_at hl 1 rfl) ?_
        refine n_icmp_ge C (tgt := 187) dX11_step_161 (by decide) rfl rfl (fun q106 => ?_) (fun q106 => ?_)
        ·
          refine lv_iload C.1 C.2.1 dX11_step_187 (lv_at hl 0 rfl) ?_
          refine n_if_eq C (tgt := 210) dX11_step_189 (by decide) rfl (fun q107 => ?_) (fun q107 => ?_)
          ·
            exact absurd q107 (by omega)
          ·
            refine lv_iload_n C.1 C.2.1 dX11_step_192 rfl (lv_at hl 2 rfl) ?_
            refine lv_iload C.1 C.2.1 dX11_step_193 (lv_at hl 1 rfl) ?_
            refine n_icmp_ne C (tgt := 210) dX11_step_195 (by decide) rfl rfl (fun q108 => ?_) (fun q108 => ?_)
            ·
              refine lv_aload_n C.1 C.2.1 dX11_step_210 rfl (lv_at hl 3 rfl) ?_
              refine lv_iload_n C.1 C.2.1 dX11_step_211 rfl (lv_at hl 4 rfl) ?_
              refine lv_iload C.1 C.2.1 dX11_step_212 (lv_at hl 0 rfl) ?_
              refine n_if_eq C (tgt := 226) dX11_step_214 (by decide) rfl (fun q109 => ?_) (fun q109 => ?_)
              ·
                exact absurd q109 (by omega)
              ·
                refine lv_iload_n C.1 C.2.1 dX11_step_217 rfl (lv_at hl 2 rfl) ?_
                refine lv_iload C.1 C.2.1 dX11_step_218 (lv_at hl 1 rfl) ?_
                refine n_isub C dX11_step_220 rfl rfl (by omega) (by omega) (fun v110 ev110 => ?_)
                refine lv_iconst (v := 1) C.1 C.2.1 dX11_step_221 (by decide) ?_
                refine n_isub C (Y := 1) dX11_step_222 rfl rfl (by omega) (by omega) (fun v111 ev111 => ?_)
                refine lv_goto (tgt := 227) C.1 C.2.1 dX11_step_223 (by decide) ?_
                have em112 : (I15 (gr g a0 0) 717).toInt = i2.toInt := congrArg Int32.toInt k21
                have em113 : (I15 (gr g a0 0) 715).toInt = i3.toInt := congrArg Int32.toInt k20
                have em114 : (I15 (gr g a0 0) 716).toInt = i4.toInt := congrArg Int32.toInt k19
                have em115 : (I15 (gr g a0 0) 722).toInt = i5.toInt := congrArg Int32.toInt k18
                have em116 : (I15 (gr g a0 0) 718).toInt = i6.toInt := congrArg Int32.toInt k17
                have em117 : (I15 (gr g a0 0) 719).toInt = i7.toInt := congrArg Int32.toInt k16
                refine k_PV C M h0_ (by decide) rfl (ct_X11_writes l g I15 J a0 i6 v111 h0_ (by omega) (by simp only [em112, em113, em114, em115, em116, em117]; first | assumption | omega) (by omega) (by simp only [em112, em113, em114, em115, em116, em117]; first | assumption | omega) (by omega) (by omega)) (cw_X11_101 C.2.2.2.2 (by decide)) rfl hl.1 rfl (Nat.le_of_ble_eq_true rfl) dX11_step_227 ⟨Nat.le_refl _, Nat.le_refl _⟩ (fun I118 J119 H locs G120 p121r M => ?_)
                obtain ⟨eJ119, ⟨p121, fx122⟩⟩ : J119 = J ∧ ((True) ∧ (∀ j, 715 ≤ j → I118 (gr g a0 0) j = I15 (gr g a0 0) j)) := p121r
                have eJ119 := eJ119.symm
                subst eJ119
                have Hi : ∀ j, 715 ≤ j → j ≠ 715 → j ≠ 717 → j ≠ 718 → j ≠ 719 → j ≠ 720 → j ≠ 728 → I118 (gr g a0 0) j = I (gr g a0 0) j := fun j hj hn715 hn717 hn718 hn719 hn720 hn728 => (fx122 j hj).trans (Hi j hj hn715 hn717 hn718 hn719 hn720 hn728)
                have F := fr_call F G120 (by decide)
                exact J230 I118 _ _ _ ((fx122 717 (by decide)).trans k21) ((fx122 715 (by decide)).trans k20) ((fx122 716 (by decide)).trans k19) ((fx122 722 (by decide)).trans k18) ((fx122 718 (by decide)).trans k17) ((fx122 719 (by decide)).trans k16) F Hi M (lv_sub hl [3, 4] rfl)
            ·
              refine lv_aload_n C.1 C.2.1 dX11_step_198 rfl (lv_at hl 3 rfl) ?_
              refine gi_X11_7 C M h0_ dX11_step_199 (fun h123 => ?_)
              refine lv_sipush (v := 720) C.1 C.2.1 dX11_step_202 (by decide) ?_
              refine lv_iconst (v := 1) C.1 C.2.1 dX11_step_205 (by decide) ?_
              refine a_st C M (X := 720) (j := 720) (V := 1) h1 (n := 729) rfl rfl rfl (by omega) (by omega) rfl rfl (lo := 0) (hi := 1) rfl (by omega) (by omega) dX11_step_206 (fun H locs I124 k126 f125 M => ?_)
              have F := fr_put F h1 (Or.inl (by decide)) f125
              have Hi : ∀ j, 715 ≤ j → j ≠ 715 → j ≠ 717 → j ≠ 718 → j ≠ 719 → j ≠ 720 → j ≠ 728 → I124 (gr g a0 0) j = I (gr g a0 0) j := fun j hj hn715 hn717 hn718 hn719 hn720 hn728 => (f125 (gr g a0 0) j (Or.inr (by omega))).trans (Hi j hj hn715 hn717 hn718 hn719 hn720 hn728)
              refine lv_goto (tgt := 230) C.1 C.2.1 dX11_step_207 (by decide) ?_
              exact J230 I124 _ _ _ ((f125 (gr g a0 0) 717 (Or.inr (by decide))).trans k21) ((f125 (gr g a0 0) 715 (Or.inr (by decide))).trans k20) ((f125 (gr g a0 0) 716 (Or.inr (by decide))).trans k19) ((f125 (gr g a0 0) 722 (Or.inr (by decide))).trans k18) ((f125 (gr g a0 0) 718 (Or.inr (by decide))).trans k17) ((f125 (gr g a0 0) 719 (Or.inr (by decide))).trans k16) F Hi M (lv_sub hl [3, 4] rfl)
        ·
          refine lv_aload_n C.1 C.2.1 dX11_step_164 rfl (lv_at hl 3 rfl) ?_
          refine gi_X11_7 C M h0_ dX11_step_165 (fun h127 => ?_)
          refine lv_sipush (v := 584) C.1 C.2.1 dX11_step_168 (by decide) ?_
          refine lv_iload_n C.1 C.2.1 dX11_step_171 rfl (lv_at hl 2 rfl) ?_
          refine n_iadd C (X := 584) dX11_step_172 rfl rfl (by omega) (by omega) (fun v128 ev128 => ?_)
          refine lv_aload_n C.1 C.2.1 dX11_step_173 rfl (lv_at hl 3 rfl) ?_
          refine gi_X11_7 C M h0_ dX11_step_174 (fun h129 => ?_)
          refine lv_sipush (v := 560) C.1 C.2.1 dX11_step_177 (by decide) ?_
          refine lv_iload_n C.1 C.2.1 dX11_step_180 rfl (lv_at hl 2 rfl) ?_
          refine n_iadd C (X := 560) dX11_step_181 rfl rfl (by omega) (by omega) (fun v130 ev130 => ?_)
          refine a_ld C M h1 (n := 729) rfl rfl rfl (by omega) (by omega) rfl dX11_step_182 (fun v131 kv131 => ?_)
          refine a_stU C M h1 (n := 729) rfl rfl rfl (by omega) (by omega) rfl (rng28_lo (by omega)) dX11_step_183 (fun H locs I132 k134 f133 M => ?_)
          have F := fr_put F h1 (Or.inl (by decide)) f133
          have Hi : ∀ j, 715 ≤ j → j ≠ 715 → j ≠ 717 → j ≠ 718 → j ≠ 719 → j ≠ 720 → j ≠ 728 → I132 (gr g a0 0) j = I (gr g a0 0) j := fun j hj hn715 hn717 hn718 hn719 hn720 hn728 => (f133 (gr g a0 0) j (Or.inr (by omega))).trans (Hi j hj hn715 hn717 hn718 hn719 hn720 hn728)
          refine lv_goto (tgt := 230) C.1 C.2.1 dX11_step_184 (by decide) ?_
          exact J230 I132 _ _ _ ((f133 (gr g a0 0) 717 (Or.inr (by omega))).trans k21) ((f133 (gr g a0 0) 715 (Or.inr (by omega))).trans k20) ((f133 (gr g a0 0) 716 (Or.inr (by omega))).trans k19) ((f133 (gr g a0 0) 722 (Or.inr (by omega))).trans k18) ((f133 (gr g a0 0) 718 (Or.inr (by omega))).trans k17) ((f133 (gr g a0 0) 719 (Or.inr (by omega))).trans k16) F Hi M (lv_sub hl [3, 4] rfl)
    ·
      refine lv_iload_n C.1 C.2.1 dX11_step_61 rfl (lv_at hl 1 rfl) ?_
      refine lv_aload_n C.1 C.2.1 dX11_step_62 rfl (lv_at hl 0 rfl) ?_
      refine gi_X11_7 C M h0_ dX11_step_63 (fun h135 => ?_)
      refine lv_sipush (v := 715) C.1 C.2.1 dX11_step_66 (by decide) ?_
      refine a_ldK C M (X := 715) (j := 715) h1 (n := 729) rfl rfl rfl (by omega) (by omega) rfl k20 dX11_step_69 ?_
      have bp137 := i_prod (x := i6.toInt) (y := i3.toInt) (A := 200) (B := 7) (by omega) (by omega) (by omega) (by omega)
      refine n_imul C dX11_step_70 rfl rfl (by omega) (by omega) (fun v136 ev136 => ?_)
      refine lv_iload_n C.1 C.2.1 dX11_step_71 rfl (lv_at hl 2 rfl) ?_
      refine n_iadd C dX11_step_72 rfl rfl (by omega) (by omega) (fun v138 ev138 => ?_)
      refine lv_istore (lv' := [(4, .int v138), (0, .ref a0), (1, .int i6), (2, .int i7), (3, .int r13)]) C.1 C.2.1 dX11_step_73 hl (by decide) rfl (fun ls hl => ?_)
      refine lv_aload_n C.1 C.2.1 dX11_step_75 rfl (lv_at hl 1 rfl) ?_
      refine lv_aload_n C.1 C.2.1 dX11_step_76 rfl (lv_at hl 1 rfl) ?_
      refine gi_X11_7 C M h0_ dX11_step_77 (fun h139 => ?_)
      refine lv_sipush (v := 715) C.1 C.2.1 dX11_step_80 (by decide) ?_
      refine a_ldK C M (X := 715) (j := 715) h1 (n := 729) rfl rfl rfl (by omega) (by omega) rfl k20 dX11_step_83 ?_
      refine lv_aload_n C.1 C.2.1 dX11_step_84 rfl (lv_at hl 1 rfl) ?_
      refine gi_X11_7 C M h0_ dX11_step_85 (fun h140 => ?_)
      refine lv_sipush (v := 715) C.1 C.2.1 dX11_step_88 (by decide) ?_
      refine a_ldK C M (X := 715) (j := 715) h1 (n := 729) rfl rfl rfl (by omega) (by omega) rfl k20 dX11_step_91 ?_
      refine lv_iload C.1 C.2.1 dX11_step_92 (lv_at hl 0 rfl) ?_
      refine ks_PI C M (ct_X11_diskOf l g I15 J i3 v138 (by omega) (by omega) (by omega) (by omega)) (cw_X11_91 C.2.2.2.2 (by decide)) rfl hl.1 rfl (Nat.le_of_ble_eq_true rfl) dX11_step_94 ⟨Nat.le_refl _, Nat.le_refl _⟩ (fun r141 H locs p142r M => ?_)
      have p142 : 0 ≤ r141.toInt ∧ r141.toInt ≤ i3.toInt - 1 := p142r
      refine lv_aload_n C.1 C.2.1 dX11_step_97 rfl (lv_at hl 1 rfl) ?_
      refine gi_X11_7 C M h0_ dX11_step_98 (fun h143 => ?_)
      refine lv_sipush (v := 715) C.1 C.2.1 dX11_step_101 (by decide) ?_
      refine a_ldK C M (X := 715) (j := 715) h1 (n := 729) rfl rfl rfl (by omega) (by omega) rfl k20 dX11_step_104 ?_
      refine lv_iload C.1 C.2.1 dX11_step_105 (lv_at hl 0 rfl) ?_
      refine ks_PI C M (ct_X11_rowOf l g I15 J i3 v138 (by omega) (by omega) (by omega) (by omega)) (cw_X11_94 C.2.2.2.2 (by decide)) rfl hl.1 rfl (Nat.le_of_ble_eq_true rfl) dX11_step_107 ⟨Nat.le_refl _, Nat.le_refl _⟩ (fun r144 H locs p145r M => ?_)
      have p145 : r144.toInt = v138.toInt / (i3.toInt - 1) ∧ 0 ≤ r144.toInt ∧ 2 * r144.toInt ≤ v138.toInt := p145r
      refine k_PM C M h0_ (by decide) rfl (ct_X11_reads l g I15 J a0 i3 r141 r144 h0_ (by omega) (by omega) (by omega) (by omega) (by omega) (by omega)) (cw_X11_97 C.2.2.2.2 (by decide)) rfl hl.1 rfl (Nat.le_of_ble_eq_true rfl) dX11_step_110 ⟨Nat.le_refl _, Nat.le_refl _⟩ (fun r150 I146 J147 H locs G148 p149r M => ?_)
      obtain ⟨eJ147, p149⟩ : J147 = J ∧ (0 ≤ r150.toInt ∧ r150.toInt ≤ 1) := p149r
      have eJ147 := eJ147.symm
      subst eJ147
      have Hi : ∀ j, 715 ≤ j → j ≠ 715 → j ≠ 717 → j ≠ 718 → j ≠ 719 → j ≠ 720 → j ≠ 728 → I146 (gr g a0 0) j = I (gr g a0 0) j := fun j hj hn715 hn717 hn718 hn719 hn720 hn728 => (G148 (gr g a0 0) 28 j hS0 (by decide) (by simp)).trans (Hi j hj hn715 hn717 hn718 hn719 hn720 hn728)
      have F := fr_call F G148 (by decide)
      refine n_if_ne C (tgt := 118) dX11_step_113 (by decide) rfl (fun q151 => ?_) (fun q151 => ?_)
      ·
        refine lv_aload_n C.1 C.2.1 dX11_step_118 rfl (lv_at hl 1 rfl) ?_
        refine gi_X11_7 C M h0_ dX11_step_119 (fun h152 => ?_)
        refine lv_sipush (v := 560) C.1 C.2.1 dX11_step_122 (by decide) ?_
        refine lv_iload_n C.1 C.2.1 dX11_step_125 rfl (lv_at hl 3 rfl) ?_
        refine n_iadd C (X := 560) dX11_step_126 rfl rfl (by omega) (by omega) (fun v153 ev153 => ?_)
        refine lv_aload_n C.1 C.2.1 dX11_step_127 rfl (lv_at hl 1 rfl) ?_
        refine gi_X11_53 C M h0_ dX11_step_128 (fun v154 kv154 => ?_)
        refine a_stU C M h1 (n := 729) rfl rfl rfl (by omega) (by omega) rfl (rng28_lo (by omega)) dX11_step_131 (fun H locs I155 k157 f156 M => ?_)
        have F := fr_put F h1 (Or.inl (by decide)) f156
        have Hi : ∀ j, 715 ≤ j → j ≠ 715 → j ≠ 717 → j ≠ 718 → j ≠ 719 → j ≠ 720 → j ≠ 728 → I155 (gr g a0 0) j = I (gr g a0 0) j := fun j hj hn715 hn717 hn718 hn719 hn720 hn728 => (f156 (gr g a0 0) j (Or.inr (by omega))).trans (Hi j hj hn715 hn717 hn718 hn719 hn720 hn728)
        refine lv_goto (tgt := 230) C.1 C.2.1 dX11_step_132 (by decide) ?_
        exact J230 I155 _ _ _ ((f156 (gr g a0 0) 717 (Or.inr (by omega))).trans ((G148 (gr g a0 0) 28 717 h1 (by decide) (by decide)).trans k21)) ((f156 (gr g a0 0) 715 (Or.inr (by omega))).trans ((G148 (gr g a0 0) 28 715 h1 (by decide) (by decide)).trans k20)) ((f156 (gr g a0 0) 716 (Or.inr (by omega))).trans ((G148 (gr g a0 0) 28 716 h1 (by decide) (by decide)).trans k19)) ((f156 (gr g a0 0) 722 (Or.inr (by omega))).trans ((G148 (gr g a0 0) 28 722 h1 (by decide) (by decide)).trans k18)) ((f156 (gr g a0 0) 718 (Or.inr (by omega))).trans ((G148 (gr g a0 0) 28 718 h1 (by decide) (by decide)).trans k17)) ((f156 (gr g a0 0) 719 (Or.inr (by omega))).trans ((G148 (gr g a0 0) 28 719 h1 (by decide) (by decide)).trans k16)) F Hi M (lv_sub hl [1, 2] rfl)
      ·
        refine lv_iconst (v := 0) C.1 C.2.1 dX11_step_116 (by decide) ?_
        have rk158 : (I146 (gr g a0 0) 717).toInt = i2.toInt := congrArg Int32.toInt ((G148 (gr g a0 0) 28 717 h1 (by decide) (by decide)).trans k21)
        have rk159 : (I146 (gr g a0 0) 715).toInt = i3.toInt := congrArg Int32.toInt ((G148 (gr g a0 0) 28 715 h1 (by decide) (by decide)).trans k20)
        have rk160 : (I146 (gr g a0 0) 716).toInt = i4.toInt := congrArg Int32.toInt ((G148 (gr g a0 0) 28 716 h1 (by decide) (by decide)).trans k19)
        have rk161 : (I146 (gr g a0 0) 722).toInt = i5.toInt := congrArg Int32.toInt ((G148 (gr g a0 0) 28 722 h1 (by decide) (by decide)).trans k18)
        have rk162 : (I146 (gr g a0 0) 718).toInt = i6.toInt := congrArg Int32.toInt ((G148 (gr g a0 0) 28 718 h1 (by decide) (by decide)).trans k17)
        have rk163 : (I146 (gr g a0 0) 719).toInt = i7.toInt := congrArg Int32.toInt ((G148 (gr g a0 0) 28 719 h1 (by decide) (by decide)).trans k16)
        exact r_PMz C M (z := 0) hr hlk F rfl (by omega) (by omega) ⟨rfl, ⟨(by simp only [ci2, ci3, ci4, ci5, ci6, ci7, rk158, rk159, rk160, rk161, rk162, rk163]; refine ⟨by omega, by omega, ?_⟩; first | exact g0 | assumption | exact fun _ => ⟨hj.1, hj.2.1, by omega⟩), Hi⟩⟩ dX11_step_117
  refine n_if_ne C (tgt := 56) dX11_step_25 (by decide) rfl (fun q164 => ?_) (fun q164 => ?_)
  ·
    exact J56 I _ _ _ ki7 ki6 ki5 ki4 ki3 ki2 F Hi M (lv_sub hl [3, 2, 1, 0] rfl)
  ·
    refine lv_iconst (v := 0) C.1 C.2.1 dX11_step_28 (by decide) ?_
    refine lv_istore (lv' := [(4, .int 0), (3, .int r13), (2, .int i7), (1, .int i6), (0, .ref a0)]) C.1 C.2.1 dX11_step_29 hl (by decide) rfl (fun ls hl => ?_)
    have L31 : ∀ (n31 : Nat) (y165 : Int32) (I166 : Ms) (H : Heap) (locs : List Loc) (ls : Array Slot), I166 (gr g a0 0) 719 = i7 → I166 (gr g a0 0) 718 = i6 → I166 (gr g a0 0) 722 = i5 → I166 (gr g a0 0) 716 = i4 → I166 (gr g a0 0) 715 = i3 → I166 (gr g a0 0) 717 = i2 → 0 ≤ y165.toInt → y165.toInt ≤ 24 → 24 - y165.toInt < (n31 : Int) → Fr g md_X11_step I I166 → (∀ j, 715 ≤ j → j ≠ 715 → j ≠ 717 → j ≠ 718 → j ≠ 719 → j ≠ 720 → j ≠ 728 → I166 (gr g a0 0) j = I (gr g a0 0) j) → Mm g s I166 J H locs → lv_has ls 6 [(0, .ref a0), (1, .int i6), (2, .int i7), (3, .int r13), (4, .int y165)] → W p l e (rmL 7) s m args below meth c H locs 0 0 (MQg below g (PM g md_X11_step I (fun z I1 J1 => J1 = J ∧ ((0 ≤ z ∧ z ≤ 1 ∧ jm (I1 (gr g a0 0) 717).toInt (I1 (gr g a0 0) 715).toInt (I1 (gr g a0 0) 716).toInt (I1 (gr g a0 0) 722).toInt (I1 (gr g a0 0) 718).toInt (I1 (gr g a0 0) 719).toInt) ∧ (∀ j, 715 ≤ j → j ≠ 715 → j ≠ 717 → j ≠ 718 → j ≠ 719 → j ≠ 720 → j ≠ 728 → I1 (gr g a0 0) j = I (gr g a0 0) j)))) args s) (F0 m 31 ls []) := by
      intro n31
      induction n31 with
      | zero =>
        intro y165 I166 H locs ls k167 k168 k169 k170 k171 k172 f173 f174 hm31 F Hi M hl
        exact absurd hm31 (by omega)
      | succ n31 ih31 =>
        intro y165 I166 H locs ls k167 k168 k169 k170 k171 k172 f173 f174 hm31 F Hi M hl
        refine lv_iload C.1 C.2.1 dX11_step_31 (lv_at hl 4 rfl) ?_
        refine lv_bipush (v := 24) C.1 C.2.1 dX11_step_33 (by decide) ?_
        refine n_icmp_ge C (tgt := 56) (Y := 24) dX11_step_35 (by decide) rfl rfl (fun q175 => ?_) (fun q175 => ?_)
        ·
          exact J56 I166 _ _ _ k167 k168 k169 k170 k171 k172 F Hi M (lv_sub hl [0, 1, 2, 3] rfl)
        ·
          refine lv_aload_n C.1 C.2.1 dX11_step_38 rfl (lv_at hl 0 rfl) ?_
          refine gi_X11_7 C M h0_ dX11_step_39 (fun h176 => ?_)
          refine lv_sipush (v := 560) C.1 C.2.1 dX11_step_42 (by decide) ?_
          refine lv_iload C.1 C.2.1 dX11_step_45 (lv_at hl 4 rfl) ?_
          refine n_iadd C (X := 560) dX11_step_47 rfl rfl (by omega) (by omega) (fun v177 ev177 => ?_)
          refine lv_iconst (v := 0) C.1 C.2.1 dX11_step_48 (by decide) ?_
          refine a_stU C M h1 (n := 729) rfl rfl rfl (by omega) (by omega) rfl (rng28_lo (by omega)) dX11_step_49 (fun H locs I178 k180 f179 M => ?_)
          have F := fr_put F h1 (Or.inl (by decide)) f179
          have Hi : ∀ j, 715 ≤ j → j ≠ 715 → j ≠ 717 → j ≠ 718 → j ≠ 719 → j ≠ 720 → j ≠ 728 → I178 (gr g a0 0) j = I (gr g a0 0) j := fun j hj hn715 hn717 hn718 hn719 hn720 hn728 => (f179 (gr g a0 0) j (Or.inr (by omega))).trans (Hi j hj hn715 hn717 hn718 hn719 hn720 hn728)
          refine n_iinc C (k := 4) (N := 1) (lv' := fun v => [(4, .int v), (0, .ref a0), (1, .int i6), (2, .int i7), (3, .int r13)]) dX11_step_50 hl rfl (by decide) rfl rfl (by omega) (by omega) (fun _ => rfl) (fun v181 ls ev181 hl => ?_)
          refine lv_goto (tgt := 31) C.1 C.2.1 dX11_step_53 (by decide) ?_
          exact ih31 v181 I178 _ _ _ ((f179 (gr g a0 0) 719 (Or.inr (by omega))).trans k167) ((f179 (gr g a0 0) 718 (Or.inr (by omega))).trans k168) ((f179 (gr g a0 0) 722 (Or.inr (by omega))).trans k169) ((f179 (gr g a0 0) 716 (Or.inr (by omega))).trans k170) ((f179 (gr g a0 0) 715 (Or.inr (by omega))).trans k171) ((f179 (gr g a0 0) 717 (Or.inr (by omega))).trans k172) (by omega) (by omega) (by omega) F Hi M (lv_sub hl [1, 2, 3, 4, 0] rfl)
    have cz182 : (0 : Int32).toInt = 0 := rfl
    exact L31 _ 0 I _ _ _ ki7 ki6 ki5 ki4 ki3 ki2 (by omega) (by omega) (n_big _) F Hi M (lv_sub hl [4, 3, 2, 1, 0] rfl)

abbrev md_X11_stepsDone : List (Nat × Nat) := [(9, 11), (9, 12), (28, 0)]
set_option maxHeartbeats 4000000 in
set_option maxRecDepth 100000 in
theorem ct_X11_stepsDone (l : Launch) (g : Gs) (I : Ms) (J : Js) (a0 : Nat) (x1 : Int32) (h0_ : Is g a0 9) (g0 : jm (I (gr g a0 0) 717).toInt (I (gr g a0 0) 715).toInt (I (gr g a0 0) 716).toInt (I (gr g a0 0) 722).toInt (I (gr g a0 0) 718).toInt (I (gr g a0 0) 719).toInt) (g1 : x1.toInt ≤ 400) : Ctr l yX11_stepsDone cX11_stepsDone 3 (Option.some Jvm.ClassFile.FieldType.int) 8 g [.ref a0, .int x1] I J (PM g md_X11_stepsDone I (fun z I1 J1 => J1 = J ∧ ((jm (I1 (gr g a0 0) 717).toInt (I1 (gr g a0 0) 715).toInt (I1 (gr g a0 0) 716).toInt (I1 (gr g a0 0) 722).toInt (I1 (gr g a0 0) 718).toInt (I1 (gr g a0 0) 719).toInt) ∧ (∀ j, 715 ≤ j → j ≠ 715 → j ≠ 717 → j ≠ 718 → j ≠ 719 → j ≠ 720 → j ≠ 728 → I1 (gr g a0 0) j = I (gr g a0 0) j)))) := by
  refine m_start (by decide) (Nat.le_of_ble_eq_true rfl) ?_
  intro p e s m args below meth c C hr hlk M ls hl
  have hl : lv_has ls 3 [(0, .ref a0), (1, .int x1)] := hl
  have C : CallFix p m c cX11_stepsDone 3 s args TB RX11 := C
  have F : Fr g md_X11_stepsDone I I := fr_rf
  have hS0 := is_ref M h0_ 0 28 rfl rfl
  have Hi : ∀ j, 715 ≤ j → j ≠ 715 → j ≠ 717 → j ≠ 718 → j ≠ 719 → j ≠ 720 → j ≠ 728 → I (gr g a0 0) j = I (gr g a0 0) j := by intros; rfl
  have h1 := is_ref M h0_ 0 28 rfl rfl
  obtain ⟨i2, ki2⟩ : ∃ z : Int32, I (gr g a0 0) 717 = z := ⟨_, rfl⟩
  have ti2 : 0 ≤ i2.toInt ∧ i2.toInt ≤ 1 := m_rng M h1 717 ki2 rfl
  have ci2 : (I (gr g a0 0) 717).toInt = i2.toInt := congrArg Int32.toInt ki2
  obtain ⟨i3, ki3⟩ : ∃ z : Int32, I (gr g a0 0) 715 = z := ⟨_, rfl⟩
  have ti3 : 3 ≤ i3.toInt ∧ i3.toInt ≤ 7 := m_rng M h1 715 ki3 rfl
  have ci3 : (I (gr g a0 0) 715).toInt = i3.toInt := congrArg Int32.toInt ki3
  obtain ⟨i4, ki4⟩ : ∃ z : Int32, I (gr g a0 0) 716 = z := ⟨_, rfl⟩
  have ti4 : 4 ≤ i4.toInt ∧ i4.toInt ≤ 40 := m_rng M h1 716 ki4 rfl
  have ci4 : (I (gr g a0 0) 716).toInt = i4.toInt := congrArg Int32.toInt ki4
  obtain ⟨i5, ki5⟩ : ∃ z : Int32, I (gr g a0 0) 722 = z := ⟨_, rfl⟩
  have ti5 : 1 ≤ i5.toInt ∧ i5.toInt ≤ 4 := m_rng M h1 722 ki5 rfl
  have ci5 : (I (gr g a0 0) 722).toInt = i5.toInt := congrArg Int32.toInt ki5
  obtain ⟨i6, ki6⟩ : ∃ z : Int32, I (gr g a0 0) 718 = z := ⟨_, rfl⟩
  have ti6 : 0 ≤ i6.toInt ∧ i6.toInt ≤ 200 := m_rng M h1 718 ki6 rfl
  have ci6 : (I (gr g a0 0) 718).toInt = i6.toInt := congrArg Int32.toInt ki6
  obtain ⟨i7, ki7⟩ : ∃ z : Int32, I (gr g a0 0) 719 = z := ⟨_, rfl⟩
  have ti7 : 0 ≤ i7.toInt ∧ i7.toInt ≤ 200 := m_rng M h1 719 ki7 rfl
  have ci7 : (I (gr g a0 0) 719).toInt = i7.toInt := congrArg Int32.toInt ki7
  simp only [ci2, ci3, ci4, ci5, ci6, ci7] at g0
  have hj6 : i2.toInt = 1 → i3.toInt ≤ 6 := fun q => (g0 q).1
  refine lv_iconst (v := 0) C.1 C.2.1 dX11_stepsDone_0 (by decide) ?_
  refine lv_istore_n (lv' := [(2, .int 0), (0, .ref a0), (1, .int x1)]) C.1 C.2.1 dX11_stepsDone_1 rfl hl (by decide) rfl (fun ls hl => ?_)
  have L2 : ∀ (n2 : Nat) (y8 : Int32) (I9 : Ms) (H : Heap) (locs : List Loc) (ls : Array Slot), I9 (gr g a0 0) 722 = i5 → I9 (gr g a0 0) 716 = i4 → 0 ≤ y8.toInt → y8.toInt ≤ 400 → jm (I9 (gr g a0 0) 717).toInt (I9 (gr g a0 0) 715).toInt (I9 (gr g a0 0) 716).toInt (I9 (gr g a0 0) 722).toInt (I9 (gr g a0 0) 718).toInt (I9 (gr g a0 0) 719).toInt → 400 - y8.toInt < (n2 : Int) → Fr g md_X11_stepsDone I I9 → (∀ j, 715 ≤ j → j ≠ 715 → j ≠ 717 → j ≠ 718 → j ≠ 719 → j ≠ 720 → j ≠ 728 → I9 (gr g a0 0) j = I (gr g a0 0) j) → Mm g s I9 J H locs → lv_has ls 3 [(0, .ref a0), (1, .int x1), (2, .int y8)] → W p l e (rmL 8) s m args below meth c H locs 0 0 (MQg below g (PM g md_X11_stepsDone I (fun z I1 J1 => J1 = J ∧ ((jm (I1 (gr g a0 0) 717).toInt (I1 (gr g a0 0) 715).toInt (I1 (gr g a0 0) 716).toInt (I1 (gr g a0 0) 722).toInt (I1 (gr g a0 0) 718).toInt (I1 (gr g a0 0) 719).toInt) ∧ (∀ j, 715 ≤ j → j ≠ 715 → j ≠ 717 → j ≠ 718 → j ≠ 719 → j ≠ 720 → j ≠ 728 → I1 (gr g a0 0) j = I (gr g a0 0) j)))) args s) (F0 m 2 ls []) := by
    intro n2
    induction n2 with
    | zero =>
      intro y8 I9 H locs ls k10 k11 f12 f13 hJ hm2 F Hi M hl
      exact absurd hm2 (by omega)
    | succ n2 ih2 =>
      intro y8 I9 H locs ls k10 k11 f12 f13 hJ hm2 F Hi M hl
      obtain ⟨u14, ku14⟩ : ∃ z : Int32, I9 (gr g a0 0) 717 = z := ⟨_, rfl⟩
      have tu14 : 0 ≤ u14.toInt ∧ u14.toInt ≤ 1 := m_rng M h1 717 ku14 rfl
      have cu14 : (I9 (gr g a0 0) 717).toInt = u14.toInt := congrArg Int32.toInt ku14
      obtain ⟨u15, ku15⟩ : ∃ z : Int32, I9 (gr g a0 0) 715 = z := ⟨_, rfl⟩
      have tu15 : 3 ≤ u15.toInt ∧ u15.toInt ≤ 7 := m_rng M h1 715 ku15 rfl
      have cu15 : (I9 (gr g a0 0) 715).toInt = u15.toInt := congrArg Int32.toInt ku15
      have cc16 : (I9 (gr g a0 0) 716).toInt = i4.toInt := congrArg Int32.toInt k11
      have cc17 : (I9 (gr g a0 0) 722).toInt = i5.toInt := congrArg Int32.toInt k10
      obtain ⟨u18, ku18⟩ : ∃ z : Int32, I9 (gr g a0 0) 718 = z := ⟨_, rfl⟩
      have tu18 : 0 ≤ u18.toInt ∧ u18.toInt ≤ 200 := m_rng M h1 718 ku18 rfl
      have cu18 : (I9 (gr g a0 0) 718).toInt = u18.toInt := congrArg Int32.toInt ku18
      obtain ⟨u19, ku19⟩ : ∃ z : Int32, I9 (gr g a0 0) 719 = z := ⟨_, rfl⟩
      have tu19 : 0 ≤ u19.toInt ∧ u19.toInt ≤ 200 := m_rng M h1 719 ku19 rfl
      have cu19 : (I9 (gr g a0 0) 719).toInt = u19.toInt := congrArg Int32.toInt ku19
      simp only [cu14, cu15, cc16, cc17, cu18, cu19] at hJ
      refine lv_iload_n C.1 C.2.1 dX11_stepsDone_2 rfl (lv_at hl 2 rfl) ?_
      refine lv_iload_n C.1 C.2.1 dX11_stepsDone_3 rfl (lv_at hl 1 rfl) ?_
      refine n_icmp_ge C (tgt := 27) dX11_stepsDone_4 (by decide) rfl rfl (fun q20 => ?_) (fun q20 => ?_)
      ·
        refine lv_iload_n C.1 C.2.1 dX11_stepsDone_27 rfl (lv_at hl 2 rfl) ?_
        have rk21 : (I9 (gr g a0 0) 717).toInt = u14.toInt := congrArg Int32.toInt ku14
        have rk22 : (I9 (gr g a0 0) 715).toInt = u15.toInt := congrArg Int32.toInt ku15
        have rk23 : (I9 (gr g a0 0) 716).toInt = i4.toInt := congrArg Int32.toInt k11
        have rk24 : (I9 (gr g a0 0) 722).toInt = i5.toInt := congrArg Int32.toInt k10
        have rk25 : (I9 (gr g a0 0) 718).toInt = u18.toInt := congrArg Int32.toInt ku18
        have rk26 : (I9 (gr g a0 0) 719).toInt = u19.toInt := congrArg Int32.toInt ku19
        exact r_PM C M hr hlk F rfl ⟨rfl, ⟨(by simp only [ci2, ci3, ci4, ci5, ci6, ci7, rk21, rk22, rk23, rk24, rk25, rk26]; first | assumption | exact hl.2.2 | exact g0), Hi⟩⟩ dX11_stepsDone_28
      ·
        refine lv_aload_n C.1 C.2.1 dX11_stepsDone_7 rfl (lv_at hl 0 rfl) ?_
        have em27 : (I9 (gr g a0 0) 717).toInt = u14.toInt := congrArg Int32.toInt ku14
        refine k_PI C M h0_ (by decide) rfl (ct_X11_isGrown l g I9 J a0 h0_) (cw_X11_84 C.2.2.2.2 (by decide)) rfl hl.1 rfl (Nat.le_of_ble_eq_true rfl) dX11_stepsDone_8 ⟨Nat.le_refl _, Nat.le_refl _⟩ (fun r28 H locs p29r M => ?_)
        have p29 : 0 ≤ r28.toInt ∧ r28.toInt ≤ 1 ∧ (r28.toInt = 1 ↔ (I9 (gr g a0 0) 717).toInt = 1) := p29r
        simp only [em27] at p29
        have p29 : 0 ≤ r28.toInt ∧ r28.toInt ≤ 1 ∧ (r28.toInt = 1 ↔ u14.toInt = 1) := p29
        refine n_if_eq C (tgt := 27) dX11_stepsDone_11 (by decide) rfl (fun q30 => ?_) (fun q30 => ?_)
        ·
          refine lv_iload_n C.1 C.2.1 dX11_stepsDone_27 rfl (lv_at hl 2 rfl) ?_
          have rk31 : (I9 (gr g a0 0) 717).toInt = u14.toInt := congrArg Int32.toInt ku14
          have rk32 : (I9 (gr g a0 0) 715).toInt = u15.toInt := congrArg Int32.toInt ku15
          have rk33 : (I9 (gr g a0 0) 716).toInt = i4.toInt := congrArg Int32.toInt k11
          have rk34 : (I9 (gr g a0 0) 722).toInt = i5.toInt := congrArg Int32.toInt k10
          have rk35 : (I9 (gr g a0 0) 718).toInt = u18.toInt := congrArg Int32.toInt ku18
          have rk36 : (I9 (gr g a0 0) 719).toInt = u19.toInt := congrArg Int32.toInt ku19
          exact r_PM C M hr hlk F rfl ⟨rfl, ⟨(by simp only [ci2, ci3, ci4, ci5, ci6, ci7, rk31, rk32, rk33, rk34, rk35, rk36]; first | assumption | exact hl.2.2 | exact g0), Hi⟩⟩ dX11_stepsDone_28
        ·
          refine lv_aload_n C.1 C.2.1 dX11_stepsDone_14 rfl (lv_at hl 0 rfl) ?_
          have em37 : (I9 (gr g a0 0) 717).toInt = u14.toInt := congrArg Int32.toInt ku14
          have em38 : (I9 (gr g a0 0) 715).toInt = u15.toInt := congrArg Int32.toInt ku15
          have em39 : (I9 (gr g a0 0) 716).toInt = i4.toInt := congrArg Int32.toInt k11
          have em40 : (I9 (gr g a0 0) 722).toInt = i5.toInt := congrArg Int32.toInt k10
          have em41 : (I9 (gr g a0 0) 718).toInt = u18.toInt := congrArg Int32.toInt ku18
          have em42 : (I9 (gr g a0 0) 719).toInt = u19.toInt := congrArg Int32.toInt ku19
          refine k_PM C M h0_ (by decide) rfl (ct_X11_step l g I9 J a0 h0_ (by simp only [em37, em38, em39, em40, em41, em42]; first | assumption | omega) (by simp only [em37, em38, em39, em40, em41, em42]; first | assumption | omega)) (cw_X11_117 C.2.2.2.2 (by decide)) rfl hl.1 rfl (Nat.le_of_ble_eq_true rfl) dX11_stepsDone_15 ⟨Nat.le_refl _, Nat.le_refl _⟩ (fun r47 I43 J44 H locs G45 p46r M => ?_)
          obtain ⟨eJ44, ⟨p46, fx48⟩⟩ : J44 = J ∧ ((0 ≤ r47.toInt ∧ r47.toInt ≤ 1 ∧ jm (I43 (gr g a0 0) 717).toInt (I43 (gr g a0 0) 715).toInt (I43 (gr g a0 0) 716).toInt (I43 (gr g a0 0) 722).toInt (I43 (gr g a0 0) 718).toInt (I43 (gr g a0 0) 719).toInt) ∧ (∀ j, 715 ≤ j → j ≠ 715 → j ≠ 717 → j ≠ 718 → j ≠ 719 → j ≠ 720 → j ≠ 728 → I43 (gr g a0 0) j = I9 (gr g a0 0) j)) := p46r
          have eJ44 := eJ44.symm
          subst eJ44
          have Hi : ∀ j, 715 ≤ j → j ≠ 715 → j ≠ 717 → j ≠ 718 → j ≠ 719 → j ≠ 720 → j ≠ 728 → I43 (gr g a0 0) j = I (gr g a0 0) j := fun j hj hn715 hn717 hn718 hn719 hn720 hn728 => (fx48 j hj hn715 hn717 hn718 hn719 hn720 hn728).trans (Hi j hj hn715 hn717 hn718 hn719 hn720 hn728)
          obtain ⟨u49, ku49⟩ : ∃ z : Int32, I43 (gr g a0 0) 717 = z := ⟨_, rfl⟩
          have tu49 : 0 ≤ u49.toInt ∧ u49.toInt ≤ 1 := m_rng M h1 717 ku49 rfl
          have em50 : (I43 (gr g a0 0) 717).toInt = u49.toInt := congrArg Int32.toInt ku49
          obtain ⟨u51, ku51⟩ : ∃ z : Int32, I43 (gr g a0 0) 715 = z := ⟨_, rfl⟩
          have tu51 : 3 ≤ u51.toInt ∧ u51.toInt ≤ 7 := m_rng M h1 715 ku51 rfl
          have em52 : (I43 (gr g a0 0) 715).toInt = u51.toInt := congrArg Int32.toInt ku51
          have em53 : (I43 (gr g a0 0) 716).toInt = i4.toInt := congrArg Int32.toInt ((fx48 716 (by decide) (by decide) (by decide) (by decide) (by decide) (by decide) (by decide)).trans k11)
          have em54 : (I43 (gr g a0 0) 722).toInt = i5.toInt := congrArg Int32.toInt ((fx48 722 (by decide) (by decide) (by decide) (by decide) (by decide) (by decide) (by decide)).trans k10)
          obtain ⟨u55, ku55⟩ : ∃ z : Int32, I43 (gr g a0 0) 718 = z := ⟨_, rfl⟩
          have tu55 : 0 ≤ u55.toInt ∧ u55.toInt ≤ 200 := m_rng M h1 718 ku55 rfl
          have em56 : (I43 (gr g a0 0) 718).toInt = u55.toInt := congrArg Int32.toInt ku55
          obtain ⟨u57, ku57⟩ : ∃ z : Int32, I43 (gr g a0 0) 719 = z := ⟨_, rfl⟩
          have tu57 : 0 ≤ u57.toInt ∧ u57.toInt ≤ 200 := m_rng M h1 719 ku57 rfl
          have em58 : (I43 (gr g a0 0) 719).toInt = u57.toInt := congrArg Int32.toInt ku57
          simp only [em37, em38, em39, em40, em41, em42, em50, em52, em53, em54, em56, em58] at p46
          have F := fr_call F G45 (by decide)
          refine n_if_eq C (tgt := 27) dX11_stepsDone_18 (by decide) rfl (fun q59 => ?_) (fun q59 => ?_)
          ·
            refine lv_iload_n C.1 C.2.1 dX11_stepsDone_27 rfl (lv_at hl 2 rfl) ?_
            have rk60 : (I43 (gr g a0 0) 717).toInt = u49.toInt := congrArg Int32.toInt ku49
            have rk61 : (I43 (gr g a0 0) 715).toInt = u51.toInt := congrArg Int32.toInt ku51
            have rk62 : (I43 (gr g a0 0) 716).toInt = i4.toInt := congrArg Int32.toInt ((fx48 716 (by decide) (by decide) (by decide) (by decide) (by decide) (by decide) (by decide)).trans k11)
            have rk63 : (I43 (gr g a0 0) 722).toInt = i5.toInt := congrArg Int32.toInt ((fx48 722 (by decide) (by decide) (by decide) (by decide) (by decide) (by decide) (by decide)).trans k10)
            have rk64 : (I43 (gr g a0 0) 718).toInt = u55.toInt := congrArg Int32.toInt ku55
            have rk65 : (I43 (gr g a0 0) 719).toInt = u57.toInt := congrArg Int32.toInt ku57
            exact r_PM C M hr hlk F rfl ⟨rfl, ⟨(by simp only [ci2, ci3, ci4, ci5, ci6, ci7, rk60, rk61, rk62, rk63, rk64, rk65]; first | assumption | exact p46.2.2 | exact g0), Hi⟩⟩ dX11_stepsDone_28
          ·
            refine n_iinc C (k := 2) (N := 1) (lv' := fun v => [(2, .int v), (0, .ref a0), (1, .int x1)]) dX11_stepsDone_21 hl rfl (by decide) rfl rfl (by omega) (by omega) (fun _ => rfl) (fun v66 ls ev66 hl => ?_)
            refine lv_goto (tgt := 2) C.1 C.2.1 dX11_stepsDone_24 (by decide) ?_
            have jc67 : (I43 (gr g a0 0) 717).toInt = u49.toInt := congrArg Int32.toInt ku49
            have jc68 : (I43 (gr g a0 0) 715).toInt = u51.toInt := congrArg Int32.toInt ku51
            have jc69 : (I43 (gr g a0 0) 716).toInt = i4.toInt := congrArg Int32.toInt ((fx48 716 (by decide) (by decide) (by decide) (by decide) (by decide) (by decide) (by decide)).trans k11)
            have jc70 : (I43 (gr g a0 0) 722).toInt = i5.toInt := congrArg Int32.toInt ((fx48 722 (by decide) (by decide) (by decide) (by decide) (by decide) (by decide) (by decide)).trans k10)
            have jc71 : (I43 (gr g a0 0) 718).toInt = u55.toInt := congrArg Int32.toInt ku55
            have jc72 : (I43 (gr g a0 0) 719).toInt = u57.toInt := congrArg Int32.toInt ku57
            exact ih2 v66 I43 _ _ _ ((fx48 722 (by decide) (by decide) (by decide) (by decide) (by decide) (by decide) (by decide)).trans k10) ((fx48 716 (by decide) (by decide) (by decide) (by decide) (by decide) (by decide) (by decide)).trans k11) (by omega) (by omega) (by simp only [jc67, jc68, jc69, jc70, jc71, jc72]; first | assumption | exact p46.2.2 | exact g0) (by omega) F Hi M (lv_sub hl [1, 2, 0] rfl)
  have jc73 : (I (gr g a0 0) 717).toInt = i2.toInt := congrArg Int32.toInt ki2
  have jc74 : (I (gr g a0 0) 715).toInt = i3.toInt := congrArg Int32.toInt ki3
  have jc75 : (I (gr g a0 0) 716).toInt = i4.toInt := congrArg Int32.toInt ki4
  have jc76 : (I (gr g a0 0) 722).toInt = i5.toInt := congrArg Int32.toInt ki5
  have jc77 : (I (gr g a0 0) 718).toInt = i6.toInt := congrArg Int32.toInt ki6
  have jc78 : (I (gr g a0 0) 719).toInt = i7.toInt := congrArg Int32.toInt ki7
  have cz79 : (0 : Int32).toInt = 0 := rfl
  exact L2 _ 0 I _ _ _ ki5 ki4 (by omega) (by omega) (by simp only [jc73, jc74, jc75, jc76, jc77, jc78]; first | assumption | exact hl.2.2 | exact g0) (n_big _) F Hi M (lv_sub hl [1, 2, 0] rfl)
