abbrev md_X11_begins : List (Nat × Nat) := [(9, 6), (28, 0), (31, 0)]
set_option maxHeartbeats 4000000 in
set_option maxRecDepth 100000 in
theorem ct_X11_begins (l : Launch) (g : Gs) (I : Ms) (J : Js) (a0 : Nat) (x1 : Int32) (x2 : Int32) (h0_ : Is g a0 9) (g0 : 3 ≤ x1.toInt) (g1 : x1.toInt ≤ 7) (g2 : 4 ≤ x2.toInt) (g3 : x2.toInt ≤ 40) : Ctr l yX11_begins cX11_begins 4 (Option.none : Option Jvm.ClassFile.FieldType) 1 g [.ref a0, .int x1, .int x2] I J (PV g md_X11_begins I (fun I1 J1 => J1 = J ∧ ((I1 (gr g a0 0) 717).toInt = 0 ∧ (I1 (gr g a0 0) 715).toInt = x1.toInt ∧ (I1 (gr g a0 0) 716).toInt = x2.toInt ∧ (I1 (gr g a0 3) 0).toInt = 0 ∧ (I1 (gr g a0 3) 1).toInt = 0))) := by
  refine m_start (by decide) (Nat.le_of_ble_eq_true rfl) ?_
  intro p e s m args below meth c C hr hlk M ls hl
  have hl : lv_has ls 4 [(0, .ref a0), (1, .int x1), (2, .int x2)] := hl
  have C : CallFix p m c cX11_begins 4 s args TB RX11 := C
  have F : Fr g md_X11_begins I I := fr_rf
  have h1 := is_ref M h0_ 0 28 rfl rfl
  obtain ⟨i2, ki2⟩ : ∃ z : Int32, I (gr g a0 0) 717 = z := ⟨_, rfl⟩
  have ti2 : 0 ≤ i2.toInt ∧ i2.toInt ≤ 1 := m_rng M h1 717 ki2 rfl
  have ci2 : (I (gr g a0 0) 717).toInt = i2.toInt := congrArg Int32.toInt ki2
  obtain ⟨i3, ki3⟩ : ∃ z : Int32, I (gr g a0 0) 715 = z := ⟨_, rfl⟩
  have ti3 : 3 ≤ i3.toInt ∧ i3.toInt ≤ 7 := m_rng M h1 715 ki3 rfl
  have ci3 : (I (gr g a0 0) 715).toInt = i3.toInt := congrArg Int32.toInt ki3
  obtain ⟨i4, ki4⟩ : ∃ z : Int32, I (gr g a0 0) 716 = z := ⟨_, rfl⟩
  have ti4 : 4 ≤ i4.toInt ∧ i4.toInt ≤ 40 := m_rng M h1 716 ki4 rfl
  have ci4 : (I (gr g a0 0) 716).toInt = i4.toInt := congrArg Int32.toInt ki4
  obtain ⟨i5, ki5⟩ : ∃ z : Int32, I (gr g a0 0) 722 = z := ⟨_, rfl⟩
  have ti5 : 1 ≤ i5.toInt ∧ i5.toInt ≤ 4 := m_rng M h1 722 ki5 rfl
  have ci5 : (I (gr g a0 0) 722).toInt = i5.toInt := congrArg Int32.toInt ki5
  obtain ⟨i6, ki6⟩ : ∃ z : Int32, I (gr g a0 0) 718 = z := ⟨_, rfl⟩
  have ti6 : 0 ≤ i6.toInt ∧ i6.toInt ≤ 200 := m_rng M h1 718 ki6 rfl
  have ci6 : (I (gr g a0 0) 718).toInt = i6.toInt := congrArg Int32.toInt ki6
  obtain ⟨i7, ki7⟩ : ∃ z : Int32, I (gr g a0 0) 719 = z := ⟨_, rfl⟩
  have ti7 : 0 ≤ i7.toInt ∧ i7.toInt ≤ 200 := m_rng M h1 719 ki7 rfl
  have ci7 : (I (gr g a0 0) 719).toInt = i7.toInt := congrArg Int32.toInt ki7
  have M := mx_of (x := (gr g a0 0)) (E := [715, 716, 722, 724]) M
  refine lv_iconst (v := 0) C.1 C.2.1 dX11_begins_0 (by decide) ?_
  refine lv_istore_n (lv' := [(3, .int 0), (0, .ref a0), (1, .int x1), (2, .int x2)]) C.1 C.2.1 dX11_begins_1 rfl hl (by decide) rfl (fun ls hl => ?_)
  have L2 : ∀ (n2 : Nat) (y8 : Int32) (I9 : Ms) (H : Heap) (locs : List Loc) (ls : Array Slot), 0 ≤ y8.toInt → y8.toInt ≤ 729 → (717 < y8.toInt → (I9 (gr g a0 0) 717).toInt = 0) → 729 - y8.toInt < (n2 : Int) → Fr g md_X11_begins I I9 → Mx g s (gr g a0 0) [715, 716, 722, 724] I9 J H locs → lv_has ls 4 [(0, .ref a0), (1, .int x1), (2, .int x2), (3, .int y8)] → W p l e (rmL 1) s m args below meth c H locs 0 0 (MQg below g (PV g md_X11_begins I (fun I1 J1 => J1 = J ∧ ((I1 (gr g a0 0) 717).toInt = 0 ∧ (I1 (gr g a0 0) 715).toInt = x1.toInt ∧ (I1 (gr g a0 0) 716).toInt = x2.toInt ∧ (I1 (gr g a0 3) 0).toInt = 0 ∧ (I1 (gr g a0 3) 1).toInt = 0))) args s) (F0 m 2 ls []) := by
    intro n2
    induction n2 with
    | zero =>
      intro y8 I9 H locs ls f10 f11 hz hm2 F M hl
      exact absurd hm2 (by omega)
    | succ n2 ih2 =>
      intro y8 I9 H locs ls f10 f11 hz hm2 F M hl
      refine lv_iload_n C.1 C.2.1 dX11_begins_2 rfl (lv_at hl 3 rfl) ?_
      refine lv_sipush (v := 729) C.1 C.2.1 dX11_begins_3 (by decide) ?_
      refine n_icmp_ge C (tgt := 22) (Y := 729) dX11_begins_6 (by decide) rfl rfl (fun q12 => ?_) (fun q12 => ?_)
      ·
        obtain ⟨u13, ku13⟩ : ∃ z : Int32, I9 (gr g a0 0) 717 = z := ⟨_, rfl⟩
        have cu13 : (I9 (gr g a0 0) 717).toInt = u13.toInt := congrArg Int32.toInt ku13
        simp only [cu13] at hz
        have hz := hz (by omega)
        refine lv_aload_n C.1 C.2.1 dX11_begins_22 rfl (lv_at hl 0 rfl) ?_
        refine x_gets C M h0_ dX11_begins_23 (fun h14 => ?_)
        refine lv_sipush (v := 715) C.1 C.2.1 dX11_begins_26 (by decide) ?_
        refine lv_iload_n C.1 C.2.1 dX11_begins_29 rfl (lv_at hl 1 rfl) ?_
        refine x_st C M (E' := [716, 722, 724]) (X := 715) (j := 715) h1 rfl (by omega) (by omega) rfl (Or.inr (show (3 : Int) ≤ _ ∧ _ ≤ (7 : Int) from ⟨by omega, by omega⟩)) (by decide) dX11_begins_30 (fun H locs I15 k17 f16 M => ?_)
        have F := fr_put F h1 (Or.inl (by decide)) f16
        refine lv_aload_n C.1 C.2.1 dX11_begins_31 rfl (lv_at hl 0 rfl) ?_
        refine x_gets C M h0_ dX11_begins_32 (fun h18 => ?_)
        refine lv_sipush (v := 716) C.1 C.2.1 dX11_begins_35 (by decide) ?_
        refine lv_iload_n C.1 C.2.1 dX11_begins_38 rfl (lv_at hl 2 rfl) ?_
        refine x_st C M (E' := [722, 724]) (X := 716) (j := 716) h1 rfl (by omega) (by omega) rfl (Or.inr (show (4 : Int) ≤ _ ∧ _ ≤ (40 : Int) from ⟨by omega, by omega⟩)) (by decide) dX11_begins_39 (fun H locs I19 k21 f20 M => ?_)
        have F := fr_put F h1 (Or.inl (by decide)) f20
        refine lv_aload_n C.1 C.2.1 dX11_begins_40 rfl (lv_at hl 0 rfl) ?_
        refine x_gets C M h0_ dX11_begins_41 (fun h22 => ?_)
        refine lv_sipush (v := 721) C.1 C.2.1 dX11_begins_44 (by decide) ?_
        refine lv_iconst (v := -1) C.1 C.2.1 dX11_begins_47 (by decide) ?_
        refine x_st C M (E' := [722, 724]) (X := 721) (j := 721) h1 rfl (by omega) (by omega) rfl (Or.inr (show (-1 : Int) ≤ _ ∧ _ ≤ (6 : Int) from ⟨by decide, by decide⟩)) (by decide) dX11_begins_48 (fun H locs I23 k25 f24 M => ?_)
        have F := fr_put F h1 (Or.inl (by decide)) f24
        refine lv_aload_n C.1 C.2.1 dX11_begins_49 rfl (lv_at hl 0 rfl) ?_
        refine x_gets C M h0_ dX11_begins_50 (fun h26 => ?_)
        refine lv_sipush (v := 722) C.1 C.2.1 dX11_begins_53 (by decide) ?_
        refine lv_iconst (v := 2) C.1 C.2.1 dX11_begins_56 (by decide) ?_
        refine x_st C M (E' := [724]) (X := 722) (j := 722) h1 rfl (by omega) (by omega) rfl (Or.inr (show (1 : Int) ≤ _ ∧ _ ≤ (4 : Int) from ⟨by decide, by decide⟩)) (by decide) dX11_begins_57 (fun H locs I27 k29 f28 M => ?_)
        have F := fr_put F h1 (Or.inl (by decide)) f28
        refine lv_aload_n C.1 C.2.1 dX11_begins_58 rfl (lv_at hl 0 rfl) ?_
        refine x_gets C M h0_ dX11_begins_59 (fun h30 => ?_)
        refine lv_sipush (v := 723) C.1 C.2.1 dX11_begins_62 (by decide) ?_
        refine lv_iconst (v := 2) C.1 C.2.1 dX11_begins_65 (by decide) ?_
        refine x_st C M (E' := [724]) (X := 723) (j := 723) h1 rfl (by omega) (by omega) rfl (Or.inr (show (0 : Int) ≤ _ ∧ _ ≤ (20 : Int) from ⟨by decide, by decide⟩)) (by decide) dX11_begins_66 (fun H locs I31 k33 f32 M => ?_)
        have F := fr_put F h1 (Or.inl (by decide)) f32
        refine lv_aload_n C.1 C.2.1 dX11_begins_67 rfl (lv_at hl 0 rfl) ?_
        refine x_gets C M h0_ dX11_begins_68 (fun h34 => ?_)
        refine lv_sipush (v := 724) C.1 C.2.1 dX11_begins_71 (by decide) ?_
        refine lv_bipush (v := 20) C.1 C.2.1 dX11_begins_74 (by decide) ?_
        refine x_st C M (E' := []) (X := 724) (j := 724) h1 rfl (by omega) (by omega) rfl (Or.inr (show (1 : Int) ≤ _ ∧ _ ≤ (60 : Int) from ⟨by decide, by decide⟩)) (by decide) dX11_begins_76 (fun H locs I35 k37 f36 M => ?_)
        have F := fr_put F h1 (Or.inl (by decide)) f36
        have M := mm_of M
        refine lv_aload_n C.1 C.2.1 dX11_begins_77 rfl (lv_at hl 0 rfl) ?_
        refine lv_iconst (v := 0) C.1 C.2.1 dX11_begins_78 (by decide) ?_
        refine pi_X11_43 C M (X := 0) h0_ dX11_begins_79 rfl (by omega) (by omega) (fun H locs I38 k40 f39 M => ?_)
        have F := fr_put F h0_ (Or.inr (by decide)) f39
        refine lv_aload_n C.1 C.2.1 dX11_begins_82 rfl (lv_at hl 0 rfl) ?_
        refine gi_X11_19 C M h0_ dX11_begins_83 (fun h41 => ?_)
        refine lv_iconst (v := 0) C.1 C.2.1 dX11_begins_86 (by decide) ?_
        refine lv_iconst (v := 0) C.1 C.2.1 dX11_begins_87 (by decide) ?_
        refine a_stZ C M (X := 0) (V := 0) (j := 0) h41 (n := 2) (by decide) (by decide) rfl rfl rfl (by omega) (by omega) rfl rfl (by omega) (by omega) rfl dX11_begins_88 (fun H locs I42 k44 f43 M => ?_)
        have F := fr_put F h41 (Or.inl (by decide)) f43
        refine lv_aload_n C.1 C.2.1 dX11_begins_89 rfl (lv_at hl 0 rfl) ?_
        refine gi_X11_19 C M h0_ dX11_begins_90 (fun h45 => ?_)
        refine lv_iconst (v := 1) C.1 C.2.1 dX11_begins_93 (by decide) ?_
        refine lv_iconst (v := 0) C.1 C.2.1 dX11_begins_94 (by decide) ?_
        refine a_stZ C M (X := 1) (V := 0) (j := 1) h41 (n := 2) (by decide) (by decide) rfl rfl rfl (by omega) (by omega) rfl rfl (by omega) (by omega) rfl dX11_begins_95 (fun H locs I46 k48 f47 M => ?_)
        have F := fr_put F h41 (Or.inl (by decide)) f47
        have rk49 : (I46 (gr g a0 3) 0).toInt = 0 := congrArg Int32.toInt ((f47 (gr g a0 3) 0 (Or.inr (by decide))).trans k44)
        have rk50 : (I46 (gr g a0 3) 1).toInt = 0 := congrArg Int32.toInt k48
        have rk51 : (I46 (gr g a0 0) 717).toInt = u13.toInt := congrArg Int32.toInt ((f47 (gr g a0 0) 717 (Or.inl (is_ne h41 h1 (by decide)))).trans ((f43 (gr g a0 0) 717 (Or.inl (is_ne h41 h1 (by decide)))).trans ((f39 (gr g a0 0) 717 (Or.inl (is_ne h0_ h1 (by decide)))).trans ((f36 (gr g a0 0) 717 (Or.inr (by decide))).trans ((f32 (gr g a0 0) 717 (Or.inr (by decide))).trans ((f28 (gr g a0 0) 717 (Or.inr (by decide))).trans ((f24 (gr g a0 0) 717 (Or.inr (by decide))).trans ((f20 (gr g a0 0) 717 (Or.inr (by decide))).trans ((f16 (gr g a0 0) 717 (Or.inr (by decide))).trans ku13)))))))))
        have rk52 : (I46 (gr g a0 0) 715).toInt = x1.toInt := congrArg Int32.toInt ((f47 (gr g a0 0) 715 (Or.inl (is_ne h41 h1 (by decide)))).trans ((f43 (gr g a0 0) 715 (Or.inl (is_ne h41 h1 (by decide)))).trans ((f39 (gr g a0 0) 715 (Or.inl (is_ne h0_ h1 (by decide)))).trans ((f36 (gr g a0 0) 715 (Or.inr (by decide))).trans ((f32 (gr g a0 0) 715 (Or.inr (by decide))).trans ((f28 (gr g a0 0) 715 (Or.inr (by decide))).trans ((f24 (gr g a0 0) 715 (Or.inr (by decide))).trans ((f20 (gr g a0 0) 715 (Or.inr (by decide))).trans k17))))))))
        have rk53 : (I46 (gr g a0 0) 716).toInt = x2.toInt := congrArg Int32.toInt ((f47 (gr g a0 0) 716 (Or.inl (is_ne h41 h1 (by decide)))).trans ((f43 (gr g a0 0) 716 (Or.inl (is_ne h41 h1 (by decide)))).trans ((f39 (gr g a0 0) 716 (Or.inl (is_ne h0_ h1 (by decide)))).trans ((f36 (gr g a0 0) 716 (Or.inr (by decide))).trans ((f32 (gr g a0 0) 716 (Or.inr (by decide))).trans ((f28 (gr g a0 0) 716 (Or.inr (by decide))).trans ((f24 (gr g a0 0) 716 (Or.inr (by decide))).trans k21)))))))
        have rk54 : (I46 (gr g a0 0) 722).toInt = 2 := congrArg Int32.toInt ((f47 (gr g a0 0) 722 (Or.inl (is_ne h41 h1 (by decide)))).trans ((f43 (gr g a0 0) 722 (Or.inl (is_ne h41 h1 (by decide)))).trans ((f39 (gr g a0 0) 722 (Or.inl (is_ne h0_ h1 (by decide)))).trans ((f36 (gr g a0 0) 722 (Or.inr (by decide))).trans ((f32 (gr g a0 0) 722 (Or.inr (by decide))).trans k29)))))
        obtain ⟨u55, ku55⟩ : ∃ z : Int32, I46 (gr g a0 0) 718 = z := ⟨_, rfl⟩
        have tu55 : 0 ≤ u55.toInt ∧ u55.toInt ≤ 200 := m_rng M h1 718 ku55 rfl
        have rk56 : (I46 (gr g a0 0) 718).toInt = u55.toInt := congrArg Int32.toInt ku55
        obtain ⟨u57, ku57⟩ : ∃ z : Int32, I46 (gr g a0 0) 719 = z := ⟨_, rfl⟩
        have tu57 : 0 ≤ u57.toInt ∧ u57.toInt ≤ 200 := m_rng M h1 719 ku57 rfl
        have rk58 : (I46 (gr g a0 0) 719).toInt = u57.toInt := congrArg Int32.toInt ku57
        exact r_PV C M hr hlk F ⟨rfl, ⟨by omega, by omega, by omega, by omega, by omega⟩⟩ dX11_begins_96
      ·
        refine lv_aload_n C.1 C.2.1 dX11_begins_9 rfl (lv_at hl 0 rfl) ?_
        refine x_gets C M h0_ dX11_begins_10 (fun h59 => ?_)
        refine lv_iload_n C.1 C.2.1 dX11_begins_13 rfl (lv_at hl 3 rfl) ?_
        refine lv_iconst (v := 0) C.1 C.2.1 dX11_begins_14 (by decide) ?_
        refine x_st C M (E' := [715, 716, 722, 724]) h1 rfl (by omega) (by omega) rfl (x_zero (by omega)) (fun q hq => Or.inl hq) dX11_begins_15 (fun H locs I60 k62 f61 M => ?_)
        have F := fr_put F h1 (Or.inl (by decide)) f61
        refine n_iinc C (k := 3) (N := 1) (lv' := fun v => [(3, .int v), (0, .ref a0), (1, .int x1), (2, .int x2)]) dX11_begins_16 hl rfl (by decide) rfl rfl (by omega) (by omega) (fun _ => rfl) (fun v63 ls ev63 hl => ?_)
        refine lv_goto (tgt := 2) C.1 C.2.1 dX11_begins_19 (by decide) ?_
        exact ih2 v63 I60 _ _ _ (by omega) (by omega) (by intro h7; first | (exfalso; omega) | exact x_hz (congrArg Int32.toInt k62) f61 (fun w => hz (by omega))) (by omega) F M (lv_sub hl [1, 2, 3, 0] rfl)
  have cz64 : (0 : Int32).toInt = 0 := rfl
  exact L2 _ 0 I _ _ _ (by omega) (by omega) (by intro h7; first | (exfalso; omega) | exact x_hz (congrArg Int32.toInt ki7) hl (fun w => hz (by omega))) (n_big _) F M (lv_sub hl [1, 2, 3, 0] rfl)
