abbrev md_X11_must : List (Nat × Nat) := [(9, 16), (9, 17), (9, 18), (9, 20), (9, 21)]
set_option maxHeartbeats 4000000 in
set_option maxRecDepth 100000 in
theorem ct_X11_must (l : Launch) (g : Gs) (I : Ms) (J : Js) (a0 : Nat) (x1 : Int32) (h0_ : Is g a0 9) (g0 : 0 ≤ (I a0 20).toInt) (g1 : (I a0 16).toInt ≤ (I a0 14).toInt) (g2 : (I a0 15).toInt ≤ (I a0 16).toInt) (g3 : (I a0 17).toInt = 3 → (I a0 15).toInt < (I a0 16).toInt) : Ctr l yX11_must cX11_must 2 (Option.none : Option Jvm.ClassFile.FieldType) 3 g [.ref a0, .int x1] I J (PV g md_X11_must I (fun I1 J1 => (J1.1 = J.1 ∧ J1.2.1 = J.2.1) ∧ (0 ≤ (I1 a0 20).toInt ∧ (I1 a0 16).toInt ≤ (I1 a0 14).toInt ∧ (I1 a0 15).toInt ≤ (I1 a0 16).toInt ∧ ((I1 a0 17).toInt = 3 → (I1 a0 15).toInt < (I1 a0 16).toInt) ∧ (I1 a0 14).toInt = (I a0 14).toInt ∧ (I a0 15).toInt ≤ (I1 a0 15).toInt ∧ (0 < (I a0 20).toInt → (I1 a0 20).toInt = (I a0 20).toInt) ∧ ((I1 a0 20).toInt = 0 → (I a0 16).toInt ≤ (I1 a0 15).toInt ∧ (I a0 17).toInt = 3)))) := by
  refine m_start (by decide) (Nat.le_of_ble_eq_true rfl) ?_
  intro p e s m args below meth c C hr hlk M ls hl
  have hl : lv_has ls 2 [(0, .ref a0), (1, .int x1)] := hl
  have C : CallFix p m c cX11_must 2 s args TB RX11 := C
  have F : Fr g md_X11_must I I := fr_rf
  have hj2 : J.1 = J.1 ∧ J.2.1 = J.2.1 := ⟨rfl, rfl⟩
  have hQ0 := M.2.2.2.2.2.2.2
  obtain ⟨i1, ki1⟩ : ∃ z : Int32, I a0 20 = z := ⟨_, rfl⟩
  have ci1 : (I a0 20).toInt = i1.toInt := congrArg Int32.toInt ki1
  obtain ⟨i2, ki2⟩ : ∃ z : Int32, I a0 14 = z := ⟨_, rfl⟩
  have ti2 : 0 ≤ i2.toInt ∧ i2.toInt ≤ 264 := m_rng M h0_ 14 ki2 rfl
  have ci2 : (I a0 14).toInt = i2.toInt := congrArg Int32.toInt ki2
  obtain ⟨i3, ki3⟩ : ∃ z : Int32, I a0 15 = z := ⟨_, rfl⟩
  have ti3 : 0 ≤ i3.toInt ∧ i3.toInt ≤ 1000 := m_rng M h0_ 15 ki3 rfl
  have ci3 : (I a0 15).toInt = i3.toInt := congrArg Int32.toInt ki3
  obtain ⟨i4, ki4⟩ : ∃ z : Int32, I a0 16 = z := ⟨_, rfl⟩
  have ti4 : 0 ≤ i4.toInt ∧ i4.toInt ≤ 1000 := m_rng M h0_ 16 ki4 rfl
  have ci4 : (I a0 16).toInt = i4.toInt := congrArg Int32.toInt ki4
  obtain ⟨i5, ki5⟩ : ∃ z : Int32, I a0 17 = z := ⟨_, rfl⟩
  have ci5 : (I a0 17).toInt = i5.toInt := congrArg Int32.toInt ki5
  simp only [ci1, ci2, ci3, ci4, ci5] at g1 g0 g2 g3
  refine lv_aload_n C.1 C.2.1 dX11_must_0 rfl (lv_at hl 0 rfl) ?_
  refine gk_X11_198 C M h0_ ki1 dX11_must_1 ?_
  refine n_if_ne C (tgt := 28) dX11_must_4 (by decide) rfl (fun q6 => ?_) (fun q6 => ?_)
  ·
    refine lv_aload_n C.1 C.2.1 dX11_must_28 rfl (lv_at hl 0 rfl) ?_
    have em7 : (I a0 20).toInt = i1.toInt := congrArg Int32.toInt ki1
    have em8 : (I a0 14).toInt = i2.toInt := congrArg Int32.toInt ki2
    have em9 : (I a0 15).toInt = i3.toInt := congrArg Int32.toInt ki3
    have em10 : (I a0 16).toInt = i4.toInt := congrArg Int32.toInt ki4
    have em11 : (I a0 17).toInt = i5.toInt := congrArg Int32.toInt ki5
    refine k_PV C M h0_ (by decide) rfl (ct_X11_next l g I J a0 h0_ (by simp only [em7, em8, em9, em10, em11]; first | assumption | omega)) (cw_X11_245 C.2.2.2.2 (by decide)) rfl hl.1 rfl (Nat.le_of_ble_eq_true rfl) dX11_must_29 ⟨Nat.le_refl _, Nat.le_refl _⟩ (fun I12 J13 H locs G14 p15r M => ?_)
    obtain ⟨eJ13, p15⟩ : (J13.1 = J.1 ∧ J13.2.1 = J.2.1) ∧ ((I12 a0 20).toInt = (I a0 20).toInt ∧ (I12 a0 14).toInt = (I a0 14).toInt ∧ (0 < (I a0 20).toInt → (I12 a0 15).toInt = (I a0 15).toInt ∧ (I12 a0 16).toInt = (I a0 16).toInt ∧ (I12 a0 17).toInt = (I a0 17).toInt) ∧ ((I a0 20).toInt ≤ 0 → (I a0 16).toInt ≤ (I12 a0 15).toInt ∧ (I12 a0 15).toInt ≤ (I12 a0 16).toInt ∧ (I12 a0 16).toInt ≤ (I a0 14).toInt ∧ ((I12 a0 17).toInt = 3 → (I12 a0 15).toInt < (I12 a0 16).toInt))) := p15r
    have hj2 : J13.1 = J.1 ∧ J13.2.1 = J.2.1 := ⟨eJ13.1.trans hj2.1, eJ13.2.trans hj2.2⟩
    have em16 : (I12 a0 20).toInt = i1.toInt := congrArg Int32.toInt ((G14 a0 9 20 h0_ (by decide) (by decide)).trans ki1)
    have em17 : (I12 a0 14).toInt = i2.toInt := congrArg Int32.toInt ((G14 a0 9 14 h0_ (by decide) (by decide)).trans ki2)
    obtain ⟨u18, ku18⟩ : ∃ z : Int32, I12 a0 15 = z := ⟨_, rfl⟩
    have tu18 : 0 ≤ u18.toInt ∧ u18.toInt ≤ 1000 := m_rng M h0_ 15 ku18 rfl
    have em19 : (I12 a0 15).toInt = u18.toInt := congrArg Int32.toInt ku18
    obtain ⟨u20, ku20⟩ : ∃ z : Int32, I12 a0 16 = z := ⟨_, rfl⟩
    have tu20 : 0 ≤ u20.toInt ∧ u20.toInt ≤ 1000 := m_rng M h0_ 16 ku20 rfl
    have em21 : (I12 a0 16).toInt = u20.toInt := congrArg Int32.toInt ku20
    obtain ⟨u22, ku22⟩ : ∃ z : Int32, I12 a0 17 = z := ⟨_, rfl⟩
    have em23 : (I12 a0 17).toInt = u22.toInt := congrArg Int32.toInt ku22
    simp only [em7, em8, em9, em10, em11, em16, em17, em19, em21, em23] at p15
    have F := fr_call F G14 (by decide)
    have rk24 : (I12 a0 20).toInt = i1.toInt := congrArg Int32.toInt ((G14 a0 9 20 h0_ (by decide) (by decide)).trans ki1)
    have rk25 : (I12 a0 14).toInt = i2.toInt := congrArg Int32.toInt ((G14 a0 9 14 h0_ (by decide) (by decide)).trans ki2)
    have rk26 : (I12 a0 15).toInt = u18.toInt := congrArg Int32.toInt ku18
    have rk27 : (I12 a0 16).toInt = u20.toInt := congrArg Int32.toInt ku20
    have rk28 : (I12 a0 17).toInt = u22.toInt := congrArg Int32.toInt ku22
    exact r_PV C M hr hlk F ⟨hj2, ⟨by omega, by omega, by omega, by omega, by omega, by omega, by omega, by omega⟩⟩ dX11_must_32
  ·
    refine lv_aload_n C.1 C.2.1 dX11_must_7 rfl (lv_at hl 0 rfl) ?_
    refine gk_X11_210 C M h0_ ki5 dX11_must_8 ?_
    refine lv_iconst (v := 3) C.1 C.2.1 dX11_must_11 (by decide) ?_
    refine n_icmp_ne C (tgt := 23) (Y := 3) dX11_must_12 (by decide) rfl rfl (fun q29 => ?_) (fun q29 => ?_)
    ·
      refine lv_aload_n C.1 C.2.1 dX11_must_23 rfl (lv_at hl 0 rfl) ?_
      refine lv_iconst (v := 1) C.1 C.2.1 dX11_must_24 (by decide) ?_
      have em30 : (I a0 20).toInt = i1.toInt := congrArg Int32.toInt ki1
      refine k_PV C M h0_ (by decide) rfl (ct_X11_wrong l g I J a0 1 h0_ (by have : (1 : Int32).toInt = 1 := rfl; omega) (by have : (1 : Int32).toInt = 1 := rfl; omega)) (cw_X11_242 C.2.2.2.2 (by decide)) rfl hl.1 rfl (Nat.le_of_ble_eq_true rfl) dX11_must_25 ⟨Nat.le_refl _, Nat.le_refl _⟩ (fun I31 J32 H locs G33 p34r M => ?_)
      obtain ⟨eJ32, p34⟩ : J32 = J ∧ ((I31 a0 20).toInt ≠ 0 ∧ ((I a0 20).toInt ≠ 0 → (I31 a0 20).toInt = (I a0 20).toInt) ∧ ((I a0 20).toInt = 0 → 0 < (I31 a0 20).toInt)) := p34r
      have eJ32 := eJ32.symm
      subst eJ32
      obtain ⟨u35, ku35⟩ : ∃ z : Int32, I31 a0 20 = z := ⟨_, rfl⟩
      have em36 : (I31 a0 20).toInt = u35.toInt := congrArg Int32.toInt ku35
      simp only [em30, em36] at p34
      have F := fr_call F G33 (by decide)
      refine lv_aload_n C.1 C.2.1 dX11_must_28 rfl (lv_at hl 0 rfl) ?_
      have em37 : (I31 a0 20).toInt = u35.toInt := congrArg Int32.toInt ku35
      have em38 : (I31 a0 14).toInt = i2.toInt := congrArg Int32.toInt ((G33 a0 9 14 h0_ (by decide) (by decide)).trans ki2)
      have em39 : (I31 a0 15).toInt = i3.toInt := congrArg Int32.toInt ((G33 a0 9 15 h0_ (by decide) (by decide)).trans ki3)
      have em40 : (I31 a0 16).toInt = i4.toInt := congrArg Int32.toInt ((G33 a0 9 16 h0_ (by decide) (by decide)).trans ki4)
      have em41 : (I31 a0 17).toInt = i5.toInt := congrArg Int32.toInt ((G33 a0 9 17 h0_ (by decide) (by decide)).trans ki5)
      refine k_PV C M h0_ (by decide) rfl (ct_X11_next l g I31 J a0 h0_ (by simp only [em37, em38, em39, em40, em41]; first | assumption | omega)) (cw_X11_245 C.2.2.2.2 (by decide)) rfl hl.1 rfl (Nat.le_of_ble_eq_true rfl) dX11_must_29 ⟨Nat.le_refl _, Nat.le_refl _⟩ (fun I42 J43 H locs G44 p45r M => ?_)
      obtain ⟨eJ43, p45⟩ : (J43.1 = J.1 ∧ J43.2.1 = J.2.1) ∧ ((I42 a0 20).toInt = (I31 a0 20).toInt ∧ (I42 a0 14).toInt = (I31 a0 14).toInt ∧ (0 < (I31 a0 20).toInt → (I42 a0 15).toInt = (I31 a0 15).toInt ∧ (I42 a0 16).toInt = (I31 a0 16).toInt ∧ (I42 a0 17).toInt = (I31 a0 17).toInt) ∧ ((I31 a0 20).toInt ≤ 0 → (I31 a0 16).toInt ≤ (I42 a0 15).toInt ∧ (I42 a0 15).toInt ≤ (I42 a0 16).toInt ∧ (I42 a0 16).toInt ≤ (I31 a0 14).toInt ∧ ((I42 a0 17).toInt = 3 → (I42 a0 15).toInt < (I42 a0 16).toInt))) := p45r
      have hj2 : J43.1 = J.1 ∧ J43.2.1 = J.2.1 := ⟨eJ43.1.trans hj2.1, eJ43.2.trans hj2.2⟩
      have em46 : (I42 a0 20).toInt = u35.toInt := congrArg Int32.toInt ((G44 a0 9 20 h0_ (by decide) (by decide)).trans ku35)
      have em47 : (I42 a0 14).toInt = i2.toInt := congrArg Int32.toInt ((G44 a0 9 14 h0_ (by decide) (by decide)).trans ((G33 a0 9 14 h0_ (by decide) (by decide)).trans ki2))
      obtain ⟨u48, ku48⟩ : ∃ z : Int32, I42 a0 15 = z := ⟨_, rfl⟩
      have tu48 : 0 ≤ u48.toInt ∧ u48.toInt ≤ 1000 := m_rng M h0_ 15 ku48 rfl
      have em49 : (I42 a0 15).toInt = u48.toInt := congrArg Int32.toInt ku48
      obtain ⟨u50, ku50⟩ : ∃ z : Int32, I42 a0 16 = z := ⟨_, rfl⟩
      have tu50 : 0 ≤ u50.toInt ∧ u50.toInt ≤ 1000 := m_rng M h0_ 16 ku50 rfl
      have em51 : (I42 a0 16).toInt = u50.toInt := congrArg Int32.toInt ku50
      obtain ⟨u52, ku52⟩ : ∃ z : Int32, I42 a0 17 = z := ⟨_, rfl⟩
      have em53 : (I42 a0 17).toInt = u52.toInt := congrArg Int32.toInt ku52
      simp only [em37, em38, em39, em40, em41, em46, em47, em49, em51, em53] at p45
      have F := fr_call F G44 (by decide)
      have rk54 : (I42 a0 20).toInt = u35.toInt := congrArg Int32.toInt ((G44 a0 9 20 h0_ (by decide) (by decide)).trans ku35)
      have rk55 : (I42 a0 14).toInt = i2.toInt := congrArg Int32.toInt ((G44 a0 9 14 h0_ (by decide) (by decide)).trans ((G33 a0 9 14 h0_ (by decide) (by decide)).trans ki2))
      have rk56 : (I42 a0 15).toInt = u48.toInt := congrArg Int32.toInt ku48
      have rk57 : (I42 a0 16).toInt = u50.toInt := congrArg Int32.toInt ku50
      have rk58 : (I42 a0 17).toInt = u52.toInt := congrArg Int32.toInt ku52
      exact r_PV C M hr hlk F ⟨hj2, ⟨by omega, by omega, by omega, by omega, by omega, by omega, by omega, by omega⟩⟩ dX11_must_32
    ·
      refine lv_aload_n C.1 C.2.1 dX11_must_15 rfl (lv_at hl 0 rfl) ?_
      refine gi_X11_217 C M h0_ dX11_must_16 (fun v59 kv59 => ?_)
      have cv59 : (I a0 19).toInt = v59.toInt := congrArg Int32.toInt kv59
      refine lv_iload_n C.1 C.2.1 dX11_must_19 rfl (lv_at hl 1 rfl) ?_
      refine n_icmp_eq C (tgt := 28) dX11_must_20 (by decide) rfl rfl (fun q60 => ?_) (fun q60 => ?_)
      ·
        refine lv_aload_n C.1 C.2.1 dX11_must_28 rfl (lv_at hl 0 rfl) ?_
        have em61 : (I a0 20).toInt = i1.toInt := congrArg Int32.toInt ki1
        have em62 : (I a0 14).toInt = i2.toInt := congrArg Int32.toInt ki2
        have em63 : (I a0 15).toInt = i3.toInt := congrArg Int32.toInt ki3
        have em64 : (I a0 16).toInt = i4.toInt := congrArg Int32.toInt ki4
        have em65 : (I a0 17).toInt = i5.toInt := congrArg Int32.toInt ki5
        refine k_PV C M h0_ (by decide) rfl (ct_X11_next l g I J a0 h0_ (by simp only [em61, em62, em63, em64, em65]; first | assumption | omega)) (cw_X11_245 C.2.2.2.2 (by decide)) rfl hl.1 rfl (Nat.le_of_ble_eq_true rfl) dX11_must_29 ⟨Nat.le_refl _, Nat.le_refl _⟩ (fun I66 J67 H locs G68 p69r M => ?_)
        obtain ⟨eJ67, p69⟩ : (J67.1 = J.1 ∧ J67.2.1 = J.2.1) ∧ ((I66 a0 20).toInt = (I a0 20).toInt ∧ (I66 a0 14).toInt = (I a0 14).toInt ∧ (0 < (I a0 20).toInt → (I66 a0 15).toInt = (I a0 15).toInt ∧ (I66 a0 16).toInt = (I a0 16).toInt ∧ (I66 a0 17).toInt = (I a0 17).toInt) ∧ ((I a0 20).toInt ≤ 0 → (I a0 16).toInt ≤ (I66 a0 15).toInt ∧ (I66 a0 15).toInt ≤ (I66 a0 16).toInt ∧ (I66 a0 16).toInt ≤ (I a0 14).toInt ∧ ((I66 a0 17).toInt = 3 → (I66 a0 15).toInt < (I66 a0 16).toInt))) := p69r
        have hj2 : J67.1 = J.1 ∧ J67.2.1 = J.2.1 := ⟨eJ67.1.trans hj2.1, eJ67.2.trans hj2.2⟩
        have em70 : (I66 a0 20).toInt = i1.toInt := congrArg Int32.toInt ((G68 a0 9 20 h0_ (by decide) (by decide)).trans ki1)
        have em71 : (I66 a0 14).toInt = i2.toInt := congrArg Int32.toInt ((G68 a0 9 14 h0_ (by decide) (by decide)).trans ki2)
        obtain ⟨u72, ku72⟩ : ∃ z : Int32, I66 a0 15 = z := ⟨_, rfl⟩
        have tu72 : 0 ≤ u72.toInt ∧ u72.toInt ≤ 1000 := m_rng M h0_ 15 ku72 rfl
        have em73 : (I66 a0 15).toInt = u72.toInt := congrArg Int32.toInt ku72
        obtain ⟨u74, ku74⟩ : ∃ z : Int32, I66 a0 16 = z := ⟨_, rfl⟩
        have tu74 : 0 ≤ u74.toInt ∧ u74.toInt ≤ 1000 := m_rng M h0_ 16 ku74 rfl
        have em75 : (I66 a0 16).toInt = u74.toInt := congrArg Int32.toInt ku74
        obtain ⟨u76, ku76⟩ : ∃ z : Int32, I66 a0 17 = z := ⟨_, rfl⟩
        have em77 : (I66 a0 17).toInt = u76.toInt := congrArg Int32.toInt ku76
        simp only [em61, em62, em63, em64, em65, em70, em71, em73, em75, em77] at p69
        have F := fr_call F G68 (by decide)
        have rk78 : (I66 a0 20).toInt = i1.toInt := congrArg Int32.toInt ((G68 a0 9 20 h0_ (by decide) (by decide)).trans ki1)
        have rk79 : (I66 a0 14).toInt = i2.toInt := congrArg Int32.toInt ((G68 a0 9 14 h0_ (by decide) (by decide)).trans ki2)
        have rk80 : (I66 a0 15).toInt = u72.toInt := congrArg Int32.toInt ku72
        have rk81 : (I66 a0 16).toInt = u74.toInt := congrArg Int32.toInt ku74
        have rk82 : (I66 a0 17).toInt = u76.toInt := congrArg Int32.toInt ku76
        exact r_PV C M hr hlk F ⟨hj2, ⟨by omega, by omega, by omega, by omega, by omega, by omega, by omega, by omega⟩⟩ dX11_must_32
      ·
        refine lv_aload_n C.1 C.2.1 dX11_must_23 rfl (lv_at hl 0 rfl) ?_
        refine lv_iconst (v := 1) C.1 C.2.1 dX11_must_24 (by decide) ?_
        have em83 : (I a0 20).toInt = i1.toInt := congrArg Int32.toInt ki1
        refine k_PV C M h0_ (by decide) rfl (ct_X11_wrong l g I J a0 1 h0_ (by have : (1 : Int32).toInt = 1 := rfl; omega) (by have : (1 : Int32).toInt = 1 := rfl; omega)) (cw_X11_242 C.2.2.2.2 (by decide)) rfl hl.1 rfl (Nat.le_of_ble_eq_true rfl) dX11_must_25 ⟨Nat.le_refl _, Nat.le_refl _⟩ (fun I84 J85 H locs G86 p87r M => ?_)
        obtain ⟨eJ85, p87⟩ : J85 = J ∧ ((I84 a0 20).toInt ≠ 0 ∧ ((I a0 20).toInt ≠ 0 → (I84 a0 20).toInt = (I a0 20).toInt) ∧ ((I a0 20).toInt = 0 → 0 < (I84 a0 20).toInt)) := p87r
        have eJ85 := eJ85.symm
        subst eJ85
        obtain ⟨u88, ku88⟩ : ∃ z : Int32, I84 a0 20 = z := ⟨_, rfl⟩
        have em89 : (I84 a0 20).toInt = u88.toInt := congrArg Int32.toInt ku88
        simp only [em83, em89] at p87
        have F := fr_call F G86 (by decide)
        refine lv_aload_n C.1 C.2.1 dX11_must_28 rfl (lv_at hl 0 rfl) ?_
        have em90 : (I84 a0 20).toInt = u88.toInt := congrArg Int32.toInt ku88
        have em91 : (I84 a0 14).toInt = i2.toInt := congrArg Int32.toInt ((G86 a0 9 14 h0_ (by decide) (by decide)).trans ki2)
        have em92 : (I84 a0 15).toInt = i3.toInt := congrArg Int32.toInt ((G86 a0 9 15 h0_ (by decide) (by decide)).trans ki3)
        have em93 : (I84 a0 16).toInt = i4.toInt := congrArg Int32.toInt ((G86 a0 9 16 h0_ (by decide) (by decide)).trans ki4)
        have em94 : (I84 a0 17).toInt = i5.toInt := congrArg Int32.toInt ((G86 a0 9 17 h0_ (by decide) (by decide)).trans ki5)
        refine k_PV C M h0_ (by decide) rfl (ct_X11_next l g I84 J a0 h0_ (by simp only [em90, em91, em92, em93, em94]; first | assumption | omega)) (cw_X11_245 C.2.2.2.2 (by decide)) rfl hl.1 rfl (Nat.le_of_ble_eq_true rfl) dX11_must_29 ⟨Nat.le_refl _, Nat.le_refl _⟩ (fun I95 J96 H locs G97 p98r M => ?_)
        obtain ⟨eJ96, p98⟩ : (J96.1 = J.1 ∧ J96.2.1 = J.2.1) ∧ ((I95 a0 20).toInt = (I84 a0 20).toInt ∧ (I95 a0 14).toInt = (I84 a0 14).toInt ∧ (0 < (I84 a0 20).toInt → (I95 a0 15).toInt = (I84 a0 15).toInt ∧ (I95 a0 16).toInt = (I84 a0 16).toInt ∧ (I95 a0 17).toInt = (I84 a0 17).toInt) ∧ ((I84 a0 20).toInt ≤ 0 → (I84 a0 16).toInt ≤ (I95 a0 15).toInt ∧ (I95 a0 15).toInt ≤ (I95 a0 16).toInt ∧ (I95 a0 16).toInt ≤ (I84 a0 14).toInt ∧ ((I95 a0 17).toInt = 3 → (I95 a0 15).toInt < (I95 a0 16).toInt))) := p98r
        have hj2 : J96.1 = J.1 ∧ J96.2.1 = J.2.1 := ⟨eJ96.1.trans hj2.1, eJ96.2.trans hj2.2⟩
        have em99 : (I95 a0 20).toInt = u88.toInt := congrArg Int32.toInt ((G97 a0 9 20 h0_ (by decide) (by decide)).trans ku88)
        have em100 : (I95 a0 14).toInt = i2.toInt := congrArg Int32.toInt ((G97 a0 9 14 h0_ (by decide) (by decide)).trans ((G86 a0 9 14 h0_ (by decide) (by decide)).trans ki2))
        obtain ⟨u101, ku101⟩ : ∃ z : Int32, I95 a0 15 = z := ⟨_, rfl⟩
        have tu101 : 0 ≤ u101.toInt ∧ u101.toInt ≤ 1000 := m_rng M h0_ 15 ku101 rfl
        have em102 : (I95 a0 15).toInt = u101.toInt := congrArg Int32.toInt ku101
        obtain ⟨u103, ku103⟩ : ∃ z : Int32, I95 a0 16 = z := ⟨_, rfl⟩
        have tu103 : 0 ≤ u103.toInt ∧ u103.toInt ≤ 1000 := m_rng M h0_ 16 ku103 rfl
        have em104 : (I95 a0 16).toInt = u103.toInt := congrArg Int32.toInt ku103
        obtain ⟨u105, ku105⟩ : ∃ z : Int32, I95 a0 17 = z := ⟨_, rfl⟩
        have em106 : (I95 a0 17).toInt = u105.toInt := congrArg Int32.toInt ku105
        simp only [em90, em91, em92, em93, em94, em99, em100, em102, em104, em106] at p98
        have F := fr_call F G97 (by decide)
        have rk107 : (I95 a0 20).toInt = u88.toInt := congrArg Int32.toInt ((G97 a0 9 20 h0_ (by decide) (by decide)).trans ku88)
        have rk108 : (I95 a0 14).toInt = i2.toInt := congrArg Int32.toInt ((G97 a0 9 14 h0_ (by decide) (by decide)).trans ((G86 a0 9 14 h0_ (by decide) (by decide)).trans ki2))
        have rk109 : (I95 a0 15).toInt = u101.toInt := congrArg Int32.toInt ku101
        have rk110 : (I95 a0 16).toInt = u103.toInt := congrArg Int32.toInt ku103
        have rk111 : (I95 a0 17).toInt = u105.toInt := congrArg Int32.toInt ku105
        exact r_PV C M hr hlk F ⟨hj2, ⟨by omega, by omega, by omega, by omega, by omega, by omega, by omega, by omega⟩⟩ dX11_must_32

abbrev md_X11_numberTold : List (Nat × Nat) := [(9, 16), (9, 17), (9, 18), (9, 20), (9, 21)]
set_option maxHeartbeats 4000000 in
set_option maxRecDepth 100000 in
theorem ct_X11_numberTold (l : Launch) (g : Gs) (I : Ms) (J : Js) (a0 : Nat) (x1 : Int32) (h0_ : Is g a0 9) (g0 : 0 ≤ (I a0 20).toInt) (g1 : (I a0 16).toInt ≤ (I a0 14).toInt) (g2 : (I a0 15).toInt ≤ (I a0 16).toInt) (g3 : (I a0 17).toInt = 3 → (I a0 15).toInt < (I a0 16).toInt) : Ctr l yX11_numberTold cX11_numberTold 3 (Option.some Jvm.ClassFile.FieldType.int) 3 g [.ref a0, .int x1] I J (PM g md_X11_numberTold I (fun z I1 J1 => (J1.1 = J.1 ∧ J1.2.1 = J.2.1) ∧ (0 ≤ (I1 a0 20).toInt ∧ (I1 a0 16).toInt ≤ (I1 a0 14).toInt ∧ (I1 a0 15).toInt ≤ (I1 a0 16).toInt ∧ ((I1 a0 17).toInt = 3 → (I1 a0 15).toInt < (I1 a0 16).toInt) ∧ (I1 a0 14).toInt = (I a0 14).toInt ∧ (I a0 15).toInt ≤ (I1 a0 15).toInt ∧ (0 < (I a0 20).toInt → (I1 a0 20).toInt = (I a0 20).toInt) ∧ ((I1 a0 20).toInt = 0 → (I a0 16).toInt ≤ (I1 a0 15).toInt)))) := by
  refine m_start (by decide) (Nat.le_of_ble_eq_true rfl) ?_
  intro p e s m args below meth c C hr hlk M ls hl
  have hl : lv_has ls 3 [(0, .ref a0), (1, .int x1)] := hl
  have C : CallFix p m c cX11_numberTold 3 s args TB RX11 := C
  have F : Fr g md_X11_numberTold I I := fr_rf
  have hj2 : J.1 = J.1 ∧ J.2.1 = J.2.1 := ⟨rfl, rfl⟩
  have hQ0 := M.2.2.2.2.2.2.2
  obtain ⟨i1, ki1⟩ : ∃ z : Int32, I a0 20 = z := ⟨_, rfl⟩
  have ci1 : (I a0 20).toInt = i1.toInt := congrArg Int32.toInt ki1
  obtain ⟨i2, ki2⟩ : ∃ z : Int32, I a0 14 = z := ⟨_, rfl⟩
  have ti2 : 0 ≤ i2.toInt ∧ i2.toInt ≤ 264 := m_rng M h0_ 14 ki2 rfl
  have ci2 : (I a0 14).toInt = i2.toInt := congrArg Int32.toInt ki2
  obtain ⟨i3, ki3⟩ : ∃ z : Int32, I a0 15 = z := ⟨_, rfl⟩
  have ti3 : 0 ≤ i3.toInt ∧ i3.toInt ≤ 1000 := m_rng M h0_ 15 ki3 rfl
  have ci3 : (I a0 15).toInt = i3.toInt := congrArg Int32.toInt ki3
  obtain ⟨i4, ki4⟩ : ∃ z : Int32, I a0 16 = z := ⟨_, rfl⟩
  have ti4 : 0 ≤ i4.toInt ∧ i4.toInt ≤ 1000 := m_rng M h0_ 16 ki4 rfl
  have ci4 : (I a0 16).toInt = i4.toInt := congrArg Int32.toInt ki4
  obtain ⟨i5, ki5⟩ : ∃ z : Int32, I a0 17 = z := ⟨_, rfl⟩
  have ci5 : (I a0 17).toInt = i5.toInt := congrArg Int32.toInt ki5
  simp only [ci1, ci2, ci3, ci4, ci5] at g1 g0 g2 g3
  refine lv_aload_n C.1 C.2.1 dX11_numberTold_0 rfl (lv_at hl 0 rfl) ?_
  refine gk_X11_198 C M h0_ ki1 dX11_numberTold_1 ?_
  refine n_if_ne C (tgt := 20) dX11_numberTold_4 (by decide) rfl (fun q6 => ?_) (fun q6 => ?_)
  ·
    refine lv_aload_n C.1 C.2.1 dX11_numberTold_20 rfl (lv_at hl 0 rfl) ?_
    refine gk_X11_198 C M h0_ ki1 dX11_numberTold_21 ?_
    refine n_if_ne C (tgt := 40) dX11_numberTold_24 (by decide) rfl (fun q7 => ?_) (fun q7 => ?_)
    ·
      refine lv_aload_n C.1 C.2.1 dX11_numberTold_40 rfl (lv_at hl 0 rfl) ?_
      refine gi_X11_217 C M h0_ dX11_numberTold_41 (fun v8 kv8 => ?_)
      have cv8 : (I a0 19).toInt = v8.toInt := congrArg Int32.toInt kv8
      refine lv_istore_n (lv' := [(2, .int v8), (0, .ref a0), (1, .int x1)]) C.1 C.2.1 dX11_numberTold_44 rfl hl (by decide) rfl (fun ls hl => ?_)
      refine lv_aload_n C.1 C.2.1 dX11_numberTold_45 rfl (lv_at hl 1 rfl) ?_
      have em9 : (I a0 20).toInt = i1.toInt := congrArg Int32.toInt ki1
      have em10 : (I a0 14).toInt = i2.toInt := congrArg Int32.toInt ki2
      have em11 : (I a0 15).toInt = i3.toInt := congrArg Int32.toInt ki3
      have em12 : (I a0 16).toInt = i4.toInt := congrArg Int32.toInt ki4
      have em13 : (I a0 17).toInt = i5.toInt := congrArg Int32.toInt ki5
      refine k_PV C M h0_ (by decide) rfl (ct_X11_next l g I J a0 h0_ (by simp only [em9, em10, em11, em12, em13]; first | assumption | omega)) (cw_X11_245 C.2.2.2.2 (by decide)) rfl hl.1 rfl (Nat.le_of_ble_eq_true rfl) dX11_numberTold_46 ⟨Nat.le_refl _, Nat.le_refl _⟩ (fun I14 J15 H locs G16 p17r M => ?_)
      obtain ⟨eJ15, p17⟩ : (J15.1 = J.1 ∧ J15.2.1 = J.2.1) ∧ ((I14 a0 20).toInt = (I a0 20).toInt ∧ (I14 a0 14).toInt = (I a0 14).toInt ∧ (0 < (I a0 20).toInt → (I14 a0 15).toInt = (I a0 15).toInt ∧ (I14 a0 16).toInt = (I a0 16).toInt ∧ (I14 a0 17).toInt = (I a0 17).toInt) ∧ ((I a0 20).toInt ≤ 0 → (I a0 16).toInt ≤ (I14 a0 15).toInt ∧ (I14 a0 15).toInt ≤ (I14 a0 16).toInt ∧ (I14 a0 16).toInt ≤ (I a0 14).toInt ∧ ((I14 a0 17).toInt = 3 → (I14 a0 15).toInt < (I14 a0 16).toInt))) := p17r
      have hj2 : J15.1 = J.1 ∧ J15.2.1 = J.2.1 := ⟨eJ15.1.trans hj2.1, eJ15.2.trans hj2.2⟩
      have em18 : (I14 a0 20).toInt = i1.toInt := congrArg Int32.toInt ((G16 a0 9 20 h0_ (by decide) (by decide)).trans ki1)
      have em19 : (I14 a0 14).toInt = i2.toInt := congrArg Int32.toInt ((G16 a0 9 14 h0_ (by decide) (by decide)).trans ki2)
      obtain ⟨u20, ku20⟩ : ∃ z : Int32, I14 a0 15 = z := ⟨_, rfl⟩
      have tu20 : 0 ≤ u20.toInt ∧ u20.toInt ≤ 1000 := m_rng M h0_ 15 ku20 rfl
      have em21 : (I14 a0 15).toInt = u20.toInt := congrArg Int32.toInt ku20
      obtain ⟨u22, ku22⟩ : ∃ z : Int32, I14 a0 16 = z := ⟨_, rfl⟩
      have tu22 : 0 ≤ u22.toInt ∧ u22.toInt ≤ 1000 := m_rng M h0_ 16 ku22 rfl
      have em23 : (I14 a0 16).toInt = u22.toInt := congrArg Int32.toInt ku22
      obtain ⟨u24, ku24⟩ : ∃ z : Int32, I14 a0 17 = z := ⟨_, rfl⟩
      have em25 : (I14 a0 17).toInt = u24.toInt := congrArg Int32.toInt ku24
      simp only [em9, em10, em11, em12, em13, em18, em19, em21, em23, em25] at p17
      have F := fr_call F G16 (by decide)
      refine lv_iload_n C.1 C.2.1 dX11_numberTold_49 rfl (lv_at hl 0 rfl) ?_
      have rk26 : (I14 a0 20).toInt = i1.toInt := congrArg Int32.toInt ((G16 a0 9 20 h0_ (by decide) (by decide)).trans ki1)
      have rk27 : (I14 a0 14).toInt = i2.toInt := congrArg Int32.toInt ((G16 a0 9 14 h0_ (by decide) (by decide)).trans ki2)
      have rk28 : (I14 a0 15).toInt = u20.toInt := congrArg Int32.toInt ku20
      have rk29 : (I14 a0 16).toInt = u22.toInt := congrArg Int32.toInt ku22
      have rk30 : (I14 a0 17).toInt = u24.toInt := congrArg Int32.toInt ku24
      exact r_PM C M hr hlk F rfl ⟨hj2, ⟨by omega, by omega, by omega, by omega, by omega, by omega, by omega, by omega⟩⟩ dX11_numberTold_50
    ·
      refine lv_aload_n C.1 C.2.1 dX11_numberTold_27 rfl (lv_at hl 0 rfl) ?_
      refine gi_X11_217 C M h0_ dX11_numberTold_28 (fun v31 kv31 => ?_)
      have cv31 : (I a0 19).toInt = v31.toInt := congrArg Int32.toInt kv31
      refine lv_iload_n C.1 C.2.1 dX11_numberTold_31 rfl (lv_at hl 1 rfl) ?_
      refine n_icmp_le C (tgt := 40) dX11_numberTold_32 (by decide) rfl rfl (fun q32 => ?_) (fun q32 => ?_)
      ·
        refine lv_aload_n C.1 C.2.1 dX11_numberTold_40 rfl (lv_at hl 0 rfl) ?_
        refine gk_X11_217 C M h0_ kv31 dX11_numberTold_41 ?_
        refine lv_istore_n (lv' := [(2, .int v31), (0, .ref a0), (1, .int x1)]) C.1 C.2.1 dX11_numberTold_44 rfl hl (by decide) rfl (fun ls hl => ?_)
        refine lv_aload_n C.1 C.2.1 dX11_numberTold_45 rfl (lv_at hl 1 rfl) ?_
        have em33 : (I a0 20).toInt = i1.toInt := congrArg Int32.toInt ki1
        have em34 : (I a0 14).toInt = i2.toInt := congrArg Int32.toInt ki2
        have em35 : (I a0 15).toInt = i3.toInt := congrArg Int32.toInt ki3
        have em36 : (I a0 16).toInt = i4.toInt := congrArg Int32.toInt ki4
        have em37 : (I a0 17).toInt = i5.toInt := congrArg Int32.toInt ki5
        refine k_PV C M h0_ (by decide) rfl (ct_X11_next l g I J a0 h0_ (by simp only [em33, em34, em35, em36, em37]; first | assumption | omega)) (cw_X11_245 C.2.2.2.2 (by decide)) rfl hl.1 rfl (Nat.le_of_ble_eq_true rfl) dX11_numberTold_46 ⟨Nat.le_refl _, Nat.le_refl _⟩ (fun I38 J39 H locs G40 p41r M => ?_)
        obtain ⟨eJ39, p41⟩ : (J39.1 = J.1 ∧ J39.2.1 = J.2.1) ∧ ((I38 a0 20).toInt = (I a0 20).toInt ∧ (I38 a0 14).toInt = (I a0 14).toInt ∧ (0 < (I a0 20).toInt → (I38 a0 15).toInt = (I a0 15).toInt ∧ (I38 a0 16).toInt = (I a0 16).toInt ∧ (I38 a0 17).toInt = (I a0 17).toInt) ∧ ((I a0 20).toInt ≤ 0 → (I a0 16).toInt ≤ (I38 a0 15).toInt ∧ (I38 a0 15).toInt ≤ (I38 a0 16).toInt ∧ (I38 a0 16).toInt ≤ (I a0 14).toInt ∧ ((I38 a0 17).toInt = 3 → (I38 a0 15).toInt < (I38 a0 16).toInt))) := p41r
        have hj2 : J39.1 = J.1 ∧ J39.2.1 = J.2.1 := ⟨eJ39.1.trans hj2.1, eJ39.2.trans hj2.2⟩
        have em42 : (I38 a0 20).toInt = i1.toInt := congrArg Int32.toInt ((G40 a0 9 20 h0_ (by decide) (by decide)).trans ki1)
        have em43 : (I38 a0 14).toInt = i2.toInt := congrArg Int32.toInt ((G40 a0 9 14 h0_ (by decide) (by decide)).trans ki2)
        obtain ⟨u44, ku44⟩ : ∃ z : Int32, I38 a0 15 = z := ⟨_, rfl⟩
        have tu44 : 0 ≤ u44.toInt ∧ u44.toInt ≤ 1000 := m_rng M h0_ 15 ku44 rfl
        have em45 : (I38 a0 15).toInt = u44.toInt := congrArg Int32.toInt ku44
        obtain ⟨u46, ku46⟩ : ∃ z : Int32, I38 a0 16 = z := ⟨_, rfl⟩
        have tu46 : 0 ≤ u46.toInt ∧ u46.toInt ≤ 1000 := m_rng M h0_ 16 ku46 rfl
        have em47 : (I38 a0 16).toInt = u46.toInt := congrArg Int32.toInt ku46
        obtain ⟨u48, ku48⟩ : ∃ z : Int32, I38 a0 17 = z := ⟨_, rfl⟩
        have em49 : (I38 a0 17).toInt = u48.toInt := congrArg Int32.toInt ku48
        simp only [em33, em34, em35, em36, em37, em42, em43, em45, em47, em49] at p41
        have F := fr_call F G40 (by decide)
        refine lv_iload_n C.1 C.2.1 dX11_numberTold_49 rfl (lv_at hl 0 rfl) ?_
        have rk50 : (I38 a0 20).toInt = i1.toInt := congrArg Int32.toInt ((G40 a0 9 20 h0_ (by decide) (by decide)).trans ki1)
        have rk51 : (I38 a0 14).toInt = i2.toInt := congrArg Int32.toInt ((G40 a0 9 14 h0_ (by decide) (by decide)).trans ki2)
        have rk52 : (I38 a0 15).toInt = u44.toInt := congrArg Int32.toInt ku44
        have rk53 : (I38 a0 16).toInt = u46.toInt := congrArg Int32.toInt ku46
        have rk54 : (I38 a0 17).toInt = u48.toInt := congrArg Int32.toInt ku48
        exact r_PM C M hr hlk F rfl ⟨hj2, ⟨by omega, by omega, by omega, by omega, by omega, by omega, by omega, by omega⟩⟩ dX11_numberTold_50
      ·
        refine lv_aload_n C.1 C.2.1 dX11_numberTold_35 rfl (lv_at hl 0 rfl) ?_
        refine lv_iconst (v := 2) C.1 C.2.1 dX11_numberTold_36 (by decide) ?_
        have em55 : (I a0 20).toInt = i1.toInt := congrArg Int32.toInt ki1
        refine k_PV C M h0_ (by decide) rfl (ct_X11_wrong l g I J a0 2 h0_ (by have : (2 : Int32).toInt = 2 := rfl; omega) (by have : (2 : Int32).toInt = 2 := rfl; omega)) (cw_X11_242 C.2.2.2.2 (by decide)) rfl hl.1 rfl (Nat.le_of_ble_eq_true rfl) dX11_numberTold_37 ⟨Nat.le_refl _, Nat.le_refl _⟩ (fun I56 J57 H locs G58 p59r M => ?_)
        obtain ⟨eJ57, p59⟩ : J57 = J ∧ ((I56 a0 20).toInt ≠ 0 ∧ ((I a0 20).toInt ≠ 0 → (I56 a0 20).toInt = (I a0 20).toInt) ∧ ((I a0 20).toInt = 0 → 0 < (I56 a0 20).toInt)) := p59r
        have eJ57 := eJ57.symm
        subst eJ57
        obtain ⟨u60, ku60⟩ : ∃ z : Int32, I56 a0 20 = z := ⟨_, rfl⟩
        have em61 : (I56 a0 20).toInt = u60.toInt := congrArg Int32.toInt ku60
        simp only [em55, em61] at p59
        have F := fr_call F G58 (by decide)
        refine lv_aload_n C.1 C.2.1 dX11_numberTold_40 rfl (lv_at hl 0 rfl) ?_
        refine gk_X11_217 C M h0_ ((G58 a0 9 19 h0_ (by decide) (by decide)).trans kv31) dX11_numberTold_41 ?_
        refine lv_istore_n (lv' := [(2, .int v31), (0, .ref a0), (1, .int x1)]) C.1 C.2.1 dX11_numberTold_44 rfl hl (by decide) rfl (fun ls hl => ?_)
        refine lv_aload_n C.1 C.2.1 dX11_numberTold_45 rfl (lv_at hl 1 rfl) ?_
        have em62 : (I56 a0 20).toInt = u60.toInt := congrArg Int32.toInt ku60
        have em63 : (I56 a0 14).toInt = i2.toInt := congrArg Int32.toInt ((G58 a0 9 14 h0_ (by decide) (by decide)).trans ki2)
        have em64 : (I56 a0 15).toInt = i3.toInt := congrArg Int32.toInt ((G58 a0 9 15 h0_ (by decide) (by decide)).trans ki3)
        have em65 : (I56 a0 16).toInt = i4.toInt := congrArg Int32.toInt ((G58 a0 9 16 h0_ (by decide) (by decide)).trans ki4)
        have em66 : (I56 a0 17).toInt = i5.toInt := congrArg Int32.toInt ((G58 a0 9 17 h0_ (by decide) (by decide)).trans ki5)
        refine k_PV C M h0_ (by decide) rfl (ct_X11_next l g I56 J a0 h0_ (by simp only [em62, em63, em64, em65, em66]; first | assumption | omega)) (cw_X11_245 C.2.2.2.2 (by decide)) rfl hl.1 rfl (Nat.le_of_ble_eq_true rfl) dX11_numberTold_46 ⟨Nat.le_refl _, Nat.le_refl _⟩ (fun I67 J68 H locs G69 p70r M => ?_)
        obtain ⟨eJ68, p70⟩ : (J68.1 = J.1 ∧ J68.2.1 = J.2.1) ∧ ((I67 a0 20).toInt = (I56 a0 20).toInt ∧ (I67 a0 14).toInt = (I56 a0 14).toInt ∧ (0 < (I56 a0 20).toInt → (I67 a0 15).toInt = (I56 a0 15).toInt ∧ (I67 a0 16).toInt = (I56 a0 16).toInt ∧ (I67 a0 17).toInt = (I56 a0 17).toInt) ∧ ((I56 a0 20).toInt ≤ 0 → (I56 a0 16).toInt ≤ (I67 a0 15).toInt ∧ (I67 a0 15).toInt ≤ (I67 a0 16).toInt ∧ (I67 a0 16).toInt ≤ (I56 a0 14).toInt ∧ ((I67 a0 17).toInt = 3 → (I67 a0 15).toInt < (I67 a0 16).toInt))) := p70r
        have hj2 : J68.1 = J.1 ∧ J68.2.1 = J.2.1 := ⟨eJ68.1.trans hj2.1, eJ68.2.trans hj2.2⟩
        have em71 : (I67 a0 20).toInt = u60.toInt := congrArg Int32.toInt ((G69 a0 9 20 h0_ (by decide) (by decide)).trans ku60)
        have em72 : (I67 a0 14).toInt = i2.toInt := congrArg Int32.toInt ((G69 a0 9 14 h0_ (by decide) (by decide)).trans ((G58 a0 9 14 h0_ (by decide) (by decide)).trans ki2))
        obtain ⟨u73, ku73⟩ : ∃ z : Int32, I67 a0 15 = z := ⟨_, rfl⟩
        have tu73 : 0 ≤ u73.toInt ∧ u73.toInt ≤ 1000 := m_rng M h0_ 15 ku73 rfl
        have em74 : (I67 a0 15).toInt = u73.toInt := congrArg Int32.toInt ku73
        obtain ⟨u75, ku75⟩ : ∃ z : Int32, I67 a0 16 = z := ⟨_, rfl⟩
        have tu75 : 0 ≤ u75.toInt ∧ u75.toInt ≤ 1000 := m_rng M h0_ 16 ku75 rfl
        have em76 : (I67 a0 16).toInt = u75.toInt := congrArg Int32.toInt ku75
        obtain ⟨u77, ku77⟩ : ∃ z : Int32, I67 a0 17 = z := ⟨_, rfl⟩
        have em78 : (I67 a0 17).toInt = u77.toInt := congrArg Int32.toInt ku77
        simp only [em62, em63, em64, em65, em66, em71, em72, em74, em76, em78] at p70
        have F := fr_call F G69 (by decide)
        refine lv_iload_n C.1 C.2.1 dX11_numberTold_49 rfl (lv_at hl 0 rfl) ?_
        have rk79 : (I67 a0 20).toInt = u60.toInt := congrArg Int32.toInt ((G69 a0 9 20 h0_ (by decide) (by decide)).trans ku60)
        have rk80 : (I67 a0 14).toInt = i2.toInt := congrArg Int32.toInt ((G69 a0 9 14 h0_ (by decide) (by decide)).trans ((G58 a0 9 14 h0_ (by decide) (by decide)).trans ki2))
        have rk81 : (I67 a0 15).toInt = u73.toInt := congrArg Int32.toInt ku73
        have rk82 : (I67 a0 16).toInt = u75.toInt := congrArg Int32.toInt ku75
        have rk83 : (I67 a0 17).toInt = u77.toInt := congrArg Int32.toInt ku77
        exact r_PM C M hr hlk F rfl ⟨hj2, ⟨by omega, by omega, by omega, by omega, by omega, by omega, by omega, by omega⟩⟩ dX11_numberTold_50
  ·
    refine lv_aload_n C.1 C.2.1 dX11_numberTold_7 rfl (lv_at hl 0 rfl) ?_
    refine gk_X11_210 C M h0_ ki5 dX11_numberTold_8 ?_
    refine lv_iconst (v := 2) C.1 C.2.1 dX11_numberTold_11 (by decide) ?_
    refine n_icmp_eq C (tgt := 20) (Y := 2) dX11_numberTold_12 (by decide) rfl rfl (fun q84 => ?_) (fun q84 => ?_)
    ·
      refine lv_aload_n C.1 C.2.1 dX11_numberTold_20 rfl (lv_at hl 0 rfl) ?_
      refine gk_X11_198 C M h0_ ki1 dX11_numberTold_21 ?_
      refine n_if_ne C (tgt := 40) dX11_numberTold_24 (by decide) rfl (fun q85 => ?_) (fun q85 => ?_)
      ·
        exact absurd q85 (by omega)
      ·
        refine lv_aload_n C.1 C.2.1 dX11_numberTold_27 rfl (lv_at hl 0 rfl) ?_
        refine gi_X11_217 C M h0_ dX11_numberTold_28 (fun v86 kv86 => ?_)
        have cv86 : (I a0 19).toInt = v86.toInt := congrArg Int32.toInt kv86
        refine lv_iload_n C.1 C.2.1 dX11_numberTold_31 rfl (lv_at hl 1 rfl) ?_
        refine n_icmp_le C (tgt := 40) dX11_numberTold_32 (by decide) rfl rfl (fun q87 => ?_) (fun q87 => ?_)
        ·
          refine lv_aload_n C.1 C.2.1 dX11_numberTold_40 rfl (lv_at hl 0 rfl) ?_
          refine gk_X11_217 C M h0_ kv86 dX11_numberTold_41 ?_
          refine lv_istore_n (lv' := [(2, .int v86), (0, .ref a0), (1, .int x1)]) C.1 C.2.1 dX11_numberTold_44 rfl hl (by decide) rfl (fun ls hl => ?_)
          refine lv_aload_n C.1 C.2.1 dX11_numberTold_45 rfl (lv_at hl 1 rfl) ?_
          have em88 : (I a0 20).toInt = i1.toInt := congrArg Int32.toInt ki1
          have em89 : (I a0 14).toInt = i2.toInt := congrArg Int32.toInt ki2
          have em90 : (I a0 15).toInt = i3.toInt := congrArg Int32.toInt ki3
          have em91 : (I a0 16).toInt = i4.toInt := congrArg Int32.toInt ki4
          have em92 : (I a0 17).toInt = i5.toInt := congrArg Int32.toInt ki5
          refine k_PV C M h0_ (by decide) rfl (ct_X11_next l g I J a0 h0_ (by simp only [em88, em89, em90, em91, em92]; first | assumption | omega)) (cw_X11_245 C.2.2.2.2 (by decide)) rfl hl.1 rfl (Nat.le_of_ble_eq_true rfl) dX11_numberTold_46 ⟨Nat.le_refl _, Nat.le_refl _⟩ (fun I93 J94 H locs G95 p96r M => ?_)
          obtain ⟨eJ94, p96⟩ : (J94.1 = J.1 ∧ J94.2.1 = J.2.1) ∧ ((I93 a0 20).toInt = (I a0 20).toInt ∧ (I93 a0 14).toInt = (I a0 14).toInt ∧ (0 < (I a0 20).toInt → (I93 a0 15).toInt = (I a0 15).toInt ∧ (I93 a0 16).toInt = (I a0 16).toInt ∧ (I93 a0 17).toInt = (I a0 17).toInt) ∧ ((I a0 20).toInt ≤ 0 → (I a0 16).toInt ≤ (I93 a0 15).toInt ∧ (I93 a0 15).toInt ≤ (I93 a0 16).toInt ∧ (I93 a0 16).toInt ≤ (I a0 14).toInt ∧ ((I93 a0 17).toInt = 3 → (I93 a0 15).toInt < (I93 a0 16).toInt))) := p96r
          have hj2 : J94.1 = J.1 ∧ J94.2.1 = J.2.1 := ⟨eJ94.1.trans hj2.1, eJ94.2.trans hj2.2⟩
          have em97 : (I93 a0 20).toInt = i1.toInt := congrArg Int32.toInt ((G95 a0 9 20 h0_ (by decide) (by decide)).trans ki1)
          have em98 : (I93 a0 14).toInt = i2.toInt := congrArg Int32.toInt ((G95 a0 9 14 h0_ (by decide) (by decide)).trans ki2)
          obtain ⟨u99, ku99⟩ : ∃ z : Int32, I93 a0 15 = z := ⟨_, rfl⟩
          have tu99 : 0 ≤ u99.toInt ∧ u99.toInt ≤ 1000 := m_rng M h0_ 15 ku99 rfl
          have em100 : (I93 a0 15).toInt = u99.toInt := congrArg Int32.toInt ku99
          obtain ⟨u101, ku101⟩ : ∃ z : Int32, I93 a0 16 = z := ⟨_, rfl⟩
          have tu101 : 0 ≤ u101.toInt ∧ u101.toInt ≤ 1000 := m_rng M h0_ 16 ku101 rfl
          have em102 : (I93 a0 16).toInt = u101.toInt := congrArg Int32.toInt ku101
          obtain ⟨u103, ku103⟩ : ∃ z : Int32, I93 a0 17 = z := ⟨_, rfl⟩
          have em104 : (I93 a0 17).toInt = u103.toInt := congrArg Int32.toInt ku103
          simp only [em88, em89, em90, em91, em92, em97, em98, em100, em102, em104] at p96
          have F := fr_call F G95 (by decide)
          refine lv_iload_n C.1 C.2.1 dX11_numberTold_49 rfl (lv_at hl 0 rfl) ?_
          have rk105 : (I93 a0 20).toInt = i1.toInt := congrArg Int32.toInt ((G95 a0 9 20 h0_ (by decide) (by decide)).trans ki1)
          have rk106 : (I93 a0 14).toInt = i2.toInt := congrArg Int32.toInt ((G95 a0 9 14 h0_ (by decide) (by decide)).trans ki2)
          have rk107 : (I93 a0 15).toInt = u99.toInt := congrArg Int32.toInt ku99
          have rk108 : (I93 a0 16).toInt = u101.toInt := congrArg Int32.toInt ku101
          have rk109 : (I93 a0 17).toInt = u103.toInt := congrArg Int32.toInt ku103
          exact r_PM C M hr hlk F rfl ⟨hj2, ⟨by omega, by omega, by omega, by omega, by omega, by omega, by omega, by omega⟩⟩ dX11_numberTold_50
        ·
          refine lv_aload_n C.1 C.2.1 dX11_numberTold_35 rfl (lv_at hl 0 rfl) ?_
          refine lv_iconst (v := 2) C.1 C.2.1 dX11_numberTold_36 (by decide) ?_
          have em110 : (I a0 20).toInt = i1.toInt := congrArg Int32.toInt ki1
          refine k_PV C M h0_ (by decide) rfl (ct_X11_wrong l g I J a0 2 h0_ (by have : (2 : Int32).toInt = 2 := rfl; omega) (by have : (2 : Int32).toInt = 2 := rfl; omega)) (cw_X11_242 C.2.2.2.2 (by decide)) rfl hl.1 rfl (Nat.le_of_ble_eq_true rfl) dX11_numberTold_37 ⟨Nat.le_refl _, Nat.le_refl _⟩ (fun I111 J112 H locs G113 p114r M => ?_)
          obtain ⟨eJ112, p114⟩ : J112 = J ∧ ((I111 a0 20).toInt ≠ 0 ∧ ((I a0 20).toInt ≠ 0 → (I111 a0 20).toInt = (I a0 20).toInt) ∧ ((I a0 20).toInt = 0 → 0 < (I111 a0 20).toInt)) := p114r
          have eJ112 := eJ112.symm
          subst eJ112
          obtain ⟨u115, ku115⟩ : ∃ z : Int32, I111 a0 20 = z := ⟨_, rfl⟩
          have em116 : (I111 a0 20).toInt = u115.toInt := congrArg Int32.toInt ku115
          simp only [em110, em116] at p114
          have F := fr_call F G113 (by decide)
          refine lv_aload_n C.1 C.2.1 dX11_numberTold_40 rfl (lv_at hl 0 rfl) ?_
          refine gk_X11_217 C M h0_ ((G113 a0 9 19 h0_ (by decide) (by decide)).trans kv86) dX11_numberTold_41 ?_
          refine lv_istore_n (lv' := [(2, .int v86), (0, .ref a0), (1, .int x1)]) C.1 C.2.1 dX11_numberTold_44 rfl hl (by decide) rfl (fun ls hl => ?_)
          refine lv_aload_n C.1 C.2.1 dX11_numberTold_45 rfl (lv_at hl 1 rfl) ?_
          have em117 : (I111 a0 20).toInt = u115.toInt := congrArg Int32.toInt ku115
          have em118 : (I111 a0 14).toInt = i2.toInt := congrArg Int32.toInt ((G113 a0 9 14 h0_ (by decide) (by decide)).trans ki2)
          have em119 : (I111 a0 15).toInt = i3.toInt := congrArg Int32.toInt ((G113 a0 9 15 h0_ (by decide) (by decide)).trans ki3)
          have em120 : (I111 a0 16).toInt = i4.toInt := congrArg Int32.toInt ((G113 a0 9 16 h0_ (by decide) (by decide)).trans ki4)
          have em121 : (I111 a0 17).toInt = i5.toInt := congrArg Int32.toInt ((G113 a0 9 17 h0_ (by decide) (by decide)).trans ki5)
          refine k_PV C M h0_ (by decide) rfl (ct_X11_next l g I111 J a0 h0_ (by simp only [em117, em118, em119, em120, em121]; first | assumption | omega)) (cw_X11_245 C.2.2.2.2 (by decide)) rfl hl.1 rfl (Nat.le_of_ble_eq_true rfl) dX11_numberTold_46 ⟨Nat.le_refl _, Nat.le_refl _⟩ (fun I122 J123 H locs G124 p125r M => ?_)
          obtain ⟨eJ123, p125⟩ : (J123.1 = J.1 ∧ J123.2.1 = J.2.1) ∧ ((I122 a0 20).toInt = (I111 a0 20).toInt ∧ (I122 a0 14).toInt = (I111 a0 14).toInt ∧ (0 < (I111 a0 20).toInt → (I122 a0 15).toInt = (I111 a0 15).toInt ∧ (I122 a0 16).toInt = (I111 a0 16).toInt ∧ (I122 a0 17).toInt = (I111 a0 17).toInt) ∧ ((I111 a0 20).toInt ≤ 0 → (I111 a0 16).toInt ≤ (I122 a0 15).toInt ∧ (I122 a0 15).toInt ≤ (I122 a0 16).toInt ∧ (I122 a0 16).toInt ≤ (I111 a0 14).toInt ∧ ((I122 a0 17).toInt = 3 → (I122 a0 15).toInt < (I122 a0 16).toInt))) := p125r
          have hj2 : J123.1 = J.1 ∧ J123.2.1 = J.2.1 := ⟨eJ123.1.trans hj2.1, eJ123.2.trans hj2.2⟩
          have em126 : (I122 a0 20).toInt = u115.toInt := congrArg Int32.toInt ((G124 a0 9 20 h0_ (by decide) (by decide)).trans ku115)
          have em127 : (I122 a0 14).toInt = i2.toInt := congrArg Int32.toInt ((G124 a0 9 14 h0_ (by decide) (by decide)).trans ((G113 a0 9 14 h0_ (by decide) (by decide)).trans ki2))
          obtain ⟨u128, ku128⟩ : ∃ z : Int32, I122 a0 15 = z := ⟨_, rfl⟩
          have tu128 : 0 ≤ u128.toInt ∧ u128.toInt ≤ 1000 := m_rng M h0_ 15 ku128 rfl
          have em129 : (I122 a0 15).toInt = u128.toInt := congrArg Int32.toInt ku128
          obtain ⟨u130, ku130⟩ : ∃ z : Int32, I122 a0 16 = z := ⟨_, rfl⟩
          have tu130 : 0 ≤ u130.toInt ∧ u130.toInt ≤ 1000 := m_rng M h0_ 16 ku130 rfl
          have em131 : (I122 a0 16).toInt = u130.toInt := congrArg Int32.toInt ku130
          obtain ⟨u132, ku132⟩ : ∃ z : Int32, I122 a0 17 = z := ⟨_, rfl⟩
          have em133 : (I122 a0 17).toInt = u132.toInt := congrArg Int32.toInt ku132
          simp only [em117, em118, em119, em120, em121, em126, em127, em129, em131, em133] at p125
          have F := fr_call F G124 (by decide)
          refine lv_iload_n C.1 C.2.1 dX11_numberTold_49 rfl (lv_at hl 0 rfl) ?_
          have rk134 : (I122 a0 20).toInt = u115.toInt := congrArg Int32.toInt ((G124 a0 9 20 h0_ (by decide) (by decide)).trans ku115)
          have rk135 : (I122 a0 14).toInt = i2.toInt := congrArg Int32.toInt ((G124 a0 9 14 h0_ (by decide) (by decide)).trans ((G113 a0 9 14 h0_ (by decide) (by decide)).trans ki2))
          have rk136 : (I122 a0 15).toInt = u128.toInt := congrArg Int32.toInt ku128
          have rk137 : (I122 a0 16).toInt = u130.toInt := congrArg Int32.toInt ku130
          have rk138 : (I122 a0 17).toInt = u132.toInt := congrArg Int32.toInt ku132
          exact r_PM C M hr hlk F rfl ⟨hj2, ⟨by omega, by omega, by omega, by omega, by omega, by omega, by omega, by omega⟩⟩ dX11_numberTold_50
    ·
      refine lv_aload_n C.1 C.2.1 dX11_numberTold_15 rfl (lv_at hl 0 rfl) ?_
      refine lv_iconst (v := 1) C.1 C.2.1 dX11_numberTold_16 (by decide) ?_
      have em139 : (I a0 20).toInt = i1.toInt := congrArg Int32.toInt ki1
      refine k_PV C M h0_ (by decide) rfl (ct_X11_wrong l g I J a0 1 h0_ (by have : (1 : Int32).toInt = 1 := rfl; omega) (by have : (1 : Int32).toInt = 1 := rfl; omega)) (cw_X11_242 C.2.2.2.2 (by decide)) rfl hl.1 rfl (Nat.le_of_ble_eq_true rfl) dX11_numberTold_17 ⟨Nat.le_refl _, Nat.le_refl _⟩ (fun I140 J141 H locs G142 p143r M => ?_)
      obtain ⟨eJ141, p143⟩ : J141 = J ∧ ((I140 a0 20).toInt ≠ 0 ∧ ((I a0 20).toInt ≠ 0 → (I140 a0 20).toInt = (I a0 20).toInt) ∧ ((I a0 20).toInt = 0 → 0 < (I140 a0 20).toInt)) := p143r
      have eJ141 := eJ141.symm
      subst eJ141
      obtain ⟨u144, ku144⟩ : ∃ z : Int32, I140 a0 20 = z := ⟨_, rfl⟩
      have em145 : (I140 a0 20).toInt = u144.toInt := congrArg Int32.toInt ku144
      simp only [em139, em145] at p143
      have F := fr_call F G142 (by decide)
      refine lv_aload_n C.1 C.2.1 dX11_numberTold_20 rfl (lv_at hl 0 rfl) ?_
      refine gk_X11_198 C M h0_ ku144 dX11_numberTold_21 ?_
      refine n_if_ne C (tgt := 40) dX11_numberTold_24 (by decide) rfl (fun q146 => ?_) (fun q146 => ?_)
      ·
        refine lv_aload_n C.1 C.2.1 dX11_numberTold_40 rfl (lv_at hl 0 rfl) ?_
        refine gi_X11_217 C M h0_ dX11_numberTold_41 (fun v147 kv147 => ?_)
        have cv147 : (I140 a0 19).toInt = v147.toInt := congrArg Int32.toInt kv147
        refine lv_istore_n (lv' := [(2, .int v147), (0, .ref a0), (1, .int x1)]) C.1 C.2.1 dX11_numberTold_44 rfl hl (by decide) rfl (fun ls hl => ?_)
        refine lv_aload_n C.1 C.2.1 dX11_numberTold_45 rfl (lv_at hl 1 rfl) ?_
        have em148 : (I140 a0 20).toInt = u144.toInt := congrArg Int32.toInt ku144
        have em149 : (I140 a0 14).toInt = i2.toInt := congrArg Int32.toInt ((G142 a0 9 14 h0_ (by decide) (by decide)).trans ki2)
        have em150 : (I140 a0 15).toInt = i3.toInt := congrArg Int32.toInt ((G142 a0 9 15 h0_ (by decide) (by decide)).trans ki3)
        have em151 : (I140 a0 16).toInt = i4.toInt := congrArg Int32.toInt ((G142 a0 9 16 h0_ (by decide) (by decide)).trans ki4)
        have em152 : (I140 a0 17).toInt = i5.toInt := congrArg Int32.toInt ((G142 a0 9 17 h0_ (by decide) (by decide)).trans ki5)
        refine k_PV C M h0_ (by decide) rfl (ct_X11_next l g I140 J a0 h0_ (by simp only [em148, em149, em150, em151, em152]; first | assumption | omega)) (cw_X11_245 C.2.2.2.2 (by decide)) rfl hl.1 rfl (Nat.le_of_ble_eq_true rfl) dX11_numberTold_46 ⟨Nat.le_refl _, Nat.le_refl _⟩ (fun I153 J154 H locs G155 p156r M => ?_)
        obtain ⟨eJ154, p156⟩ : (J154.1 = J.1 ∧ J154.2.1 = J.2.1) ∧ ((I153 a0 20).toInt = (I140 a0 20).toInt ∧ (I153 a0 14).toInt = (I140 a0 14).toInt ∧ (0 < (I140 a0 20).toInt → (I153 a0 15).toInt = (I140 a0 15).toInt ∧ (I153 a0 16).toInt = (I140 a0 16).toInt ∧ (I153 a0 17).toInt = (I140 a0 17).toInt) ∧ ((I140 a0 20).toInt ≤ 0 → (I140 a0 16).toInt ≤ (I153 a0 15).toInt ∧ (I153 a0 15).toInt ≤ (I153 a0 16).toInt ∧ (I153 a0 16).toInt ≤ (I140 a0 14).toInt ∧ ((I153 a0 17).toInt = 3 → (I153 a0 15).toInt < (I153 a0 16).toInt))) := p156r
        have hj2 : J154.1 = J.1 ∧ J154.2.1 = J.2.1 := ⟨eJ154.1.trans hj2.1, eJ154.2.trans hj2.2⟩
        have em157 : (I153 a0 20).toInt = u144.toInt := congrArg Int32.toInt ((G155 a0 9 20 h0_ (by decide) (by decide)).trans ku144)
        have em158 : (I153 a0 14).toInt = i2.toInt := congrArg Int32.toInt ((G155 a0 9 14 h0_ (by decide) (by decide)).trans ((G142 a0 9 14 h0_ (by decide) (by decide)).trans ki2))
        obtain ⟨u159, ku159⟩ : ∃ z : Int32, I153 a0 15 = z := ⟨_, rfl⟩
        have tu159 : 0 ≤ u159.toInt ∧ u159.toInt ≤ 1000 := m_rng M h0_ 15 ku159 rfl
        have em160 : (I153 a0 15).toInt = u159.toInt := congrArg Int32.toInt ku159
        obtain ⟨u161, ku161⟩ : ∃ z : Int32, I153 a0 16 = z := ⟨_, rfl⟩
        have tu161 : 0 ≤ u161.toInt ∧ u161.toInt ≤ 1000 := m_rng M h0_ 16 ku161 rfl
        have em162 : (I153 a0 16).toInt = u161.toInt := congrArg Int32.toInt ku161
        obtain ⟨u163, ku163⟩ : ∃ z : Int32, I153 a0 17 = z := ⟨_, rfl⟩
        have em164 : (I153 a0 17).toInt = u163.toInt := congrArg Int32.toInt ku163
        simp only [em148, em149, em150, em151, em152, em157, em158, em160, em162, em164] at p156
        have F := fr_call F G155 (by decide)
        refine lv_iload_n C.1 C.2.1 dX11_numberTold_49 rfl (lv_at hl 0 rfl) ?_
        have rk165 : (I153 a0 20).toInt = u144.toInt := congrArg Int32.toInt ((G155 a0 9 20 h0_ (by decide) (by decide)).trans ku144)
        have rk166 : (I153 a0 14).toInt = i2.toInt := congrArg Int32.toInt ((G155 a0 9 14 h0_ (by decide) (by decide)).trans ((G142 a0 9 14 h0_ (by decide) (by decide)).trans ki2))
        have rk167 : (I153 a0 15).toInt = u159.toInt := congrArg Int32.toInt ku159
        have rk168 : (I153 a0 16).toInt = u161.toInt := congrArg Int32.toInt ku161
        have rk169 : (I153 a0 17).toInt = u163.toInt := congrArg Int32.toInt ku163
        exact r_PM C M hr hlk F rfl ⟨hj2, ⟨by omega, by omega, by omega, by omega, by omega, by omega, by omega, by omega⟩⟩ dX11_numberTold_50
      ·
        refine lv_aload_n C.1 C.2.1 dX11_numberTold_27 rfl (lv_at hl 0 rfl) ?_
        refine gi_X11_217 C M h0_ dX11_numberTold_28 (fun v170 kv170 => ?_)
        have cv170 : (I140 a0 19).toInt = v170.toInt := congrArg Int32.toInt kv170
        refine lv_iload_n C.1 C.2.1 dX11_numberTold_31 rfl (lv_at hl 1 rfl) ?_
        refine n_icmp_le C (tgt := 40) dX11_numberTold_32 (by decide) rfl rfl (fun q171 => ?_) (fun q171 => ?_)
        ·
          refine lv_aload_n C.1 C.2.1 dX11_numberTold_40 rfl (lv_at hl 0 rfl) ?_
          refine gk_X11_217 C M h0_ kv170 dX11_numberTold_41 ?_
          refine lv_istore_n (lv' := [(2, .int v170), (0, .ref a0), (1, .int x1)]) C.1 C.2.1 dX11_numberTold_44 rfl hl (by decide) rfl (fun ls hl => ?_)
          refine lv_aload_n C.1 C.2.1 dX11_numberTold_45 rfl (lv_at hl 1 rfl) ?_
          have em172 : (I140 a0 20).toInt = u144.toInt := congrArg Int32.toInt ku144
          have em173 : (I140 a0 14).toInt = i2.toInt := congrArg Int32.toInt ((G142 a0 9 14 h0_ (by decide) (by decide)).trans ki2)
          have em174 : (I140 a0 15).toInt = i3.toInt := congrArg Int32.toInt ((G142 a0 9 15 h0_ (by decide) (by decide)).trans ki3)
          have em175 : (I140 a0 16).toInt = i4.toInt := congrArg Int32.toInt ((G142 a0 9 16 h0_ (by decide) (by decide)).trans ki4)
          have em176 : (I140 a0 17).toInt = i5.toInt := congrArg Int32.toInt ((G142 a0 9 17 h0_ (by decide) (by decide)).trans ki5)
          refine k_PV C M h0_ (by decide) rfl (ct_X11_next l g I140 J a0 h0_ (by simp only [em172, em173, em174, em175, em176]; first | assumption | omega)) (cw_X11_245 C.2.2.2.2 (by decide)) rfl hl.1 rfl (Nat.le_of_ble_eq_true rfl) dX11_numberTold_46 ⟨Nat.le_refl _, Nat.le_refl _⟩ (fun I177 J178 H locs G179 p180r M => ?_)
          obtain ⟨eJ178, p180⟩ : (J178.1 = J.1 ∧ J178.2.1 = J.2.1) ∧ ((I177 a0 20).toInt = (I140 a0 20).toInt ∧ (I177 a0 14).toInt = (I140 a0 14).toInt ∧ (0 < (I140 a0 20).toInt → (I177 a0 15).toInt = (I140 a0 15).toInt ∧ (I177 a0 16).toInt = (I140 a0 16).toInt ∧ (I177 a0 17).toInt = (I140 a0 17).toInt) ∧ ((I140 a0 20).toInt ≤ 0 → (I140 a0 16).toInt ≤ (I177 a0 15).toInt ∧ (I177 a0 15).toInt ≤ (I177 a0 16).toInt ∧ (I177 a0 16).toInt ≤ (I140 a0 14).toInt ∧ ((I177 a0 17).toInt = 3 → (I177 a0 15).toInt < (I177 a0 16).toInt))) := p180r
          have hj2 : J178.1 = J.1 ∧ J178.2.1 = J.2.1 := ⟨eJ178.1.trans hj2.1, eJ178.2.trans hj2.2⟩
          have em181 : (I177 a0 20).toInt = u144.toInt := congrArg Int32.toInt ((G179 a0 9 20 h0_ (by decide) (by decide)).trans ku144)
          have em182 : (I177 a0 14).toInt = i2.toInt := congrArg Int32.toInt ((G179 a0 9 14 h0_ (by decide) (by decide)).trans ((G142 a0 9 14 h0_ (by decide) (by decide)).trans ki2))
          obtain ⟨u183, ku183⟩ : ∃ z : Int32, I177 a0 15 = z := ⟨_, rfl⟩
          have tu183 : 0 ≤ u183.toInt ∧ u183.toInt ≤ 1000 := m_rng M h0_ 15 ku183 rfl
          have em184 : (I177 a0 15).toInt = u183.toInt := congrArg Int32.toInt ku183
          obtain ⟨u185, ku185⟩ : ∃ z : Int32, I177 a0 16 = z := ⟨_, rfl⟩
          have tu185 : 0 ≤ u185.toInt ∧ u185.toInt ≤ 1000 := m_rng M h0_ 16 ku185 rfl
          have em186 : (I177 a0 16).toInt = u185.toInt := congrArg Int32.toInt ku185
          obtain ⟨u187, ku187⟩ : ∃ z : Int32, I177 a0 17 = z := ⟨_, rfl⟩
          have em188 : (I177 a0 17).toInt = u187.toInt := congrArg Int32.toInt ku187
          simp only [em172, em173, em174, em175, em176, em181, em182, em184, em186, em188] at p180
          have F := fr_call F G179 (by decide)
          refine lv_iload_n C.1 C.2.1 dX11_numberTold_49 rfl (lv_at hl 0 rfl) ?_
          have rk189 : (I177 a0 20).toInt = u144.toInt := congrArg Int32.toInt ((G179 a0 9 20 h0_ (by decide) (by decide)).trans ku144)
          have rk190 : (I177 a0 14).toInt = i2.toInt := congrArg Int32.toInt ((G179 a0 9 14 h0_ (by decide) (by decide)).trans ((G142 a0 9 14 h0_ (by decide) (by decide)).trans ki2))
          have rk191 : (I177 a0 15).toInt = u183.toInt := congrArg Int32.toInt ku183
          have rk192 : (I177 a0 16).toInt = u185.toInt := congrArg Int32.toInt ku185
          have rk193 : (I177 a0 17).toInt = u187.toInt := congrArg Int32.toInt ku187
          exact r_PM C M hr hlk F rfl ⟨hj2, ⟨by omega, by omega, by omega, by omega, by omega, by omega, by omega, by omega⟩⟩ dX11_numberTold_50
        ·
          refine lv_aload_n C.1 C.2.1 dX11_numberTold_35 rfl (lv_at hl 0 rfl) ?_
          refine lv_iconst (v := 2) C.1 C.2.1 dX11_numberTold_36 (by decide) ?_
          have em194 : (I140 a0 20).toInt = u144.toInt := congrArg Int32.toInt ku144
          refine k_PV C M h0_ (by decide) rfl (ct_X11_wrong l g I140 J a0 2 h0_ (by have : (2 : Int32).toInt = 2 := rfl; omega) (by have : (2 : Int32).toInt = 2 := rfl; omega)) (cw_X11_242 C.2.2.2.2 (by decide)) rfl hl.1 rfl (Nat.le_of_ble_eq_true rfl) dX11_numberTold_37 ⟨Nat.le_refl _, Nat.le_refl _⟩ (fun I195 J196 H locs G197 p198r M => ?_)
          obtain ⟨eJ196, p198⟩ : J196 = J ∧ ((I195 a0 20).toInt ≠ 0 ∧ ((I140 a0 20).toInt ≠ 0 → (I195 a0 20).toInt = (I140 a0 20).toInt) ∧ ((I140 a0 20).toInt = 0 → 0 < (I195 a0 20).toInt)) := p198r
          have eJ196 := eJ196.symm
          subst eJ196
          obtain ⟨u199, ku199⟩ : ∃ z : Int32, I195 a0 20 = z := ⟨_, rfl⟩
          have em200 : (I195 a0 20).toInt = u199.toInt := congrArg Int32.toInt ku199
          simp only [em194, em200] at p198
          have F := fr_call F G197 (by decide)
          refine lv_aload_n C.1 C.2.1 dX11_numberTold_40 rfl (lv_at hl 0 rfl) ?_
          refine gk_X11_217 C M h0_ ((G197 a0 9 19 h0_ (by decide) (by decide)).trans kv170) dX11_numberTold_41 ?_
          refine lv_istore_n (lv' := [(2, .int v170), (0, .ref a0), (1, .int x1)]) C.1 C.2.1 dX11_numberTold_44 rfl hl (by decide) rfl (fun ls hl => ?_)
          refine lv_aload_n C.1 C.2.1 dX11_numberTold_45 rfl (lv_at hl 1 rfl) ?_
          have em201 : (I195 a0 20).toInt = u199.toInt := congrArg Int32.toInt ku199
          have em202 : (I195 a0 14).toInt = i2.toInt := congrArg Int32.toInt ((G197 a0 9 14 h0_ (by decide) (by decide)).trans ((G142 a0 9 14 h0_ (by decide) (by decide)).trans ki2))
          have em203 : (I195 a0 15).toInt = i3.toInt := congrArg Int32.toInt ((G197 a0 9 15 h0_ (by decide) (by decide)).trans ((G142 a0 9 15 h0_ (by decide) (by decide)).trans ki3))
          have em204 : (I195 a0 16).toInt = i4.toInt := congrArg Int32.toInt ((G197 a0 9 16 h0_ (by decide) (by decide)).trans ((G142 a0 9 16 h0_ (by decide) (by decide)).trans ki4))
          have em205 : (I195 a0 17).toInt = i5.toInt := congrArg Int32.toInt ((G197 a0 9 17 h0_ (by decide) (by decide)).trans ((G142 a0 9 17 h0_ (by decide) (by decide)).trans ki5))
          refine k_PV C M h0_ (by decide) rfl (ct_X11_next l g I195 J a0 h0_ (by simp only [em201, em202, em203, em204, em205]; first | assumption | omega)) (cw_X11_245 C.2.2.2.2 (by decide)) rfl hl.1 rfl (Nat.le_of_ble_eq_true rfl) dX11_numberTold_46 ⟨Nat.le_refl _, Nat.le_refl _⟩ (fun I206 J207 H locs G208 p209r M => ?_)
          obtain ⟨eJ207, p209⟩ : (J207.1 = J.1 ∧ J207.2.1 = J.2.1) ∧ ((I206 a0 20).toInt = (I195 a0 20).toInt ∧ (I206 a0 14).toInt = (I195 a0 14).toInt ∧ (0 < (I195 a0 20).toInt → (I206 a0 15).toInt = (I195 a0 15).toInt ∧ (I206 a0 16).toInt = (I195 a0 16).toInt ∧ (I206 a0 17).toInt = (I195 a0 17).toInt) ∧ ((I195 a0 20).toInt ≤ 0 → (I195 a0 16).toInt ≤ (I206 a0 15).toInt ∧ (I206 a0 15).toInt ≤ (I206 a0 16).toInt ∧ (I206 a0 16).toInt ≤ (I195 a0 14).toInt ∧ ((I206 a0 17).toInt = 3 → (I206 a0 15).toInt < (I206 a0 16).toInt))) := p209r
          have hj2 : J207.1 = J.1 ∧ J207.2.1 = J.2.1 := ⟨eJ207.1.trans hj2.1, eJ207.2.trans hj2.2⟩
          have em210 : (I206 a0 20).toInt = u199.toInt := congrArg Int32.toInt ((G208 a0 9 20 h0_ (by decide) (by decide)).trans ku199)
          have em211 : (I206 a0 14).toInt = i2.toInt := congrArg Int32.toInt ((G208 a0 9 14 h0_ (by decide) (by decide)).trans ((G197 a0 9 14 h0_ (by decide) (by decide)).trans ((G142 a0 9 14 h0_ (by decide) (by decide)).trans ki2)))
          obtain ⟨u212, ku212⟩ : ∃ z : Int32, I206 a0 15 = z := ⟨_, rfl⟩
          have tu212 : 0 ≤ u212.toInt ∧ u212.toInt ≤ 1000 := m_rng M h0_ 15 ku212 rfl
          have em213 : (I206 a0 15).toInt = u212.toInt := congrArg Int32.toInt ku212
          obtain ⟨u214, ku214⟩ : ∃ z : Int32, I206 a0 16 = z := ⟨_, rfl⟩
          have tu214 : 0 ≤ u214.toInt ∧ u214.toInt ≤ 1000 := m_rng M h0_ 16 ku214 rfl
          have em215 : (I206 a0 16).toInt = u214.toInt := congrArg Int32.toInt ku214
          obtain ⟨u216, ku216⟩ : ∃ z : Int32, I206 a0 17 = z := ⟨_, rfl⟩
          have em217 : (I206 a0 17).toInt = u216.toInt := congrArg Int32.toInt ku216
          simp only [em201, em202, em203, em204, em205, em210, em211, em213, em215, em217] at p209
          have F := fr_call F G208 (by decide)
          refine lv_iload_n C.1 C.2.1 dX11_numberTold_49 rfl (lv_at hl 0 rfl) ?_
          have rk218 : (I206 a0 20).toInt = u199.toInt := congrArg Int32.toInt ((G208 a0 9 20 h0_ (by decide) (by decide)).trans ku199)
          have rk219 : (I206 a0 14).toInt = i2.toInt := congrArg Int32.toInt ((G208 a0 9 14 h0_ (by decide) (by decide)).trans ((G197 a0 9 14 h0_ (by decide) (by decide)).trans ((G142 a0 9 14 h0_ (by decide) (by decide)).trans ki2)))
          have rk220 : (I206 a0 15).toInt = u212.toInt := congrArg Int32.toInt ku212
          have rk221 : (I206 a0 16).toInt = u214.toInt := congrArg Int32.toInt ku214
          have rk222 : (I206 a0 17).toInt = u216.toInt := congrArg Int32.toInt ku216
          exact r_PM C M hr hlk F rfl ⟨hj2, ⟨by omega, by omega, by omega, by omega, by omega, by omega, by omega, by omega⟩⟩ dX11_numberTold_50
