abbrev md_X11_next : List (Nat × Nat) := [(9, 16), (9, 17), (9, 18), (9, 20)]
set_option maxHeartbeats 4000000 in
set_option maxRecDepth 100000 in
theorem ct_X11_next (l : Launch) (g : Gs) (I : Ms) (J : Js) (a0 : Nat) (h0_ : Is g a0 9) (g0 : (I a0 16).toInt ≤ (I a0 14).toInt) : Ctr l yX11_next cX11_next 3 (Option.none : Option Jvm.ClassFile.FieldType) 2 g [.ref a0] I J (PV g md_X11_next I (fun I1 J1 => (J1.1 = J.1 ∧ J1.2.1 = J.2.1) ∧ ((I1 a0 20).toInt = (I a0 20).toInt ∧ (I1 a0 14).toInt = (I a0 14).toInt ∧ (0 < (I a0 20).toInt → (I1 a0 15).toInt = (I a0 15).toInt ∧ (I1 a0 16).toInt = (I a0 16).toInt ∧ (I1 a0 17).toInt = (I a0 17).toInt) ∧ ((I a0 20).toInt ≤ 0 → (I a0 16).toInt ≤ (I1 a0 15).toInt ∧ (I1 a0 15).toInt ≤ (I1 a0 16).toInt ∧ (I1 a0 16).toInt ≤ (I a0 14).toInt ∧ ((I1 a0 17).toInt = 3 → (I1 a0 15).toInt < (I1 a0 16).toInt))))) := by
  refine m_start (by decide) (Nat.le_of_ble_eq_true rfl) ?_
  intro p e s m args below meth c C hr hlk M ls hl
  have hl : lv_has ls 3 [(0, .ref a0)] := hl
  have C : CallFix p m c cX11_next 3 s args TB RX11 := C
  have F : Fr g md_X11_next I I := fr_rf
  have hj2 : J.1 = J.1 ∧ J.2.1 = J.2.1 := ⟨rfl, rfl⟩
  have hQ0 := M.2.2.2.2.2.2.2
  obtain ⟨i1, ki1⟩ : ∃ z : Int32, I a0 20 = z := ⟨_, rfl⟩
  have ci1 : (I a0 20).toInt = i1.toInt := congrArg Int32.toInt ki1
  obtain ⟨i2, ki2⟩ : ∃ z : Int32, I a0 14 = z := ⟨_, rfl⟩
  have ti2 : 0 ≤ i2.toInt ∧ i2.toInt ≤ 264 := m_rng M h0_ 14 ki2 rfl
  have ci2 : (I a0 14).toInt = i2.toInt := congrArg Int32.toInt ki2
  obtain ⟨i3, ki3⟩ : ∃ z : Int32, I a0 15 = z := ⟨_, rfl⟩
  have ti3 : 0 ≤ i3.toInt ∧ i3.toInt ≤ 1000 := m_rng M h0_ 15 ki3 rfl
  have ci3 : (I a0 15).toInt = i3.toInt := congrArg Int32.toInt ki3
  obtain ⟨i4, ki4⟩ : ∃ z : Int32, I a0 16 = z := ⟨_, rfl⟩
  have ti4 : 0 ≤ i4.toInt ∧ i4.toInt ≤ 1000 := m_rng M h0_ 16 ki4 rfl
  have ci4 : (I a0 16).toInt = i4.toInt := congrArg Int32.toInt ki4
  obtain ⟨i5, ki5⟩ : ∃ z : Int32, I a0 17 = z := ⟨_, rfl⟩
  have ci5 : (I a0 17).toInt = i5.toInt := congrArg Int32.toInt ki5
  simp only [ci1, ci2, ci3, ci4, ci5] at g0
  refine lv_aload_n C.1 C.2.1 dX11_next_0 rfl (lv_at hl 0 rfl) ?_
  refine gk_X11_198 C M h0_ ki1 dX11_next_1 ?_
  refine n_if_le C (tgt := 8) dX11_next_4 (by decide) rfl (fun q6 => ?_) (fun q6 => ?_)
  ·
    refine lv_aload_n C.1 C.2.1 dX11_next_8 rfl (lv_at hl 0 rfl) ?_
    refine gk_X11_201 C M h0_ ki4 dX11_next_9 ?_
    refine lv_istore_n (lv' := [(1, .int i4), (0, .ref a0)]) C.1 C.2.1 dX11_next_12 rfl hl (by decide) rfl (fun ls hl => ?_)
    have L13 : ∀ (n13 : Nat) (y7 : Int32) (H : Heap) (locs : List Loc) (ls : Array Slot), 0 ≤ y7.toInt → y7.toInt ≤ 264 → i4.toInt ≤ y7.toInt → y7.toInt ≤ i2.toInt → i2.toInt - y7.toInt < (n13 : Int) → Mm g s I J H locs → lv_has ls 3 [(0, .ref a0), (1, .int y7)] → W p l e (rmL 2) s m args below meth c H locs 0 0 (MQg below g (PV g md_X11_next I (fun I1 J1 => (J1.1 = J.1 ∧ J1.2.1 = J.2.1) ∧ ((I1 a0 20).toInt = (I a0 20).toInt ∧ (I1 a0 14).toInt = (I a0 14).toInt ∧ (0 < (I a0 20).toInt → (I1 a0 15).toInt = (I a0 15).toInt ∧ (I1 a0 16).toInt = (I a0 16).toInt ∧ (I1 a0 17).toInt = (I a0 17).toInt) ∧ ((I a0 20).toInt ≤ 0 → (I a0 16).toInt ≤ (I1 a0 15).toInt ∧ (I1 a0 15).toInt ≤ (I1 a0 16).toInt ∧ (I1 a0 16).toInt ≤ (I a0 14).toInt ∧ ((I1 a0 17).toInt = 3 → (I1 a0 15).toInt < (I1 a0 16).toInt))))) args s) (F0 m 13 ls []) := by
      intro n13
      induction n13 with
      | zero =>
        intro y7 H locs ls f8 f9 f10 f11 hm13 M hl
        exact absurd hm13 (by omega)
      | succ n13 ih13 =>
        intro y7 H locs ls f8 f9 f10 f11 hm13 M hl
        refine lv_aload_n C.1 C.2.1 dX11_next_13 rfl (lv_at hl 0 rfl) ?_
        refine lv_iload_n C.1 C.2.1 dX11_next_14 rfl (lv_at hl 1 rfl) ?_
        have em12 : (I a0 14).toInt = i2.toInt := congrArg Int32.toInt ki2
        refine k_PI C M h0_ (by decide) rfl (ct_X11_byteAt l g I J a0 y7 h0_ (by omega)) (cw_X11_204 C.2.2.2.2 (by decide)) rfl hl.1 rfl (Nat.le_of_ble_eq_true rfl) dX11_next_15 ⟨Nat.le_refl _, Nat.le_refl _⟩ (fun r13 H locs p14r M => ?_)
        have p14 : ((I a0 14).toInt ≤ y7.toInt → r13.toInt = -1) ∧ (y7.toInt < (I a0 14).toInt → 0 ≤ r13.toInt ∧ r13.toInt ≤ 255) := p14r
        simp only [em12] at p14
        have p14 : (i2.toInt ≤ y7.toInt → r13.toInt = -1) ∧ (y7.toInt < i2.toInt → 0 ≤ r13.toInt ∧ r13.toInt ≤ 255) := p14
        refine lv_bipush (v := 32) C.1 C.2.1 dX11_next_18 (by decide) ?_
        refine n_icmp_ne C (tgt := 29) (Y := 32) dX11_next_20 (by decide) rfl rfl (fun q15 => ?_) (fun q15 => ?_)
        ·
          refine lv_aload_n C.1 C.2.1 dX11_next_29 rfl (lv_at hl 0 rfl) ?_
          refine lv_iload_n C.1 C.2.1 dX11_next_30 rfl (lv_at hl 1 rfl) ?_
          refine pi_X11_207 C M h0_ dX11_next_31 rfl (by omega) (by omega) (fun H locs I16 k18 f17 M => ?_)
          have F := fr_put F h0_ (Or.inr (by decide)) f17
          refine lv_aload_n C.1 C.2.1 dX11_next_34 rfl (lv_at hl 0 rfl) ?_
          refine lv_iload_n C.1 C.2.1 dX11_next_35 rfl (lv_at hl 1 rfl) ?_
          refine lv_iconst (v := 1) C.1 C.2.1 dX11_next_36 (by decide) ?_
          refine n_iadd C (Y := 1) dX11_next_37 rfl rfl (by omega) (by omega) (fun v19 ev19 => ?_)
          refine pi_X11_201 C M h0_ dX11_next_38 rfl (by omega) (by omega) (fun H locs I20 k22 f21 M => ?_)
          have F := fr_put F h0_ (Or.inr (by decide)) f21
          refine lv_aload_n C.1 C.2.1 dX11_next_41 rfl (lv_at hl 0 rfl) ?_
          refine lv_iload_n C.1 C.2.1 dX11_next_42 rfl (lv_at hl 1 rfl) ?_
          have em23 : (I20 a0 14).toInt = i2.toInt := congrArg Int32.toInt ((f21 a0 14 (Or.inr (by decide))).trans ((f17 a0 14 (Or.inr (by decide))).trans ki2))
          refine k_PI C M h0_ (by decide) rfl (ct_X11_byteAt l g I20 J a0 y7 h0_ (by omega)) (cw_X11_204 C.2.2.2.2 (by decide)) rfl hl.1 rfl (Nat.le_of_ble_eq_true rfl) dX11_next_43 ⟨Nat.le_refl _, Nat.le_refl _⟩ (fun r24 H locs p25r M => ?_)
          have p25 : ((I20 a0 14).toInt ≤ y7.toInt → r24.toInt = -1) ∧ (y7.toInt < (I20 a0 14).toInt → 0 ≤ r24.toInt ∧ r24.toInt ≤ 255) := p25r
          simp only [em23] at p25
          have p25 : (i2.toInt ≤ y7.toInt → r24.toInt = -1) ∧ (y7.toInt < i2.toInt → 0 ≤ r24.toInt ∧ r24.toInt ≤ 255) := p25
          refine lv_istore_n (lv' := [(2, .int r24), (0, .ref a0), (1, .int y7)]) C.1 C.2.1 dX11_next_46 rfl hl (by decide) rfl (fun ls hl => ?_)
          refine lv_aload_n C.1 C.2.1 dX11_next_47 rfl (lv_at hl 1 rfl) ?_
          refine lv_iconst (v := 4) C.1 C.2.1 dX11_next_48 (by decide) ?_
          refine pi_X11_210 C M h0_ dX11_next_49 (fun H locs I26 k28 f27 M => ?_)
          have F := fr_put F h0_ (Or.inr (by decide)) f27
          refine lv_aload_n C.1 C.2.1 dX11_next_52 rfl (lv_at hl 1 rfl) ?_
          refine lv_lconst (v := 0) C.1 C.2.1 dX11_next_53 rfl ?_
          refine m_putl C M h0_ dX11_next_54 (fun H locs J29 eJ29 M => ?_)
          have hj2 : J29.1 = J.1 ∧ J29.2.1 = J.2.1 := ⟨eJ29.1.trans hj2.1, eJ29.2.trans hj2.2⟩
          refine lv_aload_n C.1 C.2.1 dX11_next_57 rfl (lv_at hl 1 rfl) ?_
          refine lv_iconst (v := 0) C.1 C.2.1 dX11_next_58 (by decide) ?_
          refine pi_X11_217 C M h0_ dX11_next_59 (fun H locs I30 k32 f31 M => ?_)
          have F := fr_put F h0_ (Or.inr (by decide)) f31
          refine lv_iload_n C.1 C.2.1 dX11_next_62 rfl (lv_at hl 0 rfl) ?_
          refine lv_iconst (v := -1) C.1 C.2.1 dX11_next_63 (by decide) ?_
          refine n_icmp_ne C (tgt := 80) (Y := (-1)) dX11_next_64 (by decide) rfl rfl (fun q33 => ?_) (fun q33 => ?_)
          ·
            refine lv_iload_n C.1 C.2.1 dX11_next_80 rfl (lv_at hl 0 rfl) ?_
            refine ks_PI C M (ct_X11_isSmall l g I30 J29 r24) (cw_X11_220 C.2.2.2.2 (by decide)) rfl hl.1 rfl (Nat.le_of_ble_eq_true rfl) dX11_next_81 ⟨Nat.le_refl _, Nat.le_refl _⟩ (fun r34 H locs p35r M => ?_)
            have p35 : 0 ≤ r34.toInt ∧ r34.toInt ≤ 1 ∧ (r34.toInt = 1 ↔ 97 ≤ r24.toInt ∧ r24.toInt ≤ 122) := p35r
            refine n_if_eq C (tgt := 161) dX11_next_84 (by decide) rfl (fun q36 => ?_) (fun q36 => ?_)
            ·
              refine lv_iload_n C.1 C.2.1 dX11_next_161 rfl (lv_at hl 0 rfl) ?_
              refine ks_PI C M (ct_X11_isDigit l g I30 J29 r24) (cw_X11_225 C.2.2.2.2 (by decide)) rfl hl.1 rfl (Nat.le_of_ble_eq_true rfl) dX11_next_162 ⟨Nat.le_refl _, Nat.le_refl _⟩ (fun r37 H locs p38r M => ?_)
              have p38 : 0 ≤ r37.toInt ∧ r37.toInt ≤ 1 ∧ (r37.toInt = 1 ↔ 48 ≤ r24.toInt ∧ r24.toInt ≤ 57) := p38r
              refine n_if_eq C (tgt := 243) dX11_next_165 (by decide) rfl (fun q39 => ?_) (fun q39 => ?_)
              ·
                refine lv_iload_n C.1 C.2.1 dX11_next_243 rfl (lv_at hl 0 rfl) ?_
                refine lv_bipush (v := 59) C.1 C.2.1 dX11_next_244 (by decide) ?_
                refine n_icmp_eq C (tgt := 261) (Y := 59) dX11_next_246 (by decide) rfl rfl (fun q40 => ?_) (fun q40 => ?_)
                ·
                  refine lv_aload_n C.1 C.2.1 dX11_next_261 rfl (lv_at hl 1 rfl) ?_
                  refine lv_iconst (v := 3) C.1 C.2.1 dX11_next_262 (by decide) ?_
                  refine pi_X11_210 C M h0_ dX11_next_263 (fun H locs I41 k43 f42 M => ?_)
                  have F := fr_put F h0_ (Or.inr (by decide)) f42
                  refine lv_aload_n C.1 C.2.1 dX11_next_266 rfl (lv_at hl 1 rfl) ?_
                  refine lv_iload_n C.1 C.2.1 dX11_next_267 rfl (lv_at hl 0 rfl) ?_
                  refine pi_X11_217 C M h0_ dX11_next_268 (fun H locs I44 k46 f45 M => ?_)
                  have F := fr_put F h0_ (Or.inr (by decide)) f45
                  have rk47 : (I44 a0 20).toInt = i1.toInt := congrArg Int32.toInt ((f45 a0 20 (Or.inr (by decide))).trans ((f42 a0 20 (Or.inr (by decide))).trans ((f31 a0 20 (Or.inr (by decide))).trans ((f27 a0 20 (Or.inr (by decide))).trans ((f21 a0 20 (Or.inr (by decide))).trans ((f17 a0 20 (Or.inr (by decide))).trans ki1))))))
                  have rk48 : (I44 a0 14).toInt = i2.toInt := congrArg Int32.toInt ((f45 a0 14 (Or.inr (by decide))).trans ((f42 a0 14 (Or.inr (by decide))).trans ((f31 a0 14 (Or.inr (by decide))).trans ((f27 a0 14 (Or.inr (by decide))).trans ((f21 a0 14 (Or.inr (by decide))).trans ((f17 a0 14 (Or.inr (by decide))).trans ki2))))))
                  have rk49 : (I44 a0 15).toInt = y7.toInt := congrArg Int32.toInt ((f45 a0 15 (Or.inr (by decide))).trans ((f42 a0 15 (Or.inr (by decide))).trans ((f31 a0 15 (Or.inr (by decide))).trans ((f27 a0 15 (Or.inr (by decide))).trans ((f21 a0 15 (Or.inr (by decide))).trans k18)))))
                  have rk50 : (I44 a0 16).toInt = v19.toInt := congrArg Int32.toInt ((f45 a0 16 (Or.inr (by decide))).trans ((f42 a0 16 (Or.inr (by decide))).trans ((f31 a0 16 (Or.inr (by decide))).trans ((f27 a0 16 (Or.inr (by decide))).trans k22))))
                  have rk51 : (I44 a0 17).toInt = 3 := congrArg Int32.toInt ((f45 a0 17 (Or.inr (by decide))).trans k43)
                  exact r_PV C M hr hlk F ⟨hj2, ⟨by omega, by omega, by omega, by omega⟩⟩ dX11_next_271
                ·
                  refine lv_iload_n C.1 C.2.1 dX11_next_249 rfl (lv_at hl 0 rfl) ?_
                  refine lv_bipush (v := 91) C.1 C.2.1 dX11_next_250 (by decide) ?_
                  refine n_icmp_eq C (tgt := 261) (Y := 91) dX11_next_252 (by decide) rfl rfl (fun q52 => ?_) (fun q52 => ?_)
                  ·
                    refine lv_aload_n C.1 C.2.1 dX11_next_261 rfl (lv_at hl 1 rfl) ?_
                    refine lv_iconst (v := 3) C.1 C.2.1 dX11_next_262 (by decide) ?_
                    refine pi_X11_210 C M h0_ dX11_next_263 (fun H locs I53 k55 f54 M => ?_)
                    have F := fr_put F h0_ (Or.inr (by decide)) f54
                    refine lv_aload_n C.1 C.2.1 dX11_next_266 rfl (lv_at hl 1 rfl) ?_
                    refine lv_iload_n C.1 C.2.1 dX11_next_267 rfl (lv_at hl 0 rfl) ?_
                    refine pi_X11_217 C M h0_ dX11_next_268 (fun H locs I56 k58 f57 M => ?_)
                    have F := fr_put F h0_ (Or.inr (by decide)) f57
                    have rk59 : (I56 a0 20).toInt = i1.toInt := congrArg Int32.toInt ((f57 a0 20 (Or.inr (by decide))).trans ((f54 a0 20 (Or.inr (by decide))).trans ((f31 a0 20 (Or.inr (by decide))).trans ((f27 a0 20 (Or.inr (by decide))).trans ((f21 a0 20 (Or.inr (by decide))).trans ((f17 a0 20 (Or.inr (by decide))).trans ki1))))))
                    have rk60 : (I56 a0 14).toInt = i2.toInt := congrArg Int32.toInt ((f57 a0 14 (Or.inr (by decide))).trans ((f54 a0 14 (Or.inr (by decide))).trans ((f31 a0 14 (Or.inr (by decide))).trans ((f27 a0 14 (Or.inr (by decide))).trans ((f21 a0 14 (Or.inr (by decide))).trans ((f17 a0 14 (Or.inr (by decide))).trans ki2))))))
                    have rk61 : (I56 a0 15).toInt = y7.toInt := congrArg Int32.toInt ((f57 a0 15 (Or.inr (by decide))).trans ((f54 a0 15 (Or.inr (by decide))).trans ((f31 a0 15 (Or.inr (by decide))).trans ((f27 a0 15 (Or.inr (by decide))).trans ((f21 a0 15 (Or.inr (by decide))).trans k18)))))
                    have rk62 : (I56 a0 16).toInt = v19.toInt := congrArg Int32.toInt ((f57 a0 16 (Or.inr (by decide))).trans ((f54 a0 16 (Or.inr (by decide))).trans ((f31 a0 16 (Or.inr (by decide))).trans ((f27 a0 16 (Or.inr (by decide))).trans k22))))
                    have rk63 : (I56 a0 17).toInt = 3 := congrArg Int32.toInt ((f57 a0 17 (Or.inr (by decide))).trans k55)
                    exact r_PV C M hr hlk F ⟨hj2, ⟨by omega, by omega, by omega, by omega⟩⟩ dX11_next_271
                  ·
                    refine lv_iload_n C.1 C.2.1 dX11_next_255 rfl (lv_at hl 0 rfl) ?_
                    refine lv_bipush (v := 93) C.1 C.2.1 dX11_next_256 (by decide) ?_
                    refine n_icmp_ne C (tgt := 271) (Y := 93) dX11_next_258 (by decide) rfl rfl (fun q64 => ?_) (fun q64 => ?_)
                    ·
                      have rk65 : (I30 a0 20).toInt = i1.toInt := congrArg Int32.toInt ((f31 a0 20 (Or.inr (by decide))).trans ((f27 a0 20 (Or.inr (by decide))).trans ((f21 a0 20 (Or.inr (by decide))).trans ((f17 a0 20 (Or.inr (by decide))).trans ki1))))
                      have rk66 : (I30 a0 14).toInt = i2.toInt := congrArg Int32.toInt ((f31 a0 14 (Or.inr (by decide))).trans ((f27 a0 14 (Or.inr (by decide))).trans ((f21 a0 14 (Or.inr (by decide))).trans ((f17 a0 14 (Or.inr (by decide))).trans ki2))))
                      have rk67 : (I30 a0 15).toInt = y7.toInt := congrArg Int32.toInt ((f31 a0 15 (Or.inr (by decide))).trans ((f27 a0 15 (Or.inr (by decide))).trans ((f21 a0 15 (Or.inr (by decide))).trans k18)))
                      have rk68 : (I30 a0 16).toInt = v19.toInt := congrArg Int32.toInt ((f31 a0 16 (Or.inr (by decide))).trans ((f27 a0 16 (Or.inr (by decide))).trans k22))
                      have rk69 : (I30 a0 17).toInt = 4 := congrArg Int32.toInt ((f31 a0 17 (Or.inr (by decide))).trans k28)
                      exact r_PV C M hr hlk F ⟨hj2, ⟨by omega, by omega, by omega, by omega⟩⟩ dX11_next_271
                    ·
                      refine lv_aload_n C.1 C.2.1 dX11_next_261 rfl (lv_at hl 1 rfl) ?_
                      refine lv_iconst (v := 3) C.1 C.2.1 dX11_next_262 (by decide) ?_
                      refine pi_X11_210 C M h0_ dX11_next_263 (fun H locs I70 k72 f71 M => ?_)
                      have F := fr_put F h0_ (Or.inr (by decide)) f71
                      refine lv_aload_n C.1 C.2.1 dX11_next_266 rfl (lv_at hl 1 rfl) ?_
                      refine lv_iload_n C.1 C.2.1 dX11_next_267 rfl (lv_at hl 0 rfl) ?_
                      refine pi_X11_217 C M h0_ dX11_next_268 (fun H locs I73 k75 f74 M => ?_)
                      have F := fr_put F h0_ (Or.inr (by decide)) f74
                      have rk76 : (I73 a0 20).toInt = i1.toInt := congrArg Int32.toInt ((f74 a0 20 (Or.inr (by decide))).trans ((f71 a0 20 (Or.inr (by decide))).trans ((f31 a0 20 (Or.inr (by decide))).trans ((f27 a0 20 (Or.inr (by decide))).trans ((f21 a0 20 (Or.inr (by decide))).trans ((f17 a0 20 (Or.inr (by decide))).trans ki1))))))
                      have rk77 : (I73 a0 14).toInt = i2.toInt := congrArg Int32.toInt ((f74 a0 14 (Or.inr (by decide))).trans ((f71 a0 14 (Or.inr (by decide))).trans ((f31 a0 14 (Or.inr (by decide))).trans ((f27 a0 14 (Or.inr (by decide))).trans ((f21 a0 14 (Or.inr (by decide))).trans ((f17 a0 14 (Or.inr (by decide))).trans ki2))))))
                      have rk78 : (I73 a0 15).toInt = y7.toInt := congrArg Int32.toInt ((f74 a0 15 (Or.inr (by decide))).trans ((f71 a0 15 (Or.inr (by decide))).trans ((f31 a0 15 (Or.inr (by decide))).trans ((f27 a0 15 (Or.inr (by decide))).trans ((f21 a0 15 (Or.inr (by decide))).trans k18)))))
                      have rk79 : (I73 a0 16).toInt = v19.toInt := congrArg Int32.toInt ((f74 a0 16 (Or.inr (by decide))).trans ((f71 a0 16 (Or.inr (by decide))).trans ((f31 a0 16 (Or.inr (by decide))).trans ((f27 a0 16 (Or.inr (by decide))).trans k22))))
                      have rk80 : (I73 a0 17).toInt = 3 := congrArg Int32.toInt ((f74 a0 17 (Or.inr (by decide))).trans k72)
                      exact r_PV C M hr hlk F ⟨hj2, ⟨by omega, by omega, by omega, by omega⟩⟩ dX11_next_271
              ·
                refine lv_aload_n C.1 C.2.1 dX11_next_168 rfl (lv_at hl 1 rfl) ?_
                refine lv_iconst (v := 2) C.1 C.2.1 dX11_next_169 (by decide) ?_
                refine pi_X11_210 C M h0_ dX11_next_170 (fun H locs I81 k83 f82 M => ?_)
                have F := fr_put F h0_ (Or.inr (by decide)) f82
                refine lv_aload_n C.1 C.2.1 dX11_next_173 rfl (lv_at hl 1 rfl) ?_
                refine lv_iload_n C.1 C.2.1 dX11_next_174 rfl (lv_at hl 2 rfl) ?_
                refine pi_X11_201 C M h0_ dX11_next_175 rfl (by omega) (by omega) (fun H locs I84 k86 f85 M => ?_)
                have F := fr_put F h0_ (Or.inr (by decide)) f85
                have L178 : ∀ (n178 : Nat) (I87 : Ms) (H : Heap) (locs : List Loc) (ls : Array Slot), I87 a0 17 = 2 → I87 a0 15 = y7 → I87 a0 14 = i2 → I87 a0 20 = i1 → y7.toInt ≤ (I87 a0 16).toInt → (I87 a0 16).toInt ≤ i2.toInt → i2.toInt - (I87 a0 16).toInt < (n178 : Int) → Fr g md_X11_next I I87 → Mm g s I87 J29 H locs → lv_has ls 3 [(0, .ref a0), (1, .int y7)] → W p l e (rmL 2) s m args below meth c H locs 0 0 (MQg below g (PV g md_X11_next I (fun I1 J1 => (J1.1 = J.1 ∧ J1.2.1 = J.2.1) ∧ ((I1 a0 20).toInt = (I a0 20).toInt ∧ (I1 a0 14).toInt = (I a0 14).toInt ∧ (0 < (I a0 20).toInt → (I1 a0 15).toInt = (I a0 15).toInt ∧ (I1 a0 16).toInt = (I a0 16).toInt ∧ (I1 a0 17).toInt = (I a0 17).toInt) ∧ ((I a0 20).toInt ≤ 0 → (I a0 16).toInt ≤ (I1 a0 15).toInt ∧ (I1 a0 15).toInt ≤ (I1 a0 16).toInt ∧ (I1 a0 16).toInt ≤ (I a0 14).toInt ∧ ((I1 a0 17).toInt = 3 → (I1 a0 15).toInt < (I1 a0 16).toInt))))) args s) (F0 m 178 ls []) := by
                  intro n178
                  induction n178 with
                  | zero =>
                    intro I87 H locs ls k88 k89 k90 k91 f92 f93 hm178 F M hl
                    exact absurd hm178 (by omega)
                  | succ n178 ih178 =>
                    intro I87 H locs ls k88 k89 k90 k91 f92 f93 hm178 F M hl
                    refine lv_aload_n C.1 C.2.1 dX11_next_178 rfl (lv_at hl 0 rfl) ?_
                    refine lv_aload_n C.1 C.2.1 dX11_next_179 rfl (lv_at hl 0 rfl) ?_
                    refine gi_X11_201 C M h0_ dX11_next_180 (fun v94 kv94 tv94 uv94 => ?_)
                    have cv94 : (I87 a0 16).toInt = v94.toInt := congrArg Int32.toInt kv94
                    have em95 : (I87 a0 14).toInt = i2.toInt := congrArg Int32.toInt k90
                    refine k_PI C M h0_ (by decide) rfl (ct_X11_byteAt l g I87 J29 a0 v94 h0_ (by omega)) (cw_X11_204 C.2.2.2.2 (by decide)) rfl hl.1 rfl (Nat.le_of_ble_eq_true rfl) dX11_next_183 ⟨Nat.le_refl _, Nat.le_refl _⟩ (fun r96 H locs p97r M => ?_)
                    have p97 : ((I87 a0 14).toInt ≤ v94.toInt → r96.toInt = -1) ∧ (v94.toInt < (I87 a0 14).toInt → 0 ≤ r96.toInt ∧ r96.toInt ≤ 255) := p97r
                    simp only [em95] at p97
                    have p97 : (i2.toInt ≤ v94.toInt → r96.toInt = -1) ∧ (v94.toInt < i2.toInt → 0 ≤ r96.toInt ∧ r96.toInt ≤ 255) := p97
                    refine ks_PI C M (ct_X11_isDigit l g I87 J29 r96) (cw_X11_225 C.2.2.2.2 (by decide)) rfl hl.1 rfl (Nat.le_of_ble_eq_true rfl) dX11_next_186 ⟨Nat.le_refl _, Nat.le_refl _⟩ (fun r98 H locs p99r M => ?_)
                    have p99 : 0 ≤ r98.toInt ∧ r98.toInt ≤ 1 ∧ (r98.toInt = 1 ↔ 48 ≤ r96.toInt ∧ r96.toInt ≤ 57) := p99r
                    refine n_if_eq C (tgt := 271) dX11_next_189 (by decide) rfl (fun q100 => ?_) (fun q100 => ?_)
                    ·
                      have rk101 : (I87 a0 20).toInt = i1.toInt := congrArg Int32.toInt k91
                      have rk102 : (I87 a0 14).toInt = i2.toInt := congrArg Int32.toInt k90
                      have rk103 : (I87 a0 15).toInt = y7.toInt := congrArg Int32.toInt k89
                      have rk104 : (I87 a0 16).toInt = v94.toInt := congrArg Int32.toInt kv94
                      have rk105 : (I87 a0 17).toInt = 2 := congrArg Int32.toInt k88
                      exact r_PV C M hr hlk F ⟨hj2, ⟨by omega, by omega, by omega, by omega⟩⟩ dX11_next_271
                    ·
                      refine lv_aload_n C.1 C.2.1 dX11_next_192 rfl (lv_at hl 0 rfl) ?_
                      refine lv_aload_n C.1 C.2.1 dX11_next_193 rfl (lv_at hl 0 rfl) ?_
                      refine gk_X11_201 C M h0_ kv94 dX11_next_194 ?_
                      refine lv_iload_n C.1 C.2.1 dX11_next_197 rfl (lv_at hl 1 rfl) ?_
                      refine n_isub C dX11_next_198 rfl rfl (by omega) (by omega) (fun v106 ev106 => ?_)
                      refine lv_iconst (v := 4) C.1 C.2.1 dX11_next_199 (by decide) ?_
                      have J227 : ∀ (w107 : Int32) (H : Heap) (locs : List Loc) (ls : Array Slot), Mm g s I87 J29 H locs → lv_has ls 3 [(0, .ref a0), (1, .int y7)] → W p l e (rmL 2) s m args below meth c H locs 0 0 (MQg below g (PV g md_X11_next I (fun I1 J1 => (J1.1 = J.1 ∧ J1.2.1 = J.2.1) ∧ ((I1 a0 20).toInt = (I a0 20).toInt ∧ (I1 a0 14).toInt = (I a0 14).toInt ∧ (0 < (I a0 20).toInt → (I1 a0 15).toInt = (I a0 15).toInt ∧ (I1 a0 16).toInt = (I a0 16).toInt ∧ (I1 a0 17).toInt = (I a0 17).toInt) ∧ ((I a0 20).toInt ≤ 0 → (I a0 16).toInt ≤ (I1 a0 15).toInt ∧ (I1 a0 15).toInt ≤ (I1 a0 16).toInt ∧ (I1 a0 16).toInt ≤ (I a0 14).toInt ∧ ((I1 a0 17).toInt = 3 → (I1 a0 15).toInt < (I1 a0 16).toInt))))) args s) (F0 m 227 ls [.int w107, .ref a0]) := by
                        intro w107 H locs ls M hl
                        refine pi_X11_217 C M h0_ dX11_next_227 (fun H locs I108 k110 f109 M => ?_)
                        have F := fr_put F h0_ (Or.inr (by decide)) f109
                        refine lv_aload_n C.1 C.2.1 dX11_next_230 rfl (lv_at hl 0 rfl) ?_
                        refine lv_dup C.1 C.2.1 dX11_next_231 rfl ?_
                        refine gk_X11_201 C M h0_ ((f109 a0 16 (Or.inr (by decide))).trans kv94) dX11_next_232 ?_
                        refine lv_iconst (v := 1) C.1 C.2.1 dX11_next_235 (by decide) ?_
                        refine n_iadd C (Y := 1) dX11_next_236 rfl rfl (by omega) (by omega) (fun v111 ev111 => ?_)
                        refine pi_X11_201 C M h0_ dX11_next_237 rfl (by omega) (by omega) (fun H locs I112 k114 f113 M => ?_)
                        have F := fr_put F h0_ (Or.inr (by decide)) f113
                        refine lv_goto (tgt := 178) C.1 C.2.1 dX11_next_240 (by decide) ?_
                        have jc115 : (I112 a0 16).toInt = v111.toInt := congrArg Int32.toInt k114
                        exact ih178 I112 _ _ _ ((f113 a0 17 (Or.inr (by decide))).trans ((f109 a0 17 (Or.inr (by decide))).trans k88)) ((f113 a0 15 (Or.inr (by decide))).trans ((f109 a0 15 (Or.inr (by decide))).trans k89)) ((f113 a0 14 (Or.inr (by decide))).trans ((f109 a0 14 (Or.inr (by decide))).trans k90)) ((f113 a0 20 (Or.inr (by decide))).trans ((f109 a0 20 (Or.inr (by decide))).trans k91)) (by omega) (by omega) (by omega) F M hl
                      refine n_icmp_ge C (tgt := 225) (Y := 4) dX11_next_200 (by decide) rfl rfl (fun q116 => ?_) (fun q116 => ?_)
                      ·
                        refine lv_ldc (v := 100000) C.1 C.2.1 C.2.2.2.1 (C.2.2.2.2 _ cl_X11_228) dX11_next_225 ?_
                        have cz117 : (100000 : Int32).toInt = 100000 := rfl
                        exact J227 100000 _ _ _ M hl
                      ·
                        refine lv_bipush (v := 10) C.1 C.2.1 dX11_next_203 (by decide) ?_
                        refine lv_aload_n C.1 C.2.1 dX11_next_205 rfl (lv_at hl 0 rfl) ?_
                        refine gi_X11_217 C M h0_ dX11_next_206 (fun v118 kv118 => ?_)
                        have cv118 : (I87 a0 19).toInt = v118.toInt := congrArg Int32.toInt kv118
                        refine n_imulU C dX11_next_209 (fun v119 => ?_)
                        refine lv_aload_n C.1 C.2.1 dX11_next_210 rfl (lv_at hl 0 rfl) ?_
                        refine lv_aload_n C.1 C.2.1 dX11_next_211 rfl (lv_at hl 0 rfl) ?_
                        refine gk_X11_201 C M h0_ kv94 dX11_next_212 ?_
                        have em120 : (I87 a0 14).toInt = i2.toInt := congrArg Int32.toInt k90
                        refine k_PI C M h0_ (by decide) rfl (ct_X11_byteAt l g I87 J29 a0 v94 h0_ (by omega)) (cw_X11_204 C.2.2.2.2 (by decide)) rfl hl.1 rfl (Nat.le_of_ble_eq_true rfl) dX11_next_215 ⟨Nat.le_refl _, Nat.le_refl _⟩ (fun r121 H locs p122r M => ?_)
                        have p122 : ((I87 a0 14).toInt ≤ v94.toInt → r121.toInt = -1) ∧ (v94.toInt < (I87 a0 14).toInt → 0 ≤ r121.toInt ∧ r121.toInt ≤ 255) := p122r
                        simp only [em120] at p122
                        have p122 : (i2.toInt ≤ v94.toInt → r121.toInt = -1) ∧ (v94.toInt < i2.toInt → 0 ≤ r121.toInt ∧ r121.toInt ≤ 255) := p122
                        refine n_iaddU C dX11_next_218 (fun v123 => ?_)
                        refine lv_bipush (v := 48) C.1 C.2.1 dX11_next_219 (by decide) ?_
                        refine n_isubU C dX11_next_221 (fun v124 => ?_)
                        refine lv_goto (tgt := 227) C.1 C.2.1 dX11_next_222 (by decide) ?_
                        exact J227 v124 _ _ _ M hl
                have jc125 : (I84 a0 16).toInt = y7.toInt := congrArg Int32.toInt k86
                exact L178 _ I84 _ _ _ ((f85 a0 17 (Or.inr (by decide))).trans k83) ((f85 a0 15 (Or.inr (by decide))).trans ((f82 a0 15 (Or.inr (by decide))).trans ((f31 a0 15 (Or.inr (by decide))).trans ((f27 a0 15 (Or.inr (by decide))).trans ((f21 a0 15 (Or.inr (by decide))).trans k18))))) ((f85 a0 14 (Or.inr (by decide))).trans ((f82 a0 14 (Or.inr (by decide))).trans ((f31 a0 14 (Or.inr (by decide))).trans ((f27 a0 14 (Or.inr (by decide))).trans ((f21 a0 14 (Or.inr (by decide))).trans ((f17 a0 14 (Or.inr (by decide))).trans ki2)))))) ((f85 a0 20 (Or.inr (by decide))).trans ((f82 a0 20 (Or.inr (by decide))).trans ((f31 a0 20 (Or.inr (by decide))).trans ((f27 a0 20 (Or.inr (by decide))).trans ((f21 a0 20 (Or.inr (by decide))).trans ((f17 a0 20 (Or.inr (by decide))).trans ki1)))))) (by omega) (by omega) (n_big _) F M (lv_sub hl [1, 2] rfl)
            ·
              refine lv_aload_n C.1 C.2.1 dX11_next_87 rfl (lv_at hl 1 rfl) ?_
              refine lv_iconst (v := 1) C.1 C.2.1 dX11_next_88 (by decide) ?_
              refine pi_X11_210 C M h0_ dX11_next_89 (fun H locs I126 k128 f127 M => ?_)
              have F := fr_put F h0_ (Or.inr (by decide)) f127
              refine lv_aload_n C.1 C.2.1 dX11_next_92 rfl (lv_at hl 1 rfl) ?_
              refine lv_iload_n C.1 C.2.1 dX11_next_93 rfl (lv_at hl 2 rfl) ?_
              refine pi_X11_201 C M h0_ dX11_next_94 rfl (by omega) (by omega) (fun H locs I129 k131 f130 M => ?_)
              have F := fr_put F h0_ (Or.inr (by decide)) f130
              have L97 : ∀ (n97 : Nat) (I132 : Ms) (J138 : Js) (H : Heap) (locs : List Loc) (ls : Array Slot), I132 a0 17 = 1 → I132 a0 19 = 0 → I132 a0 15 = y7 → I132 a0 14 = i2 → I132 a0 20 = i1 → J138.1 = J.1 ∧ J138.2.1 = J.2.1 → y7.toInt ≤ (I132 a0 16).toInt → (I132 a0 16).toInt ≤ i2.toInt → i2.toInt - (I132 a0 16).toInt < (n97 : Int) → Fr g md_X11_next I I132 → Mm g s I132 J138 H locs → lv_has ls 3 [(0, .ref a0), (1, .int y7)] → W p l e (rmL 2) s m args below meth c H locs 0 0 (MQg below g (PV g md_X11_next I (fun I1 J1 => (J1.1 = J.1 ∧ J1.2.1 = J.2.1) ∧ ((I1 a0 20).toInt = (I a0 20).toInt ∧ (I1 a0 14).toInt = (I a0 14).toInt ∧ (0 < (I a0 20).toInt → (I1 a0 15).toInt = (I a0 15).toInt ∧ (I1 a0 16).toInt = (I a0 16).toInt ∧ (I1 a0 17).toInt = (I a0 17).toInt) ∧ ((I a0 20).toInt ≤ 0 → (I a0 16).toInt ≤ (I1 a0 15).toInt ∧ (I1 a0 15).toInt ≤ (I1 a0 16).toInt ∧ (I1 a0 16).toInt ≤ (I a0 14).toInt ∧ ((I1 a0 17).toInt = 3 → (I1 a0 15).toInt < (I1 a0 16).toInt))))) args s) (F0 m 97 ls []) := by
                intro n97
                induction n97 with
                | zero =>
                  intro I132 J138 H locs ls k133 k134 k135 k136 k137 hj2 f139 f140 hm97 F M hl
                  exact absurd hm97 (by omega)
                | succ n97 ih97 =>
                  intro I132 J138 H locs ls k133 k134 k135 k136 k137 hj2 f139 f140 hm97 F M hl
                  refine lv_aload_n C.1 C.2.1 dX11_next_97 rfl (lv_at hl 0 rfl) ?_
                  refine lv_aload_n C.1 C.2.1 dX11_next_98 rfl (lv_at hl 0 rfl) ?_
                  refine gi_X11_201 C M h0_ dX11_next_99 (fun v141 kv141 tv141 uv141 => ?_)
                  have cv141 : (I132 a0 16).toInt = v141.toInt := congrArg Int32.toInt kv141
                  have em142 : (I132 a0 14).toInt = i2.toInt := congrArg Int32.toInt k136
                  refine k_PI C M h0_ (by decide) rfl (ct_X11_byteAt l g I132 J138 a0 v141 h0_ (by omega)) (cw_X11_204 C.2.2.2.2 (by decide)) rfl hl.1 rfl (Nat.le_of_ble_eq_true rfl) dX11_next_102 ⟨Nat.le_refl _, Nat.le_refl _⟩ (fun r143 H locs p144r M => ?_)
                  have p144 : ((I132 a0 14).toInt ≤ v141.toInt → r143.toInt = -1) ∧ (v141.toInt < (I132 a0 14).toInt → 0 ≤ r143.toInt ∧ r143.toInt ≤ 255) := p144r
                  simp only [em142] at p144
                  have p144 : (i2.toInt ≤ v141.toInt → r143.toInt = -1) ∧ (v141.toInt < i2.toInt → 0 ≤ r143.toInt ∧ r143.toInt ≤ 255) := p144
                  refine ks_PI C M (ct_X11_isSmall l g I132 J138 r143) (cw_X11_220 C.2.2.2.2 (by decide)) rfl hl.1 rfl (Nat.le_of_ble_eq_true rfl) dX11_next_105 ⟨Nat.le_refl _, Nat.le_refl _⟩ (fun r145 H locs p146r M => ?_)
                  have p146 : 0 ≤ r145.toInt ∧ r145.toInt ≤ 1 ∧ (r145.toInt = 1 ↔ 97 ≤ r143.toInt ∧ r143.toInt ≤ 122) := p146r
                  refine n_if_eq C (tgt := 271) dX11_next_108 (by decide) rfl (fun q147 => ?_) (fun q147 => ?_)
                  ·
                    have rk148 : (I132 a0 20).toInt = i1.toInt := congrArg Int32.toInt k137
                    have rk149 : (I132 a0 14).toInt = i2.toInt := congrArg Int32.toInt k136
                    have rk150 : (I132 a0 15).toInt = y7.toInt := congrArg Int32.toInt k135
                    have rk151 : (I132 a0 16).toInt = v141.toInt := congrArg Int32.toInt kv141
                    have rk152 : (I132 a0 17).toInt = 1 := congrArg Int32.toInt k133
                    exact r_PV C M hr hlk F ⟨hj2, ⟨by omega, by omega, by omega, by omega⟩⟩ dX11_next_271
                  ·
                    refine lv_aload_n C.1 C.2.1 dX11_next_111 rfl (lv_at hl 0 rfl) ?_
                    refine lv_aload_n C.1 C.2.1 dX11_next_112 rfl (lv_at hl 0 rfl) ?_
                    refine gk_X11_201 C M h0_ kv141 dX11_next_113 ?_
                    refine lv_iload_n C.1 C.2.1 dX11_next_116 rfl (lv_at hl 1 rfl) ?_
                    refine n_isub C dX11_next_117 rfl rfl (by omega) (by omega) (fun v153 ev153 => ?_)
                    refine lv_bipush (v := 7) C.1 C.2.1 dX11_next_118 (by decide) ?_
                    have J145 : ∀ (wl154 : Int64) (H : Heap) (locs : List Loc) (ls : Array Slot), Mm g s I132 J138 H locs → lv_has ls 3 [(0, .ref a0), (1, .int y7)] → W p l e (rmL 2) s m args below meth c H locs 0 0 (MQg below g (PV g md_X11_next I (fun I1 J1 => (J1.1 = J.1 ∧ J1.2.1 = J.2.1) ∧ ((I1 a0 20).toInt = (I a0 20).toInt ∧ (I1 a0 14).toInt = (I a0 14).toInt ∧ (0 < (I a0 20).toInt → (I1 a0 15).toInt = (I a0 15).toInt ∧ (I1 a0 16).toInt = (I a0 16).toInt ∧ (I1 a0 17).toInt = (I a0 17).toInt) ∧ ((I a0 20).toInt ≤ 0 → (I a0 16).toInt ≤ (I1 a0 15).toInt ∧ (I1 a0 15).toInt ≤ (I1 a0 16).toInt ∧ (I1 a0 16).toInt ≤ (I a0 14).toInt ∧ ((I1 a0 17).toInt = 3 → (I1 a0 15).toInt < (I1 a0 16).toInt))))) args s) (F0 m 145 ls [.long wl154, .ref a0]) := by
                      intro wl154 H locs ls M hl
                      refine m_putl C M h0_ dX11_next_145 (fun H locs J155 eJ155 M => ?_)
                      have hj2 : J155.1 = J.1 ∧ J155.2.1 = J.2.1 := ⟨eJ155.1.trans hj2.1, eJ155.2.trans hj2.2⟩
                      refine lv_aload_n C.1 C.2.1 dX11_next_148 rfl (lv_at hl 0 rfl) ?_
                      refine lv_dup C.1 C.2.1 dX11_next_149 rfl ?_
                      refine gk_X11_201 C M h0_ kv141 dX11_next_150 ?_
                      refine lv_iconst (v := 1) C.1 C.2.1 dX11_next_153 (by decide) ?_
                      refine n_iadd C (Y := 1) dX11_next_154 rfl rfl (by omega) (by omega) (fun v156 ev156 => ?_)
                      refine pi_X11_201 C M h0_ dX11_next_155 rfl (by omega) (by omega) (fun H locs I157 k159 f158 M => ?_)
                      have F := fr_put F h0_ (Or.inr (by decide)) f158
                      refine lv_goto (tgt := 97) C.1 C.2.1 dX11_next_158 (by decide) ?_
                      have jc160 : (I157 a0 16).toInt = v156.toInt := congrArg Int32.toInt k159
                      exact ih97 I157 J155 _ _ _ ((f158 a0 17 (Or.inr (by decide))).trans k133) ((f158 a0 19 (Or.inr (by decide))).trans k134) ((f158 a0 15 (Or.inr (by decide))).trans k135) ((f158 a0 14 (Or.inr (by decide))).trans k136) ((f158 a0 20 (Or.inr (by decide))).trans k137) hj2 (by omega) (by omega) (by omega) F M hl
                    refine n_icmp_ge C (tgt := 144) (Y := 7) dX11_next_120 (by decide) rfl rfl (fun q161 => ?_) (fun q161 => ?_)
                    ·
                      refine lv_lconst (v := 0) C.1 C.2.1 dX11_next_144 rfl ?_
                      exact J145 0 _ _ _ M hl
                    ·
                      refine lv_ldc2 (v := 256) C.1 C.2.1 C.2.2.2.1 (C.2.2.2.2 _ cl_X11_223) dX11_next_123 ?_
                      refine lv_aload_n C.1 C.2.1 dX11_next_126 rfl (lv_at hl 0 rfl) ?_
                      refine gi_X11_213 C M h0_ dX11_next_127 (fun l162 _ => ?_)
                      refine lv_lmul C.1 C.2.1 dX11_next_130 ?_
                      refine lv_topl (fun l163 _ => ?_)
                      refine lv_aload_n C.1 C.2.1 dX11_next_131 rfl (lv_at hl 0 rfl) ?_
                      refine lv_aload_n C.1 C.2.1 dX11_next_132 rfl (lv_at hl 0 rfl) ?_
                      refine gk_X11_201 C M h0_ kv141 dX11_next_133 ?_
                      have em164 : (I132 a0 14).toInt = i2.toInt := congrArg Int32.toInt k136
                      refine k_PI C M h0_ (by decide) rfl (ct_X11_byteAt l g I132 J138 a0 v141 h0_ (by omega)) (cw_X11_204 C.2.2.2.2 (by decide)) rfl hl.1 rfl (Nat.le_of_ble_eq_true rfl) dX11_next_136 ⟨Nat.le_refl _, Nat.le_refl _⟩ (fun r165 H locs p166r M => ?_)
                      have p166 : ((I132 a0 14).toInt ≤ v141.toInt → r165.toInt = -1) ∧ (v141.toInt < (I132 a0 14).toInt → 0 ≤ r165.toInt ∧ r165.toInt ≤ 255) := p166r
                      simp only [em164] at p166
                      have p166 : (i2.toInt ≤ v141.toInt → r165.toInt = -1) ∧ (v141.toInt < i2.toInt → 0 ≤ r165.toInt ∧ r165.toInt ≤ 255) := p166
                      refine lv_i2l C.1 C.2.1 dX11_next_139 rfl ?_
                      refine lv_topl (fun l167 _ => ?_)
                      refine lv_ladd C.1 C.2.1 dX11_next_140 ?_
                      refine lv_topl (fun l168 _ => ?_)
                      refine lv_goto (tgt := 145) C.1 C.2.1 dX11_next_141 (by decide) ?_
                      exact J145 l168 _ _ _ M hl
              have jc169 : (I129 a0 16).toInt = y7.toInt := congrArg Int32.toInt k131
              exact L97 _ I129 J29 _ _ _ ((f130 a0 17 (Or.inr (by decide))).trans k128) ((f130 a0 19 (Or.inr (by decide))).trans ((f127 a0 19 (Or.inr (by decide))).trans k32)) ((f130 a0 15 (Or.inr (by decide))).trans ((f127 a0 15 (Or.inr (by decide))).trans ((f31 a0 15 (Or.inr (by decide))).trans ((f27 a0 15 (Or.inr (by decide))).trans ((f21 a0 15 (Or.inr (by decide))).trans k18))))) ((f130 a0 14 (Or.inr (by decide))).trans ((f127 a0 14 (Or.inr (by decide))).trans ((f31 a0 14 (Or.inr (by decide))).trans ((f27 a0 14 (Or.inr (by decide))).trans ((f21 a0 14 (Or.inr (by decide))).trans ((f17 a0 14 (Or.inr (by decide))).trans ki2)))))) ((f130 a0 20 (Or.inr (by decide))).trans ((f127 a0 20 (Or.inr (by decide))).trans ((f31 a0 20 (Or.inr (by decide))).trans ((f27 a0 20 (Or.inr (by decide))).trans ((f21 a0 20 (Or.inr (by decide))).trans ((f17 a0 20 (Or.inr (by decide))).trans ki1)))))) hj2 (by omega) (by omega) (n_big _) F M (lv_sub hl [1, 2] rfl)
          ·
            refine lv_aload_n C.1 C.2.1 dX11_next_67 rfl (lv_at hl 1 rfl) ?_
            refine lv_iconst (v := 0) C.1 C.2.1 dX11_next_68 (by decide) ?_
            refine pi_X11_210 C M h0_ dX11_next_69 (fun H locs I170 k172 f171 M => ?_)
            have F := fr_put F h0_ (Or.inr (by decide)) f171
            refine lv_aload_n C.1 C.2.1 dX11_next_72 rfl (lv_at hl 1 rfl) ?_
            refine lv_iload_n C.1 C.2.1 dX11_next_73 rfl (lv_at hl 2 rfl) ?_
            refine pi_X11_201 C M h0_ dX11_next_74 rfl (by omega) (by omega) (fun H locs I173 k175 f174 M => ?_)
            have F := fr_put F h0_ (Or.inr (by decide)) f174
            refine lv_goto (tgt := 271) C.1 C.2.1 dX11_next_77 (by decide) ?_
            have rk176 : (I173 a0 20).toInt = i1.toInt := congrArg Int32.toInt ((f174 a0 20 (Or.inr (by decide))).trans ((f171 a0 20 (Or.inr (by decide))).trans ((f31 a0 20 (Or.inr (by decide))).trans ((f27 a0 20 (Or.inr (by decide))).trans ((f21 a0 20 (Or.inr (by decide))).trans ((f17 a0 20 (Or.inr (by decide))).trans ki1))))))
            have rk177 : (I173 a0 14).toInt = i2.toInt := congrArg Int32.toInt ((f174 a0 14 (Or.inr (by decide))).trans ((f171 a0 14 (Or.inr (by decide))).trans ((f31 a0 14 (Or.inr (by decide))).trans ((f27 a0 14 (Or.inr (by decide))).trans ((f21 a0 14 (Or.inr (by decide))).trans ((f17 a0 14 (Or.inr (by decide))).trans ki2))))))
            have rk178 : (I173 a0 15).toInt = y7.toInt := congrArg Int32.toInt ((f174 a0 15 (Or.inr (by decide))).trans ((f171 a0 15 (Or.inr (by decide))).trans ((f31 a0 15 (Or.inr (by decide))).trans ((f27 a0 15 (Or.inr (by decide))).trans ((f21 a0 15 (Or.inr (by decide))).trans k18)))))
            have rk179 : (I173 a0 16).toInt = y7.toInt := congrArg Int32.toInt k175
            have rk180 : (I173 a0 17).toInt = 0 := congrArg Int32.toInt ((f174 a0 17 (Or.inr (by decide))).trans k172)
            exact r_PV C M hr hlk F ⟨hj2, ⟨by omega, by omega, by omega, by omega⟩⟩ dX11_next_271
        ·
          refine n_iinc C (k := 1) (N := 1) (lv' := fun v => [(1, .int v), (0, .ref a0)]) dX11_next_23 hl rfl (by decide) rfl rfl (by omega) (by omega) (fun _ => rfl) (fun v181 ls ev181 hl => ?_)
          refine lv_goto (tgt := 13) C.1 C.2.1 dX11_next_26 (by decide) ?_
          exact ih13 v181 _ _ _ (by omega) (by omega) (by omega) (by omega) (by omega) M (lv_sub hl [1, 0] rfl)
    exact L13 _ i4 _ _ _ (by omega) (by omega) (by omega) (by omega) (n_big _) M (lv_sub hl [1, 0] rfl)
  ·
    exact r_PV C M hr hlk F ⟨hj2, ⟨by omega, by omega, by omega, by omega⟩⟩ dX11_next_7
