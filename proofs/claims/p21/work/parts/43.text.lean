theorem len7 : ∀ i, i < 14 → lenD.getD i 0 ≤ 7 := by decide
set_option maxHeartbeats 4000000 in
set_option maxRecDepth 100000 in
theorem ct_X11_packed (l : Launch) (g : Gs) (I : Ms) (J : Js) (d0 : Nat) (h0_ : d0 < 14) : Ctr l yX11_packed cX11_packed 4 (Option.some Jvm.ClassFile.FieldType.long) 6 g [.ref (gSk g d0)] I J (PL I J) := by
  refine m_start (by decide) (Nat.le_of_ble_eq_true rfl) ?_
  intro p e s m args below meth c C hr hlk M ls hl
  have hl : lv_has ls 4 [(0, .ref (gSk g d0))] := hl
  have C : CallFix p m c cX11_packed 4 s args TB RX11 := C
  have h7 : lenD.getD d0 0 ≤ 7 := len7 d0 h0_
  refine lv_lconst (v := 0) C.1 C.2.1 dX11_packed_0 rfl ?_
  refine lv_lstore_n (lv' := [(1, .long 0), (0, .ref (gSk g d0))]) C.1 C.2.1 dX11_packed_1 rfl hl (by decide) rfl (fun ls hl => ?_)
  refine lv_iconst (v := 0) C.1 C.2.1 dX11_packed_2 (by decide) ?_
  refine lv_istore_n (lv' := [(3, .int 0), (1, .long 0), (0, .ref (gSk g d0))]) C.1 C.2.1 dX11_packed_3 rfl hl (by decide) rfl (fun ls hl => ?_)
  have L4 : ∀ (n4 : Nat) (yl1 : Int64) (y2 : Int32) (H : Heap) (locs : List Loc) (ls : Array Slot), 0 ≤ y2.toInt → y2.toInt ≤ 7 → y2.toInt ≤ ((lenD.getD d0 0 : Nat) : Int) → 8 - y2.toInt < (n4 : Int) → Mm g s I J H locs → lv_has ls 4 [(0, .ref (gSk g d0)), (1, .long yl1), (3, .int y2)] → W p l e (rmL 6) s m args below meth c H locs 0 0 (MQg below g (PL I J) args s) (F0 m 4 ls []) := by
    intro n4
    induction n4 with
    | zero =>
      intro yl1 y2 H locs ls f3 f4 f5 hm4 M hl
      exact absurd hm4 (by omega)
    | succ n4 ih4 =>
      intro yl1 y2 H locs ls f3 f4 f5 hm4 M hl
      refine lv_iload_n C.1 C.2.1 dX11_packed_4 rfl (lv_at hl 2 rfl) ?_
      refine lv_aload_n C.1 C.2.1 dX11_packed_5 rfl (lv_at hl 0 rfl) ?_
      refine kq_PI C M h0_ (ct_J0_length_8abf5 l g I J d0 h0_) (cw_X11_229 C.2.2.2.2 (by decide)) rfl hl.1 rfl (Nat.le_of_ble_eq_true rfl) dX11_packed_6 ⟨Nat.le_refl _, Nat.le_refl _⟩ (fun r6 H locs p7r M => ?_)
      have p7 : r6.toInt = ((lenD.getD d0 0 : Nat) : Int) := p7r
      refine n_icmp_ge C (tgt := 31) dX11_packed_9 (by decide) rfl rfl (fun q8 => ?_) (fun q8 => ?_)
      ·
        refine lv_lload_n C.1 C.2.1 dX11_packed_31 rfl (lv_at hl 1 rfl) ?_
        exact r_PL C M hr hlk dX11_packed_32
      ·
        refine lv_ldc2 (v := 256) C.1 C.2.1 C.2.2.2.1 (C.2.2.2.2 _ cl_X11_223) dX11_packed_12 ?_
        refine lv_lload_n C.1 C.2.1 dX11_packed_15 rfl (lv_at hl 1 rfl) ?_
        refine lv_lmul C.1 C.2.1 dX11_packed_16 ?_
        refine lv_topl (fun l9 _ => ?_)
        refine lv_aload_n C.1 C.2.1 dX11_packed_17 rfl (lv_at hl 0 rfl) ?_
        refine lv_iload_n C.1 C.2.1 dX11_packed_18 rfl (lv_at hl 2 rfl) ?_
        refine kq_PI C M h0_ (ct_J0_charAt_5068e l g I J d0 y2 h0_ (by omega) (by omega)) (cw_X11_234 C.2.2.2.2 (by decide)) rfl hl.1 rfl (Nat.le_of_ble_eq_true rfl) dX11_packed_19 ⟨Nat.le_refl _, Nat.le_refl _⟩ (fun r10 H locs p11r M => ?_)
        have p11 : True := p11r
        refine lv_i2l C.1 C.2.1 dX11_packed_22 rfl ?_
        refine lv_topl (fun l12 _ => ?_)
        refine lv_ladd C.1 C.2.1 dX11_packed_23 ?_
        refine lv_topl (fun l13 _ => ?_)
        refine lv_lstore_n (lv' := [(1, .long l13), (0, .ref (gSk g d0)), (3, .int y2)]) C.1 C.2.1 dX11_packed_24 rfl hl (by decide) rfl (fun ls hl => ?_)
        refine n_iinc C (k := 2) (N := 1) (lv' := fun v => [(3, .int v), (1, .long l13), (0, .ref (gSk g d0))]) dX11_packed_25 hl rfl (by decide) rfl rfl (by omega) (by omega) (fun _ => rfl) (fun v14 ls ev14 hl => ?_)
        refine lv_goto (tgt := 4) C.1 C.2.1 dX11_packed_28 (by decide) ?_
        exact ih4 l13 v14 _ _ _ (by omega) (by omega) (by omega) (by omega) M (lv_sub hl [2, 1, 0] rfl)
  have cz15 : (0 : Int32).toInt = 0 := rfl
  exact L4 _ 0 0 _ _ _ (by omega) (by omega) (by omega) (n_big _) M (lv_sub hl [2, 1, 0] rfl)

set_option maxHeartbeats 4000000 in
set_option maxRecDepth 100000 in
theorem ct_X11_isText (l : Launch) (g : Gs) (I : Ms) (J : Js) (a0 : Nat) (d1 : Nat) (h0_ : Is g a0 9) (h1_ : d1 < 14) : Ctr l yX11_isText cX11_isText 2 (Option.some Jvm.ClassFile.FieldType.boolean) 7 g [.ref a0, .ref (gSk g d1)] I J (PI I J (fun z => 0 ≤ z ∧ z ≤ 1)) := by
  refine m_start (by decide) (Nat.le_of_ble_eq_true rfl) ?_
  intro p e s m args below meth c C hr hlk M ls hl
  have hl : lv_has ls 2 [(0, .ref a0), (1, .ref (gSk g d1))] := hl
  have C : CallFix p m c cX11_isText 2 s args TB RX11 := C
  refine lv_aload_n C.1 C.2.1 dX11_isText_0 rfl (lv_at hl 0 rfl) ?_
  refine gi_X11_198 C M h0_ dX11_isText_1 (fun v1 kv1 => ?_)
  refine n_if_ne C (tgt := 31) dX11_isText_4 (by decide) rfl (fun q2 => ?_) (fun q2 => ?_)
  ·
    refine lv_iconst (v := 0) C.1 C.2.1 dX11_isText_31 (by decide) ?_
    exact r_PIz C M (z := 0) hr hlk rfl (by omega) (by omega) (by omega) dX11_isText_32
  ·
    refine lv_aload_n C.1 C.2.1 dX11_isText_7 rfl (lv_at hl 0 rfl) ?_
    refine gi_X11_210 C M h0_ dX11_isText_8 (fun v3 kv3 => ?_)
    refine lv_iconst (v := 1) C.1 C.2.1 dX11_isText_11 (by decide) ?_
    refine n_icmp_ne C (tgt := 31) (Y := 1) dX11_isText_12 (by decide) rfl rfl (fun q4 => ?_) (fun q4 => ?_)
    ·
      refine lv_iconst (v := 0) C.1 C.2.1 dX11_isText_31 (by decide) ?_
      exact r_PIz C M (z := 0) hr hlk rfl (by omega) (by omega) (by omega) dX11_isText_32
    ·
      refine lv_aload_n C.1 C.2.1 dX11_isText_15 rfl (lv_at hl 0 rfl) ?_
      refine gi_X11_213 C M h0_ dX11_isText_16 (fun l5 _ => ?_)
      refine lv_aload_n C.1 C.2.1 dX11_isText_19 rfl (lv_at hl 1 rfl) ?_
      refine ks_PL C M (ct_X11_packed l g I J d1 h1_) (cw_X11_238 C.2.2.2.2 (by decide)) rfl hl.1 rfl (Nat.le_of_ble_eq_true rfl) dX11_isText_20 ⟨Nat.le_refl _, Nat.le_refl _⟩ (fun l6 H locs M => ?_)
      refine n_lcmp C dX11_isText_23 (fun v7 => ?_)
      refine n_if_ne C (tgt := 31) dX11_isText_24 (by decide) rfl (fun q8 => ?_) (fun q8 => ?_)
      ·
        refine lv_iconst (v := 0) C.1 C.2.1 dX11_isText_31 (by decide) ?_
        exact r_PIz C M (z := 0) hr hlk rfl (by omega) (by omega) (by omega) dX11_isText_32
      ·
        refine lv_iconst (v := 1) C.1 C.2.1 dX11_isText_27 (by decide) ?_
        refine lv_goto (tgt := 32) C.1 C.2.1 dX11_isText_28 (by decide) ?_
        exact r_PIz C M (z := 1) hr hlk rfl (by omega) (by omega) (by omega) dX11_isText_32

set_option maxHeartbeats 4000000 in
set_option maxRecDepth 100000 in
theorem ct_X11_deedHere (l : Launch) (g : Gs) (I : Ms) (J : Js) (a0 : Nat) (h0_ : Is g a0 9) : Ctr l yX11_deedHere cX11_deedHere 1 (Option.some Jvm.ClassFile.FieldType.int) 8 g [.ref a0] I J (PI I J (fun z => -1 ≤ z ∧ z ≤ 11)) := by
  refine m_start (by decide) (Nat.le_of_ble_eq_true rfl) ?_
  intro p e s m args below meth c C hr hlk M ls hl
  have hl : lv_has ls 1 [(0, .ref a0)] := hl
  have C : CallFix p m c cX11_deedHere 1 s args TB RX11 := C
  refine lv_aload_n C.1 C.2.1 dX11_deedHere_0 rfl (lv_at hl 0 rfl) ?_
  refine s_ldc C M rfl (i := 0) (by decide) rfl dX11_deedHere_1 ?_
  refine k_PI C M h0_ (by decide) rfl (ct_X11_isText l g I J a0 0 h0_ (by decide : 0 < 14)) (cw_X11_250 C.2.2.2.2 (by decide)) rfl hl.1 rfl (Nat.le_of_ble_eq_true rfl) dX11_deedHere_3 ⟨Nat.le_refl _, Nat.le_refl _⟩ (fun r1 H locs p2r M => ?_)
  have p2 : 0 ≤ r1.toInt ∧ r1.toInt ≤ 1 := p2r
  refine n_if_eq C (tgt := 11) dX11_deedHere_6 (by decide) rfl (fun q3 => ?_) (fun q3 => ?_)
  ·
    refine lv_aload_n C.1 C.2.1 dX11_deedHere_11 rfl (lv_at hl 0 rfl) ?_
    refine s_ldc C M rfl (i := 1) (by decide) rfl dX11_deedHere_12 ?_
    refine k_PI C M h0_ (by decide) rfl (ct_X11_isText l g I J a0 1 h0_ (by decide : 1 < 14)) (cw_X11_250 C.2.2.2.2 (by decide)) rfl hl.1 rfl (Nat.le_of_ble_eq_true rfl) dX11_deedHere_14 ⟨Nat.le_refl _, Nat.le_refl _⟩ (fun r4 H locs p5r M => ?_)
    have p5 : 0 ≤ r4.toInt ∧ r4.toInt ≤ 1 := p5r
    refine n_if_eq C (tgt := 22) dX11_deedHere_17 (by decide) rfl (fun q6 => ?_) (fun q6 => ?_)
    ·
      refine lv_aload_n C.1 C.2.1 dX11_deedHere_22 rfl (lv_at hl 0 rfl) ?_
      refine s_ldcw C M rfl (i := 2) (by decide) rfl dX11_deedHere_23 ?_
      refine k_PI C M h0_ (by decide) rfl (ct_X11_isText l g I J a0 2 h0_ (by decide : 2 < 14)) (cw_X11_250 C.2.2.2.2 (by decide)) rfl hl.1 rfl (Nat.le_of_ble_eq_true rfl) dX11_deedHere_26 ⟨Nat.le_refl _, Nat.le_refl _⟩ (fun r7 H locs p8r M => ?_)
      have p8 : 0 ≤ r7.toInt ∧ r7.toInt ≤ 1 := p8r
      refine n_if_eq C (tgt := 34) dX11_deedHere_29 (by decide) rfl (fun q9 => ?_) (fun q9 => ?_)
      ·
        refine lv_aload_n C.1 C.2.1 dX11_deedHere_34 rfl (lv_at hl 0 rfl) ?_
        refine s_ldcw C M rfl (i := 3) (by decide) rfl dX11_deedHere_35 ?_
        refine k_PI C M h0_ (by decide) rfl (ct_X11_isText l g I J a0 3 h0_ (by decide : 3 < 14)) (cw_X11_250 C.2.2.2.2 (by decide)) rfl hl.1 rfl (Nat.le_of_ble_eq_true rfl) dX11_deedHere_38 ⟨Nat.le_refl _, Nat.le_refl _⟩ (fun r10 H locs p11r M => ?_)
        have p11 : 0 ≤ r10.toInt ∧ r10.toInt ≤ 1 := p11r
        refine n_if_eq C (tgt := 46) dX11_deedHere_41 (by decide) rfl (fun q12 => ?_) (fun q12 => ?_)
        ·
          refine lv_aload_n C.1 C.2.1 dX11_deedHere_46 rfl (lv_at hl 0 rfl) ?_
          refine s_ldcw C M rfl (i := 4) (by decide) rfl dX11_deedHere_47 ?_
          refine k_PI C M h0_ (by decide) rfl (ct_X11_isText l g I J a0 4 h0_ (by decide : 4 < 14)) (cw_X11_250 C.2.2.2.2 (by decide)) rfl hl.1 rfl (Nat.le_of_ble_eq_true rfl) dX11_deedHere_50 ⟨Nat.le_refl _, Nat.le_refl _⟩ (fun r13 H locs p14r M => ?_)
          have p14 : 0 ≤ r13.toInt ∧ r13.toInt ≤ 1 := p14r
          refine n_if_eq C (tgt := 58) dX11_deedHere_53 (by decide) rfl (fun q15 => ?_) (fun q15 => ?_)
          ·
            refine lv_aload_n C.1 C.2.1 dX11_deedHere_58 rfl (lv_at hl 0 rfl) ?_
            refine s_ldcw C M rfl (i := 5) (by decide) rfl dX11_deedHere_59 ?_
            refine k_PI C M h0_ (by decide) rfl (ct_X11_isText l g I J a0 5 h0_ (by decide : 5 < 14)) (cw_X11_250 C.2.2.2.2 (by decide)) rfl hl.1 rfl (Nat.le_of_ble_eq_true rfl) dX11_deedHere_62 ⟨Nat.le_refl _, Nat.le_refl _⟩ (fun r16 H locs p17r M => ?_)
            have p17 : 0 ≤ r16.toInt ∧ r16.toInt ≤ 1 := p17r
            refine n_if_eq C (tgt := 70) dX11_deedHere_65 (by decide) rfl (fun q18 => ?_) (fun q18 => ?_)
            ·
              refine lv_aload_n C.1 C.2.1 dX11_deedHere_70 rfl (lv_at hl 0 rfl) ?_
              refine s_ldcw C M rfl (i := 6) (by decide) rfl dX11_deedHere_71 ?_
              refine k_PI C M h0_ (by decide) rfl (ct_X11_isText l g I J a0 6 h0_ (by decide : 6 < 14)) (cw_X11_250 C.2.2.2.2 (by decide)) rfl hl.1 rfl (Nat.le_of_ble_eq_true rfl) dX11_deedHere_74 ⟨Nat.le_refl _, Nat.le_refl _⟩ (fun r19 H locs p20r M => ?_)
              have p20 : 0 ≤ r19.toInt ∧ r19.toInt ≤ 1 := p20r
              refine n_if_eq C (tgt := 83) dX11_deedHere_77 (by decide) rfl (fun q21 => ?_) (fun q21 => ?_)
              ·
                refine lv_aload_n C.1 C.2.1 dX11_deedHere_83 rfl (lv_at hl 0 rfl) ?_
                refine s_ldcw C M rfl (i := 7) (by decide) rfl dX11_deedHere_84 ?_
                refine k_PI C M h0_ (by decide) rfl (ct_X11_isText l g I J a0 7 h0_ (by decide : 7 < 14)) (cw_X11_250 C.2.2.2.2 (by decide)) rfl hl.1 rfl (Nat.le_of_ble_eq_true rfl) dX11_deedHere_87 ⟨Nat.le_refl _, Nat.le_refl _⟩ (fun r22 H locs p23r M => ?_)
                have p23 : 0 ≤ r22.toInt ∧ r22.toInt ≤ 1 := p23r
                refine n_if_eq C (tgt := 96) dX11_deedHere_90 (by decide) rfl (fun q24 => ?_) (fun q24 => ?_)
                ·
                  refine lv_aload_n C.1 C.2.1 dX11_deedHere_96 rfl (lv_at hl 0 rfl) ?_
                  refine s_ldcw C M rfl (i := 8) (by decide) rfl dX11_deedHere_97 ?_
                  refine k_PI C M h0_ (by decide) rfl (ct_X11_isText l g I J a0 8 h0_ (by decide : 8 < 14)) (cw_X11_250 C.2.2.2.2 (by decide)) rfl hl.1 rfl (Nat.le_of_ble_eq_true rfl) dX11_deedHere_100 ⟨Nat.le_refl _, Nat.le_refl _⟩ (fun r25 H locs p26r M => ?_)
                  have p26 : 0 ≤ r25.toInt ∧ r25.toInt ≤ 1 := p26r
                  refine n_if_eq C (tgt := 109) dX11_deedHere_103 (by decide) rfl (fun q27 => ?_) (fun q27 => ?_)
                  ·
                    refine lv_aload_n C.1 C.2.1 dX11_deedHere_109 rfl (lv_at hl 0 rfl) ?_
                    refine s_ldcw C M rfl (i := 9) (by decide) rfl dX11_deedHere_110 ?_
                    refine k_PI C M h0_ (by decide) rfl (ct_X11_isText l g I J a0 9 h0_ (by decide : 9 < 14)) (cw_X11_250 C.2.2.2.2 (by decide)) rfl hl.1 rfl (Nat.le_of_ble_eq_true rfl) dX11_deedHere_113 ⟨Nat.le_refl _, Nat.le_refl _⟩ (fun r28 H locs p29r M => ?_)
                    have p29 : 0 ≤ r28.toInt ∧ r28.toInt ≤ 1 := p29r
                    refine n_if_eq C (tgt := 122) dX11_deedHere_116 (by decide) rfl (fun q30 => ?_) (fun q30 => ?_)
                    ·
                      refine lv_aload_n C.1 C.2.1 dX11_deedHere_122 rfl (lv_at hl 0 rfl) ?_
                      refine s_ldcw C M rfl (i := 10) (by decide) rfl dX11_deedHere_123 ?_
                      refine k_PI C M h0_ (by decide) rfl (ct_X11_isText l g I J a0 10 h0_ (by decide : 10 < 14)) (cw_X11_250 C.2.2.2.2 (by decide)) rfl hl.1 rfl (Nat.le_of_ble_eq_true rfl) dX11_deedHere_126 ⟨Nat.le_refl _, Nat.le_refl _⟩ (fun r31 H locs p32r M => ?_)
                      have p32 : 0 ≤ r31.toInt ∧ r31.toInt ≤ 1 := p32r
                      refine n_if_eq C (tgt := 135) dX11_deedHere_129 (by decide) rfl (fun q33 => ?_) (fun q33 => ?_)
                      ·
                        refine lv_aload_n C.1 C.2.1 dX11_deedHere_135 rfl (lv_at hl 0 rfl) ?_
                        refine s_ldcw C M rfl (i := 11) (by decide) rfl dX11_deedHere_136 ?_
                        refine k_PI C M h0_ (by decide) rfl (ct_X11_isText l g I J a0 11 h0_ (by decide : 11 < 14)) (cw_X11_250 C.2.2.2.2 (by decide)) rfl hl.1 rfl (Nat.le_of_ble_eq_true rfl) dX11_deedHere_139 ⟨Nat.le_refl _, Nat.le_refl _⟩ (fun r34 H locs p35r M => ?_)
                        have p35 : 0 ≤ r34.toInt ∧ r34.toInt ≤ 1 := p35r
                        refine n_if_eq C (tgt := 150) dX11_deedHere_142 (by decide) rfl (fun q36 => ?_) (fun q36 => ?_)
                        ·
                          refine lv_iconst (v := -1) C.1 C.2.1 dX11_deedHere_150 (by decide) ?_
                          exact r_PI C M (z := (-1)) hr hlk rfl (by omega) dX11_deedHere_151
                        ·
                          refine lv_bipush (v := 11) C.1 C.2.1 dX11_deedHere_145 (by decide) ?_
                          refine lv_goto (tgt := 151) C.1 C.2.1 dX11_deedHere_147 (by decide) ?_
                          exact r_PI C M (z := 11) hr hlk rfl (by omega) dX11_deedHere_151
                      ·
                        refine lv_bipush (v := 10) C.1 C.2.1 dX11_deedHere_132 (by decide) ?_
                        exact r_PI C M (z := 10) hr hlk rfl (by omega) dX11_deedHere_134
                    ·
                      refine lv_bipush (v := 9) C.1 C.2.1 dX11_deedHere_119 (by decide) ?_
                      exact r_PI C M (z := 9) hr hlk rfl (by omega) dX11_deedHere_121
                  ·
                    refine lv_bipush (v := 8) C.1 C.2.1 dX11_deedHere_106 (by decide) ?_
                    exact r_PI C M (z := 8) hr hlk rfl (by omega) dX11_deedHere_108
                ·
                  refine lv_bipush (v := 7) C.1 C.2.1 dX11_deedHere_93 (by decide) ?_
                  exact r_PI C M (z := 7) hr hlk rfl (by omega) dX11_deedHere_95
              ·
                refine lv_bipush (v := 6) C.1 C.2.1 dX11_deedHere_80 (by decide) ?_
                exact r_PI C M (z := 6) hr hlk rfl (by omega) dX11_deedHere_82
            ·
              refine lv_iconst (v := 5) C.1 C.2.1 dX11_deedHere_68 (by decide) ?_
              exact r_PI C M (z := 5) hr hlk rfl (by omega) dX11_deedHere_69
          ·
            refine lv_iconst (v := 4) C.1 C.2.1 dX11_deedHere_56 (by decide) ?_
            exact r_PI C M (z := 4) hr hlk rfl (by omega) dX11_deedHere_57
        ·
          refine lv_iconst (v := 3) C.1 C.2.1 dX11_deedHere_44 (by decide) ?_
          exact r_PI C M (z := 3) hr hlk rfl (by omega) dX11_deedHere_45
      ·
        refine lv_iconst (v := 2) C.1 C.2.1 dX11_deedHere_32 (by decide) ?_
        exact r_PI C M (z := 2) hr hlk rfl (by omega) dX11_deedHere_33
    ·
      refine lv_iconst (v := 1) C.1 C.2.1 dX11_deedHere_20 (by decide) ?_
      exact r_PI C M (z := 1) hr hlk rfl (by omega) dX11_deedHere_21
  ·
    refine lv_iconst (v := 0) C.1 C.2.1 dX11_deedHere_9 (by decide) ?_
    exact r_PI C M (z := 0) hr hlk rfl (by omega) dX11_deedHere_10
