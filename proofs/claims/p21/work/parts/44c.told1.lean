abbrev md_X11_deedTold_1 : List (Nat × Nat) := [(9, 6), (9, 10), (9, 11), (9, 12), (9, 16), (9, 17), (9, 18), (9, 20), (9, 21), (9, 22), (9, 23), (9, 24), (28, 0), (30, 0), (31, 0), (32, 0)]
set_option maxHeartbeats 4000000 in
set_option maxRecDepth 100000 in
theorem ct_X11_deedTold_1 (l : Launch) (g : Gs) (I : Ms) (J : Js) (a0 : Nat) (x1 : Int32) (h0_ : Is g a0 9) (g0 : 0 ≤ (I a0 20).toInt) (g1 : (I a0 16).toInt ≤ (I a0 14).toInt) (g2 : (I a0 15).toInt ≤ (I a0 16).toInt) (g3 : (I a0 17).toInt = 3 → (I a0 15).toInt < (I a0 16).toInt) (g4 : jm (I (gr g a0 0) 717).toInt (I (gr g a0 0) 715).toInt (I (gr g a0 0) 716).toInt (I (gr g a0 0) 722).toInt (I (gr g a0 0) 718).toInt (I (gr g a0 0) 719).toInt) (g5 : IM g I a0) (g6 : x1.toInt = 1) : Ctr l yX11_deedTold cX11_deedTold 6 (Option.none : Option Jvm.ClassFile.FieldType) 37 g [.ref a0, .int x1] I J (PV g md_X11_deedTold_1 I (fun I1 J1 => (J1.1 = J.1 ∧ J1.2.1 = J.2.1) ∧ ((0 ≤ (I1 a0 20).toInt ∧ (I1 a0 16).toInt ≤ (I1 a0 14).toInt ∧ (I1 a0 15).toInt ≤ (I1 a0 16).toInt ∧ ((I1 a0 17).toInt = 3 → (I1 a0 15).toInt < (I1 a0 16).toInt) ∧ (I1 a0 14).toInt = (I a0 14).toInt ∧ (I a0 15).toInt ≤ (I1 a0 15).toInt ∧ (0 < (I a0 20).toInt → (I1 a0 20).toInt = (I a0 20).toInt)) ∧ jm (I1 (gr g a0 0) 717).toInt (I1 (gr g a0 0) 715).toInt (I1 (gr g a0 0) 716).toInt (I1 (gr g a0 0) 722).toInt (I1 (gr g a0 0) 718).toInt (I1 (gr g a0 0) 719).toInt ∧ IM g I1 a0))) := by
  refine m_start (by decide) (Nat.le_of_ble_eq_true rfl) ?_
  intro p e s m args below meth c C hr hlk M ls hl
  have hl : lv_has ls 6 [(0, .ref a0), (1, .int x1)] := hl
  have C : CallFix p m c cX11_deedTold 6 s args TB RX11 := C
  have F : Fr g md_X11_deedTold_1 I I := fr_rf
  have hj2 : J.1 = J.1 ∧ J.2.1 = J.2.1 := ⟨rfl, rfl⟩
  have hQ0 := M.2.2.2.2.2.2.2
  obtain ⟨i1, ki1⟩ : ∃ z : Int32, I a0 20 = z := ⟨_, rfl⟩
  have ci1 : (I a0 20).toInt = i1.toInt := congrArg Int32.toInt ki1
  obtain ⟨i2, ki2⟩ : ∃ z : Int32, I a0 14 = z := ⟨_, rfl⟩
  have ti2 : 0 ≤ i2.toInt ∧ i2.toInt ≤ 264 := m_rng M h0_ 14 ki2 rfl
  have ci2 : (I a0 14).toInt = i2.toInt := congrArg Int32.toInt ki2
  obtain ⟨i3, ki3⟩ : ∃ z : Int32, I a0 15 = z := ⟨_, rfl⟩
  have ti3 : 0 ≤ i3.toInt ∧ i3.toInt ≤ 1000 := m_rng M h0_ 15 ki3 rfl
  have ci3 : (I a0 15).toInt = i3.toInt := congrArg Int32.toInt ki3
  obtain ⟨i4, ki4⟩ : ∃ z : Int32, I a0 16 = z := ⟨_, rfl⟩
  have ti4 : 0 ≤ i4.toInt ∧ i4.toInt ≤ 1000 := m_rng M h0_ 16 ki4 rfl
  have ci4 : (I a0 16).toInt = i4.toInt := congrArg Int32.toInt ki4
  obtain ⟨i5, ki5⟩ : ∃ z : Int32, I a0 17 = z := ⟨_, rfl⟩
  have ci5 : (I a0 17).toInt = i5.toInt := congrArg Int32.toInt ki5
  have h6 := is_ref M h0_ 0 28 rfl rfl
  obtain ⟨i7, ki7⟩ : ∃ z : Int32, I (gr g a0 0) 717 = z := ⟨_, rfl⟩
  have ti7 : 0 ≤ i7.toInt ∧ i7.toInt ≤ 1 := m_rng M h6 717 ki7 rfl
  have ci7 : (I (gr g a0 0) 717).toInt = i7.toInt := congrArg Int32.toInt ki7
  obtain ⟨i8, ki8⟩ : ∃ z : Int32, I (gr g a0 0) 715 = z := ⟨_, rfl⟩
  have ti8 : 3 ≤ i8.toInt ∧ i8.toInt ≤ 7 := m_rng M h6 715 ki8 rfl
  have ci8 : (I (gr g a0 0) 715).toInt = i8.toInt := congrArg Int32.toInt ki8
  obtain ⟨i9, ki9⟩ : ∃ z : Int32, I (gr g a0 0) 716 = z := ⟨_, rfl⟩
  have ti9 : 4 ≤ i9.toInt ∧ i9.toInt ≤ 40 := m_rng M h6 716 ki9 rfl
  have ci9 : (I (gr g a0 0) 716).toInt = i9.toInt := congrArg Int32.toInt ki9
  obtain ⟨i10, ki10⟩ : ∃ z : Int32, I (gr g a0 0) 722 = z := ⟨_, rfl⟩
  have ti10 : 1 ≤ i10.toInt ∧ i10.toInt ≤ 4 := m_rng M h6 722 ki10 rfl
  have ci10 : (I (gr g a0 0) 722).toInt = i10.toInt := congrArg Int32.toInt ki10
  obtain ⟨i11, ki11⟩ : ∃ z : Int32, I (gr g a0 0) 718 = z := ⟨_, rfl⟩
  have ti11 : 0 ≤ i11.toInt ∧ i11.toInt ≤ 200 := m_rng M h6 718 ki11 rfl
  have ci11 : (I (gr g a0 0) 718).toInt = i11.toInt := congrArg Int32.toInt ki11
  obtain ⟨i12, ki12⟩ : ∃ z : Int32, I (gr g a0 0) 719 = z := ⟨_, rfl⟩
  have ti12 : 0 ≤ i12.toInt ∧ i12.toInt ≤ 200 := m_rng M h6 719 ki12 rfl
  have ci12 : (I (gr g a0 0) 719).toInt = i12.toInt := congrArg Int32.toInt ki12
  simp only [ci1, ci2, ci3, ci4, ci5, ci7, ci8, ci9, ci10, ci11, ci12] at g0 g1 g2 g3 g4
  refine lv_aload_n C.1 C.2.1 dX11_deedTold_0 rfl (lv_at hl 0 rfl) ?_
  refine s_ldcw C M rfl (i := 12) (by decide) rfl dX11_deedTold_1 ?_
  refine k_PI C M h0_ (by decide) rfl (ct_X11_isText l g I J a0 12 h0_ (by decide : 12 < 14)) (cw_X11_250 C.2.2.2.2 (by decide)) rfl hl.1 rfl (Nat.le_of_ble_eq_true rfl) dX11_deedTold_4 ⟨Nat.le_refl _, Nat.le_refl _⟩ (fun r13 H locs p14r M => ?_)
  have p14 : 0 ≤ r13.toInt ∧ r13.toInt ≤ 1 := p14r
  refine n_if_eq C (tgt := 32) dX11_deedTold_7 (by decide) rfl (fun q15 => ?_) (fun q15 => ?_)
  ·
    refine lv_aload_n C.1 C.2.1 dX11_deedTold_32 rfl (lv_at hl 0 rfl) ?_
    refine k_PI C M h0_ (by decide) rfl (ct_X11_deedHere l g I J a0 h0_) (cw_X11_306 C.2.2.2.2 (by decide)) rfl hl.1 rfl (Nat.le_of_ble_eq_true rfl) dX11_deedTold_33 ⟨Nat.le_refl _, Nat.le_refl _⟩ (fun r16 H locs p17r M => ?_)
    have p17 : -1 ≤ r16.toInt ∧ r16.toInt ≤ 11 := p17r
    refine lv_istore_n (lv' := [(2, .int r16), (0, .ref a0), (1, .int x1)]) C.1 C.2.1 dX11_deedTold_36 rfl hl (by decide) rfl (fun ls hl => ?_)
    refine lv_iload_n C.1 C.2.1 dX11_deedTold_37 rfl (lv_at hl 0 rfl) ?_
    refine n_if_ge C (tgt := 47) dX11_deedTold_38 (by decide) rfl (fun q18 => ?_) (fun q18 => ?_)
    ·
      refine lv_aload_n C.1 C.2.1 dX11_deedTold_47 rfl (lv_at hl 1 rfl) ?_
      have em19 : (I a0 20).toInt = i1.toInt := congrArg Int32.toInt ki1
      have em20 : (I a0 14).toInt = i2.toInt := congrArg Int32.toInt ki2
      have em21 : (I a0 15).toInt = i3.toInt := congrArg Int32.toInt ki3
      have em22 : (I a0 16).toInt = i4.toInt := congrArg Int32.toInt ki4
      have em23 : (I a0 17).toInt = i5.toInt := congrArg Int32.toInt ki5
      refine k_PV C M h0_ (by decide) rfl (ct_X11_next l g I J a0 h0_ (by simp only [em19, em20, em21, em22, em23]; first | assumption | omega)) (cw_X11_245 C.2.2.2.2 (by decide)) rfl hl.1 rfl (Nat.le_of_ble_eq_true rfl) dX11_deedTold_48 ⟨Nat.le_refl _, Nat.le_refl _⟩ (fun I24 J25 H locs G26 p27r M => ?_)
      obtain ⟨eJ25, p27⟩ : (J25.1 = J.1 ∧ J25.2.1 = J.2.1) ∧ ((I24 a0 20).toInt = (I a0 20).toInt ∧ (I24 a0 14).toInt = (I a0 14).toInt ∧ (0 < (I a0 20).toInt → (I24 a0 15).toInt = (I a0 15).toInt ∧ (I24 a0 16).toInt = (I a0 16).toInt ∧ (I24 a0 17).toInt = (I a0 17).toInt) ∧ ((I a0 20).toInt ≤ 0 → (I a0 16).toInt ≤ (I24 a0 15).toInt ∧ (I24 a0 15).toInt ≤ (I24 a0 16).toInt ∧ (I24 a0 16).toInt ≤ (I a0 14).toInt ∧ ((I24 a0 17).toInt = 3 → (I24 a0 15).toInt < (I24 a0 16).toInt))) := p27r
      have hj2 : J25.1 = J.1 ∧ J25.2.1 = J.2.1 := ⟨eJ25.1.trans hj2.1, eJ25.2.trans hj2.2⟩
      have em28 : (I24 a0 20).toInt = i1.toInt := congrArg Int32.toInt ((G26 a0 9 20 h0_ (by decide) (by decide)).trans ki1)
      have em29 : (I24 a0 14).toInt = i2.toInt := congrArg Int32.toInt ((G26 a0 9 14 h0_ (by decide) (by decide)).trans ki2)
      obtain ⟨u30, ku30⟩ : ∃ z : Int32, I24 a0 15 = z := ⟨_, rfl⟩
      have tu30 : 0 ≤ u30.toInt ∧ u30.toInt ≤ 1000 := m_rng M h0_ 15 ku30 rfl
      have em31 : (I24 a0 15).toInt = u30.toInt := congrArg Int32.toInt ku30
      obtain ⟨u32, ku32⟩ : ∃ z : Int32, I24 a0 16 = z := ⟨_, rfl⟩
      have tu32 : 0 ≤ u32.toInt ∧ u32.toInt ≤ 1000 := m_rng M h0_ 16 ku32 rfl
      have em33 : (I24 a0 16).toInt = u32.toInt := congrArg Int32.toInt ku32
      obtain ⟨u34, ku34⟩ : ∃ z : Int32, I24 a0 17 = z := ⟨_, rfl⟩
      have em35 : (I24 a0 17).toInt = u34.toInt := congrArg Int32.toInt ku34
      simp only [em19, em20, em21, em22, em23, em28, em29, em31, em33, em35] at p27
      have F := fr_call F G26 (by decide)
      refine lv_iload_n C.1 C.2.1 dX11_deedTold_51 rfl (lv_at hl 0 rfl) ?_
      refine ks_PI C M (ct_X11_manyOf l g I24 J25 r16) (cw_X11_309 C.2.2.2.2 (by decide)) rfl hl.1 rfl (Nat.le_of_ble_eq_true rfl) dX11_deedTold_52 ⟨Nat.le_refl _, Nat.le_refl _⟩ (fun r36 H locs p37r M => ?_)
      have p37 : 0 ≤ r36.toInt ∧ r36.toInt ≤ 3 := p37r
      have J69 : ∀ (w38 : Int32) (I39 : Ms) (J47 : Js) (H : Heap) (locs : List Loc) (ls : Array Slot), I39 (gr g a0 0) 719 = i12 → I39 (gr g a0 0) 718 = i11 → I39 (gr g a0 0) 722 = i10 → I39 (gr g a0 0) 716 = i9 → I39 (gr g a0 0) 715 = i8 → I39 (gr g a0 0) 717 = i7 → I39 a0 14 = i2 → IM g I39 a0 → J47.1 = J.1 ∧ J47.2.1 = J.2.1 → 0 ≤ (I39 a0 20).toInt → (I39 a0 16).toInt ≤ (I39 a0 14).toInt → (I39 a0 15).toInt ≤ (I39 a0 16).toInt → ((I39 a0 17).toInt = 3 → (I39 a0 15).toInt < (I39 a0 16).toInt) → (I39 a0 14).toInt = i2.toInt → i3.toInt ≤ (I39 a0 15).toInt → (0 < i1.toInt → (I39 a0 20).toInt = i1.toInt) → Fr g md_X11_deedTold_1 I I39 → Mm g s I39 J47 H locs → lv_has ls 6 [(0, .ref a0), (2, .int r16)] → W p l e (rmL 37) s m args below meth c H locs 0 0 (MQg below g (PV g md_X11_deedTold_1 I (fun I1 J1 => (J1.1 = J.1 ∧ J1.2.1 = J.2.1) ∧ ((0 ≤ (I1 a0 20).toInt ∧ (I1 a0 16).toInt ≤ (I1 a0 14).toInt ∧ (I1 a0 15).toInt ≤ (I1 a0 16).toInt ∧ ((I1 a0 17).toInt = 3 → (I1 a0 15).toInt < (I1 a0 16).toInt) ∧ (I1 a0 14).toInt = (I a0 14).toInt ∧ (I a0 15).toInt ≤ (I1 a0 15).toInt ∧ (0 < (I a0 20).toInt → (I1 a0 20).toInt = (I a0 20).toInt)) ∧ jm (I1 (gr g a0 0) 717).toInt (I1 (gr g a0 0) 715).toInt (I1 (gr g a0 0) 716).toInt (I1 (gr g a0 0) 722).toInt (I1 (gr g a0 0) 718).toInt (I1 (gr g a0 0) 719).toInt ∧ IM g I1 a0))) args s) (F0 m 69 ls [.int w38]) := by
        intro w38 I39 J47 H locs ls k40 k41 k42 k43 k44 k45 k46 im48 hj2 f49 f50 f51 f52 f53 f54 f55 F M hl
        obtain ⟨u56, ku56⟩ : ∃ z : Int32, I39 a0 20 = z := ⟨_, rfl⟩
        have cu56 : (I39 a0 20).toInt = u56.toInt := congrArg Int32.toInt ku56
        have cc57 : (I39 a0 14).toInt = i2.toInt := congrArg Int32.toInt k46
        obtain ⟨u58, ku58⟩ : ∃ z : Int32, I39 a0 15 = z := ⟨_, rfl⟩
        have tu58 : 0 ≤ u58.toInt ∧ u58.toInt ≤ 1000 := m_rng M h0_ 15 ku58 rfl
        have cu58 : (I39 a0 15).toInt = u58.toInt := congrArg Int32.toInt ku58
        obtain ⟨u59, ku59⟩ : ∃ z : Int32, I39 a0 16 = z := ⟨_, rfl⟩
        have tu59 : 0 ≤ u59.toInt ∧ u59.toInt ≤ 1000 := m_rng M h0_ 16 ku59 rfl
        have cu59 : (I39 a0 16).toInt = u59.toInt := congrArg Int32.toInt ku59
        obtain ⟨u60, ku60⟩ : ∃ z : Int32, I39 a0 17 = z := ⟨_, rfl⟩
        have cu60 : (I39 a0 17).toInt = u60.toInt := congrArg Int32.toInt ku60
        refine lv_istore_n (lv' := [(3, .int w38), (0, .ref a0), (2, .int r16)]) C.1 C.2.1 dX11_deedTold_69 rfl hl (by decide) rfl (fun ls hl => ?_)
        refine lv_iload_n C.1 C.2.1 dX11_deedTold_70 rfl (lv_at hl 2 rfl) ?_
        refine ks_PI C M (ct_X11_manyOf l g I39 J47 r16) (cw_X11_309 C.2.2.2.2 (by decide)) rfl hl.1 rfl (Nat.le_of_ble_eq_true rfl) dX11_deedTold_71 ⟨Nat.le_refl _, Nat.le_refl _⟩ (fun r61 H locs p62r M => ?_)
        have p62 : 0 ≤ r61.toInt ∧ r61.toInt ≤ 3 := p62r
        refine lv_iconst (v := 1) C.1 C.2.1 dX11_deedTold_74 (by decide) ?_
        have J89 : ∀ (w63 : Int32) (I64 : Ms) (J72 : Js) (H : Heap) (locs : List Loc) (ls : Array Slot), I64 a0 14 = i2 → I64 (gr g a0 0) 717 = i7 → I64 (gr g a0 0) 715 = i8 → I64 (gr g a0 0) 716 = i9 → I64 (gr g a0 0) 722 = i10 → I64 (gr g a0 0) 718 = i11 → I64 (gr g a0 0) 719 = i12 → IM g I64 a0 → J72.1 = J.1 ∧ J72.2.1 = J.2.1 → 0 ≤ (I64 a0 20).toInt → (I64 a0 16).toInt ≤ (I64 a0 14).toInt → (I64 a0 15).toInt ≤ (I64 a0 16).toInt → ((I64 a0 17).toInt = 3 → (I64 a0 15).toInt < (I64 a0 16).toInt) → (I64 a0 14).toInt = i2.toInt → i3.toInt ≤ (I64 a0 15).toInt → (0 < i1.toInt → (I64 a0 20).toInt = i1.toInt) → Fr g md_X11_deedTold_1 I I64 → Mm g s I64 J72 H locs → lv_has ls 6 [(0, .ref a0), (2, .int r16), (3, .int w38)] → W p l e (rmL 37) s m args below meth c H locs 0 0 (MQg below g (PV g md_X11_deedTold_1 I (fun I1 J1 => (J1.1 = J.1 ∧ J1.2.1 = J.2.1) ∧ ((0 ≤ (I1 a0 20).toInt ∧ (I1 a0 16).toInt ≤ (I1 a0 14).toInt ∧ (I1 a0 15).toInt ≤ (I1 a0 16).toInt ∧ ((I1 a0 17).toInt = 3 → (I1 a0 15).toInt < (I1 a0 16).toInt) ∧ (I1 a0 14).toInt = (I a0 14).toInt ∧ (I a0 15).toInt ≤ (I1 a0 15).toInt ∧ (0 < (I a0 20).toInt → (I1 a0 20).toInt = (I a0 20).toInt)) ∧ jm (I1 (gr g a0 0) 717).toInt (I1 (gr g a0 0) 715).toInt (I1 (gr g a0 0) 716).toInt (I1 (gr g a0 0) 722).toInt (I1 (gr g a0 0) 718).toInt (I1 (gr g a0 0) 719).toInt ∧ IM g I1 a0))) args s) (F0 m 89 ls [.int w63]) := by
          intro w63 I64 J72 H locs ls k65 k66 k67 k68 k69 k70 k71 im73 hj2 f74 f75 f76 f77 f78 f79 f80 F M hl
          obtain ⟨u81, ku81⟩ : ∃ z : Int32, I64 a0 20 = z := ⟨_, rfl⟩
          have cu81 : (I64 a0 20).toInt = u81.toInt := congrArg Int32.toInt ku81
          have cc82 : (I64 a0 14).toInt = i2.toInt := congrArg Int32.toInt k65
          obtain ⟨u83, ku83⟩ : ∃ z : Int32, I64 a0 15 = z := ⟨_, rfl⟩
          have tu83 : 0 ≤ u83.toInt ∧ u83.toInt ≤ 1000 := m_rng M h0_ 15 ku83 rfl
          have cu83 : (I64 a0 15).toInt = u83.toInt := congrArg Int32.toInt ku83
          obtain ⟨u84, ku84⟩ : ∃ z : Int32, I64 a0 16 = z := ⟨_, rfl⟩
          have tu84 : 0 ≤ u84.toInt ∧ u84.toInt ≤ 1000 := m_rng M h0_ 16 ku84 rfl
          have cu84 : (I64 a0 16).toInt = u84.toInt := congrArg Int32.toInt ku84
          obtain ⟨u85, ku85⟩ : ∃ z : Int32, I64 a0 17 = z := ⟨_, rfl⟩
          have cu85 : (I64 a0 17).toInt = u85.toInt := congrArg Int32.toInt ku85
          refine lv_istore (lv' := [(4, .int w63), (0, .ref a0), (2, .int r16), (3, .int w38)]) C.1 C.2.1 dX11_deedTold_89 hl (by decide) rfl (fun ls hl => ?_)
          refine lv_iload_n C.1 C.2.1 dX11_deedTold_91 rfl (lv_at hl 2 rfl) ?_
          refine ks_PI C M (ct_X11_manyOf l g I64 J72 r16) (cw_X11_309 C.2.2.2.2 (by decide)) rfl hl.1 rfl (Nat.le_of_ble_eq_true rfl) dX11_deedTold_92 ⟨Nat.le_refl _, Nat.le_refl _⟩ (fun r86 H locs p87r M => ?_)
          have p87 : 0 ≤ r86.toInt ∧ r86.toInt ≤ 3 := p87r
          refine lv_iconst (v := 2) C.1 C.2.1 dX11_deedTold_95 (by decide) ?_
          have J110 : ∀ (w88 : Int32) (I89 : Ms) (J97 : Js) (H : Heap) (locs : List Loc) (ls : Array Slot), I89 (gr g a0 0) 719 = i12 → I89 (gr g a0 0) 718 = i11 → I89 (gr g a0 0) 722 = i10 → I89 (gr g a0 0) 716 = i9 → I89 (gr g a0 0) 715 = i8 → I89 (gr g a0 0) 717 = i7 → I89 a0 14 = i2 → IM g I89 a0 → J97.1 = J.1 ∧ J97.2.1 = J.2.1 → 0 ≤ (I89 a0 20).toInt → (I89 a0 16).toInt ≤ (I89 a0 14).toInt → (I89 a0 15).toInt ≤ (I89 a0 16).toInt → ((I89 a0 17).toInt = 3 → (I89 a0 15).toInt < (I89 a0 16).toInt) → (I89 a0 14).toInt = i2.toInt → i3.toInt ≤ (I89 a0 15).toInt → (0 < i1.toInt → (I89 a0 20).toInt = i1.toInt) → Fr g md_X11_deedTold_1 I I89 → Mm g s I89 J97 H locs → lv_has ls 6 [(0, .ref a0), (2, .int r16), (3, .int w38), (4, .int w63)] → W p l e (rmL 37) s m args below meth c H locs 0 0 (MQg below g (PV g md_X11_deedTold_1 I (fun I1 J1 => (J1.1 = J.1 ∧ J1.2.1 = J.2.1) ∧ ((0 ≤ (I1 a0 20).toInt ∧ (I1 a0 16).toInt ≤ (I1 a0 14).toInt ∧ (I1 a0 15).toInt ≤ (I1 a0 16).toInt ∧ ((I1 a0 17).toInt = 3 → (I1 a0 15).toInt < (I1 a0 16).toInt) ∧ (I1 a0 14).toInt = (I a0 14).toInt ∧ (I a0 15).toInt ≤ (I1 a0 15).toInt ∧ (0 < (I a0 20).toInt → (I1 a0 20).toInt = (I a0 20).toInt)) ∧ jm (I1 (gr g a0 0) 717).toInt (I1 (gr g a0 0) 715).toInt (I1 (gr g a0 0) 716).toInt (I1 (gr g a0 0) 722).toInt (I1 (gr g a0 0) 718).toInt (I1 (gr g a0 0) 719).toInt ∧ IM g I1 a0))) args s) (F0 m 110 ls [.int w88]) := by
            intro w88 I89 J97 H locs ls k90 k91 k92 k93 k94 k95 k96 im98 hj2 f99 f100 f101 f102 f103 f104 f105 F M hl
            obtain ⟨u106, ku106⟩ : ∃ z : Int32, I89 a0 20 = z := ⟨_, rfl⟩
            have cu106 : (I89 a0 20).toInt = u106.toInt := congrArg Int32.toInt ku106
            have cc107 : (I89 a0 14).toInt = i2.toInt := congrArg Int32.toInt k96
            obtain ⟨u108, ku108⟩ : ∃ z : Int32, I89 a0 15 = z := ⟨_, rfl⟩
            have tu108 : 0 ≤ u108.toInt ∧ u108.toInt ≤ 1000 := m_rng M h0_ 15 ku108 rfl
            have cu108 : (I89 a0 15).toInt = u108.toInt := congrArg Int32.toInt ku108
            obtain ⟨u109, ku109⟩ : ∃ z : Int32, I89 a0 16 = z := ⟨_, rfl⟩
            have tu109 : 0 ≤ u109.toInt ∧ u109.toInt ≤ 1000 := m_rng M h0_ 16 ku109 rfl
            have cu109 : (I89 a0 16).toInt = u109.toInt := congrArg Int32.toInt ku109
            obtain ⟨u110, ku110⟩ : ∃ z : Int32, I89 a0 17 = z := ⟨_, rfl⟩
            have cu110 : (I89 a0 17).toInt = u110.toInt := congrArg Int32.toInt ku110
            refine lv_istore (lv' := [(5, .int w88), (0, .ref a0), (2, .int r16), (3, .int w38), (4, .int w63)]) C.1 C.2.1 dX11_deedTold_110 hl (by decide) rfl (fun ls hl => ?_)
            refine lv_aload_n C.1 C.2.1 dX11_deedTold_112 rfl (lv_at hl 1 rfl) ?_
            refine gk_X11_198 C M h0_ ku106 dX11_deedTold_113 ?_
            refine n_if_gt C (tgt := 133) dX11_deedTold_116 (by decide) rfl (fun q111 => ?_) (fun q111 => ?_)
            ·
              have rk112 : (I89 a0 20).toInt = u106.toInt := congrArg Int32.toInt ku106
              have rk113 : (I89 a0 14).toInt = i2.toInt := congrArg Int32.toInt k96
              have rk114 : (I89 a0 15).toInt = u108.toInt := congrArg Int32.toInt ku108
              have rk115 : (I89 a0 16).toInt = u109.toInt := congrArg Int32.toInt ku109
              have rk116 : (I89 a0 17).toInt = u110.toInt := congrArg Int32.toInt ku110
              have rk117 : (I89 (gr g a0 0) 717).toInt = i7.toInt := congrArg Int32.toInt k95
              have rk118 : (I89 (gr g a0 0) 715).toInt = i8.toInt := congrArg Int32.toInt k94
              have rk119 : (I89 (gr g a0 0) 716).toInt = i9.toInt := congrArg Int32.toInt k93
              have rk120 : (I89 (gr g a0 0) 722).toInt = i10.toInt := congrArg Int32.toInt k92
              have rk121 : (I89 (gr g a0 0) 718).toInt = i11.toInt := congrArg Int32.toInt k91
              have rk122 : (I89 (gr g a0 0) 719).toInt = i12.toInt := congrArg Int32.toInt k90
              exact r_PV C M hr hlk F ⟨hj2, ⟨⟨by omega, by omega, by omega, by omega, by omega, by omega, by omega⟩, (by simp only [ci1, ci2, ci3, ci4, ci5, ci7, ci8, ci9, ci10, ci11, ci12, rk112, rk113, rk114, rk115, rk116, rk117, rk118, rk119, rk120, rk121, rk122]; first | assumption | exact g4), im98⟩⟩ dX11_deedTold_133
            ·
              refine lv_aload_n C.1 C.2.1 dX11_deedTold_119 rfl (lv_at hl 1 rfl) ?_
              refine gi_X11_315 C M h0_ dX11_deedTold_120 (fun v123 kv123 tv123 uv123 => ?_)
              have cv123 : (I89 a0 21).toInt = v123.toInt := congrArg Int32.toInt kv123
              refine n_if_eq C (tgt := 133) dX11_deedTold_123 (by decide) rfl (fun q124 => ?_) (fun q124 => ?_)
              ·
                have rk125 : (I89 a0 20).toInt = u106.toInt := congrArg Int32.toInt ku106
                have rk126 : (I89 a0 14).toInt = i2.toInt := congrArg Int32.toInt k96
                have rk127 : (I89 a0 15).toInt = u108.toInt := congrArg Int32.toInt ku108
                have rk128 : (I89 a0 16).toInt = u109.toInt := congrArg Int32.toInt ku109
                have rk129 : (I89 a0 17).toInt = u110.toInt := congrArg Int32.toInt ku110
                have rk130 : (I89 (gr g a0 0) 717).toInt = i7.toInt := congrArg Int32.toInt k95
                have rk131 : (I89 (gr g a0 0) 715).toInt = i8.toInt := congrArg Int32.toInt k94
                have rk132 : (I89 (gr g a0 0) 716).toInt = i9.toInt := congrArg Int32.toInt k93
                have rk133 : (I89 (gr g a0 0) 722).toInt = i10.toInt := congrArg Int32.toInt k92
                have rk134 : (I89 (gr g a0 0) 718).toInt = i11.toInt := congrArg Int32.toInt k91
                have rk135 : (I89 (gr g a0 0) 719).toInt = i12.toInt := congrArg Int32.toInt k90
                exact r_PV C M hr hlk F ⟨hj2, ⟨⟨by omega, by omega, by omega, by omega, by omega, by omega, by omega⟩, (by simp only [ci1, ci2, ci3, ci4, ci5, ci7, ci8, ci9, ci10, ci11, ci12, rk125, rk126, rk127, rk128, rk129, rk130, rk131, rk132, rk133, rk134, rk135]; first | assumption | exact g4), im98⟩⟩ dX11_deedTold_133
              ·
                refine lv_aload_n C.1 C.2.1 dX11_deedTold_126 rfl (lv_at hl 1 rfl) ?_
                refine gi_X11_318 C M h0_ dX11_deedTold_127 (fun v136 kv136 tv136 uv136 => ?_)
                have cv136 : (I89 a0 22).toInt = v136.toInt := congrArg Int32.toInt kv136
                refine n_if_eq C (tgt := 134) dX11_deedTold_130 (by decide) rfl (fun q137 => ?_) (fun q137 => ?_)
                ·
                  refine lv_aload_n C.1 C.2.1 dX11_deedTold_134 rfl (lv_at hl 1 rfl) ?_
                  refine gi_X11_321 C M h0_ dX11_deedTold_135 (fun v138 kv138 => ?_)
                  have cv138 : (I89 a0 23).toInt = v138.toInt := congrArg Int32.toInt kv138
                  refine lv_sipush (v := 200) C.1 C.2.1 dX11_deedTold_138 (by decide) ?_
                  refine n_icmp_eq C (tgt := 157) (Y := 200) dX11_deedTold_141 (by decide) rfl rfl (fun q139 => ?_) (fun q139 => ?_)
                  ·
                    refine lv_aload_n C.1 C.2.1 dX11_deedTold_157 rfl (lv_at hl 1 rfl) ?_
                    refine lv_iconst (v := 1) C.1 C.2.1 dX11_deedTold_158 (by decide) ?_
                    refine pi_X11_318 C M (X := 1) h0_ dX11_deedTold_159 rfl (by omega) (by omega) (fun H locs I140 k142 f141 M => ?_)
                    have F := fr_put F h0_ (Or.inr (by decide)) f141
                    have rk143 : (I140 a0 20).toInt = u106.toInt := congrArg Int32.toInt ((f141 a0 20 (Or.inr (by decide))).trans ku106)
                    have rk144 : (I140 a0 14).toInt = i2.toInt := congrArg Int32.toInt ((f141 a0 14 (Or.inr (by decide))).trans k96)
                    have rk145 : (I140 a0 15).toInt = u108.toInt := congrArg Int32.toInt ((f141 a0 15 (Or.inr (by decide))).trans ku108)
                    have rk146 : (I140 a0 16).toInt = u109.toInt := congrArg Int32.toInt ((f141 a0 16 (Or.inr (by decide))).trans ku109)
                    have rk147 : (I140 a0 17).toInt = u110.toInt := congrArg Int32.toInt ((f141 a0 17 (Or.inr (by decide))).trans ku110)
                    have rk148 : (I140 (gr g a0 0) 717).toInt = i7.toInt := congrArg Int32.toInt ((f141 (gr g a0 0) 717 (Or.inl (is_ne h0_ h6 (by decide)))).trans k95)
                    have rk149 : (I140 (gr g a0 0) 715).toInt = i8.toInt := congrArg Int32.toInt ((f141 (gr g a0 0) 715 (Or.inl (is_ne h0_ h6 (by decide)))).trans k94)
                    have rk150 : (I140 (gr g a0 0) 716).toInt = i9.toInt := congrArg Int32.toInt ((f141 (gr g a0 0) 716 (Or.inl (is_ne h0_ h6 (by decide)))).trans k93)
                    have rk151 : (I140 (gr g a0 0) 722).toInt = i10.toInt := congrArg Int32.toInt ((f141 (gr g a0 0) 722 (Or.inl (is_ne h0_ h6 (by decide)))).trans k92)
                    have rk152 : (I140 (gr g a0 0) 718).toInt = i11.toInt := congrArg Int32.toInt ((f141 (gr g a0 0) 718 (Or.inl (is_ne h0_ h6 (by decide)))).trans k91)
                    have rk153 : (I140 (gr g a0 0) 719).toInt = i12.toInt := congrArg Int32.toInt ((f141 (gr g a0 0) 719 (Or.inl (is_ne h0_ h6 (by decide)))).trans k90)
                    exact r_PV C M hr hlk F ⟨hj2, ⟨⟨by omega, by omega, by omega, by omega, by omega, by omega, by omega⟩, (by simp only [ci1, ci2, ci3, ci4, ci5, ci7, ci8, ci9, ci10, ci11, ci12, rk143, rk144, rk145, rk146, rk147, rk148, rk149, rk150, rk151, rk152, rk153]; first | assumption | exact g4), (im_put M.2.2.2.2.2.1 h0_ h0_ rfl f141 im98)⟩⟩ dX11_deedTold_162
                  ·
                    refine lv_aload_n C.1 C.2.1 dX11_deedTold_144 rfl (lv_at hl 1 rfl) ?_
                    refine lv_iload_n C.1 C.2.1 dX11_deedTold_145 rfl (lv_at hl 2 rfl) ?_
                    refine lv_iload_n C.1 C.2.1 dX11_deedTold_146 rfl (lv_at hl 3 rfl) ?_
                    refine lv_iload C.1 C.2.1 dX11_deedTold_147 (lv_at hl 4 rfl) ?_
                    refine lv_iload C.1 C.2.1 dX11_deedTold_149 (lv_at hl 0 rfl) ?_
                    have em154 : (I89 (gr g a0 0) 717).toInt = i7.toInt := congrArg Int32.toInt k95
                    have em155 : (I89 (gr g a0 0) 715).toInt = i8.toInt := congrArg Int32.toInt k94
                    have em156 : (I89 (gr g a0 0) 716).toInt = i9.toInt := congrArg Int32.toInt k93
                    have em157 : (I89 (gr g a0 0) 722).toInt = i10.toInt := congrArg Int32.toInt k92
                    have em158 : (I89 (gr g a0 0) 718).toInt = i11.toInt := congrArg Int32.toInt k91
                    have em159 : (I89 (gr g a0 0) 719).toInt = i12.toInt := congrArg Int32.toInt k90
                    refine k_PM C M h0_ (by decide) rfl (ct_X11_does l g I89 J97 a0 r16 w38 w63 w88 h0_ (by simp only [em154, em155, em156, em157, em158, em159]; first | assumption | omega) im98) (cw_X11_324 C.2.2.2.2 (by decide)) rfl hl.1 rfl (Nat.le_of_ble_eq_true rfl) dX11_deedTold_151 ⟨Nat.le_refl _, Nat.le_refl _⟩ (fun r164 I160 J161 H locs G162 p163r M => ?_)
                    obtain ⟨eJ161, p163⟩ : J161 = J97 ∧ (0 ≤ r164.toInt ∧ r164.toInt ≤ 1 ∧ jm (I160 (gr g a0 0) 717).toInt (I160 (gr g a0 0) 715).toInt (I160 (gr g a0 0) 716).toInt (I160 (gr g a0 0) 722).toInt (I160 (gr g a0 0) 718).toInt (I160 (gr g a0 0) 719).toInt ∧ IM g I160 a0) := p163r
                    have eJ161 := eJ161.symm
                    subst eJ161
                    obtain ⟨u165, ku165⟩ : ∃ z : Int32, I160 (gr g a0 0) 717 = z := ⟨_, rfl⟩
                    have tu165 : 0 ≤ u165.toInt ∧ u165.toInt ≤ 1 := m_rng M h6 717 ku165 rfl
                    have em166 : (I160 (gr g a0 0) 717).toInt = u165.toInt := congrArg Int32.toInt ku165
                    obtain ⟨u167, ku167⟩ : ∃ z : Int32, I160 (gr g a0 0) 715 = z := ⟨_, rfl⟩
                    have tu167 : 3 ≤ u167.toInt ∧ u167.toInt ≤ 7 := m_rng M h6 715 ku167 rfl
                    have em168 : (I160 (gr g a0 0) 715).toInt = u167.toInt := congrArg Int32.toInt ku167
                    obtain ⟨u169, ku169⟩ : ∃ z : Int32, I160 (gr g a0 0) 716 = z := ⟨_, rfl⟩
                    have tu169 : 4 ≤ u169.toInt ∧ u169.toInt ≤ 40 := m_rng M h6 716 ku169 rfl
                    have em170 : (I160 (gr g a0 0) 716).toInt = u169.toInt := congrArg Int32.toInt ku169
                    obtain ⟨u171, ku171⟩ : ∃ z : Int32, I160 (gr g a0 0) 722 = z := ⟨_, rfl⟩
                    have tu171 : 1 ≤ u171.toInt ∧ u171.toInt ≤ 4 := m_rng M h6 722 ku171 rfl
                    have em172 : (I160 (gr g a0 0) 722).toInt = u171.toInt := congrArg Int32.toInt ku171
                    obtain ⟨u173, ku173⟩ : ∃ z : Int32, I160 (gr g a0 0) 718 = z := ⟨_, rfl⟩
                    have tu173 : 0 ≤ u173.toInt ∧ u173.toInt ≤ 200 := m_rng M h6 718 ku173 rfl
                    have em174 : (I160 (gr g a0 0) 718).toInt = u173.toInt := congrArg Int32.toInt ku173
                    obtain ⟨u175, ku175⟩ : ∃ z : Int32, I160 (gr g a0 0) 719 = z := ⟨_, rfl⟩
                    have tu175 : 0 ≤ u175.toInt ∧ u175.toInt ≤ 200 := m_rng M h6 719 ku175 rfl
                    have em176 : (I160 (gr g a0 0) 719).toInt = u175.toInt := congrArg Int32.toInt ku175
                    simp only [em154, em155, em156, em157, em158, em159, em166, em168, em170, em172, em174, em176] at p163
                    have hjm177 := p163.2.2.1
                    have F := fr_call F G162 (by decide)
                    refine n_if_ne C (tgt := 163) dX11_deedTold_154 (by decide) rfl (fun q178 => ?_) (fun q178 => ?_)
                    ·
                      refine lv_aload_n C.1 C.2.1 dX11_deedTold_163 rfl (lv_at hl 1 rfl) ?_
                      refine lv_dup C.1 C.2.1 dX11_deedTold_164 rfl ?_
                      refine gk_X11_321 C M h0_ ((G162 a0 9 23 h0_ (by decide) (by decide)).trans kv138) dX11_deedTold_165 ?_
                      refine lv_iconst (v := 1) C.1 C.2.1 dX11_deedTold_168 (by decide) ?_
                      refine n_iaddU C dX11_deedTold_169 (fun v179 => ?_)
                      refine pi_X11_321 C M h0_ dX11_deedTold_170 (fun H locs I180 k182 f181 M => ?_)
                      have F := fr_put F h0_ (Or.inr (by decide)) f181
                      have rk183 : (I180 a0 20).toInt = u106.toInt := congrArg Int32.toInt ((f181 a0 20 (Or.inr (by decide))).trans ((G162 a0 9 20 h0_ (by decide) (by decide)).trans ku106))
                      have rk184 : (I180 a0 14).toInt = i2.toInt := congrArg Int32.toInt ((f181 a0 14 (Or.inr (by decide))).trans ((G162 a0 9 14 h0_ (by decide) (by decide)).trans k96))
                      have rk185 : (I180 a0 15).toInt = u108.toInt := congrArg Int32.toInt ((f181 a0 15 (Or.inr (by decide))).trans ((G162 a0 9 15 h0_ (by decide) (by decide)).trans ku108))
                      have rk186 : (I180 a0 16).toInt = u109.toInt := congrArg Int32.toInt ((f181 a0 16 (Or.inr (by decide))).trans ((G162 a0 9 16 h0_ (by decide) (by decide)).trans ku109))
                      have rk187 : (I180 a0 17).toInt = u110.toInt := congrArg Int32.toInt ((f181 a0 17 (Or.inr (by decide))).trans ((G162 a0 9 17 h0_ (by decide) (by decide)).trans ku110))
                      have rk188 : (I180 (gr g a0 0) 717).toInt = u165.toInt := congrArg Int32.toInt ((f181 (gr g a0 0) 717 (Or.inl (is_ne h0_ h6 (by decide)))).trans ku165)
                      have rk189 : (I180 (gr g a0 0) 715).toInt = u167.toInt := congrArg Int32.toInt ((f181 (gr g a0 0) 715 (Or.inl (is_ne h0_ h6 (by decide)))).trans ku167)
                      have rk190 : (I180 (gr g a0 0) 716).toInt = u169.toInt := congrArg Int32.toInt ((f181 (gr g a0 0) 716 (Or.inl (is_ne h0_ h6 (by decide)))).trans ku169)
                      have rk191 : (I180 (gr g a0 0) 722).toInt = u171.toInt := congrArg Int32.toInt ((f181 (gr g a0 0) 722 (Or.inl (is_ne h0_ h6 (by decide)))).trans ku171)
                      have rk192 : (I180 (gr g a0 0) 718).toInt = u173.toInt := congrArg Int32.toInt ((f181 (gr g a0 0) 718 (Or.inl (is_ne h0_ h6 (by decide)))).trans ku173)
                      have rk193 : (I180 (gr g a0 0) 719).toInt = u175.toInt := congrArg Int32.toInt ((f181 (gr g a0 0) 719 (Or.inl (is_ne h0_ h6 (by decide)))).trans ku175)
                      exact r_PV C M hr hlk F ⟨hj2, ⟨⟨by omega, by omega, by omega, by omega, by omega, by omega, by omega⟩, (by simp only [ci1, ci2, ci3, ci4, ci5, ci7, ci8, ci9, ci10, ci11, ci12, rk183, rk184, rk185, rk186, rk187, rk188, rk189, rk190, rk191, rk192, rk193]; first | assumption | exact g4), (im_put M.2.2.2.2.2.1 h0_ h0_ rfl f181 p163.2.2.2)⟩⟩ dX11_deedTold_173
                    ·
                      refine lv_aload_n C.1 C.2.1 dX11_deedTold_157 rfl (lv_at hl 1 rfl) ?_
                      refine lv_iconst (v := 1) C.1 C.2.1 dX11_deedTold_158 (by decide) ?_
                      refine pi_X11_318 C M (X := 1) h0_ dX11_deedTold_159 rfl (by omega) (by omega) (fun H locs I194 k196 f195 M => ?_)
                      have F := fr_put F h0_ (Or.inr (by decide)) f195
                      have rk197 : (I194 a0 20).toInt = u106.toInt := congrArg Int32.toInt ((f195 a0 20 (Or.inr (by decide))).trans ((G162 a0 9 20 h0_ (by decide) (by decide)).trans ku106))
                      have rk198 : (I194 a0 14).toInt = i2.toInt := congrArg Int32.toInt ((f195 a0 14 (Or.inr (by decide))).trans ((G162 a0 9 14 h0_ (by decide) (by decide)).trans k96))
                      have rk199 : (I194 a0 15).toInt = u108.toInt := congrArg Int32.toInt ((f195 a0 15 (Or.inr (by decide))).trans ((G162 a0 9 15 h0_ (by decide) (by decide)).trans ku108))
                      have rk200 : (I194 a0 16).toInt = u109.toInt := congrArg Int32.toInt ((f195 a0 16 (Or.inr (by decide))).trans ((G162 a0 9 16 h0_ (by decide) (by decide)).trans ku109))
                      have rk201 : (I194 a0 17).toInt = u110.toInt := congrArg Int32.toInt ((f195 a0 17 (Or.inr (by decide))).trans ((G162 a0 9 17 h0_ (by decide) (by decide)).trans ku110))
                      have rk202 : (I194 (gr g a0 0) 717).toInt = u165.toInt := congrArg Int32.toInt ((f195 (gr g a0 0) 717 (Or.inl (is_ne h0_ h6 (by decide)))).trans ku165)
                      have rk203 : (I194 (gr g a0 0) 715).toInt = u167.toInt := congrArg Int32.toInt ((f195 (gr g a0 0) 715 (Or.inl (is_ne h0_ h6 (by decide)))).trans ku167)
                      have rk204 : (I194 (gr g a0 0) 716).toInt = u169.toInt := congrArg Int32.toInt ((f195 (gr g a0 0) 716 (Or.inl (is_ne h0_ h6 (by decide)))).trans ku169)
                      have rk205 : (I194 (gr g a0 0) 722).toInt = u171.toInt := congrArg Int32.toInt ((f195 (gr g a0 0) 722 (Or.inl (is_ne h0_ h6 (by decide)))).trans ku171)
                      have rk206 : (I194 (gr g a0 0) 718).toInt = u173.toInt := congrArg Int32.toInt ((f195 (gr g a0 0) 718 (Or.inl (is_ne h0_ h6 (by decide)))).trans ku173)
                      have rk207 : (I194 (gr g a0 0) 719).toInt = u175.toInt := congrArg Int32.toInt ((f195 (gr g a0 0) 719 (Or.inl (is_ne h0_ h6 (by decide)))).trans ku175)
                      exact r_PV C M hr hlk F ⟨hj2, ⟨⟨by omega, by omega, by omega, by omega, by omega, by omega, by omega⟩, (by simp only [ci1, ci2, ci3, ci4, ci5, ci7, ci8, ci9, ci10, ci11, ci12, rk197, rk198, rk199, rk200, rk201, rk202, rk203, rk204, rk205, rk206, rk207]; first | assumption | exact g4), (im_put M.2.2.2.2.2.1 h0_ h0_ rfl f195 p163.2.2.2)⟩⟩ dX11_deedTold_162
                ·
                  have rk208 : (I89 a0 20).toInt = u106.toInt := congrArg Int32.toInt ku106
                  have rk209 : (I89 a0 14).toInt = i2.toInt := congrArg Int32.toInt k96
                  have rk210 : (I89 a0 15).toInt = u108.toInt := congrArg Int32.toInt ku108
                  have rk211 : (I89 a0 16).toInt = u109.toInt := congrArg Int32.toInt ku109
                  have rk212 : (I89 a0 17).toInt = u110.toInt := congrArg Int32.toInt ku110
                  have rk213 : (I89 (gr g a0 0) 717).toInt = i7.toInt := congrArg Int32.toInt k95
                  have rk214 : (I89 (gr g a0 0) 715).toInt = i8.toInt := congrArg Int32.toInt k94
                  have rk215 : (I89 (gr g a0 0) 716).toInt = i9.toInt := congrArg Int32.toInt k93
                  have rk216 : (I89 (gr g a0 0) 722).toInt = i10.toInt := congrArg Int32.toInt k92
                  have rk217 : (I89 (gr g a0 0) 718).toInt = i11.toInt := congrArg Int32.toInt k91
                  have rk218 : (I89 (gr g a0 0) 719).toInt = i12.toInt := congrArg Int32.toInt k90
                  exact r_PV C M hr hlk F ⟨hj2, ⟨⟨by omega, by omega, by omega, by omega, by omega, by omega, by omega⟩, (by simp only [ci1, ci2, ci3, ci4, ci5, ci7, ci8, ci9, ci10, ci11, ci12, rk208, rk209, rk210, rk211, rk212, rk213, rk214, rk215, rk216, rk217, rk218]; first | assumption | exact g4), im98⟩⟩ dX11_deedTold_133
          refine n_icmp_le C (tgt := 109) (Y := 2) dX11_deedTold_96 (by decide) rfl rfl (fun q219 => ?_) (fun q219 => ?_)
          ·
            refine lv_iconst (v := 0) C.1 C.2.1 dX11_deedTold_109 (by decide) ?_
            have jc220 : (I64 a0 20).toInt = u81.toInt := congrArg Int32.toInt ku81
            have jc221 : (I64 a0 14).toInt = i2.toInt := congrArg Int32.toInt k65
            have jc222 : (I64 a0 15).toInt = u83.toInt := congrArg Int32.toInt ku83
            have jc223 : (I64 a0 16).toInt = u84.toInt := congrArg Int32.toInt ku84
            have jc224 : (I64 a0 17).toInt = u85.toInt := congrArg Int32.toInt ku85
            have cz225 : (0 : Int32).toInt = 0 := rfl
            exact J110 0 I64 J72 _ _ _ k71 k70 k69 k68 k67 k66 k65 im73 hj2 (by omega) (by omega) (by omega) (by omega) (by omega) (by omega) (by omega) F M (lv_sub hl [1, 2, 3, 0] rfl)
          ·
            refine lv_aload_n C.1 C.2.1 dX11_deedTold_99 rfl (lv_at hl 1 rfl) ?_
            refine lv_sipush (v := 9999) C.1 C.2.1 dX11_deedTold_100 (by decide) ?_
            have em226 : (I64 a0 20).toInt = u81.toInt := congrArg Int32.toInt ku81
            have em227 : (I64 a0 14).toInt = i2.toInt := congrArg Int32.toInt k65
            have em228 : (I64 a0 15).toInt = u83.toInt := congrArg Int32.toInt ku83
            have em229 : (I64 a0 16).toInt = u84.toInt := congrArg Int32.toInt ku84
            have em230 : (I64 a0 17).toInt = u85.toInt := congrArg Int32.toInt ku85
            refine k_PM C M h0_ (by decide) rfl (ct_X11_numberTold l g I64 J72 a0 9999 h0_ (by simp only [em226, em227, em228, em229, em230]; have : (9999 : Int32).toInt = 9999 := rfl; first | assumption | omega) (by simp only [em226, em227, em228, em229, em230]; have : (9999 : Int32).toInt = 9999 := rfl; first | assumption | omega) (by simp only [em226, em227, em228, em229, em230]; have : (9999 : Int32).toInt = 9999 := rfl; first | assumption | omega) (by simp only [em226, em227, em228, em229, em230]; have : (9999 : Int32).toInt = 9999 := rfl; first | assumption | omega)) (cw_X11_312 C.2.2.2.2 (by decide)) rfl hl.1 rfl (Nat.le_of_ble_eq_true rfl) dX11_deedTold_103 ⟨Nat.le_refl _, Nat.le_refl _⟩ (fun r235 I231 J232 H locs G233 p234r M => ?_)
            obtain ⟨eJ232, p234⟩ : (J232.1 = J72.1 ∧ J232.2.1 = J72.2.1) ∧ (0 ≤ (I231 a0 20).toInt ∧ (I231 a0 16).toInt ≤ (I231 a0 14).toInt ∧ (I231 a0 15).toInt ≤ (I231 a0 16).toInt ∧ ((I231 a0 17).toInt = 3 → (I231 a0 15).toInt < (I231 a0 16).toInt) ∧ (I231 a0 14).toInt = (I64 a0 14).toInt ∧ (I64 a0 15).toInt ≤ (I231 a0 15).toInt ∧ (0 < (I64 a0 20).toInt → (I231 a0 20).toInt = (I64 a0 20).toInt) ∧ ((I231 a0 20).toInt = 0 → (I64 a0 16).toInt ≤ (I231 a0 15).toInt)) := p234r
            have hj2 : J232.1 = J.1 ∧ J232.2.1 = J.2.1 := ⟨eJ232.1.trans hj2.1, eJ232.2.trans hj2.2⟩
            obtain ⟨u236, ku236⟩ : ∃ z : Int32, I231 a0 20 = z := ⟨_, rfl⟩
            have em237 : (I231 a0 20).toInt = u236.toInt := congrArg Int32.toInt ku236
            have em238 : (I231 a0 14).toInt = i2.toInt := congrArg Int32.toInt ((G233 a0 9 14 h0_ (by decide) (by decide)).trans k65)
            obtain ⟨u239, ku239⟩ : ∃ z : Int32, I231 a0 15 = z := ⟨_, rfl⟩
            have tu239 : 0 ≤ u239.toInt ∧ u239.toInt ≤ 1000 := m_rng M h0_ 15 ku239 rfl
            have em240 : (I231 a0 15).toInt = u239.toInt := congrArg Int32.toInt ku239
            obtain ⟨u241, ku241⟩ : ∃ z : Int32, I231 a0 16 = z := ⟨_, rfl⟩
            have tu241 : 0 ≤ u241.toInt ∧ u241.toInt ≤ 1000 := m_rng M h0_ 16 ku241 rfl
            have em242 : (I231 a0 16).toInt = u241.toInt := congrArg Int32.toInt ku241
            obtain ⟨u243, ku243⟩ : ∃ z : Int32, I231 a0 17 = z := ⟨_, rfl⟩
            have em244 : (I231 a0 17).toInt = u243.toInt := congrArg Int32.toInt ku243
            simp only [em226, em227, em228, em229, em230, em237, em238, em240, em242, em244] at p234
            have F := fr_call F G233 (by decide)
            refine lv_goto (tgt := 110) C.1 C.2.1 dX11_deedTold_106 (by decide) ?_
            have jc245 : (I231 a0 20).toInt = u236.toInt := congrArg Int32.toInt ku236
            have jc246 : (I231 a0 14).toInt = i2.toInt := congrArg Int32.toInt ((G233 a0 9 14 h0_ (by decide) (by decide)).trans k65)
            have jc247 : (I231 a0 15).toInt = u239.toInt := congrArg Int32.toInt ku239
            have jc248 : (I231 a0 16).toInt = u241.toInt := congrArg Int32.toInt ku241
            have jc249 : (I231 a0 17).toInt = u243.toInt := congrArg Int32.toInt ku243
            exact J110 r235 I231 J232 _ _ _ ((G233 (gr g a0 0) 28 719 h6 (by decide) (by decide)).trans k71) ((G233 (gr g a0 0) 28 718 h6 (by decide) (by decide)).trans k70) ((G233 (gr g a0 0) 28 722 h6 (by decide) (by decide)).trans k69) ((G233 (gr g a0 0) 28 716 h6 (by decide) (by decide)).trans k68) ((G233 (gr g a0 0) 28 715 h6 (by decide) (by decide)).trans k67) ((G233 (gr g a0 0) 28 717 h6 (by decide) (by decide)).trans k66) ((G233 a0 9 14 h0_ (by decide) (by decide)).trans k65) (im_fr M.2.2.2.2.2.1 h0_ G233 (by decide) im73) hj2 (by omega) (by omega) (by omega) (by omega) (by omega) (by omega) (by omega) F M (lv_sub hl [1, 2, 3, 0] rfl)
        refine n_icmp_le C (tgt := 88) (Y := 1) dX11_deedTold_75 (by decide) rfl rfl (fun q250 => ?_) (fun q250 => ?_)
        ·
          refine lv_iconst (v := 0) C.1 C.2.1 dX11_deedTold_88 (by decide) ?_
          have jc251 : (I39 a0 20).toInt = u56.toInt := congrArg Int32.toInt ku56
          have jc252 : (I39 a0 14).toInt = i2.toInt := congrArg Int32.toInt k46
          have jc253 : (I39 a0 15).toInt = u58.toInt := congrArg Int32.toInt ku58
          have jc254 : (I39 a0 16).toInt = u59.toInt := congrArg Int32.toInt ku59
          have jc255 : (I39 a0 17).toInt = u60.toInt := congrArg Int32.toInt ku60
          have cz256 : (0 : Int32).toInt = 0 := rfl
          exact J89 0 I39 J47 _ _ _ k46 k45 k44 k43 k42 k41 k40 im48 hj2 (by omega) (by omega) (by omega) (by omega) (by omega) (by omega) (by omega) F M (lv_sub hl [1, 2, 0] rfl)
        ·
          refine lv_aload_n C.1 C.2.1 dX11_deedTold_78 rfl (lv_at hl 1 rfl) ?_
          refine lv_sipush (v := 9999) C.1 C.2.1 dX11_deedTold_79 (by decide) ?_
          have em257 : (I39 a0 20).toInt = u56.toInt := congrArg Int32.toInt ku56
          have em258 : (I39 a0 14).toInt = i2.toInt := congrArg Int32.toInt k46
          have em259 : (I39 a0 15).toInt = u58.toInt := congrArg Int32.toInt ku58
          have em260 : (I39 a0 16).toInt = u59.toInt := congrArg Int32.toInt ku59
          have em261 : (I39 a0 17).toInt = u60.toInt := congrArg Int32.toInt ku60
          refine k_PM C M h0_ (by decide) rfl (ct_X11_numberTold l g I39 J47 a0 9999 h0_ (by simp only [em257, em258, em259, em260, em261]; have : (9999 : Int32).toInt = 9999 := rfl; first | assumption | omega) (by simp only [em257, em258, em259, em260, em261]; have : (9999 : Int32).toInt = 9999 := rfl; first | assumption | omega) (by simp only [em257, em258, em259, em260, em261]; have : (9999 : Int32).toInt = 9999 := rfl; first | assumption | omega) (by simp only [em257, em258, em259, em260, em261]; have : (9999 : Int32).toInt = 9999 := rfl; first | assumption | omega)) (cw_X11_312 C.2.2.2.2 (by decide)) rfl hl.1 rfl (Nat.le_of_ble_eq_true rfl) dX11_deedTold_82 ⟨Nat.le_refl _, Nat.le_refl _⟩ (fun r266 I262 J263 H locs G264 p265r M => ?_)
          obtain ⟨eJ263, p265⟩ : (J263.1 = J47.1 ∧ J263.2.1 = J47.2.1) ∧ (0 ≤ (I262 a0 20).toInt ∧ (I262 a0 16).toInt ≤ (I262 a0 14).toInt ∧ (I262 a0 15).toInt ≤ (I262 a0 16).toInt ∧ ((I262 a0 17).toInt = 3 → (I262 a0 15).toInt < (I262 a0 16).toInt) ∧ (I262 a0 14).toInt = (I39 a0 14).toInt ∧ (I39 a0 15).toInt ≤ (I262 a0 15).toInt ∧ (0 < (I39 a0 20).toInt → (I262 a0 20).toInt = (I39 a0 20).toInt) ∧ ((I262 a0 20).toInt = 0 → (I39 a0 16).toInt ≤ (I262 a0 15).toInt)) := p265r
          have hj2 : J263.1 = J.1 ∧ J263.2.1 = J.2.1 := ⟨eJ263.1.trans hj2.1, eJ263.2.trans hj2.2⟩
          obtain ⟨u267, ku267⟩ : ∃ z : Int32, I262 a0 20 = z := ⟨_, rfl⟩
          have em268 : (I262 a0 20).toInt = u267.toInt := congrArg Int32.toInt ku267
          have em269 : (I262 a0 14).toInt = i2.toInt := congrArg Int32.toInt ((G264 a0 9 14 h0_ (by decide) (by decide)).trans k46)
          obtain ⟨u270, ku270⟩ : ∃ z : Int32, I262 a0 15 = z := ⟨_, rfl⟩
          have tu270 : 0 ≤ u270.toInt ∧ u270.toInt ≤ 1000 := m_rng M h0_ 15 ku270 rfl
          have em271 : (I262 a0 15).toInt = u270.toInt := congrArg Int32.toInt ku270
          obtain ⟨u272, ku272⟩ : ∃ z : Int32, I262 a0 16 = z := ⟨_, rfl⟩
          have tu272 : 0 ≤ u272.toInt ∧ u272.toInt ≤ 1000 := m_rng M h0_ 16 ku272 rfl
          have em273 : (I262 a0 16).toInt = u272.toInt := congrArg Int32.toInt ku272
          obtain ⟨u274, ku274⟩ : ∃ z : Int32, I262 a0 17 = z := ⟨_, rfl⟩
          have em275 : (I262 a0 17).toInt = u274.toInt := congrArg Int32.toInt ku274
          simp only [em257, em258, em259, em260, em261, em268, em269, em271, em273, em275] at p265
          have F := fr_call F G264 (by decide)
          refine lv_goto (tgt := 89) C.1 C.2.1 dX11_deedTold_85 (by decide) ?_
          have jc276 : (I262 a0 20).toInt = u267.toInt := congrArg Int32.toInt ku267
          have jc277 : (I262 a0 14).toInt = i2.toInt := congrArg Int32.toInt ((G264 a0 9 14 h0_ (by decide) (by decide)).trans k46)
          have jc278 : (I262 a0 15).toInt = u270.toInt := congrArg Int32.toInt ku270
          have jc279 : (I262 a0 16).toInt = u272.toInt := congrArg Int32.toInt ku272
          have jc280 : (I262 a0 17).toInt = u274.toInt := congrArg Int32.toInt ku274
          exact J89 r266 I262 J263 _ _ _ ((G264 a0 9 14 h0_ (by decide) (by decide)).trans k46) ((G264 (gr g a0 0) 28 717 h6 (by decide) (by decide)).trans k45) ((G264 (gr g a0 0) 28 715 h6 (by decide) (by decide)).trans k44) ((G264 (gr g a0 0) 28 716 h6 (by decide) (by decide)).trans k43) ((G264 (gr g a0 0) 28 722 h6 (by decide) (by decide)).trans k42) ((G264 (gr g a0 0) 28 718 h6 (by decide) (by decide)).trans k41) ((G264 (gr g a0 0) 28 719 h6 (by decide) (by decide)).trans k40) (im_fr M.2.2.2.2.2.1 h0_ G264 (by decide) im48) hj2 (by omega) (by omega) (by omega) (by omega) (by omega) (by omega) (by omega) F M (lv_sub hl [1, 2, 0] rfl)
      refine n_if_le C (tgt := 68) dX11_deedTold_55 (by decide) rfl (fun q281 => ?_) (fun q281 => ?_)
      ·
        refine lv_iconst (v := 0) C.1 C.2.1 dX11_deedTold_68 (by decide) ?_
        have jc282 : (I24 a0 20).toInt = i1.toInt := congrArg Int32.toInt ((G26 a0 9 20 h0_ (by decide) (by decide)).trans ki1)
        have jc283 : (I24 a0 14).toInt = i2.toInt := congrArg Int32.toInt ((G26 a0 9 14 h0_ (by decide) (by decide)).trans ki2)
        have jc284 : (I24 a0 15).toInt = u30.toInt := congrArg Int32.toInt ku30
        have jc285 : (I24 a0 16).toInt = u32.toInt := congrArg Int32.toInt ku32
        have jc286 : (I24 a0 17).toInt = u34.toInt := congrArg Int32.toInt ku34
        have cz287 : (0 : Int32).toInt = 0 := rfl
        exact J69 0 I24 J25 _ _ _ ((G26 (gr g a0 0) 28 719 h6 (by decide) (by decide)).trans ki12) ((G26 (gr g a0 0) 28 718 h6 (by decide) (by decide)).trans ki11) ((G26 (gr g a0 0) 28 722 h6 (by decide) (by decide)).trans ki10) ((G26 (gr g a0 0) 28 716 h6 (by decide) (by decide)).trans ki9) ((G26 (gr g a0 0) 28 715 h6 (by decide) (by decide)).trans ki8) ((G26 (gr g a0 0) 28 717 h6 (by decide) (by decide)).trans ki7) ((G26 a0 9 14 h0_ (by decide) (by decide)).trans ki2) (im_fr M.2.2.2.2.2.1 h0_ G26 (by decide) g5) hj2 (by omega) (by omega) (by omega) (by omega) (by omega) (by omega) (by omega) F M (lv_sub hl [1, 0] rfl)
      ·
        refine lv_aload_n C.1 C.2.1 dX11_deedTold_58 rfl (lv_at hl 1 rfl) ?_
        refine lv_sipush (v := 9999) C.1 C.2.1 dX11_deedTold_59 (by decide) ?_
        have em288 : (I24 a0 20).toInt = i1.toInt := congrArg Int32.toInt ((G26 a0 9 20 h0_ (by decide) (by decide)).trans ki1)
        have em289 : (I24 a0 14).toInt = i2.toInt := congrArg Int32.toInt ((G26 a0 9 14 h0_ (by decide) (by decide)).trans ki2)
        have em290 : (I24 a0 15).toInt = u30.toInt := congrArg Int32.toInt ku30
        have em291 : (I24 a0 16).toInt = u32.toInt := congrArg Int32.toInt ku32
        have em292 : (I24 a0 17).toInt = u34.toInt := congrArg Int32.toInt ku34
        refine k_PM C M h0_ (by decide) rfl (ct_X11_numberTold l g I24 J25 a0 9999 h0_ (by simp only [em288, em289, em290, em291, em292]; have : (9999 : Int32).toInt = 9999 := rfl; first | assumption | omega) (by simp only [em288, em289, em290, em291, em292]; have : (9999 : Int32).toInt = 9999 := rfl; first | assumption | omega) (by simp only [em288, em289, em290, em291, em292]; have : (9999 : Int32).toInt = 9999 := rfl; first | assumption | omega) (by simp only [em288, em289, em290, em291, em292]; have : (9999 : Int32).toInt = 9999 := rfl; first | assumption | omega)) (cw_X11_312 C.2.2.2.2 (by decide)) rfl hl.1 rfl (Nat.le_of_ble_eq_true rfl) dX11_deedTold_62 ⟨Nat.le_refl _, Nat.le_refl _⟩ (fun r297 I293 J294 H locs G295 p296r M => ?_)
        obtain ⟨eJ294, p296⟩ : (J294.1 = J25.1 ∧ J294.2.1 = J25.2.1) ∧ (0 ≤ (I293 a0 20).toInt ∧ (I293 a0 16).toInt ≤ (I293 a0 14).toInt ∧ (I293 a0 15).toInt ≤ (I293 a0 16).toInt ∧ ((I293 a0 17).toInt = 3 → (I293 a0 15).toInt < (I293 a0 16).toInt) ∧ (I293 a0 14).toInt = (I24 a0 14).toInt ∧ (I24 a0 15).toInt ≤ (I293 a0 15).toInt ∧ (0 < (I24 a0 20).toInt → (I293 a0 20).toInt = (I24 a0 20).toInt) ∧ ((I293 a0 20).toInt = 0 → (I24 a0 16).toInt ≤ (I293 a0 15).toInt)) := p296r
        have hj2 : J294.1 = J.1 ∧ J294.2.1 = J.2.1 := ⟨eJ294.1.trans hj2.1, eJ294.2.trans hj2.2⟩
        obtain ⟨u298, ku298⟩ : ∃ z : Int32, I293 a0 20 = z := ⟨_, rfl⟩
        have em299 : (I293 a0 20).toInt = u298.toInt := congrArg Int32.toInt ku298
        have em300 : (I293 a0 14).toInt = i2.toInt := congrArg Int32.toInt ((G295 a0 9 14 h0_ (by decide) (by decide)).trans ((G26 a0 9 14 h0_ (by decide) (by decide)).trans ki2))
        obtain ⟨u301, ku301⟩ : ∃ z : Int32, I293 a0 15 = z := ⟨_, rfl⟩
        have tu301 : 0 ≤ u301.toInt ∧ u301.toInt ≤ 1000 := m_rng M h0_ 15 ku301 rfl
        have em302 : (I293 a0 15).toInt = u301.toInt := congrArg Int32.toInt ku301
        obtain ⟨u303, ku303⟩ : ∃ z : Int32, I293 a0 16 = z := ⟨_, rfl⟩
        have tu303 : 0 ≤ u303.toInt ∧ u303.toInt ≤ 1000 := m_rng M h0_ 16 ku303 rfl
        have em304 : (I293 a0 16).toInt = u303.toInt := congrArg Int32.toInt ku303
        obtain ⟨u305, ku305⟩ : ∃ z : Int32, I293 a0 17 = z := ⟨_, rfl⟩
        have em306 : (I293 a0 17).toInt = u305.toInt := congrArg Int32.toInt ku305
        simp only [em288, em289, em290, em291, em292, em299, em300, em302, em304, em306] at p296
        have F := fr_call F G295 (by decide)
        refine lv_goto (tgt := 69) C.1 C.2.1 dX11_deedTold_65 (by decide) ?_
        have jc307 : (I293 a0 20).toInt = u298.toInt := congrArg Int32.toInt ku298
        have jc308 : (I293 a0 14).toInt = i2.toInt := congrArg Int32.toInt ((G295 a0 9 14 h0_ (by decide) (by decide)).trans ((G26 a0 9 14 h0_ (by decide) (by decide)).trans ki2))
        have jc309 : (I293 a0 15).toInt = u301.toInt := congrArg Int32.toInt ku301
        have jc310 : (I293 a0 16).toInt = u303.toInt := congrArg Int32.toInt ku303
        have jc311 : (I293 a0 17).toInt = u305.toInt := congrArg Int32.toInt ku305
        exact J69 r297 I293 J294 _ _ _ ((G295 (gr g a0 0) 28 719 h6 (by decide) (by decide)).trans ((G26 (gr g a0 0) 28 719 h6 (by decide) (by decide)).trans ki12)) ((G295 (gr g a0 0) 28 718 h6 (by decide) (by decide)).trans ((G26 (gr g a0 0) 28 718 h6 (by decide) (by decide)).trans ki11)) ((G295 (gr g a0 0) 28 722 h6 (by decide) (by decide)).trans ((G26 (gr g a0 0) 28 722 h6 (by decide) (by decide)).trans ki10)) ((G295 (gr g a0 0) 28 716 h6 (by decide) (by decide)).trans ((G26 (gr g a0 0) 28 716 h6 (by decide) (by decide)).trans ki9)) ((G295 (gr g a0 0) 28 715 h6 (by decide) (by decide)).trans ((G26 (gr g a0 0) 28 715 h6 (by decide) (by decide)).trans ki8)) ((G295 (gr g a0 0) 28 717 h6 (by decide) (by decide)).trans ((G26 (gr g a0 0) 28 717 h6 (by decide) (by decide)).trans ki7)) ((G295 a0 9 14 h0_ (by decide) (by decide)).trans ((G26 a0 9 14 h0_ (by decide) (by decide)).trans ki2)) (im_fr M.2.2.2.2.2.1 h0_ G295 (by decide) (im_fr M.2.2.2.2.2.1 h0_ G26 (by decide) g5)) hj2 (by omega) (by omega) (by omega) (by omega) (by omega) (by omega) (by omega) F M (lv_sub hl [1, 0] rfl)
    ·
      refine lv_aload_n C.1 C.2.1 dX11_deedTold_41 rfl (lv_at hl 1 rfl) ?_
      refine lv_iconst (v := 1) C.1 C.2.1 dX11_deedTold_42 (by decide) ?_
      have em312 : (I a0 20).toInt = i1.toInt := congrArg Int32.toInt ki1
      refine k_PV C M h0_ (by decide) rfl (ct_X11_wrong l g I J a0 1 h0_ (by have : (1 : Int32).toInt = 1 := rfl; omega) (by have : (1 : Int32).toInt = 1 := rfl; omega)) (cw_X11_242 C.2.2.2.2 (by decide)) rfl hl.1 rfl (Nat.le_of_ble_eq_true rfl) dX11_deedTold_43 ⟨Nat.le_refl _, Nat.le_refl _⟩ (fun I313 J314 H locs G315 p316r M => ?_)
      obtain ⟨eJ314, p316⟩ : J314 = J ∧ ((I313 a0 20).toInt ≠ 0 ∧ ((I a0 20).toInt ≠ 0 → (I313 a0 20).toInt = (I a0 20).toInt) ∧ ((I a0 20).toInt = 0 → 0 < (I313 a0 20).toInt)) := p316r
      have eJ314 := eJ314.symm
      subst eJ314
      obtain ⟨u317, ku317⟩ : ∃ z : Int32, I313 a0 20 = z := ⟨_, rfl⟩
      have em318 : (I313 a0 20).toInt = u317.toInt := congrArg Int32.toInt ku317
      simp only [em312, em318] at p316
      have F := fr_call F G315 (by decide)
      have rk319 : (I313 a0 20).toInt = u317.toInt := congrArg Int32.toInt ku317
      have rk320 : (I313 a0 14).toInt = i2.toInt := congrArg Int32.toInt ((G315 a0 9 14 h0_ (by decide) (by decide)).trans ki2)
      have rk321 : (I313 a0 15).toInt = i3.toInt := congrArg Int32.toInt ((G315 a0 9 15 h0_ (by decide) (by decide)).trans ki3)
      have rk322 : (I313 a0 16).toInt = i4.toInt := congrArg Int32.toInt ((G315 a0 9 16 h0_ (by decide) (by decide)).trans ki4)
      have rk323 : (I313 a0 17).toInt = i5.toInt := congrArg Int32.toInt ((G315 a0 9 17 h0_ (by decide) (by decide)).trans ki5)
      have rk324 : (I313 (gr g a0 0) 717).toInt = i7.toInt := congrArg Int32.toInt ((G315 (gr g a0 0) 28 717 h6 (by decide) (by decide)).trans ki7)
      have rk325 : (I313 (gr g a0 0) 715).toInt = i8.toInt := congrArg Int32.toInt ((G315 (gr g a0 0) 28 715 h6 (by decide) (by decide)).trans ki8)
      have rk326 : (I313 (gr g a0 0) 716).toInt = i9.toInt := congrArg Int32.toInt ((G315 (gr g a0 0) 28 716 h6 (by decide) (by decide)).trans ki9)
      have rk327 : (I313 (gr g a0 0) 722).toInt = i10.toInt := congrArg Int32.toInt ((G315 (gr g a0 0) 28 722 h6 (by decide) (by decide)).trans ki10)
      have rk328 : (I313 (gr g a0 0) 718).toInt = i11.toInt := congrArg Int32.toInt ((G315 (gr g a0 0) 28 718 h6 (by decide) (by decide)).trans ki11)
      have rk329 : (I313 (gr g a0 0) 719).toInt = i12.toInt := congrArg Int32.toInt ((G315 (gr g a0 0) 28 719 h6 (by decide) (by decide)).trans ki12)
      exact r_PV C M hr hlk F ⟨hj2, ⟨⟨by omega, by omega, by omega, by omega, by omega, by omega, by omega⟩, (by simp only [ci1, ci2, ci3, ci4, ci5, ci7, ci8, ci9, ci10, ci11, ci12, rk319, rk320, rk321, rk322, rk323, rk324, rk325, rk326, rk327, rk328, rk329]; first | assumption | exact g4), (im_fr M.2.2.2.2.2.1 h0_ G315 (by decide) g5)⟩⟩ dX11_deedTold_46
  ·
    refine lv_iload_n C.1 C.2.1 dX11_deedTold_10 rfl (lv_at hl 1 rfl) ?_
    refine lv_iconst (v := 3) C.1 C.2.1 dX11_deedTold_11 (by decide) ?_
    refine n_icmp_ne C (tgt := 20) (Y := 3) dX11_deedTold_12 (by decide) rfl rfl (fun q330 => ?_) (fun q330 => ?_)
    ·
      refine lv_aload_n C.1 C.2.1 dX11_deedTold_20 rfl (lv_at hl 0 rfl) ?_
      have em331 : (I a0 20).toInt = i1.toInt := congrArg Int32.toInt ki1
      have em332 : (I a0 14).toInt = i2.toInt := congrArg Int32.toInt ki2
      have em333 : (I a0 15).toInt = i3.toInt := congrArg Int32.toInt ki3
      have em334 : (I a0 16).toInt = i4.toInt := congrArg Int32.toInt ki4
      have em335 : (I a0 17).toInt = i5.toInt := congrArg Int32.toInt ki5
      refine k_PV C M h0_ (by decide) rfl (ct_X11_next l g I J a0 h0_ (by simp only [em331, em332, em333, em334, em335]; first | assumption | omega)) (cw_X11_245 C.2.2.2.2 (by decide)) rfl hl.1 rfl (Nat.le_of_ble_eq_true rfl) dX11_deedTold_21 ⟨Nat.le_refl _, Nat.le_refl _⟩ (fun I336 J337 H locs G338 p339r M => ?_)
      obtain ⟨eJ337, p339⟩ : (J337.1 = J.1 ∧ J337.2.1 = J.2.1) ∧ ((I336 a0 20).toInt = (I a0 20).toInt ∧ (I336 a0 14).toInt = (I a0 14).toInt ∧ (0 < (I a0 20).toInt → (I336 a0 15).toInt = (I a0 15).toInt ∧ (I336 a0 16).toInt = (I a0 16).toInt ∧ (I336 a0 17).toInt = (I a0 17).toInt) ∧ ((I a0 20).toInt ≤ 0 → (I a0 16).toInt ≤ (I336 a0 15).toInt ∧ (I336 a0 15).toInt ≤ (I336 a0 16).toInt ∧ (I336 a0 16).toInt ≤ (I a0 14).toInt ∧ ((I336 a0 17).toInt = 3 → (I336 a0 15).toInt < (I336 a0 16).toInt))) := p339r
      have hj2 : J337.1 = J.1 ∧ J337.2.1 = J.2.1 := ⟨eJ337.1.trans hj2.1, eJ337.2.trans hj2.2⟩
      have em340 : (I336 a0 20).toInt = i1.toInt := congrArg Int32.toInt ((G338 a0 9 20 h0_ (by decide) (by decide)).trans ki1)
      have em341 : (I336 a0 14).toInt = i2.toInt := congrArg Int32.toInt ((G338 a0 9 14 h0_ (by decide) (by decide)).trans ki2)
      obtain ⟨u342, ku342⟩ : ∃ z : Int32, I336 a0 15 = z := ⟨_, rfl⟩
      have tu342 : 0 ≤ u342.toInt ∧ u342.toInt ≤ 1000 := m_rng M h0_ 15 ku342 rfl
      have em343 : (I336 a0 15).toInt = u342.toInt := congrArg Int32.toInt ku342
      obtain ⟨u344, ku344⟩ : ∃ z : Int32, I336 a0 16 = z := ⟨_, rfl⟩
      have tu344 : 0 ≤ u344.toInt ∧ u344.toInt ≤ 1000 := m_rng M h0_ 16 ku344 rfl
      have em345 : (I336 a0 16).toInt = u344.toInt := congrArg Int32.toInt ku344
      obtain ⟨u346, ku346⟩ : ∃ z : Int32, I336 a0 17 = z := ⟨_, rfl⟩
      have em347 : (I336 a0 17).toInt = u346.toInt := congrArg Int32.toInt ku346
      simp only [em331, em332, em333, em334, em335, em340, em341, em343, em345, em347] at p339
      have F := fr_call F G338 (by decide)
      refine lv_aload_n C.1 C.2.1 dX11_deedTold_24 rfl (lv_at hl 0 rfl) ?_
      refine lv_iload_n C.1 C.2.1 dX11_deedTold_25 rfl (lv_at hl 1 rfl) ?_
      refine lv_iconst (v := 1) C.1 C.2.1 dX11_deedTold_26 (by decide) ?_
      refine n_iadd C (Y := 1) dX11_deedTold_27 rfl rfl (by omega) (by omega) (fun v348 ev348 => ?_)
      have em349 : (I336 a0 20).toInt = i1.toInt := congrArg Int32.toInt ((G338 a0 9 20 h0_ (by decide) (by decide)).trans ki1)
      have em350 : (I336 a0 14).toInt = i2.toInt := congrArg Int32.toInt ((G338 a0 9 14 h0_ (by decide) (by decide)).trans ki2)
      have em351 : (I336 a0 15).toInt = u342.toInt := congrArg Int32.toInt ku342
      have em352 : (I336 a0 16).toInt = u344.toInt := congrArg Int32.toInt ku344
      have em353 : (I336 a0 17).toInt = u346.toInt := congrArg Int32.toInt ku346
      have em354 : (I336 (gr g a0 0) 717).toInt = i7.toInt := congrArg Int32.toInt ((G338 (gr g a0 0) 28 717 h6 (by decide) (by decide)).trans ki7)
      have em355 : (I336 (gr g a0 0) 715).toInt = i8.toInt := congrArg Int32.toInt ((G338 (gr g a0 0) 28 715 h6 (by decide) (by decide)).trans ki8)
      have em356 : (I336 (gr g a0 0) 716).toInt = i9.toInt := congrArg Int32.toInt ((G338 (gr g a0 0) 28 716 h6 (by decide) (by decide)).trans ki9)
      have em357 : (I336 (gr g a0 0) 722).toInt = i10.toInt := congrArg Int32.toInt ((G338 (gr g a0 0) 28 722 h6 (by decide) (by decide)).trans ki10)
      have em358 : (I336 (gr g a0 0) 718).toInt = i11.toInt := congrArg Int32.toInt ((G338 (gr g a0 0) 28 718 h6 (by decide) (by decide)).trans ki11)
      have em359 : (I336 (gr g a0 0) 719).toInt = i12.toInt := congrArg Int32.toInt ((G338 (gr g a0 0) 28 719 h6 (by decide) (by decide)).trans ki12)
      refine k_PV C M h0_ (by decide) rfl (ct_X11_againTold_2 l g I336 J337 a0 v348 h0_ (by simp only [em349, em350, em351, em352, em353, em354, em355, em356, em357, em358, em359]; first | assumption | omega) (by simp only [em349, em350, em351, em352, em353, em354, em355, em356, em357, em358, em359]; first | assumption | omega) (by simp only [em349, em350, em351, em352, em353, em354, em355, em356, em357, em358, em359]; first | assumption | omega) (by simp only [em349, em350, em351, em352, em353, em354, em355, em356, em357, em358, em359]; first | assumption | omega) (by simp only [em349, em350, em351, em352, em353, em354, em355, em356, em357, em358, em359]; first | assumption | omega) (im_fr M.2.2.2.2.2.1 h0_ G338 (by decide) g5) (by omega)) (cw_X11_303 C.2.2.2.2 (by decide)) rfl hl.1 rfl (Nat.le_of_ble_eq_true rfl) dX11_deedTold_28 ⟨Nat.le_refl _, Nat.le_refl _⟩ (fun I360 J361 H locs G362 p363r M => ?_)
      obtain ⟨eJ361, p363⟩ : (J361.1 = J337.1 ∧ J361.2.1 = J337.2.1) ∧ ((0 ≤ (I360 a0 20).toInt ∧ (I360 a0 16).toInt ≤ (I360 a0 14).toInt ∧ (I360 a0 15).toInt ≤ (I360 a0 16).toInt ∧ ((I360 a0 17).toInt = 3 → (I360 a0 15).toInt < (I360 a0 16).toInt) ∧ (I360 a0 14).toInt = (I336 a0 14).toInt ∧ (I336 a0 15).toInt ≤ (I360 a0 15).toInt ∧ (0 < (I336 a0 20).toInt → (I360 a0 20).toInt = (I336 a0 20).toInt)) ∧ jm (I360 (gr g a0 0) 717).toInt (I360 (gr g a0 0) 715).toInt (I360 (gr g a0 0) 716).toInt (I360 (gr g a0 0) 722).toInt (I360 (gr g a0 0) 718).toInt (I360 (gr g a0 0) 719).toInt ∧ IM g I360 a0) := p363r
      have hj2 : J361.1 = J.1 ∧ J361.2.1 = J.2.1 := ⟨eJ361.1.trans hj2.1, eJ361.2.trans hj2.2⟩
      obtain ⟨u364, ku364⟩ : ∃ z : Int32, I360 a0 20 = z := ⟨_, rfl⟩
      have em365 : (I360 a0 20).toInt = u364.toInt := congrArg Int32.toInt ku364
      have em366 : (I360 a0 14).toInt = i2.toInt := congrArg Int32.toInt ((G362 a0 9 14 h0_ (by decide) (by decide)).trans ((G338 a0 9 14 h0_ (by decide) (by decide)).trans ki2))
      obtain ⟨u367, ku367⟩ : ∃ z : Int32, I360 a0 15 = z := ⟨_, rfl⟩
      have tu367 : 0 ≤ u367.toInt ∧ u367.toInt ≤ 1000 := m_rng M h0_ 15 ku367 rfl
      have em368 : (I360 a0 15).toInt = u367.toInt := congrArg Int32.toInt ku367
      obtain ⟨u369, ku369⟩ : ∃ z : Int32, I360 a0 16 = z := ⟨_, rfl⟩
      have tu369 : 0 ≤ u369.toInt ∧ u369.toInt ≤ 1000 := m_rng M h0_ 16 ku369 rfl
      have em370 : (I360 a0 16).toInt = u369.toInt := congrArg Int32.toInt ku369
      obtain ⟨u371, ku371⟩ : ∃ z : Int32, I360 a0 17 = z := ⟨_, rfl⟩
      have em372 : (I360 a0 17).toInt = u371.toInt := congrArg Int32.toInt ku371
      obtain ⟨u373, ku373⟩ : ∃ z : Int32, I360 (gr g a0 0) 717 = z := ⟨_, rfl⟩
      have tu373 : 0 ≤ u373.toInt ∧ u373.toInt ≤ 1 := m_rng M h6 717 ku373 rfl
      have em374 : (I360 (gr g a0 0) 717).toInt = u373.toInt := congrArg Int32.toInt ku373
      obtain ⟨u375, ku375⟩ : ∃ z : Int32, I360 (gr g a0 0) 715 = z := ⟨_, rfl⟩
      have tu375 : 3 ≤ u375.toInt ∧ u375.toInt ≤ 7 := m_rng M h6 715 ku375 rfl
      have em376 : (I360 (gr g a0 0) 715).toInt = u375.toInt := congrArg Int32.toInt ku375
      obtain ⟨u377, ku377⟩ : ∃ z : Int32, I360 (gr g a0 0) 716 = z := ⟨_, rfl⟩
      have tu377 : 4 ≤ u377.toInt ∧ u377.toInt ≤ 40 := m_rng M h6 716 ku377 rfl
      have em378 : (I360 (gr g a0 0) 716).toInt = u377.toInt := congrArg Int32.toInt ku377
      obtain ⟨u379, ku379⟩ : ∃ z : Int32, I360 (gr g a0 0) 722 = z := ⟨_, rfl⟩
      have tu379 : 1 ≤ u379.toInt ∧ u379.toInt ≤ 4 := m_rng M h6 722 ku379 rfl
      have em380 : (I360 (gr g a0 0) 722).toInt = u379.toInt := congrArg Int32.toInt ku379
      obtain ⟨u381, ku381⟩ : ∃ z : Int32, I360 (gr g a0 0) 718 = z := ⟨_, rfl⟩
      have tu381 : 0 ≤ u381.toInt ∧ u381.toInt ≤ 200 := m_rng M h6 718 ku381 rfl
      have em382 : (I360 (gr g a0 0) 718).toInt = u381.toInt := congrArg Int32.toInt ku381
      obtain ⟨u383, ku383⟩ : ∃ z : Int32, I360 (gr g a0 0) 719 = z := ⟨_, rfl⟩
      have tu383 : 0 ≤ u383.toInt ∧ u383.toInt ≤ 200 := m_rng M h6 719 ku383 rfl
      have em384 : (I360 (gr g a0 0) 719).toInt = u383.toInt := congrArg Int32.toInt ku383
      simp only [em349, em350, em351, em352, em353, em354, em355, em356, em357, em358, em359, em365, em366, em368, em370, em372, em374, em376, em378, em380, em382, em384] at p363
      obtain ⟨p363, hjm385, im386⟩ := p363
      have F := fr_call F G362 (by decide)
      have rk387 : (I360 a0 20).toInt = u364.toInt := congrArg Int32.toInt ku364
      have rk388 : (I360 a0 14).toInt = i2.toInt := congrArg Int32.toInt ((G362 a0 9 14 h0_ (by decide) (by decide)).trans ((G338 a0 9 14 h0_ (by decide) (by decide)).trans ki2))
      have rk389 : (I360 a0 15).toInt = u367.toInt := congrArg Int32.toInt ku367
      have rk390 : (I360 a0 16).toInt = u369.toInt := congrArg Int32.toInt ku369
      have rk391 : (I360 a0 17).toInt = u371.toInt := congrArg Int32.toInt ku371
      have rk392 : (I360 (gr g a0 0) 717).toInt = u373.toInt := congrArg Int32.toInt ku373
      have rk393 : (I360 (gr g a0 0) 715).toInt = u375.toInt := congrArg Int32.toInt ku375
      have rk394 : (I360 (gr g a0 0) 716).toInt = u377.toInt := congrArg Int32.toInt ku377
      have rk395 : (I360 (gr g a0 0) 722).toInt = u379.toInt := congrArg Int32.toInt ku379
      have rk396 : (I360 (gr g a0 0) 718).toInt = u381.toInt := congrArg Int32.toInt ku381
      have rk397 : (I360 (gr g a0 0) 719).toInt = u383.toInt := congrArg Int32.toInt ku383
      exact r_PV C M hr hlk F ⟨hj2, ⟨⟨by omega, by omega, by omega, by omega, by omega, by omega, by omega⟩, (by simp only [ci1, ci2, ci3, ci4, ci5, ci7, ci8, ci9, ci10, ci11, ci12, rk387, rk388, rk389, rk390, rk391, rk392, rk393, rk394, rk395, rk396, rk397]; first | assumption | exact g4), im386⟩⟩ dX11_deedTold_31
    ·
      exact absurd q330 (by omega)

abbrev md_X11_deedsTold_1 : List (Nat × Nat) := [(9, 6), (9, 10), (9, 11), (9, 12), (9, 16), (9, 17), (9, 18), (9, 20), (9, 21), (9, 22), (9, 23), (9, 24), (28, 0), (30, 0), (31, 0), (32, 0)]
set_option maxHeartbeats 4000000 in
set_option maxRecDepth 100000 in
theorem ct_X11_deedsTold_1 (l : Launch) (g : Gs) (I : Ms) (J : Js) (a0 : Nat) (x1 : Int32) (h0_ : Is g a0 9) (g0 : 0 ≤ (I a0 20).toInt) (g1 : (I a0 16).toInt ≤ (I a0 14).toInt) (g2 : (I a0 15).toInt ≤ (I a0 16).toInt) (g3 : (I a0 17).toInt = 3 → (I a0 15).toInt < (I a0 16).toInt) (g4 : jm (I (gr g a0 0) 717).toInt (I (gr g a0 0) 715).toInt (I (gr g a0 0) 716).toInt (I (gr g a0 0) 722).toInt (I (gr g a0 0) 718).toInt (I (gr g a0 0) 719).toInt) (g5 : IM g I a0) (g6 : x1.toInt = 1) : Ctr l yX11_deedsTold cX11_deedsTold 2 (Option.none : Option Jvm.ClassFile.FieldType) 38 g [.ref a0, .int x1] I J (PV g md_X11_deedsTold_1 I (fun I1 J1 => (J1.1 = J.1 ∧ J1.2.1 = J.2.1) ∧ ((0 ≤ (I1 a0 20).toInt ∧ (I1 a0 16).toInt ≤ (I1 a0 14).toInt ∧ (I1 a0 15).toInt ≤ (I1 a0 16).toInt ∧ ((I1 a0 17).toInt = 3 → (I1 a0 15).toInt < (I1 a0 16).toInt) ∧ (I1 a0 14).toInt = (I a0 14).toInt ∧ (I a0 15).toInt ≤ (I1 a0 15).toInt ∧ (0 < (I a0 20).toInt → (I1 a0 20).toInt = (I a0 20).toInt)) ∧ jm (I1 (gr g a0 0) 717).toInt (I1 (gr g a0 0) 715).toInt (I1 (gr g a0 0) 716).toInt (I1 (gr g a0 0) 722).toInt (I1 (gr g a0 0) 718).toInt (I1 (gr g a0 0) 719).toInt ∧ IM g I1 a0))) := by
  refine m_start (by decide) (Nat.le_of_ble_eq_true rfl) ?_
  intro p e s m args below meth c C hr hlk M ls hl
  have hl : lv_has ls 2 [(0, .ref a0), (1, .int x1)] := hl
  have C : CallFix p m c cX11_deedsTold 2 s args TB RX11 := C
  have F : Fr g md_X11_deedsTold_1 I I := fr_rf
  have hj2 : J.1 = J.1 ∧ J.2.1 = J.2.1 := ⟨rfl, rfl⟩
  have hQ0 := M.2.2.2.2.2.2.2
  obtain ⟨i1, ki1⟩ : ∃ z : Int32, I a0 20 = z := ⟨_, rfl⟩
  have ci1 : (I a0 20).toInt = i1.toInt := congrArg Int32.toInt ki1
  obtain ⟨i2, ki2⟩ : ∃ z : Int32, I a0 14 = z := ⟨_, rfl⟩
  have ti2 : 0 ≤ i2.toInt ∧ i2.toInt ≤ 264 := m_rng M h0_ 14 ki2 rfl
  have ci2 : (I a0 14).toInt = i2.toInt := congrArg Int32.toInt ki2
  obtain ⟨i3, ki3⟩ : ∃ z : Int32, I a0 15 = z := ⟨_, rfl⟩
  have ti3 : 0 ≤ i3.toInt ∧ i3.toInt ≤ 1000 := m_rng M h0_ 15 ki3 rfl
  have ci3 : (I a0 15).toInt = i3.toInt := congrArg Int32.toInt ki3
  obtain ⟨i4, ki4⟩ : ∃ z : Int32, I a0 16 = z := ⟨_, rfl⟩
  have ti4 : 0 ≤ i4.toInt ∧ i4.toInt ≤ 1000 := m_rng M h0_ 16 ki4 rfl
  have ci4 : (I a0 16).toInt = i4.toInt := congrArg Int32.toInt ki4
  obtain ⟨i5, ki5⟩ : ∃ z : Int32, I a0 17 = z := ⟨_, rfl⟩
  have ci5 : (I a0 17).toInt = i5.toInt := congrArg Int32.toInt ki5
  have h6 := is_ref M h0_ 0 28 rfl rfl
  obtain ⟨i7, ki7⟩ : ∃ z : Int32, I (gr g a0 0) 717 = z := ⟨_, rfl⟩
  have ti7 : 0 ≤ i7.toInt ∧ i7.toInt ≤ 1 := m_rng M h6 717 ki7 rfl
  have ci7 : (I (gr g a0 0) 717).toInt = i7.toInt := congrArg Int32.toInt ki7
  obtain ⟨i8, ki8⟩ : ∃ z : Int32, I (gr g a0 0) 715 = z := ⟨_, rfl⟩
  have ti8 : 3 ≤ i8.toInt ∧ i8.toInt ≤ 7 := m_rng M h6 715 ki8 rfl
  have ci8 : (I (gr g a0 0) 715).toInt = i8.toInt := congrArg Int32.toInt ki8
  obtain ⟨i9, ki9⟩ : ∃ z : Int32, I (gr g a0 0) 716 = z := ⟨_, rfl⟩
  have ti9 : 4 ≤ i9.toInt ∧ i9.toInt ≤ 40 := m_rng M h6 716 ki9 rfl
  have ci9 : (I (gr g a0 0) 716).toInt = i9.toInt := congrArg Int32.toInt ki9
  obtain ⟨i10, ki10⟩ : ∃ z : Int32, I (gr g a0 0) 722 = z := ⟨_, rfl⟩
  have ti10 : 1 ≤ i10.toInt ∧ i10.toInt ≤ 4 := m_rng M h6 722 ki10 rfl
  have ci10 : (I (gr g a0 0) 722).toInt = i10.toInt := congrArg Int32.toInt ki10
  obtain ⟨i11, ki11⟩ : ∃ z : Int32, I (gr g a0 0) 718 = z := ⟨_, rfl⟩
  have ti11 : 0 ≤ i11.toInt ∧ i11.toInt ≤ 200 := m_rng M h6 718 ki11 rfl
  have ci11 : (I (gr g a0 0) 718).toInt = i11.toInt := congrArg Int32.toInt ki11
  obtain ⟨i12, ki12⟩ : ∃ z : Int32, I (gr g a0 0) 719 = z := ⟨_, rfl⟩
  have ti12 : 0 ≤ i12.toInt ∧ i12.toInt ≤ 200 := m_rng M h6 719 ki12 rfl
  have ci12 : (I (gr g a0 0) 719).toInt = i12.toInt := congrArg Int32.toInt ki12
  simp only [ci1, ci2, ci3, ci4, ci5, ci7, ci8, ci9, ci10, ci11, ci12] at g0 g1 g2 g3 g4
  have L0 : ∀ (n0 : Nat) (I13 : Ms) (J15 : Js) (H : Heap) (locs : List Loc) (ls : Array Slot), I13 a0 14 = i2 → IM g I13 a0 → J15.1 = J.1 ∧ J15.2.1 = J.2.1 → 0 ≤ (I13 a0 20).toInt → (I13 a0 16).toInt ≤ (I13 a0 14).toInt → (I13 a0 15).toInt ≤ (I13 a0 16).toInt → ((I13 a0 17).toInt = 3 → (I13 a0 15).toInt < (I13 a0 16).toInt) → (I13 a0 14).toInt = i2.toInt → i3.toInt ≤ (I13 a0 15).toInt → (0 < i1.toInt → (I13 a0 20).toInt = i1.toInt) → jm (I13 (gr g a0 0) 717).toInt (I13 (gr g a0 0) 715).toInt (I13 (gr g a0 0) 716).toInt (I13 (gr g a0 0) 722).toInt (I13 (gr g a0 0) 718).toInt (I13 (gr g a0 0) 719).toInt → 2 * (i2.toInt - (I13 a0 15).toInt) + (1 - min 1 (I13 a0 20).toInt) < (n0 : Int) → Fr g md_X11_deedsTold_1 I I13 → Mm g s I13 J15 H locs → lv_has ls 2 [(0, .ref a0), (1, .int x1)] → W p l e (rmL 38) s m args below meth c H locs 0 0 (MQg below g (PV g md_X11_deedsTold_1 I (fun I1 J1 => (J1.1 = J.1 ∧ J1.2.1 = J.2.1) ∧ ((0 ≤ (I1 a0 20).toInt ∧ (I1 a0 16).toInt ≤ (I1 a0 14).toInt ∧ (I1 a0 15).toInt ≤ (I1 a0 16).toInt ∧ ((I1 a0 17).toInt = 3 → (I1 a0 15).toInt < (I1 a0 16).toInt) ∧ (I1 a0 14).toInt = (I a0 14).toInt ∧ (I a0 15).toInt ≤ (I1 a0 15).toInt ∧ (0 < (I a0 20).toInt → (I1 a0 20).toInt = (I a0 20).toInt)) ∧ jm (I1 (gr g a0 0) 717).toInt (I1 (gr g a0 0) 715).toInt (I1 (gr g a0 0) 716).toInt (I1 (gr g a0 0) 722).toInt (I1 (gr g a0 0) 718).toInt (I1 (gr g a0 0) 719).toInt ∧ IM g I1 a0))) args s) (F0 m 0 ls []) := by
    intro n0
    induction n0 with
    | zero =>
      intro I13 J15 H locs ls k14 im16 hj2 f17 f18 f19 f20 f21 f22 f23 hJm hm0 F M hl
      exact absurd hm0 (by omega)
    | succ n0 ih0 =>
      intro I13 J15 H locs ls k14 im16 hj2 f17 f18 f19 f20 f21 f22 f23 hJm hm0 F M hl
      obtain ⟨u24, ku24⟩ : ∃ z : Int32, I13 a0 20 = z := ⟨_, rfl⟩
      have cu24 : (I13 a0 20).toInt = u24.toInt := congrArg Int32.toInt ku24
      have cc25 : (I13 a0 14).toInt = i2.toInt := congrArg Int32.toInt k14
      obtain ⟨u26, ku26⟩ : ∃ z : Int32, I13 a0 15 = z := ⟨_, rfl⟩
      have tu26 : 0 ≤ u26.toInt ∧ u26.toInt ≤ 1000 := m_rng M h0_ 15 ku26 rfl
      have cu26 : (I13 a0 15).toInt = u26.toInt := congrArg Int32.toInt ku26
      obtain ⟨u27, ku27⟩ : ∃ z : Int32, I13 a0 16 = z := ⟨_, rfl⟩
      have tu27 : 0 ≤ u27.toInt ∧ u27.toInt ≤ 1000 := m_rng M h0_ 16 ku27 rfl
      have cu27 : (I13 a0 16).toInt = u27.toInt := congrArg Int32.toInt ku27
      obtain ⟨u28, ku28⟩ : ∃ z : Int32, I13 a0 17 = z := ⟨_, rfl⟩
      have cu28 : (I13 a0 17).toInt = u28.toInt := congrArg Int32.toInt ku28
      obtain ⟨u29, ku29⟩ : ∃ z : Int32, I13 (gr g a0 0) 717 = z := ⟨_, rfl⟩
      have tu29 : 0 ≤ u29.toInt ∧ u29.toInt ≤ 1 := m_rng M h6 717 ku29 rfl
      have cu29 : (I13 (gr g a0 0) 717).toInt = u29.toInt := congrArg Int32.toInt ku29
      obtain ⟨u30, ku30⟩ : ∃ z : Int32, I13 (gr g a0 0) 715 = z := ⟨_, rfl⟩
      have tu30 : 3 ≤ u30.toInt ∧ u30.toInt ≤ 7 := m_rng M h6 715 ku30 rfl
      have cu30 : (I13 (gr g a0 0) 715).toInt = u30.toInt := congrArg Int32.toInt ku30
      obtain ⟨u31, ku31⟩ : ∃ z : Int32, I13 (gr g a0 0) 716 = z := ⟨_, rfl⟩
      have tu31 : 4 ≤ u31.toInt ∧ u31.toInt ≤ 40 := m_rng M h6 716 ku31 rfl
      have cu31 : (I13 (gr g a0 0) 716).toInt = u31.toInt := congrArg Int32.toInt ku31
      obtain ⟨u32, ku32⟩ : ∃ z : Int32, I13 (gr g a0 0) 722 = z := ⟨_, rfl⟩
      have tu32 : 1 ≤ u32.toInt ∧ u32.toInt ≤ 4 := m_rng M h6 722 ku32 rfl
      have cu32 : (I13 (gr g a0 0) 722).toInt = u32.toInt := congrArg Int32.toInt ku32
      obtain ⟨u33, ku33⟩ : ∃ z : Int32, I13 (gr g a0 0) 718 = z := ⟨_, rfl⟩
      have tu33 : 0 ≤ u33.toInt ∧ u33.toInt ≤ 200 := m_rng M h6 718 ku33 rfl
      have cu33 : (I13 (gr g a0 0) 718).toInt = u33.toInt := congrArg Int32.toInt ku33
      obtain ⟨u34, ku34⟩ : ∃ z : Int32, I13 (gr g a0 0) 719 = z := ⟨_, rfl⟩
      have tu34 : 0 ≤ u34.toInt ∧ u34.toInt ≤ 200 := m_rng M h6 719 ku34 rfl
      have cu34 : (I13 (gr g a0 0) 719).toInt = u34.toInt := congrArg Int32.toInt ku34
      simp only [cu24, cc25, cu26, cu27, cu28, cu29, cu30, cu31, cu32, cu33, cu34] at hJm
      refine lv_aload_n C.1 C.2.1 dX11_deedsTold_0 rfl (lv_at hl 0 rfl) ?_
      refine gk_X11_198 C M h0_ ku24 dX11_deedsTold_1 ?_
      refine n_if_ne C (tgt := 74) dX11_deedsTold_4 (by decide) rfl (fun q35 => ?_) (fun q35 => ?_)
      ·
        have rk36 : (I13 a0 20).toInt = u24.toInt := congrArg Int32.toInt ku24
        have rk37 : (I13 a0 14).toInt = i2.toInt := congrArg Int32.toInt k14
        have rk38 : (I13 a0 15).toInt = u26.toInt := congrArg Int32.toInt ku26
        have rk39 : (I13 a0 16).toInt = u27.toInt := congrArg Int32.toInt ku27
        have rk40 : (I13 a0 17).toInt = u28.toInt := congrArg Int32.toInt ku28
        have rk41 : (I13 (gr g a0 0) 717).toInt = u29.toInt := congrArg Int32.toInt ku29
        have rk42 : (I13 (gr g a0 0) 715).toInt = u30.toInt := congrArg Int32.toInt ku30
        have rk43 : (I13 (gr g a0 0) 716).toInt = u31.toInt := congrArg Int32.toInt ku31
        have rk44 : (I13 (gr g a0 0) 722).toInt = u32.toInt := congrArg Int32.toInt ku32
        have rk45 : (I13 (gr g a0 0) 718).toInt = u33.toInt := congrArg Int32.toInt ku33
        have rk46 : (I13 (gr g a0 0) 719).toInt = u34.toInt := congrArg Int32.toInt ku34
        exact r_PV C M hr hlk F ⟨hj2, ⟨⟨by omega, by omega, by omega, by omega, by omega, by omega, by omega⟩, (by simp only [ci1, ci2, ci3, ci4, ci5, ci7, ci8, ci9, ci10, ci11, ci12, rk36, rk37, rk38, rk39, rk40, rk41, rk42, rk43, rk44, rk45, rk46]; first | assumption | exact g4), im16⟩⟩ dX11_deedsTold_74
      ·
        refine lv_aload_n C.1 C.2.1 dX11_deedsTold_7 rfl (lv_at hl 0 rfl) ?_
        refine gk_X11_210 C M h0_ ku28 dX11_deedsTold_8 ?_
        refine n_if_eq C (tgt := 74) dX11_deedsTold_11 (by decide) rfl (fun q47 => ?_) (fun q47 => ?_)
        ·
          have rk48 : (I13 a0 20).toInt = u24.toInt := congrArg Int32.toInt ku24
          have rk49 : (I13 a0 14).toInt = i2.toInt := congrArg Int32.toInt k14
          have rk50 : (I13 a0 15).toInt = u26.toInt := congrArg Int32.toInt ku26
          have rk51 : (I13 a0 16).toInt = u27.toInt := congrArg Int32.toInt ku27
          have rk52 : (I13 a0 17).toInt = u28.toInt := congrArg Int32.toInt ku28
          have rk53 : (I13 (gr g a0 0) 717).toInt = u29.toInt := congrArg Int32.toInt ku29
          have rk54 : (I13 (gr g a0 0) 715).toInt = u30.toInt := congrArg Int32.toInt ku30
          have rk55 : (I13 (gr g a0 0) 716).toInt = u31.toInt := congrArg Int32.toInt ku31
          have rk56 : (I13 (gr g a0 0) 722).toInt = u32.toInt := congrArg Int32.toInt ku32
          have rk57 : (I13 (gr g a0 0) 718).toInt = u33.toInt := congrArg Int32.toInt ku33
          have rk58 : (I13 (gr g a0 0) 719).toInt = u34.toInt := congrArg Int32.toInt ku34
          exact r_PV C M hr hlk F ⟨hj2, ⟨⟨by omega, by omega, by omega, by omega, by omega, by omega, by omega⟩, (by simp only [ci1, ci2, ci3, ci4, ci5, ci7, ci8, ci9, ci10, ci11, ci12, rk48, rk49, rk50, rk51, rk52, rk53, rk54, rk55, rk56, rk57, rk58]; first | assumption | exact g4), im16⟩⟩ dX11_deedsTold_74
        ·
          refine lv_aload_n C.1 C.2.1 dX11_deedsTold_14 rfl (lv_at hl 0 rfl) ?_
          refine gk_X11_210 C M h0_ ku28 dX11_deedsTold_15 ?_
          refine lv_iconst (v := 3) C.1 C.2.1 dX11_deedsTold_18 (by decide) ?_
          have J31 : ∀ (H : Heap) (locs : List Loc) (ls : Array Slot), Mm g s I13 J15 H locs → lv_has ls 2 [(0, .ref a0), (1, .int x1)] → W p l e (rmL 38) s m args below meth c H locs 0 0 (MQg below g (PV g md_X11_deedsTold_1 I (fun I1 J1 => (J1.1 = J.1 ∧ J1.2.1 = J.2.1) ∧ ((0 ≤ (I1 a0 20).toInt ∧ (I1 a0 16).toInt ≤ (I1 a0 14).toInt ∧ (I1 a0 15).toInt ≤ (I1 a0 16).toInt ∧ ((I1 a0 17).toInt = 3 → (I1 a0 15).toInt < (I1 a0 16).toInt) ∧ (I1 a0 14).toInt = (I a0 14).toInt ∧ (I a0 15).toInt ≤ (I1 a0 15).toInt ∧ (0 < (I a0 20).toInt → (I1 a0 20).toInt = (I a0 20).toInt)) ∧ jm (I1 (gr g a0 0) 717).toInt (I1 (gr g a0 0) 715).toInt (I1 (gr g a0 0) 716).toInt (I1 (gr g a0 0) 722).toInt (I1 (gr g a0 0) 718).toInt (I1 (gr g a0 0) 719).toInt ∧ IM g I1 a0))) args s) (F0 m 31 ls []) := by
            intro H locs ls M hl
            refine lv_aload_n C.1 C.2.1 dX11_deedsTold_31 rfl (lv_at hl 0 rfl) ?_
            refine gi_X11_318 C M h0_ dX11_deedsTold_32 (fun v59 kv59 tv59 uv59 => ?_)
            have cv59 : (I13 a0 22).toInt = v59.toInt := congrArg Int32.toInt kv59
            have J45 : ∀ (H : Heap) (locs : List Loc) (ls : Array Slot), Mm g s I13 J15 H locs → lv_has ls 2 [(0, .ref a0), (1, .int x1)] → W p l e (rmL 38) s m args below meth c H locs 0 0 (MQg below g (PV g md_X11_deedsTold_1 I (fun I1 J1 => (J1.1 = J.1 ∧ J1.2.1 = J.2.1) ∧ ((0 ≤ (I1 a0 20).toInt ∧ (I1 a0 16).toInt ≤ (I1 a0 14).toInt ∧ (I1 a0 15).toInt ≤ (I1 a0 16).toInt ∧ ((I1 a0 17).toInt = 3 → (I1 a0 15).toInt < (I1 a0 16).toInt) ∧ (I1 a0 14).toInt = (I a0 14).toInt ∧ (I a0 15).toInt ≤ (I1 a0 15).toInt ∧ (0 < (I a0 20).toInt → (I1 a0 20).toInt = (I a0 20).toInt)) ∧ jm (I1 (gr g a0 0) 717).toInt (I1 (gr g a0 0) 715).toInt (I1 (gr g a0 0) 716).toInt (I1 (gr g a0 0) 722).toInt (I1 (gr g a0 0) 718).toInt (I1 (gr g a0 0) 719).toInt ∧ IM g I1 a0))) args s) (F0 m 45 ls []) := by
              intro H locs ls M hl
              refine lv_aload_n C.1 C.2.1 dX11_deedsTold_45 rfl (lv_at hl 0 rfl) ?_
              refine lv_iload_n C.1 C.2.1 dX11_deedsTold_46 rfl (lv_at hl 1 rfl) ?_
              have em60 : (I13 a0 20).toInt = u24.toInt := congrArg Int32.toInt ku24
              have em61 : (I13 a0 14).toInt = i2.toInt := congrArg Int32.toInt k14
              have em62 : (I13 a0 15).toInt = u26.toInt := congrArg Int32.toInt ku26
              have em63 : (I13 a0 16).toInt = u27.toInt := congrArg Int32.toInt ku27
              have em64 : (I13 a0 17).toInt = u28.toInt := congrArg Int32.toInt ku28
              have em65 : (I13 (gr g a0 0) 717).toInt = u29.toInt := congrArg Int32.toInt ku29
              have em66 : (I13 (gr g a0 0) 715).toInt = u30.toInt := congrArg Int32.toInt ku30
              have em67 : (I13 (gr g a0 0) 716).toInt = u31.toInt := congrArg Int32.toInt ku31
              have em68 : (I13 (gr g a0 0) 722).toInt = u32.toInt := congrArg Int32.toInt ku32
              have em69 : (I13 (gr g a0 0) 718).toInt = u33.toInt := congrArg Int32.toInt ku33
              have em70 : (I13 (gr g a0 0) 719).toInt = u34.toInt := congrArg Int32.toInt ku34
              refine k_PV C M h0_ (by decide) rfl (ct_X11_deedTold_1 l g I13 J15 a0 x1 h0_ (by simp only [em60, em61, em62, em63, em64, em65, em66, em67, em68, em69, em70]; first | assumption | omega) (by simp only [em60, em61, em62, em63, em64, em65, em66, em67, em68, em69, em70]; first | assumption | omega) (by simp only [em60, em61, em62, em63, em64, em65, em66, em67, em68, em69, em70]; first | assumption | omega) (by simp only [em60, em61, em62, em63, em64, em65, em66, em67, em68, em69, em70]; first | assumption | omega) (by simp only [em60, em61, em62, em63, em64, em65, em66, em67, em68, em69, em70]; first | assumption | omega) im16 (by omega)) (cw_X11_334 C.2.2.2.2 (by decide)) rfl hl.1 rfl (Nat.le_of_ble_eq_true rfl) dX11_deedsTold_47 ⟨Nat.le_refl _, Nat.le_refl _⟩ (fun I71 J72 H locs G73 p74r M => ?_)
              obtain ⟨eJ72, p74⟩ : (J72.1 = J15.1 ∧ J72.2.1 = J15.2.1) ∧ ((0 ≤ (I71 a0 20).toInt ∧ (I71 a0 16).toInt ≤ (I71 a0 14).toInt ∧ (I71 a0 15).toInt ≤ (I71 a0 16).toInt ∧ ((I71 a0 17).toInt = 3 → (I71 a0 15).toInt < (I71 a0 16).toInt) ∧ (I71 a0 14).toInt = (I13 a0 14).toInt ∧ (I13 a0 15).toInt ≤ (I71 a0 15).toInt ∧ (0 < (I13 a0 20).toInt → (I71 a0 20).toInt = (I13 a0 20).toInt)) ∧ jm (I71 (gr g a0 0) 717).toInt (I71 (gr g a0 0) 715).toInt (I71 (gr g a0 0) 716).toInt (I71 (gr g a0 0) 722).toInt (I71 (gr g a0 0) 718).toInt (I71 (gr g a0 0) 719).toInt ∧ IM g I71 a0) := p74r
              have hj2 : J72.1 = J.1 ∧ J72.2.1 = J.2.1 := ⟨eJ72.1.trans hj2.1, eJ72.2.trans hj2.2⟩
              obtain ⟨u75, ku75⟩ : ∃ z : Int32, I71 a0 20 = z := ⟨_, rfl⟩
              have em76 : (I71 a0 20).toInt = u75.toInt := congrArg Int32.toInt ku75
              have em77 : (I71 a0 14).toInt = i2.toInt := congrArg Int32.toInt ((G73 a0 9 14 h0_ (by decide) (by decide)).trans k14)
              obtain ⟨u78, ku78⟩ : ∃ z : Int32, I71 a0 15 = z := ⟨_, rfl⟩
              have tu78 : 0 ≤ u78.toInt ∧ u78.toInt ≤ 1000 := m_rng M h0_ 15 ku78 rfl
              have em79 : (I71 a0 15).toInt = u78.toInt := congrArg Int32.toInt ku78
              obtain ⟨u80, ku80⟩ : ∃ z : Int32, I71 a0 16 = z := ⟨_, rfl⟩
              have tu80 : 0 ≤ u80.toInt ∧ u80.toInt ≤ 1000 := m_rng M h0_ 16 ku80 rfl
              have em81 : (I71 a0 16).toInt = u80.toInt := congrArg Int32.toInt ku80
              obtain ⟨u82, ku82⟩ : ∃ z : Int32, I71 a0 17 = z := ⟨_, rfl⟩
              have em83 : (I71 a0 17).toInt = u82.toInt := congrArg Int32.toInt ku82
              obtain ⟨u84, ku84⟩ : ∃ z : Int32, I71 (gr g a0 0) 717 = z := ⟨_, rfl⟩
              have tu84 : 0 ≤ u84.toInt ∧ u84.toInt ≤ 1 := m_rng M h6 717 ku84 rfl
              have em85 : (I71 (gr g a0 0) 717).toInt = u84.toInt := congrArg Int32.toInt ku84
              obtain ⟨u86, ku86⟩ : ∃ z : Int32, I71 (gr g a0 0) 715 = z := ⟨_, rfl⟩
              have tu86 : 3 ≤ u86.toInt ∧ u86.toInt ≤ 7 := m_rng M h6 715 ku86 rfl
              have em87 : (I71 (gr g a0 0) 715).toInt = u86.toInt := congrArg Int32.toInt ku86
              obtain ⟨u88, ku88⟩ : ∃ z : Int32, I71 (gr g a0 0) 716 = z := ⟨_, rfl⟩
              have tu88 : 4 ≤ u88.toInt ∧ u88.toInt ≤ 40 := m_rng M h6 716 ku88 rfl
              have em89 : (I71 (gr g a0 0) 716).toInt = u88.toInt := congrArg Int32.toInt ku88
              obtain ⟨u90, ku90⟩ : ∃ z : Int32, I71 (gr g a0 0) 722 = z := ⟨_, rfl⟩
              have tu90 : 1 ≤ u90.toInt ∧ u90.toInt ≤ 4 := m_rng M h6 722 ku90 rfl
              have em91 : (I71 (gr g a0 0) 722).toInt = u90.toInt := congrArg Int32.toInt ku90
              obtain ⟨u92, ku92⟩ : ∃ z : Int32, I71 (gr g a0 0) 718 = z := ⟨_, rfl⟩
              have tu92 : 0 ≤ u92.toInt ∧ u92.toInt ≤ 200 := m_rng M h6 718 ku92 rfl
              have em93 : (I71 (gr g a0 0) 718).toInt = u92.toInt := congrArg Int32.toInt ku92
              obtain ⟨u94, ku94⟩ : ∃ z : Int32, I71 (gr g a0 0) 719 = z := ⟨_, rfl⟩
              have tu94 : 0 ≤ u94.toInt ∧ u94.toInt ≤ 200 := m_rng M h6 719 ku94 rfl
              have em95 : (I71 (gr g a0 0) 719).toInt = u94.toInt := congrArg Int32.toInt ku94
              simp only [em60, em61, em62, em63, em64, em65, em66, em67, em68, em69, em70, em76, em77, em79, em81, em83, em85, em87, em89, em91, em93, em95] at p74
              obtain ⟨p74, hjm96, im97⟩ := p74
              have F := fr_call F G73 (by decide)
              refine lv_aload_n C.1 C.2.1 dX11_deedsTold_50 rfl (lv_at hl 0 rfl) ?_
              refine gi_X11_318 C M h0_ dX11_deedsTold_51 (fun v98 kv98 tv98 uv98 => ?_)
              have cv98 : (I71 a0 22).toInt = v98.toInt := congrArg Int32.toInt kv98
              refine n_if_eq C (tgt := 65) dX11_deedsTold_54 (by decide) rfl (fun q99 => ?_) (fun q99 => ?_)
              ·
                refine lv_aload_n C.1 C.2.1 dX11_deedsTold_65 rfl (lv_at hl 0 rfl) ?_
                refine lv_bipush (v := 59) C.1 C.2.1 dX11_deedsTold_66 (by decide) ?_
                have em100 : (I71 a0 20).toInt = u75.toInt := congrArg Int32.toInt ku75
                have em101 : (I71 a0 14).toInt = i2.toInt := congrArg Int32.toInt ((G73 a0 9 14 h0_ (by decide) (by decide)).trans k14)
                have em102 : (I71 a0 15).toInt = u78.toInt := congrArg Int32.toInt ku78
                have em103 : (I71 a0 16).toInt = u80.toInt := congrArg Int32.toInt ku80
                have em104 : (I71 a0 17).toInt = u82.toInt := congrArg Int32.toInt ku82
                refine k_PV C M h0_ (by decide) rfl (ct_X11_must l g I71 J72 a0 59 h0_ (by simp only [em100, em101, em102, em103, em104]; have : (59 : Int32).toInt = 59 := rfl; first | assumption | omega) (by simp only [em100, em101, em102, em103, em104]; have : (59 : Int32).toInt = 59 := rfl; first | assumption | omega) (by simp only [em100, em101, em102, em103, em104]; have : (59 : Int32).toInt = 59 := rfl; first | assumption | omega) (by simp only [em100, em101, em102, em103, em104]; have : (59 : Int32).toInt = 59 := rfl; first | assumption | omega)) (cw_X11_328 C.2.2.2.2 (by decide)) rfl hl.1 rfl (Nat.le_of_ble_eq_true rfl) dX11_deedsTold_68 ⟨Nat.le_refl _, Nat.le_refl _⟩ (fun I105 J106 H locs G107 p108r M => ?_)
                obtain ⟨eJ106, p108⟩ : (J106.1 = J72.1 ∧ J106.2.1 = J72.2.1) ∧ (0 ≤ (I105 a0 20).toInt ∧ (I105 a0 16).toInt ≤ (I105 a0 14).toInt ∧ (I105 a0 15).toInt ≤ (I105 a0 16).toInt ∧ ((I105 a0 17).toInt = 3 → (I105 a0 15).toInt < (I105 a0 16).toInt) ∧ (I105 a0 14).toInt = (I71 a0 14).toInt ∧ (I71 a0 15).toInt ≤ (I105 a0 15).toInt ∧ (0 < (I71 a0 20).toInt → (I105 a0 20).toInt = (I71 a0 20).toInt) ∧ ((I105 a0 20).toInt = 0 → (I71 a0 16).toInt ≤ (I105 a0 15).toInt ∧ (I71 a0 17).toInt = 3)) := p108r
                have hj2 : J106.1 = J.1 ∧ J106.2.1 = J.2.1 := ⟨eJ106.1.trans hj2.1, eJ106.2.trans hj2.2⟩
                obtain ⟨u109, ku109⟩ : ∃ z : Int32, I105 a0 20 = z := ⟨_, rfl⟩
                have em110 : (I105 a0 20).toInt = u109.toInt := congrArg Int32.toInt ku109
                have em111 : (I105 a0 14).toInt = i2.toInt := congrArg Int32.toInt ((G107 a0 9 14 h0_ (by decide) (by decide)).trans ((G73 a0 9 14 h0_ (by decide) (by decide)).trans k14))
                obtain ⟨u112, ku112⟩ : ∃ z : Int32, I105 a0 15 = z := ⟨_, rfl⟩
                have tu112 : 0 ≤ u112.toInt ∧ u112.toInt ≤ 1000 := m_rng M h0_ 15 ku112 rfl
                have em113 : (I105 a0 15).toInt = u112.toInt := congrArg Int32.toInt ku112
                obtain ⟨u114, ku114⟩ : ∃ z : Int32, I105 a0 16 = z := ⟨_, rfl⟩
                have tu114 : 0 ≤ u114.toInt ∧ u114.toInt ≤ 1000 := m_rng M h0_ 16 ku114 rfl
                have em115 : (I105 a0 16).toInt = u114.toInt := congrArg Int32.toInt ku114
                obtain ⟨u116, ku116⟩ : ∃ z : Int32, I105 a0 17 = z := ⟨_, rfl⟩
                have em117 : (I105 a0 17).toInt = u116.toInt := congrArg Int32.toInt ku116
                simp only [em100, em101, em102, em103, em104, em110, em111, em113, em115, em117] at p108
                have F := fr_call F G107 (by decide)
                refine lv_goto (tgt := 0) C.1 C.2.1 dX11_deedsTold_71 (by decide) ?_
                have jc118 : (I105 a0 20).toInt = u109.toInt := congrArg Int32.toInt ku109
                have jc119 : (I105 a0 14).toInt = i2.toInt := congrArg Int32.toInt ((G107 a0 9 14 h0_ (by decide) (by decide)).trans ((G73 a0 9 14 h0_ (by decide) (by decide)).trans k14))
                have jc120 : (I105 a0 15).toInt = u112.toInt := congrArg Int32.toInt ku112
                have jc121 : (I105 a0 16).toInt = u114.toInt := congrArg Int32.toInt ku114
                have jc122 : (I105 a0 17).toInt = u116.toInt := congrArg Int32.toInt ku116
                have jc123 : (I105 (gr g a0 0) 717).toInt = u84.toInt := congrArg Int32.toInt ((G107 (gr g a0 0) 28 717 h6 (by decide) (by decide)).trans ku84)
                have jc124 : (I105 (gr g a0 0) 715).toInt = u86.toInt := congrArg Int32.toInt ((G107 (gr g a0 0) 28 715 h6 (by decide) (by decide)).trans ku86)
                have jc125 : (I105 (gr g a0 0) 716).toInt = u88.toInt := congrArg Int32.toInt ((G107 (gr g a0 0) 28 716 h6 (by decide) (by decide)).trans ku88)
                have jc126 : (I105 (gr g a0 0) 722).toInt = u90.toInt := congrArg Int32.toInt ((G107 (gr g a0 0) 28 722 h6 (by decide) (by decide)).trans ku90)
                have jc127 : (I105 (gr g a0 0) 718).toInt = u92.toInt := congrArg Int32.toInt ((G107 (gr g a0 0) 28 718 h6 (by decide) (by decide)).trans ku92)
                have jc128 : (I105 (gr g a0 0) 719).toInt = u94.toInt := congrArg Int32.toInt ((G107 (gr g a0 0) 28 719 h6 (by decide) (by decide)).trans ku94)
                exact ih0 I105 J106 _ _ _ ((G107 a0 9 14 h0_ (by decide) (by decide)).trans ((G73 a0 9 14 h0_ (by decide) (by decide)).trans k14)) (im_fr M.2.2.2.2.2.1 h0_ G107 (by decide) im97) hj2 (by omega) (by omega) (by omega) (by omega) (by omega) (by omega) (by omega) (by simp only [jc118, jc119, jc120, jc121, jc122, jc123, jc124, jc125, jc126, jc127, jc128]; first | assumption | exact g0) (by omega) F M hl
              ·
                refine lv_aload_n C.1 C.2.1 dX11_deedsTold_57 rfl (lv_at hl 0 rfl) ?_
                refine gi_X11_315 C M h0_ dX11_deedsTold_58 (fun v129 kv129 tv129 uv129 => ?_)
                have cv129 : (I71 a0 21).toInt = v129.toInt := congrArg Int32.toInt kv129
                refine n_if_eq C (tgt := 65) dX11_deedsTold_61 (by decide) rfl (fun q130 => ?_) (fun q130 => ?_)
                ·
                  refine lv_aload_n C.1 C.2.1 dX11_deedsTold_65 rfl (lv_at hl 0 rfl) ?_
                  refine lv_bipush (v := 59) C.1 C.2.1 dX11_deedsTold_66 (by decide) ?_
                  have em131 : (I71 a0 20).toInt = u75.toInt := congrArg Int32.toInt ku75
                  have em132 : (I71 a0 14).toInt = i2.toInt := congrArg Int32.toInt ((G73 a0 9 14 h0_ (by decide) (by decide)).trans k14)
                  have em133 : (I71 a0 15).toInt = u78.toInt := congrArg Int32.toInt ku78
                  have em134 : (I71 a0 16).toInt = u80.toInt := congrArg Int32.toInt ku80
                  have em135 : (I71 a0 17).toInt = u82.toInt := congrArg Int32.toInt ku82
                  refine k_PV C M h0_ (by decide) rfl (ct_X11_must l g I71 J72 a0 59 h0_ (by simp only [em131, em132, em133, em134, em135]; have : (59 : Int32).toInt = 59 := rfl; first | assumption | omega) (by simp only [em131, em132, em133, em134, em135]; have : (59 : Int32).toInt = 59 := rfl; first | assumption | omega) (by simp only [em131, em132, em133, em134, em135]; have : (59 : Int32).toInt = 59 := rfl; first | assumption | omega) (by simp only [em131, em132, em133, em134, em135]; have : (59 : Int32).toInt = 59 := rfl; first | assumption | omega)) (cw_X11_328 C.2.2.2.2 (by decide)) rfl hl.1 rfl (Nat.le_of_ble_eq_true rfl) dX11_deedsTold_68 ⟨Nat.le_refl _, Nat.le_refl _⟩ (fun I136 J137 H locs G138 p139r M => ?_)
                  obtain ⟨eJ137, p139⟩ : (J137.1 = J72.1 ∧ J137.2.1 = J72.2.1) ∧ (0 ≤ (I136 a0 20).toInt ∧ (I136 a0 16).toInt ≤ (I136 a0 14).toInt ∧ (I136 a0 15).toInt ≤ (I136 a0 16).toInt ∧ ((I136 a0 17).toInt = 3 → (I136 a0 15).toInt < (I136 a0 16).toInt) ∧ (I136 a0 14).toInt = (I71 a0 14).toInt ∧ (I71 a0 15).toInt ≤ (I136 a0 15).toInt ∧ (0 < (I71 a0 20).toInt → (I136 a0 20).toInt = (I71 a0 20).toInt) ∧ ((I136 a0 20).toInt = 0 → (I71 a0 16).toInt ≤ (I136 a0 15).toInt ∧ (I71 a0 17).toInt = 3)) := p139r
                  have hj2 : J137.1 = J.1 ∧ J137.2.1 = J.2.1 := ⟨eJ137.1.trans hj2.1, eJ137.2.trans hj2.2⟩
                  obtain ⟨u140, ku140⟩ : ∃ z : Int32, I136 a0 20 = z := ⟨_, rfl⟩
                  have em141 : (I136 a0 20).toInt = u140.toInt := congrArg Int32.toInt ku140
                  have em142 : (I136 a0 14).toInt = i2.toInt := congrArg Int32.toInt ((G138 a0 9 14 h0_ (by decide) (by decide)).trans ((G73 a0 9 14 h0_ (by decide) (by decide)).trans k14))
                  obtain ⟨u143, ku143⟩ : ∃ z : Int32, I136 a0 15 = z := ⟨_, rfl⟩
                  have tu143 : 0 ≤ u143.toInt ∧ u143.toInt ≤ 1000 := m_rng M h0_ 15 ku143 rfl
                  have em144 : (I136 a0 15).toInt = u143.toInt := congrArg Int32.toInt ku143
                  obtain ⟨u145, ku145⟩ : ∃ z : Int32, I136 a0 16 = z := ⟨_, rfl⟩
                  have tu145 : 0 ≤ u145.toInt ∧ u145.toInt ≤ 1000 := m_rng M h0_ 16 ku145 rfl
                  have em146 : (I136 a0 16).toInt = u145.toInt := congrArg Int32.toInt ku145
                  obtain ⟨u147, ku147⟩ : ∃ z : Int32, I136 a0 17 = z := ⟨_, rfl⟩
                  have em148 : (I136 a0 17).toInt = u147.toInt := congrArg Int32.toInt ku147
                  simp only [em131, em132, em133, em134, em135, em141, em142, em144, em146, em148] at p139
                  have F := fr_call F G138 (by decide)
                  refine lv_goto (tgt := 0) C.1 C.2.1 dX11_deedsTold_71 (by decide) ?_
                  have jc149 : (I136 a0 20).toInt = u140.toInt := congrArg Int32.toInt ku140
                  have jc150 : (I136 a0 14).toInt = i2.toInt := congrArg Int32.toInt ((G138 a0 9 14 h0_ (by decide) (by decide)).trans ((G73 a0 9 14 h0_ (by decide) (by decide)).trans k14))
                  have jc151 : (I136 a0 15).toInt = u143.toInt := congrArg Int32.toInt ku143
                  have jc152 : (I136 a0 16).toInt = u145.toInt := congrArg Int32.toInt ku145
                  have jc153 : (I136 a0 17).toInt = u147.toInt := congrArg Int32.toInt ku147
                  have jc154 : (I136 (gr g a0 0) 717).toInt = u84.toInt := congrArg Int32.toInt ((G138 (gr g a0 0) 28 717 h6 (by decide) (by decide)).trans ku84)
                  have jc155 : (I136 (gr g a0 0) 715).toInt = u86.toInt := congrArg Int32.toInt ((G138 (gr g a0 0) 28 715 h6 (by decide) (by decide)).trans ku86)
                  have jc156 : (I136 (gr g a0 0) 716).toInt = u88.toInt := congrArg Int32.toInt ((G138 (gr g a0 0) 28 716 h6 (by decide) (by decide)).trans ku88)
                  have jc157 : (I136 (gr g a0 0) 722).toInt = u90.toInt := congrArg Int32.toInt ((G138 (gr g a0 0) 28 722 h6 (by decide) (by decide)).trans ku90)
                  have jc158 : (I136 (gr g a0 0) 718).toInt = u92.toInt := congrArg Int32.toInt ((G138 (gr g a0 0) 28 718 h6 (by decide) (by decide)).trans ku92)
                  have jc159 : (I136 (gr g a0 0) 719).toInt = u94.toInt := congrArg Int32.toInt ((G138 (gr g a0 0) 28 719 h6 (by decide) (by decide)).trans ku94)
                  exact ih0 I136 J137 _ _ _ ((G138 a0 9 14 h0_ (by decide) (by decide)).trans ((G73 a0 9 14 h0_ (by decide) (by decide)).trans k14)) (im_fr M.2.2.2.2.2.1 h0_ G138 (by decide) im97) hj2 (by omega) (by omega) (by omega) (by omega) (by omega) (by omega) (by omega) (by simp only [jc149, jc150, jc151, jc152, jc153, jc154, jc155, jc156, jc157, jc158, jc159]; first | assumption | exact g0) (by omega) F M hl
                ·
                  have rk160 : (I71 a0 20).toInt = u75.toInt := congrArg Int32.toInt ku75
                  have rk161 : (I71 a0 14).toInt = i2.toInt := congrArg Int32.toInt ((G73 a0 9 14 h0_ (by decide) (by decide)).trans k14)
                  have rk162 : (I71 a0 15).toInt = u78.toInt := congrArg Int32.toInt ku78
                  have rk163 : (I71 a0 16).toInt = u80.toInt := congrArg Int32.toInt ku80
                  have rk164 : (I71 a0 17).toInt = u82.toInt := congrArg Int32.toInt ku82
                  have rk165 : (I71 (gr g a0 0) 717).toInt = u84.toInt := congrArg Int32.toInt ku84
                  have rk166 : (I71 (gr g a0 0) 715).toInt = u86.toInt := congrArg Int32.toInt ku86
                  have rk167 : (I71 (gr g a0 0) 716).toInt = u88.toInt := congrArg Int32.toInt ku88
                  have rk168 : (I71 (gr g a0 0) 722).toInt = u90.toInt := congrArg Int32.toInt ku90
                  have rk169 : (I71 (gr g a0 0) 718).toInt = u92.toInt := congrArg Int32.toInt ku92
                  have rk170 : (I71 (gr g a0 0) 719).toInt = u94.toInt := congrArg Int32.toInt ku94
                  exact r_PV C M hr hlk F ⟨hj2, ⟨⟨by omega, by omega, by omega, by omega, by omega, by omega, by omega⟩, (by simp only [ci1, ci2, ci3, ci4, ci5, ci7, ci8, ci9, ci10, ci11, ci12, rk160, rk161, rk162, rk163, rk164, rk165, rk166, rk167, rk168, rk169, rk170]; first | assumption | exact g4), im97⟩⟩ dX11_deedsTold_64
            refine n_if_eq C (tgt := 45) dX11_deedsTold_35 (by decide) rfl (fun q171 => ?_) (fun q171 => ?_)
            ·
              exact J45 _ _ _ M hl
            ·
              refine lv_aload_n C.1 C.2.1 dX11_deedsTold_38 rfl (lv_at hl 0 rfl) ?_
              refine gi_X11_315 C M h0_ dX11_deedsTold_39 (fun v172 kv172 tv172 uv172 => ?_)
              have cv172 : (I13 a0 21).toInt = v172.toInt := congrArg Int32.toInt kv172
              refine n_if_ne C (tgt := 74) dX11_deedsTold_42 (by decide) rfl (fun q173 => ?_) (fun q173 => ?_)
              ·
                have rk174 : (I13 a0 20).toInt = u24.toInt := congrArg Int32.toInt ku24
                have rk175 : (I13 a0 14).toInt = i2.toInt := congrArg Int32.toInt k14
                have rk176 : (I13 a0 15).toInt = u26.toInt := congrArg Int32.toInt ku26
                have rk177 : (I13 a0 16).toInt = u27.toInt := congrArg Int32.toInt ku27
                have rk178 : (I13 a0 17).toInt = u28.toInt := congrArg Int32.toInt ku28
                have rk179 : (I13 (gr g a0 0) 717).toInt = u29.toInt := congrArg Int32.toInt ku29
                have rk180 : (I13 (gr g a0 0) 715).toInt = u30.toInt := congrArg Int32.toInt ku30
                have rk181 : (I13 (gr g a0 0) 716).toInt = u31.toInt := congrArg Int32.toInt ku31
                have rk182 : (I13 (gr g a0 0) 722).toInt = u32.toInt := congrArg Int32.toInt ku32
                have rk183 : (I13 (gr g a0 0) 718).toInt = u33.toInt := congrArg Int32.toInt ku33
                have rk184 : (I13 (gr g a0 0) 719).toInt = u34.toInt := congrArg Int32.toInt ku34
                exact r_PV C M hr hlk F ⟨hj2, ⟨⟨by omega, by omega, by omega, by omega, by omega, by omega, by omega⟩, (by simp only [ci1, ci2, ci3, ci4, ci5, ci7, ci8, ci9, ci10, ci11, ci12, rk174, rk175, rk176, rk177, rk178, rk179, rk180, rk181, rk182, rk183, rk184]; first | assumption | exact g4), im16⟩⟩ dX11_deedsTold_74
              ·
                exact J45 _ _ _ M hl
          refine n_icmp_ne C (tgt := 31) (Y := 3) dX11_deedsTold_19 (by decide) rfl rfl (fun q185 => ?_) (fun q185 => ?_)
          ·
            exact J31 _ _ _ M hl
          ·
            refine lv_aload_n C.1 C.2.1 dX11_deedsTold_22 rfl (lv_at hl 0 rfl) ?_
            refine gi_X11_217 C M h0_ dX11_deedsTold_23 (fun v186 kv186 => ?_)
            have cv186 : (I13 a0 19).toInt = v186.toInt := congrArg Int32.toInt kv186
            refine lv_bipush (v := 93) C.1 C.2.1 dX11_deedsTold_26 (by decide) ?_
            refine n_icmp_eq C (tgt := 74) (Y := 93) dX11_deedsTold_28 (by decide) rfl rfl (fun q187 => ?_) (fun q187 => ?_)
            ·
              have rk188 : (I13 a0 20).toInt = u24.toInt := congrArg Int32.toInt ku24
              have rk189 : (I13 a0 14).toInt = i2.toInt := congrArg Int32.toInt k14
              have rk190 : (I13 a0 15).toInt = u26.toInt := congrArg Int32.toInt ku26
              have rk191 : (I13 a0 16).toInt = u27.toInt := congrArg Int32.toInt ku27
              have rk192 : (I13 a0 17).toInt = u28.toInt := congrArg Int32.toInt ku28
              have rk193 : (I13 (gr g a0 0) 717).toInt = u29.toInt := congrArg Int32.toInt ku29
              have rk194 : (I13 (gr g a0 0) 715).toInt = u30.toInt := congrArg Int32.toInt ku30
              have rk195 : (I13 (gr g a0 0) 716).toInt = u31.toInt := congrArg Int32.toInt ku31
              have rk196 : (I13 (gr g a0 0) 722).toInt = u32.toInt := congrArg Int32.toInt ku32
              have rk197 : (I13 (gr g a0 0) 718).toInt = u33.toInt := congrArg Int32.toInt ku33
              have rk198 : (I13 (gr g a0 0) 719).toInt = u34.toInt := congrArg Int32.toInt ku34
              exact r_PV C M hr hlk F ⟨hj2, ⟨⟨by omega, by omega, by omega, by omega, by omega, by omega, by omega⟩, (by simp only [ci1, ci2, ci3, ci4, ci5, ci7, ci8, ci9, ci10, ci11, ci12, rk188, rk189, rk190, rk191, rk192, rk193, rk194, rk195, rk196, rk197, rk198]; first | assumption | exact g4), im16⟩⟩ dX11_deedsTold_74
            ·
              exact J31 _ _ _ M hl
  have jc199 : (I a0 20).toInt = i1.toInt := congrArg Int32.toInt ki1
  have jc200 : (I a0 14).toInt = i2.toInt := congrArg Int32.toInt ki2
  have jc201 : (I a0 15).toInt = i3.toInt := congrArg Int32.toInt ki3
  have jc202 : (I a0 16).toInt = i4.toInt := congrArg Int32.toInt ki4
  have jc203 : (I a0 17).toInt = i5.toInt := congrArg Int32.toInt ki5
  have jc204 : (I (gr g a0 0) 717).toInt = i7.toInt := congrArg Int32.toInt ki7
  have jc205 : (I (gr g a0 0) 715).toInt = i8.toInt := congrArg Int32.toInt ki8
  have jc206 : (I (gr g a0 0) 716).toInt = i9.toInt := congrArg Int32.toInt ki9
  have jc207 : (I (gr g a0 0) 722).toInt = i10.toInt := congrArg Int32.toInt ki10
  have jc208 : (I (gr g a0 0) 718).toInt = i11.toInt := congrArg Int32.toInt ki11
  have jc209 : (I (gr g a0 0) 719).toInt = i12.toInt := congrArg Int32.toInt ki12
  exact L0 _ I J _ _ _ ki2 g5 hj2 (by omega) (by omega) (by omega) (by omega) (by omega) (by omega) (by omega) (by simp only [jc199, jc200, jc201, jc202, jc203, jc204, jc205, jc206, jc207, jc208, jc209]; first | assumption | exact g0) (n_big _) F M hl

abbrev md_X11_againTold_1 : List (Nat × Nat) := [(9, 6), (9, 10), (9, 11), (9, 12), (9, 16), (9, 17), (9, 18), (9, 20), (9, 21), (9, 22), (9, 23), (9, 24), (28, 0), (30, 0), (31, 0), (32, 0)]
set_option maxHeartbeats 4000000 in
set_option maxRecDepth 100000 in
theorem ct_X11_againTold_1 (l : Launch) (g : Gs) (I : Ms) (J : Js) (a0 : Nat) (x1 : Int32) (h0_ : Is g a0 9) (g0 : 0 ≤ (I a0 20).toInt) (g1 : (I a0 16).toInt ≤ (I a0 14).toInt) (g2 : (I a0 15).toInt ≤ (I a0 16).toInt) (g3 : (I a0 17).toInt = 3 → (I a0 15).toInt < (I a0 16).toInt) (g4 : jm (I (gr g a0 0) 717).toInt (I (gr g a0 0) 715).toInt (I (gr g a0 0) 716).toInt (I (gr g a0 0) 722).toInt (I (gr g a0 0) 718).toInt (I (gr g a0 0) 719).toInt) (g5 : IM g I a0) (g6 : x1.toInt = 1) : Ctr l yX11_againTold cX11_againTold 8 (Option.none : Option Jvm.ClassFile.FieldType) 39 g [.ref a0, .int x1] I J (PV g md_X11_againTold_1 I (fun I1 J1 => (J1.1 = J.1 ∧ J1.2.1 = J.2.1) ∧ ((0 ≤ (I1 a0 20).toInt ∧ (I1 a0 16).toInt ≤ (I1 a0 14).toInt ∧ (I1 a0 15).toInt ≤ (I1 a0 16).toInt ∧ ((I1 a0 17).toInt = 3 → (I1 a0 15).toInt < (I1 a0 16).toInt) ∧ (I1 a0 14).toInt = (I a0 14).toInt ∧ (I a0 15).toInt ≤ (I1 a0 15).toInt ∧ (0 < (I a0 20).toInt → (I1 a0 20).toInt = (I a0 20).toInt)) ∧ jm (I1 (gr g a0 0) 717).toInt (I1 (gr g a0 0) 715).toInt (I1 (gr g a0 0) 716).toInt (I1 (gr g a0 0) 722).toInt (I1 (gr g a0 0) 718).toInt (I1 (gr g a0 0) 719).toInt ∧ IM g I1 a0))) := by
  refine m_start (by decide) (Nat.le_of_ble_eq_true rfl) ?_
  intro p e s m args below meth c C hr hlk M ls hl
  have hl : lv_has ls 8 [(0, .ref a0), (1, .int x1)] := hl
  have C : CallFix p m c cX11_againTold 8 s args TB RX11 := C
  have F : Fr g md_X11_againTold_1 I I := fr_rf
  have hj2 : J.1 = J.1 ∧ J.2.1 = J.2.1 := ⟨rfl, rfl⟩
  have hQ0 := M.2.2.2.2.2.2.2
  obtain ⟨i1, ki1⟩ : ∃ z : Int32, I a0 20 = z := ⟨_, rfl⟩
  have ci1 : (I a0 20).toInt = i1.toInt := congrArg Int32.toInt ki1
  obtain ⟨i2, ki2⟩ : ∃ z : Int32, I a0 14 = z := ⟨_, rfl⟩
  have ti2 : 0 ≤ i2.toInt ∧ i2.toInt ≤ 264 := m_rng M h0_ 14 ki2 rfl
  have ci2 : (I a0 14).toInt = i2.toInt := congrArg Int32.toInt ki2
  obtain ⟨i3, ki3⟩ : ∃ z : Int32, I a0 15 = z := ⟨_, rfl⟩
  have ti3 : 0 ≤ i3.toInt ∧ i3.toInt ≤ 1000 := m_rng M h0_ 15 ki3 rfl
  have ci3 : (I a0 15).toInt = i3.toInt := congrArg Int32.toInt ki3
  obtain ⟨i4, ki4⟩ : ∃ z : Int32, I a0 16 = z := ⟨_, rfl⟩
  have ti4 : 0 ≤ i4.toInt ∧ i4.toInt ≤ 1000 := m_rng M h0_ 16 ki4 rfl
  have ci4 : (I a0 16).toInt = i4.toInt := congrArg Int32.toInt ki4
  obtain ⟨i5, ki5⟩ : ∃ z : Int32, I a0 17 = z := ⟨_, rfl⟩
  have ci5 : (I a0 17).toInt = i5.toInt := congrArg Int32.toInt ki5
  have h6 := is_ref M h0_ 0 28 rfl rfl
  obtain ⟨i7, ki7⟩ : ∃ z : Int32, I (gr g a0 0) 717 = z := ⟨_, rfl⟩
  have ti7 : 0 ≤ i7.toInt ∧ i7.toInt ≤ 1 := m_rng M h6 717 ki7 rfl
  have ci7 : (I (gr g a0 0) 717).toInt = i7.toInt := congrArg Int32.toInt ki7
  obtain ⟨i8, ki8⟩ : ∃ z : Int32, I (gr g a0 0) 715 = z := ⟨_, rfl⟩
  have ti8 : 3 ≤ i8.toInt ∧ i8.toInt ≤ 7 := m_rng M h6 715 ki8 rfl
  have ci8 : (I (gr g a0 0) 715).toInt = i8.toInt := congrArg Int32.toInt ki8
  obtain ⟨i9, ki9⟩ : ∃ z : Int32, I (gr g a0 0) 716 = z := ⟨_, rfl⟩
  have ti9 : 4 ≤ i9.toInt ∧ i9.toInt ≤ 40 := m_rng M h6 716 ki9 rfl
  have ci9 : (I (gr g a0 0) 716).toInt = i9.toInt := congrArg Int32.toInt ki9
  obtain ⟨i10, ki10⟩ : ∃ z : Int32, I (gr g a0 0) 722 = z := ⟨_, rfl⟩
  have ti10 : 1 ≤ i10.toInt ∧ i10.toInt ≤ 4 := m_rng M h6 722 ki10 rfl
  have ci10 : (I (gr g a0 0) 722).toInt = i10.toInt := congrArg Int32.toInt ki10
  obtain ⟨i11, ki11⟩ : ∃ z : Int32, I (gr g a0 0) 718 = z := ⟨_, rfl⟩
  have ti11 : 0 ≤ i11.toInt ∧ i11.toInt ≤ 200 := m_rng M h6 718 ki11 rfl
  have ci11 : (I (gr g a0 0) 718).toInt = i11.toInt := congrArg Int32.toInt ki11
  obtain ⟨i12, ki12⟩ : ∃ z : Int32, I (gr g a0 0) 719 = z := ⟨_, rfl⟩
  have ti12 : 0 ≤ i12.toInt ∧ i12.toInt ≤ 200 := m_rng M h6 719 ki12 rfl
  have ci12 : (I (gr g a0 0) 719).toInt = i12.toInt := congrArg Int32.toInt ki12
  simp only [ci1, ci2, ci3, ci4, ci5, ci7, ci8, ci9, ci10, ci11, ci12] at g0 g1 g2 g3 g4
  refine lv_aload_n C.1 C.2.1 dX11_againTold_0 rfl (lv_at hl 0 rfl) ?_
  refine lv_bipush (v := 20) C.1 C.2.1 dX11_againTold_1 (by decide) ?_
  have em13 : (I a0 20).toInt = i1.toInt := congrArg Int32.toInt ki1
  have em14 : (I a0 14).toInt = i2.toInt := congrArg Int32.toInt ki2
  have em15 : (I a0 15).toInt = i3.toInt := congrArg Int32.toInt ki3
  have em16 : (I a0 16).toInt = i4.toInt := congrArg Int32.toInt ki4
  have em17 : (I a0 17).toInt = i5.toInt := congrArg Int32.toInt ki5
  refine k_PM C M h0_ (by decide) rfl (ct_X11_numberTold l g I J a0 20 h0_ (by simp only [em13, em14, em15, em16, em17]; have : (20 : Int32).toInt = 20 := rfl; first | assumption | omega) (by simp only [em13, em14, em15, em16, em17]; have : (20 : Int32).toInt = 20 := rfl; first | assumption | omega) (by simp only [em13, em14, em15, em16, em17]; have : (20 : Int32).toInt = 20 := rfl; first | assumption | omega) (by simp only [em13, em14, em15, em16, em17]; have : (20 : Int32).toInt = 20 := rfl; first | assumption | omega)) (cw_X11_312 C.2.2.2.2 (by decide)) rfl hl.1 rfl (Nat.le_of_ble_eq_true rfl) dX11_againTold_3 ⟨Nat.le_refl _, Nat.le_refl _⟩ (fun r22 I18 J19 H locs G20 p21r M => ?_)
  obtain ⟨eJ19, p21⟩ : (J19.1 = J.1 ∧ J19.2.1 = J.2.1) ∧ (0 ≤ (I18 a0 20).toInt ∧ (I18 a0 16).toInt ≤ (I18 a0 14).toInt ∧ (I18 a0 15).toInt ≤ (I18 a0 16).toInt ∧ ((I18 a0 17).toInt = 3 → (I18 a0 15).toInt < (I18 a0 16).toInt) ∧ (I18 a0 14).toInt = (I a0 14).toInt ∧ (I a0 15).toInt ≤ (I18 a0 15).toInt ∧ (0 < (I a0 20).toInt → (I18 a0 20).toInt = (I a0 20).toInt) ∧ ((I18 a0 20).toInt = 0 → (I a0 16).toInt ≤ (I18 a0 15).toInt)) := p21r
  have hj2 : J19.1 = J.1 ∧ J19.2.1 = J.2.1 := ⟨eJ19.1.trans hj2.1, eJ19.2.trans hj2.2⟩
  obtain ⟨u23, ku23⟩ : ∃ z : Int32, I18 a0 20 = z := ⟨_, rfl⟩
  have em24 : (I18 a0 20).toInt = u23.toInt := congrArg Int32.toInt ku23
  have em25 : (I18 a0 14).toInt = i2.toInt := congrArg Int32.toInt ((G20 a0 9 14 h0_ (by decide) (by decide)).trans ki2)
  obtain ⟨u26, ku26⟩ : ∃ z : Int32, I18 a0 15 = z := ⟨_, rfl⟩
  have tu26 : 0 ≤ u26.toInt ∧ u26.toInt ≤ 1000 := m_rng M h0_ 15 ku26 rfl
  have em27 : (I18 a0 15).toInt = u26.toInt := congrArg Int32.toInt ku26
  obtain ⟨u28, ku28⟩ : ∃ z : Int32, I18 a0 16 = z := ⟨_, rfl⟩
  have tu28 : 0 ≤ u28.toInt ∧ u28.toInt ≤ 1000 := m_rng M h0_ 16 ku28 rfl
  have em29 : (I18 a0 16).toInt = u28.toInt := congrArg Int32.toInt ku28
  obtain ⟨u30, ku30⟩ : ∃ z : Int32, I18 a0 17 = z := ⟨_, rfl⟩
  have em31 : (I18 a0 17).toInt = u30.toInt := congrArg Int32.toInt ku30
  simp only [em13, em14, em15, em16, em17, em24, em25, em27, em29, em31] at p21
  have F := fr_call F G20 (by decide)
  refine lv_istore_n (lv' := [(2, .int r22), (0, .ref a0), (1, .int x1)]) C.1 C.2.1 dX11_againTold_6 rfl hl (by decide) rfl (fun ls hl => ?_)
  clear g3
  refine lv_aload_n C.1 C.2.1 dX11_againTold_7 rfl (lv_at hl 1 rfl) ?_
  refine gk_X11_198 C M h0_ ku23 dX11_againTold_8 ?_
  refine n_if_le C (tgt := 15) dX11_againTold_11 (by decide) rfl (fun q32 => ?_) (fun q32 => ?_)
  ·
    obtain ⟨b1, b2, b3, b4, b5, b6, b7, b8⟩ := p21
    have z0 : i1.toInt = 0 := by omega
    clear b7 b8
    refine lv_aload_n C.1 C.2.1 dX11_againTold_15 rfl (lv_at hl 1 rfl) ?_
    refine gi_X11_315 C M h0_ dX11_againTold_16 (fun v33 kv33 tv33 uv33 => ?_)
    have cv33 : (I18 a0 21).toInt = v33.toInt := congrArg Int32.toInt kv33
    refine lv_istore_n (lv' := [(3, .int v33), (2, .int r22), (0, .ref a0), (1, .int x1)]) C.1 C.2.1 dX11_againTold_19 rfl hl (by decide) rfl (fun ls hl => ?_)
    refine lv_aload_n C.1 C.2.1 dX11_againTold_20 rfl (lv_at hl 2 rfl) ?_
    refine gk_X11_315 C M h0_ kv33 dX11_againTold_21 ?_
    have J36 : ∀ (w34 : Int32) (H : Heap) (locs : List Loc) (ls : Array Slot), 0 ≤ w34.toInt → w34.toInt ≤ 1 → Mm g s I18 J19 H locs → lv_has ls 8 [(0, .ref a0), (1, .int x1), (2, .int r22), (3, .int v33)] → W p l e (rmL 39) s m args below meth c H locs 0 0 (MQg below g (PV g md_X11_againTold_1 I (fun I1 J1 => (J1.1 = J.1 ∧ J1.2.1 = J.2.1) ∧ ((0 ≤ (I1 a0 20).toInt ∧ (I1 a0 16).toInt ≤ (I1 a0 14).toInt ∧ (I1 a0 15).toInt ≤ (I1 a0 16).toInt ∧ ((I1 a0 17).toInt = 3 → (I1 a0 15).toInt < (I1 a0 16).toInt) ∧ (I1 a0 14).toInt = (I a0 14).toInt ∧ (I a0 15).toInt ≤ (I1 a0 15).toInt ∧ (0 < (I a0 20).toInt → (I1 a0 20).toInt = (I a0 20).toInt)) ∧ jm (I1 (gr g a0 0) 717).toInt (I1 (gr g a0 0) 715).toInt (I1 (gr g a0 0) 716).toInt (I1 (gr g a0 0) 722).toInt (I1 (gr g a0 0) 718).toInt (I1 (gr g a0 0) 719).toInt ∧ IM g I1 a0))) args s) (F0 m 36 ls [.int w34]) := by
      intro w34 H locs ls f35 f36 M hl
      refine lv_istore (lv' := [(4, .int w34), (0, .ref a0), (1, .int x1), (2, .int r22), (3, .int v33)]) C.1 C.2.1 dX11_againTold_36 hl (by decide) rfl (fun ls hl => ?_)
      refine lv_aload_n C.1 C.2.1 dX11_againTold_38 rfl (lv_at hl 1 rfl) ?_
      refine gk_X11_207 C M h0_ ku26 dX11_againTold_39 ?_
      refine lv_istore (lv' := [(5, .int u26), (4, .int w34), (0, .ref a0), (1, .int x1), (2, .int r22), (3, .int v33)]) C.1 C.2.1 dX11_againTold_42 hl (by decide) rfl (fun ls hl => ?_)
      refine lv_iload C.1 C.2.1 dX11_againTold_44 (lv_at hl 1 rfl) ?_
      have J54 : ∀ (w37 : Int32) (H : Heap) (locs : List Loc) (ls : Array Slot), Mm g s I18 J19 H locs → lv_has ls 8 [(0, .ref a0), (1, .int x1), (3, .int v33), (4, .int w34), (5, .int u26)] → W p l e (rmL 39) s m args below meth c H locs 0 0 (MQg below g (PV g md_X11_againTold_1 I (fun I1 J1 => (J1.1 = J.1 ∧ J1.2.1 = J.2.1) ∧ ((0 ≤ (I1 a0 20).toInt ∧ (I1 a0 16).toInt ≤ (I1 a0 14).toInt ∧ (I1 a0 15).toInt ≤ (I1 a0 16).toInt ∧ ((I1 a0 17).toInt = 3 → (I1 a0 15).toInt < (I1 a0 16).toInt) ∧ (I1 a0 14).toInt = (I a0 14).toInt ∧ (I a0 15).toInt ≤ (I1 a0 15).toInt ∧ (0 < (I a0 20).toInt → (I1 a0 20).toInt = (I a0 20).toInt)) ∧ jm (I1 (gr g a0 0) 717).toInt (I1 (gr g a0 0) 715).toInt (I1 (gr g a0 0) 716).toInt (I1 (gr g a0 0) 722).toInt (I1 (gr g a0 0) 718).toInt (I1 (gr g a0 0) 719).toInt ∧ IM g I1 a0))) args s) (F0 m 54 ls [.int w37]) := by
        intro w37 H locs ls M hl
        refine lv_istore (lv' := [(6, .int w37), (0, .ref a0), (1, .int x1), (3, .int v33), (4, .int w34), (5, .int u26)]) C.1 C.2.1 dX11_againTold_54 hl (by decide) rfl (fun ls hl => ?_)
        refine lv_iconst (v := 0) C.1 C.2.1 dX11_againTold_56 (by decide) ?_
        refine lv_istore (lv' := [(7, .int 0), (6, .int w37), (0, .ref a0), (1, .int x1), (3, .int v33), (4, .int w34), (5, .int u26)]) C.1 C.2.1 dX11_againTold_57 hl (by decide) rfl (fun ls hl => ?_)
        have L59 : ∀ (n59 : Nat) (y38 : Int32) (I39 : Ms) (J41 : Js) (H : Heap) (locs : List Loc) (ls : Array Slot), I39 a0 14 = i2 → IM g I39 a0 → J41.1 = J.1 ∧ J41.2.1 = J.2.1 → 0 ≤ (I39 a0 20).toInt → (I39 a0 16).toInt ≤ (I39 a0 14).toInt → (I39 a0 15).toInt ≤ (I39 a0 16).toInt → ((I39 a0 17).toInt = 3 → (I39 a0 15).toInt < (I39 a0 16).toInt) → (I39 a0 14).toInt = i2.toInt → i3.toInt ≤ (I39 a0 15).toInt → jm (I39 (gr g a0 0) 717).toInt (I39 (gr g a0 0) 715).toInt (I39 (gr g a0 0) 716).toInt (I39 (gr g a0 0) 722).toInt (I39 (gr g a0 0) 718).toInt (I39 (gr g a0 0) 719).toInt → u26.toInt ≤ (I39 a0 15).toInt → u26.toInt ≤ i2.toInt → i3.toInt ≤ u26.toInt → 0 ≤ y38.toInt → max (w37.toInt - y38.toInt) 0 < (n59 : Int) → Fr g md_X11_againTold_1 I I39 → Mm g s I39 J41 H locs → lv_has ls 8 [(0, .ref a0), (1, .int x1), (3, .int v33), (4, .int w34), (5, .int u26), (6, .int w37), (7, .int y38)] → W p l e (rmL 39) s m args below meth c H locs 0 0 (MQg below g (PV g md_X11_againTold_1 I (fun I1 J1 => (J1.1 = J.1 ∧ J1.2.1 = J.2.1) ∧ ((0 ≤ (I1 a0 20).toInt ∧ (I1 a0 16).toInt ≤ (I1 a0 14).toInt ∧ (I1 a0 15).toInt ≤ (I1 a0 16).toInt ∧ ((I1 a0 17).toInt = 3 → (I1 a0 15).toInt < (I1 a0 16).toInt) ∧ (I1 a0 14).toInt = (I a0 14).toInt ∧ (I a0 15).toInt ≤ (I1 a0 15).toInt ∧ (0 < (I a0 20).toInt → (I1 a0 20).toInt = (I a0 20).toInt)) ∧ jm (I1 (gr g a0 0) 717).toInt (I1 (gr g a0 0) 715).toInt (I1 (gr g a0 0) 716).toInt (I1 (gr g a0 0) 722).toInt (I1 (gr g a0 0) 718).toInt (I1 (gr g a0 0) 719).toInt ∧ IM g I1 a0))) args s) (F0 m 59 ls []) := by
          intro n59
          induction n59 with
          | zero =>
            intro y38 I39 J41 H locs ls k40 im42 hj2 f43 f44 f45 fT f46 f47 hJm f48 f49 f50 f51 hm59 F M hl
            exact absurd hm59 (by omega)
          | succ n59 ih59 =>
            intro y38 I39 J41 H locs ls k40 im42 hj2 f43 f44 f45 fT f46 f47 hJm f48 f49 f50 f51 hm59 F M hl
            obtain ⟨u52, ku52⟩ : ∃ z : Int32, I39 a0 20 = z := ⟨_, rfl⟩
            have cu52 : (I39 a0 20).toInt = u52.toInt := congrArg Int32.toInt ku52
            have cc53 : (I39 a0 14).toInt = i2.toInt := congrArg Int32.toInt k40
            obtain ⟨u54, ku54⟩ : ∃ z : Int32, I39 a0 15 = z := ⟨_, rfl⟩
            have tu54 : 0 ≤ u54.toInt ∧ u54.toInt ≤ 1000 := m_rng M h0_ 15 ku54 rfl
            have cu54 : (I39 a0 15).toInt = u54.toInt := congrArg Int32.toInt ku54
            obtain ⟨u55, ku55⟩ : ∃ z : Int32, I39 a0 16 = z := ⟨_, rfl⟩
            have tu55 : 0 ≤ u55.toInt ∧ u55.toInt ≤ 1000 := m_rng M h0_ 16 ku55 rfl
            have cu55 : (I39 a0 16).toInt = u55.toInt := congrArg Int32.toInt ku55
            obtain ⟨u56, ku56⟩ : ∃ z : Int32, I39 a0 17 = z := ⟨_, rfl⟩
            have cu56 : (I39 a0 17).toInt = u56.toInt := congrArg Int32.toInt ku56
            obtain ⟨u57, ku57⟩ : ∃ z : Int32, I39 (gr g a0 0) 717 = z := ⟨_, rfl⟩
            have tu57 : 0 ≤ u57.toInt ∧ u57.toInt ≤ 1 := m_rng M h6 717 ku57 rfl
            have cu57 : (I39 (gr g a0 0) 717).toInt = u57.toInt := congrArg Int32.toInt ku57
            obtain ⟨u58, ku58⟩ : ∃ z : Int32, I39 (gr g a0 0) 715 = z := ⟨_, rfl⟩
            have tu58 : 3 ≤ u58.toInt ∧ u58.toInt ≤ 7 := m_rng M h6 715 ku58 rfl
            have cu58 : (I39 (gr g a0 0) 715).toInt = u58.toInt := congrArg Int32.toInt ku58
            obtain ⟨u59, ku59⟩ : ∃ z : Int32, I39 (gr g a0 0) 716 = z := ⟨_, rfl⟩
            have tu59 : 4 ≤ u59.toInt ∧ u59.toInt ≤ 40 := m_rng M h6 716 ku59 rfl
            have cu59 : (I39 (gr g a0 0) 716).toInt = u59.toInt := congrArg Int32.toInt ku59
            obtain ⟨u60, ku60⟩ : ∃ z : Int32, I39 (gr g a0 0) 722 = z := ⟨_, rfl⟩
            have tu60 : 1 ≤ u60.toInt ∧ u60.toInt ≤ 4 := m_rng M h6 722 ku60 rfl
            have cu60 : (I39 (gr g a0 0) 722).toInt = u60.toInt := congrArg Int32.toInt ku60
            obtain ⟨u61, ku61⟩ : ∃ z : Int32, I39 (gr g a0 0) 718 = z := ⟨_, rfl⟩
            have tu61 : 0 ≤ u61.toInt ∧ u61.toInt ≤ 200 := m_rng M h6 718 ku61 rfl
            have cu61 : (I39 (gr g a0 0) 718).toInt = u61.toInt := congrArg Int32.toInt ku61
            obtain ⟨u62, ku62⟩ : ∃ z : Int32, I39 (gr g a0 0) 719 = z := ⟨_, rfl⟩
            have tu62 : 0 ≤ u62.toInt ∧ u62.toInt ≤ 200 := m_rng M h6 719 ku62 rfl
            have cu62 : (I39 (gr g a0 0) 719).toInt = u62.toInt := congrArg Int32.toInt ku62
            simp only [cu52, cc53, cu54, cu55, cu56, cu57, cu58, cu59, cu60, cu61, cu62] at hJm
            refine lv_iload C.1 C.2.1 dX11_againTold_59 (lv_at hl 6 rfl) ?_
            refine lv_iload C.1 C.2.1 dX11_againTold_61 (lv_at hl 5 rfl) ?_
            refine n_icmp_ge C (tgt := 123) dX11_againTold_63 (by decide) rfl rfl (fun q63 => ?_) (fun q63 => ?_)
            ·
              refine lv_aload_n C.1 C.2.1 dX11_againTold_123 rfl (lv_at hl 0 rfl) ?_
              refine lv_iload_n C.1 C.2.1 dX11_againTold_124 rfl (lv_at hl 2 rfl) ?_
              refine pi_X11_315 C M h0_ dX11_againTold_125 rfl (by omega) (by omega) (fun H locs I64 k66 f65 M => ?_)
              have F := fr_put F h0_ (Or.inr (by decide)) f65
              have rk67 : (I64 a0 20).toInt = u52.toInt := congrArg Int32.toInt ((f65 a0 20 (Or.inr (by decide))).trans ku52)
              have rk68 : (I64 a0 14).toInt = i2.toInt := congrArg Int32.toInt ((f65 a0 14 (Or.inr (by decide))).trans k40)
              have rk69 : (I64 a0 15).toInt = u54.toInt := congrArg Int32.toInt ((f65 a0 15 (Or.inr (by decide))).trans ku54)
              have rk70 : (I64 a0 16).toInt = u55.toInt := congrArg Int32.toInt ((f65 a0 16 (Or.inr (by decide))).trans ku55)
              have rk71 : (I64 a0 17).toInt = u56.toInt := congrArg Int32.toInt ((f65 a0 17 (Or.inr (by decide))).trans ku56)
              have rk72 : (I64 (gr g a0 0) 717).toInt = u57.toInt := congrArg Int32.toInt ((f65 (gr g a0 0) 717 (Or.inl (is_ne h0_ h6 (by decide)))).trans ku57)
              have rk73 : (I64 (gr g a0 0) 715).toInt = u58.toInt := congrArg Int32.toInt ((f65 (gr g a0 0) 715 (Or.inl (is_ne h0_ h6 (by decide)))).trans ku58)
              have rk74 : (I64 (gr g a0 0) 716).toInt = u59.toInt := congrArg Int32.toInt ((f65 (gr g a0 0) 716 (Or.inl (is_ne h0_ h6 (by decide)))).trans ku59)
              have rk75 : (I64 (gr g a0 0) 722).toInt = u60.toInt := congrArg Int32.toInt ((f65 (gr g a0 0) 722 (Or.inl (is_ne h0_ h6 (by decide)))).trans ku60)
              have rk76 : (I64 (gr g a0 0) 718).toInt = u61.toInt := congrArg Int32.toInt ((f65 (gr g a0 0) 718 (Or.inl (is_ne h0_ h6 (by decide)))).trans ku61)
              have rk77 : (I64 (gr g a0 0) 719).toInt = u62.toInt := congrArg Int32.toInt ((f65 (gr g a0 0) 719 (Or.inl (is_ne h0_ h6 (by decide)))).trans ku62)
              exact r_PV C M hr hlk F ⟨hj2, ⟨⟨by omega, by omega, by omega, by omega, by omega, by omega, by omega⟩, (by simp only [ci1, ci2, ci3, ci4, ci5, ci7, ci8, ci9, ci10, ci11, ci12, rk67, rk68, rk69, rk70, rk71, rk72, rk73, rk74, rk75, rk76, rk77]; first | assumption | exact g4), (im_put M.2.2.2.2.2.1 h0_ h0_ rfl f65 im42)⟩⟩ dX11_againTold_128
            ·
              refine lv_aload_n C.1 C.2.1 dX11_againTold_66 rfl (lv_at hl 0 rfl) ?_
              refine gk_X11_198 C M h0_ ku52 dX11_againTold_67 ?_
              refine n_if_ne C (tgt := 123) dX11_againTold_70 (by decide) rfl (fun q78 => ?_) (fun q78 => ?_)
              ·
                refine lv_aload_n C.1 C.2.1 dX11_againTold_123 rfl (lv_at hl 0 rfl) ?_
                refine lv_iload_n C.1 C.2.1 dX11_againTold_124 rfl (lv_at hl 2 rfl) ?_
                refine pi_X11_315 C M h0_ dX11_againTold_125 rfl (by omega) (by omega) (fun H locs I79 k81 f80 M => ?_)
                have F := fr_put F h0_ (Or.inr (by decide)) f80
                have rk82 : (I79 a0 20).toInt = u52.toInt := congrArg Int32.toInt ((f80 a0 20 (Or.inr (by decide))).trans ku52)
                have rk83 : (I79 a0 14).toInt = i2.toInt := congrArg Int32.toInt ((f80 a0 14 (Or.inr (by decide))).trans k40)
                have rk84 : (I79 a0 15).toInt = u54.toInt := congrArg Int32.toInt ((f80 a0 15 (Or.inr (by decide))).trans ku54)
                have rk85 : (I79 a0 16).toInt = u55.toInt := congrArg Int32.toInt ((f80 a0 16 (Or.inr (by decide))).trans ku55)
                have rk86 : (I79 a0 17).toInt = u56.toInt := congrArg Int32.toInt ((f80 a0 17 (Or.inr (by decide))).trans ku56)
                have rk87 : (I79 (gr g a0 0) 717).toInt = u57.toInt := congrArg Int32.toInt ((f80 (gr g a0 0) 717 (Or.inl (is_ne h0_ h6 (by decide)))).trans ku57)
                have rk88 : (I79 (gr g a0 0) 715).toInt = u58.toInt := congrArg Int32.toInt ((f80 (gr g a0 0) 715 (Or.inl (is_ne h0_ h6 (by decide)))).trans ku58)
                have rk89 : (I79 (gr g a0 0) 716).toInt = u59.toInt := congrArg Int32.toInt ((f80 (gr g a0 0) 716 (Or.inl (is_ne h0_ h6 (by decide)))).trans ku59)
                have rk90 : (I79 (gr g a0 0) 722).toInt = u60.toInt := congrArg Int32.toInt ((f80 (gr g a0 0) 722 (Or.inl (is_ne h0_ h6 (by decide)))).trans ku60)
                have rk91 : (I79 (gr g a0 0) 718).toInt = u61.toInt := congrArg Int32.toInt ((f80 (gr g a0 0) 718 (Or.inl (is_ne h0_ h6 (by decide)))).trans ku61)
                have rk92 : (I79 (gr g a0 0) 719).toInt = u62.toInt := congrArg Int32.toInt ((f80 (gr g a0 0) 719 (Or.inl (is_ne h0_ h6 (by decide)))).trans ku62)
                exact r_PV C M hr hlk F ⟨hj2, ⟨⟨by omega, by omega, by omega, by omega, by omega, by omega, by omega⟩, (by simp only [ci1, ci2, ci3, ci4, ci5, ci7, ci8, ci9, ci10, ci11, ci12, rk82, rk83, rk84, rk85, rk86, rk87, rk88, rk89, rk90, rk91, rk92]; first | assumption | exact g4), (im_put M.2.2.2.2.2.1 h0_ h0_ rfl f80 im42)⟩⟩ dX11_againTold_128
              ·
                refine lv_aload_n C.1 C.2.1 dX11_againTold_73 rfl (lv_at hl 0 rfl) ?_
                refine gi_X11_318 C M h0_ dX11_againTold_74 (fun v93 kv93 tv93 uv93 => ?_)
                have cv93 : (I39 a0 22).toInt = v93.toInt := congrArg Int32.toInt kv93
                have J84 : ∀ (H : Heap) (locs : List Loc) (ls : Array Slot), Mm g s I39 J41 H locs → lv_has ls 8 [(0, .ref a0), (1, .int x1), (3, .int v33), (4, .int w34), (5, .int u26), (6, .int w37), (7, .int y38)] → W p l e (rmL 39) s m args below meth c H locs 0 0 (MQg below g (PV g md_X11_againTold_1 I (fun I1 J1 => (J1.1 = J.1 ∧ J1.2.1 = J.2.1) ∧ ((0 ≤ (I1 a0 20).toInt ∧ (I1 a0 16).toInt ≤ (I1 a0 14).toInt ∧ (I1 a0 15).toInt ≤ (I1 a0 16).toInt ∧ ((I1 a0 17).toInt = 3 → (I1 a0 15).toInt < (I1 a0 16).toInt) ∧ (I1 a0 14).toInt = (I a0 14).toInt ∧ (I a0 15).toInt ≤ (I1 a0 15).toInt ∧ (0 < (I a0 20).toInt → (I1 a0 20).toInt = (I a0 20).toInt)) ∧ jm (I1 (gr g a0 0) 717).toInt (I1 (gr g a0 0) 715).toInt (I1 (gr g a0 0) 716).toInt (I1 (gr g a0 0) 722).toInt (I1 (gr g a0 0) 718).toInt (I1 (gr g a0 0) 719).toInt ∧ IM g I1 a0))) args s) (F0 m 84 ls []) := by
                  intro H locs ls M hl
                  refine lv_aload_n C.1 C.2.1 dX11_againTold_84 rfl (lv_at hl 0 rfl) ?_
                  refine lv_iload C.1 C.2.1 dX11_againTold_85 (lv_at hl 3 rfl) ?_
                  refine pi_X11_315 C M h0_ dX11_againTold_87 rfl (by omega) (by omega) (fun H locs I94 k96 f95 M => ?_)
                  have F := fr_put F h0_ (Or.inr (by decide)) f95
                  clear fT
                  refine lv_aload_n C.1 C.2.1 dX11_againTold_90 rfl (lv_at hl 0 rfl) ?_
                  refine lv_iload C.1 C.2.1 dX11_againTold_91 (lv_at hl 4 rfl) ?_
                  refine pi_X11_201 C M h0_ dX11_againTold_93 rfl (by omega) (by omega) (fun H locs I97 k99 f98 M => ?_)
                  have F := fr_put F h0_ (Or.inr (by decide)) f98
                  refine lv_aload_n C.1 C.2.1 dX11_againTold_96 rfl (lv_at hl 0 rfl) ?_
                  have em100 : (I97 a0 20).toInt = u52.toInt := congrArg Int32.toInt ((f98 a0 20 (Or.inr (by decide))).trans ((f95 a0 20 (Or.inr (by decide))).trans ku52))
                  have em101 : (I97 a0 14).toInt = i2.toInt := congrArg Int32.toInt ((f98 a0 14 (Or.inr (by decide))).trans ((f95 a0 14 (Or.inr (by decide))).trans k40))
                  have em102 : (I97 a0 15).toInt = u54.toInt := congrArg Int32.toInt ((f98 a0 15 (Or.inr (by decide))).trans ((f95 a0 15 (Or.inr (by decide))).trans ku54))
                  have em103 : (I97 a0 16).toInt = u26.toInt := congrArg Int32.toInt k99
                  have em104 : (I97 a0 17).toInt = u56.toInt := congrArg Int32.toInt ((f98 a0 17 (Or.inr (by decide))).trans ((f95 a0 17 (Or.inr (by decide))).trans ku56))
                  refine k_PV C M h0_ (by decide) rfl (ct_X11_next l g I97 J41 a0 h0_ (by simp only [em100, em101, em102, em103, em104]; first | assumption | omega)) (cw_X11_245 C.2.2.2.2 (by decide)) rfl hl.1 rfl (Nat.le_of_ble_eq_true rfl) dX11_againTold_97 ⟨Nat.le_refl _, Nat.le_refl _⟩ (fun I105 J106 H locs G107 p108r M => ?_)
                  obtain ⟨eJ106, p108⟩ : (J106.1 = J41.1 ∧ J106.2.1 = J41.2.1) ∧ ((I105 a0 20).toInt = (I97 a0 20).toInt ∧ (I105 a0 14).toInt = (I97 a0 14).toInt ∧ (0 < (I97 a0 20).toInt → (I105 a0 15).toInt = (I97 a0 15).toInt ∧ (I105 a0 16).toInt = (I97 a0 16).toInt ∧ (I105 a0 17).toInt = (I97 a0 17).toInt) ∧ ((I97 a0 20).toInt ≤ 0 → (I97 a0 16).toInt ≤ (I105 a0 15).toInt ∧ (I105 a0 15).toInt ≤ (I105 a0 16).toInt ∧ (I105 a0 16).toInt ≤ (I97 a0 14).toInt ∧ ((I105 a0 17).toInt = 3 → (I105 a0 15).toInt < (I105 a0 16).toInt))) := p108r
                  have hj2 : J106.1 = J.1 ∧ J106.2.1 = J.2.1 := ⟨eJ106.1.trans hj2.1, eJ106.2.trans hj2.2⟩
                  have em109 : (I105 a0 20).toInt = u52.toInt := congrArg Int32.toInt ((G107 a0 9 20 h0_ (by decide) (by decide)).trans ((f98 a0 20 (Or.inr (by decide))).trans ((f95 a0 20 (Or.inr (by decide))).trans ku52)))
                  have em110 : (I105 a0 14).toInt = i2.toInt := congrArg Int32.toInt ((G107 a0 9 14 h0_ (by decide) (by decide)).trans ((f98 a0 14 (Or.inr (by decide))).trans ((f95 a0 14 (Or.inr (by decide))).trans k40)))
                  obtain ⟨u111, ku111⟩ : ∃ z : Int32, I105 a0 15 = z := ⟨_, rfl⟩
                  have tu111 : 0 ≤ u111.toInt ∧ u111.toInt ≤ 1000 := m_rng M h0_ 15 ku111 rfl
                  have em112 : (I105 a0 15).toInt = u111.toInt := congrArg Int32.toInt ku111
                  obtain ⟨u113, ku113⟩ : ∃ z : Int32, I105 a0 16 = z := ⟨_, rfl⟩
                  have tu113 : 0 ≤ u113.toInt ∧ u113.toInt ≤ 1000 := m_rng M h0_ 16 ku113 rfl
                  have em114 : (I105 a0 16).toInt = u113.toInt := congrArg Int32.toInt ku113
                  obtain ⟨u115, ku115⟩ : ∃ z : Int32, I105 a0 17 = z := ⟨_, rfl⟩
                  have em116 : (I105 a0 17).toInt = u115.toInt := congrArg Int32.toInt ku115
                  simp only [em100, em101, em102, em103, em104, em109, em110, em112, em114, em116] at p108
                  have F := fr_call F G107 (by decide)
                  obtain ⟨c1, c2, -, c4⟩ := p108
                  obtain ⟨c5, c6, c7, c8⟩ := c4 (by omega)
                  clear c4
                  refine lv_aload_n C.1 C.2.1 dX11_againTold_100 rfl (lv_at hl 0 rfl) ?_
                  refine lv_bipush (v := 91) C.1 C.2.1 dX11_againTold_101 (by decide) ?_
                  have em117 : (I105 a0 20).toInt = u52.toInt := congrArg Int32.toInt ((G107 a0 9 20 h0_ (by decide) (by decide)).trans ((f98 a0 20 (Or.inr (by decide))).trans ((f95 a0 20 (Or.inr (by decide))).trans ku52)))
                  have em118 : (I105 a0 14).toInt = i2.toInt := congrArg Int32.toInt ((G107 a0 9 14 h0_ (by decide) (by decide)).trans ((f98 a0 14 (Or.inr (by decide))).trans ((f95 a0 14 (Or.inr (by decide))).trans k40)))
                  have em119 : (I105 a0 15).toInt = u111.toInt := congrArg Int32.toInt ku111
                  have em120 : (I105 a0 16).toInt = u113.toInt := congrArg Int32.toInt ku113
                  have em121 : (I105 a0 17).toInt = u115.toInt := congrArg Int32.toInt ku115
                  refine k_PV C M h0_ (by decide) rfl (ct_X11_must l g I105 J106 a0 91 h0_ (by simp only [em117, em118, em119, em120, em121]; have : (91 : Int32).toInt = 91 := rfl; first | assumption | omega) (by simp only [em117, em118, em119, em120, em121]; have : (91 : Int32).toInt = 91 := rfl; first | assumption | omega) (by simp only [em117, em118, em119, em120, em121]; have : (91 : Int32).toInt = 91 := rfl; first | assumption | omega) (by simp only [em117, em118, em119, em120, em121]; have : (91 : Int32).toInt = 91 := rfl; first | assumption | omega)) (cw_X11_328 C.2.2.2.2 (by decide)) rfl hl.1 rfl (Nat.le_of_ble_eq_true rfl) dX11_againTold_103 ⟨Nat.le_refl _, Nat.le_refl _⟩ (fun I122 J123 H locs G124 p125r M => ?_)
                  obtain ⟨eJ123, p125⟩ : (J123.1 = J106.1 ∧ J123.2.1 = J106.2.1) ∧ (0 ≤ (I122 a0 20).toInt ∧ (I122 a0 16).toInt ≤ (I122 a0 14).toInt ∧ (I122 a0 15).toInt ≤ (I122 a0 16).toInt ∧ ((I122 a0 17).toInt = 3 → (I122 a0 15).toInt < (I122 a0 16).toInt) ∧ (I122 a0 14).toInt = (I105 a0 14).toInt ∧ (I105 a0 15).toInt ≤ (I122 a0 15).toInt ∧ (0 < (I105 a0 20).toInt → (I122 a0 20).toInt = (I105 a0 20).toInt) ∧ ((I122 a0 20).toInt = 0 → (I105 a0 16).toInt ≤ (I122 a0 15).toInt ∧ (I105 a0 17).toInt = 3)) := p125r
                  have hj2 : J123.1 = J.1 ∧ J123.2.1 = J.2.1 := ⟨eJ123.1.trans hj2.1, eJ123.2.trans hj2.2⟩
                  obtain ⟨u126, ku126⟩ : ∃ z : Int32, I122 a0 20 = z := ⟨_, rfl⟩
                  have em127 : (I122 a0 20).toInt = u126.toInt := congrArg Int32.toInt ku126
                  have em128 : (I122 a0 14).toInt = i2.toInt := congrArg Int32.toInt ((G124 a0 9 14 h0_ (by decide) (by decide)).trans ((G107 a0 9 14 h0_ (by decide) (by decide)).trans ((f98 a0 14 (Or.inr (by decide))).trans ((f95 a0 14 (Or.inr (by decide))).trans k40))))
                  obtain ⟨u129, ku129⟩ : ∃ z : Int32, I122 a0 15 = z := ⟨_, rfl⟩
                  have tu129 : 0 ≤ u129.toInt ∧ u129.toInt ≤ 1000 := m_rng M h0_ 15 ku129 rfl
                  have em130 : (I122 a0 15).toInt = u129.toInt := congrArg Int32.toInt ku129
                  obtain ⟨u131, ku131⟩ : ∃ z : Int32, I122 a0 16 = z := ⟨_, rfl⟩
                  have tu131 : 0 ≤ u131.toInt ∧ u131.toInt ≤ 1000 := m_rng M h0_ 16 ku131 rfl
                  have em132 : (I122 a0 16).toInt = u131.toInt := congrArg Int32.toInt ku131
                  obtain ⟨u133, ku133⟩ : ∃ z : Int32, I122 a0 17 = z := ⟨_, rfl⟩
                  have em134 : (I122 a0 17).toInt = u133.toInt := congrArg Int32.toInt ku133
                  simp only [em117, em118, em119, em120, em121, em127, em128, em130, em132, em134] at p125
                  have F := fr_call F G124 (by decide)
                  obtain ⟨e1, e2, e3, e4, e5, e6, e7, e8⟩ := p125
                  clear c8 e7 e8
                  refine lv_aload_n C.1 C.2.1 dX11_againTold_106 rfl (lv_at hl 0 rfl) ?_
                  refine lv_iload_n C.1 C.2.1 dX11_againTold_107 rfl (lv_at hl 1 rfl) ?_
                  have em135 : (I122 a0 20).toInt = u126.toInt := congrArg Int32.toInt ku126
                  have em136 : (I122 a0 14).toInt = i2.toInt := congrArg Int32.toInt ((G124 a0 9 14 h0_ (by decide) (by decide)).trans ((G107 a0 9 14 h0_ (by decide) (by decide)).trans ((f98 a0 14 (Or.inr (by decide))).trans ((f95 a0 14 (Or.inr (by decide))).trans k40))))
                  have em137 : (I122 a0 15).toInt = u129.toInt := congrArg Int32.toInt ku129
                  have em138 : (I122 a0 16).toInt = u131.toInt := congrArg Int32.toInt ku131
                  have em139 : (I122 a0 17).toInt = u133.toInt := congrArg Int32.toInt ku133
                  have em140 : (I122 (gr g a0 0) 717).toInt = u57.toInt := congrArg Int32.toInt ((G124 (gr g a0 0) 28 717 h6 (by decide) (by decide)).trans ((G107 (gr g a0 0) 28 717 h6 (by decide) (by decide)).trans ((f98 (gr g a0 0) 717 (Or.inl (is_ne h0_ h6 (by decide)))).trans ((f95 (gr g a0 0) 717 (Or.inl (is_ne h0_ h6 (by decide)))).trans ku57))))
                  have em141 : (I122 (gr g a0 0) 715).toInt = u58.toInt := congrArg Int32.toInt ((G124 (gr g a0 0) 28 715 h6 (by decide) (by decide)).trans ((G107 (gr g a0 0) 28 715 h6 (by decide) (by decide)).trans ((f98 (gr g a0 0) 715 (Or.inl (is_ne h0_ h6 (by decide)))).trans ((f95 (gr g a0 0) 715 (Or.inl (is_ne h0_ h6 (by decide)))).trans ku58))))
                  have em142 : (I122 (gr g a0 0) 716).toInt = u59.toInt := congrArg Int32.toInt ((G124 (gr g a0 0) 28 716 h6 (by decide) (by decide)).trans ((G107 (gr g a0 0) 28 716 h6 (by decide) (by decide)).trans ((f98 (gr g a0 0) 716 (Or.inl (is_ne h0_ h6 (by decide)))).trans ((f95 (gr g a0 0) 716 (Or.inl (is_ne h0_ h6 (by decide)))).trans ku59))))
                  have em143 : (I122 (gr g a0 0) 722).toInt = u60.toInt := congrArg Int32.toInt ((G124 (gr g a0 0) 28 722 h6 (by decide) (by decide)).trans ((G107 (gr g a0 0) 28 722 h6 (by decide) (by decide)).trans ((f98 (gr g a0 0) 722 (Or.inl (is_ne h0_ h6 (by decide)))).trans ((f95 (gr g a0 0) 722 (Or.inl (is_ne h0_ h6 (by decide)))).trans ku60))))
                  have em144 : (I122 (gr g a0 0) 718).toInt = u61.toInt := congrArg Int32.toInt ((G124 (gr g a0 0) 28 718 h6 (by decide) (by decide)).trans ((G107 (gr g a0 0) 28 718 h6 (by decide) (by decide)).trans ((f98 (gr g a0 0) 718 (Or.inl (is_ne h0_ h6 (by decide)))).trans ((f95 (gr g a0 0) 718 (Or.inl (is_ne h0_ h6 (by decide)))).trans ku61))))
                  have em145 : (I122 (gr g a0 0) 719).toInt = u62.toInt := congrArg Int32.toInt ((G124 (gr g a0 0) 28 719 h6 (by decide) (by decide)).trans ((G107 (gr g a0 0) 28 719 h6 (by decide) (by decide)).trans ((f98 (gr g a0 0) 719 (Or.inl (is_ne h0_ h6 (by decide)))).trans ((f95 (gr g a0 0) 719 (Or.inl (is_ne h0_ h6 (by decide)))).trans ku62))))
                  refine k_PV C M h0_ (by decide) rfl (ct_X11_deedsTold_1 l g I122 J123 a0 x1 h0_ (by simp only [em135, em136, em137, em138, em139, em140, em141, em142, em143, em144, em145]; first | assumption | omega) (by simp only [em135, em136, em137, em138, em139, em140, em141, em142, em143, em144, em145]; first | assumption | omega) (by simp only [em135, em136, em137, em138, em139, em140, em141, em142, em143, em144, em145]; first | assumption | omega) (by simp only [em135, em136, em137, em138, em139, em140, em141, em142, em143, em144, em145]; first | assumption | omega) (by simp only [em135, em136, em137, em138, em139, em140, em141, em142, em143, em144, em145]; first | assumption | omega) (im_fr M.2.2.2.2.2.1 h0_ G124 (by decide) (im_fr M.2.2.2.2.2.1 h0_ G107 (by decide) (im_put M.2.2.2.2.2.1 h0_ h0_ rfl f98 (im_put M.2.2.2.2.2.1 h0_ h0_ rfl f95 im42)))) (by omega)) (cw_X11_331 C.2.2.2.2 (by decide)) rfl hl.1 rfl (Nat.le_of_ble_eq_true rfl) dX11_againTold_108 ⟨Nat.le_refl _, Nat.le_refl _⟩ (fun I146 J147 H locs G148 p149r M => ?_)
                  obtain ⟨eJ147, p149⟩ : (J147.1 = J123.1 ∧ J147.2.1 = J123.2.1) ∧ ((0 ≤ (I146 a0 20).toInt ∧ (I146 a0 16).toInt ≤ (I146 a0 14).toInt ∧ (I146 a0 15).toInt ≤ (I146 a0 16).toInt ∧ ((I146 a0 17).toInt = 3 → (I146 a0 15).toInt < (I146 a0 16).toInt) ∧ (I146 a0 14).toInt = (I122 a0 14).toInt ∧ (I122 a0 15).toInt ≤ (I146 a0 15).toInt ∧ (0 < (I122 a0 20).toInt → (I146 a0 20).toInt = (I122 a0 20).toInt)) ∧ jm (I146 (gr g a0 0) 717).toInt (I146 (gr g a0 0) 715).toInt (I146 (gr g a0 0) 716).toInt (I146 (gr g a0 0) 722).toInt (I146 (gr g a0 0) 718).toInt (I146 (gr g a0 0) 719).toInt ∧ IM g I146 a0) := p149r
                  have hj2 : J147.1 = J.1 ∧ J147.2.1 = J.2.1 := ⟨eJ147.1.trans hj2.1, eJ147.2.trans hj2.2⟩
                  obtain ⟨u150, ku150⟩ : ∃ z : Int32, I146 a0 20 = z := ⟨_, rfl⟩
                  have em151 : (I146 a0 20).toInt = u150.toInt := congrArg Int32.toInt ku150
                  have em152 : (I146 a0 14).toInt = i2.toInt := congrArg Int32.toInt ((G148 a0 9 14 h0_ (by decide) (by decide)).trans ((G124 a0 9 14 h0_ (by decide) (by decide)).trans ((G107 a0 9 14 h0_ (by decide) (by decide)).trans ((f98 a0 14 (Or.inr (by decide))).trans ((f95 a0 14 (Or.inr (by decide))).trans k40)))))
                  obtain ⟨u153, ku153⟩ : ∃ z : Int32, I146 a0 15 = z := ⟨_, rfl⟩
                  have tu153 : 0 ≤ u153.toInt ∧ u153.toInt ≤ 1000 := m_rng M h0_ 15 ku153 rfl
                  have em154 : (I146 a0 15).toInt = u153.toInt := congrArg Int32.toInt ku153
                  obtain ⟨u155, ku155⟩ : ∃ z : Int32, I146 a0 16 = z := ⟨_, rfl⟩
                  have tu155 : 0 ≤ u155.toInt ∧ u155.toInt ≤ 1000 := m_rng M h0_ 16 ku155 rfl
                  have em156 : (I146 a0 16).toInt = u155.toInt := congrArg Int32.toInt ku155
                  obtain ⟨u157, ku157⟩ : ∃ z : Int32, I146 a0 17 = z := ⟨_, rfl⟩
                  have em158 : (I146 a0 17).toInt = u157.toInt := congrArg Int32.toInt ku157
                  obtain ⟨u159, ku159⟩ : ∃ z : Int32, I146 (gr g a0 0) 717 = z := ⟨_, rfl⟩
                  have tu159 : 0 ≤ u159.toInt ∧ u159.toInt ≤ 1 := m_rng M h6 717 ku159 rfl
                  have em160 : (I146 (gr g a0 0) 717).toInt = u159.toInt := congrArg Int32.toInt ku159
                  obtain ⟨u161, ku161⟩ : ∃ z : Int32, I146 (gr g a0 0) 715 = z := ⟨_, rfl⟩
                  have tu161 : 3 ≤ u161.toInt ∧ u161.toInt ≤ 7 := m_rng M h6 715 ku161 rfl
                  have em162 : (I146 (gr g a0 0) 715).toInt = u161.toInt := congrArg Int32.toInt ku161
                  obtain ⟨u163, ku163⟩ : ∃ z : Int32, I146 (gr g a0 0) 716 = z := ⟨_, rfl⟩
                  have tu163 : 4 ≤ u163.toInt ∧ u163.toInt ≤ 40 := m_rng M h6 716 ku163 rfl
                  have em164 : (I146 (gr g a0 0) 716).toInt = u163.toInt := congrArg Int32.toInt ku163
                  obtain ⟨u165, ku165⟩ : ∃ z : Int32, I146 (gr g a0 0) 722 = z := ⟨_, rfl⟩
                  have tu165 : 1 ≤ u165.toInt ∧ u165.toInt ≤ 4 := m_rng M h6 722 ku165 rfl
                  have em166 : (I146 (gr g a0 0) 722).toInt = u165.toInt := congrArg Int32.toInt ku165
                  obtain ⟨u167, ku167⟩ : ∃ z : Int32, I146 (gr g a0 0) 718 = z := ⟨_, rfl⟩
                  have tu167 : 0 ≤ u167.toInt ∧ u167.toInt ≤ 200 := m_rng M h6 718 ku167 rfl
                  have em168 : (I146 (gr g a0 0) 718).toInt = u167.toInt := congrArg Int32.toInt ku167
                  obtain ⟨u169, ku169⟩ : ∃ z : Int32, I146 (gr g a0 0) 719 = z := ⟨_, rfl⟩
                  have tu169 : 0 ≤ u169.toInt ∧ u169.toInt ≤ 200 := m_rng M h6 719 ku169 rfl
                  have em170 : (I146 (gr g a0 0) 719).toInt = u169.toInt := congrArg Int32.toInt ku169
                  simp only [em135, em136, em137, em138, em139, em140, em141, em142, em143, em144, em145, em151, em152, em154, em156, em158, em160, em162, em164, em166, em168, em170] at p149
                  obtain ⟨p149, hjm171, im172⟩ := p149
                  have F := fr_call F G148 (by decide)
                  obtain ⟨k1, k2, k3, k4, k5, k6, k7⟩ := p149
                  clear e4 k7
                  refine lv_aload_n C.1 C.2.1 dX11_againTold_111 rfl (lv_at hl 0 rfl) ?_
                  refine lv_bipush (v := 93) C.1 C.2.1 dX11_againTold_112 (by decide) ?_
                  have em173 : (I146 a0 20).toInt = u150.toInt := congrArg Int32.toInt ku150
                  have em174 : (I146 a0 14).toInt = i2.toInt := congrArg Int32.toInt ((G148 a0 9 14 h0_ (by decide) (by decide)).trans ((G124 a0 9 14 h0_ (by decide) (by decide)).trans ((G107 a0 9 14 h0_ (by decide) (by decide)).trans ((f98 a0 14 (Or.inr (by decide))).trans ((f95 a0 14 (Or.inr (by decide))).trans k40)))))
                  have em175 : (I146 a0 15).toInt = u153.toInt := congrArg Int32.toInt ku153
                  have em176 : (I146 a0 16).toInt = u155.toInt := congrArg Int32.toInt ku155
                  have em177 : (I146 a0 17).toInt = u157.toInt := congrArg Int32.toInt ku157
                  refine k_PV C M h0_ (by decide) rfl (ct_X11_must l g I146 J147 a0 93 h0_ (by simp only [em173, em174, em175, em176, em177]; have : (93 : Int32).toInt = 93 := rfl; first | assumption | omega) (by simp only [em173, em174, em175, em176, em177]; have : (93 : Int32).toInt = 93 := rfl; first | assumption | omega) (by simp only [em173, em174, em175, em176, em177]; have : (93 : Int32).toInt = 93 := rfl; first | assumption | omega) (by simp only [em173, em174, em175, em176, em177]; have : (93 : Int32).toInt = 93 := rfl; first | assumption | omega)) (cw_X11_328 C.2.2.2.2 (by decide)) rfl hl.1 rfl (Nat.le_of_ble_eq_true rfl) dX11_againTold_114 ⟨Nat.le_refl _, Nat.le_refl _⟩ (fun I178 J179 H locs G180 p181r M => ?_)
                  obtain ⟨eJ179, p181⟩ : (J179.1 = J147.1 ∧ J179.2.1 = J147.2.1) ∧ (0 ≤ (I178 a0 20).toInt ∧ (I178 a0 16).toInt ≤ (I178 a0 14).toInt ∧ (I178 a0 15).toInt ≤ (I178 a0 16).toInt ∧ ((I178 a0 17).toInt = 3 → (I178 a0 15).toInt < (I178 a0 16).toInt) ∧ (I178 a0 14).toInt = (I146 a0 14).toInt ∧ (I146 a0 15).toInt ≤ (I178 a0 15).toInt ∧ (0 < (I146 a0 20).toInt → (I178 a0 20).toInt = (I146 a0 20).toInt) ∧ ((I178 a0 20).toInt = 0 → (I146 a0 16).toInt ≤ (I178 a0 15).toInt ∧ (I146 a0 17).toInt = 3)) := p181r
                  have hj2 : J179.1 = J.1 ∧ J179.2.1 = J.2.1 := ⟨eJ179.1.trans hj2.1, eJ179.2.trans hj2.2⟩
                  obtain ⟨u182, ku182⟩ : ∃ z : Int32, I178 a0 20 = z := ⟨_, rfl⟩
                  have em183 : (I178 a0 20).toInt = u182.toInt := congrArg Int32.toInt ku182
                  have em184 : (I178 a0 14).toInt = i2.toInt := congrArg Int32.toInt ((G180 a0 9 14 h0_ (by decide) (by decide)).trans ((G148 a0 9 14 h0_ (by decide) (by decide)).trans ((G124 a0 9 14 h0_ (by decide) (by decide)).trans ((G107 a0 9 14 h0_ (by decide) (by decide)).trans ((f98 a0 14 (Or.inr (by decide))).trans ((f95 a0 14 (Or.inr (by decide))).trans k40))))))
                  obtain ⟨u185, ku185⟩ : ∃ z : Int32, I178 a0 15 = z := ⟨_, rfl⟩
                  have tu185 : 0 ≤ u185.toInt ∧ u185.toInt ≤ 1000 := m_rng M h0_ 15 ku185 rfl
                  have em186 : (I178 a0 15).toInt = u185.toInt := congrArg Int32.toInt ku185
                  obtain ⟨u187, ku187⟩ : ∃ z : Int32, I178 a0 16 = z := ⟨_, rfl⟩
                  have tu187 : 0 ≤ u187.toInt ∧ u187.toInt ≤ 1000 := m_rng M h0_ 16 ku187 rfl
                  have em188 : (I178 a0 16).toInt = u187.toInt := congrArg Int32.toInt ku187
                  obtain ⟨u189, ku189⟩ : ∃ z : Int32, I178 a0 17 = z := ⟨_, rfl⟩
                  have em190 : (I178 a0 17).toInt = u189.toInt := congrArg Int32.toInt ku189
                  simp only [em173, em174, em175, em176, em177, em183, em184, em186, em188, em190] at p181
                  have F := fr_call F G180 (by decide)
                  obtain ⟨l1, l2, l3, l4, l5, l6, l7, l8⟩ := p181
                  clear k4 l7 l8
                  have ih9 := i_hi w37
                  have il192 := i_lo y38
                  have ih193 := i_hi y38
                  refine n_iinc C (k := 6) (N := 1) (lv' := fun v => [(7, .int v), (0, .ref a0), (1, .int x1), (3, .int v33), (4, .int w34), (5, .int u26), (6, .int w37)]) dX11_againTold_117 hl rfl (by decide) rfl rfl (by omega) (by omega) (fun _ => rfl) (fun v191 ls ev191 hl => ?_)
                  refine lv_goto (tgt := 59) C.1 C.2.1 dX11_againTold_120 (by decide) ?_
                  have jc194 : (I178 a0 20).toInt = u182.toInt := congrArg Int32.toInt ku182
                  have jc195 : (I178 a0 14).toInt = i2.toInt := congrArg Int32.toInt ((G180 a0 9 14 h0_ (by decide) (by decide)).trans ((G148 a0 9 14 h0_ (by decide) (by decide)).trans ((G124 a0 9 14 h0_ (by decide) (by decide)).trans ((G107 a0 9 14 h0_ (by decide) (by decide)).trans ((f98 a0 14 (Or.inr (by decide))).trans ((f95 a0 14 (Or.inr (by decide))).trans k40))))))
                  have jc196 : (I178 a0 15).toInt = u185.toInt := congrArg Int32.toInt ku185
                  have jc197 : (I178 a0 16).toInt = u187.toInt := congrArg Int32.toInt ku187
                  have jc198 : (I178 a0 17).toInt = u189.toInt := congrArg Int32.toInt ku189
                  have jc199 : (I178 (gr g a0 0) 717).toInt = u159.toInt := congrArg Int32.toInt ((G180 (gr g a0 0) 28 717 h6 (by decide) (by decide)).trans ku159)
                  have jc200 : (I178 (gr g a0 0) 715).toInt = u161.toInt := congrArg Int32.toInt ((G180 (gr g a0 0) 28 715 h6 (by decide) (by decide)).trans ku161)
                  have jc201 : (I178 (gr g a0 0) 716).toInt = u163.toInt := congrArg Int32.toInt ((G180 (gr g a0 0) 28 716 h6 (by decide) (by decide)).trans ku163)
                  have jc202 : (I178 (gr g a0 0) 722).toInt = u165.toInt := congrArg Int32.toInt ((G180 (gr g a0 0) 28 722 h6 (by decide) (by decide)).trans ku165)
                  have jc203 : (I178 (gr g a0 0) 718).toInt = u167.toInt := congrArg Int32.toInt ((G180 (gr g a0 0) 28 718 h6 (by decide) (by decide)).trans ku167)
                  have jc204 : (I178 (gr g a0 0) 719).toInt = u169.toInt := congrArg Int32.toInt ((G180 (gr g a0 0) 28 719 h6 (by decide) (by decide)).trans ku169)
                  exact ih59 v191 I178 J179 _ _ _ ((G180 a0 9 14 h0_ (by decide) (by decide)).trans ((G148 a0 9 14 h0_ (by decide) (by decide)).trans ((G124 a0 9 14 h0_ (by decide) (by decide)).trans ((G107 a0 9 14 h0_ (by decide) (by decide)).trans ((f98 a0 14 (Or.inr (by decide))).trans ((f95 a0 14 (Or.inr (by decide))).trans k40)))))) (im_fr M.2.2.2.2.2.1 h0_ G180 (by decide) im172) hj2 (by omega) (by omega) (by omega) (by omega) (by omega) (by omega) (by simp only [jc194, jc195, jc196, jc197, jc198, jc199, jc200, jc201, jc202, jc203, jc204]; first | assumption | exact g0) (by omega) (by omega) (by omega) (by omega) (by omega) F M (lv_sub hl [1, 2, 3, 4, 5, 6, 0] rfl)
                refine n_if_eq C (tgt := 84) dX11_againTold_77 (by decide) rfl (fun q205 => ?_) (fun q205 => ?_)
                ·
                  exact J84 _ _ _ M hl
                ·
                  refine lv_iload_n C.1 C.2.1 dX11_againTold_80 rfl (lv_at hl 2 rfl) ?_
                  refine n_if_ne C (tgt := 123) dX11_againTold_81 (by decide) rfl (fun q206 => ?_) (fun q206 => ?_)
                  ·
                    refine lv_aload_n C.1 C.2.1 dX11_againTold_123 rfl (lv_at hl 0 rfl) ?_
                    refine lv_iload_n C.1 C.2.1 dX11_againTold_124 rfl (lv_at hl 2 rfl) ?_
                    refine pi_X11_315 C M h0_ dX11_againTold_125 rfl (by omega) (by omega) (fun H locs I207 k209 f208 M => ?_)
                    have F := fr_put F h0_ (Or.inr (by decide)) f208
                    have rk210 : (I207 a0 20).toInt = u52.toInt := congrArg Int32.toInt ((f208 a0 20 (Or.inr (by decide))).trans ku52)
                    have rk211 : (I207 a0 14).toInt = i2.toInt := congrArg Int32.toInt ((f208 a0 14 (Or.inr (by decide))).trans k40)
                    have rk212 : (I207 a0 15).toInt = u54.toInt := congrArg Int32.toInt ((f208 a0 15 (Or.inr (by decide))).trans ku54)
                    have rk213 : (I207 a0 16).toInt = u55.toInt := congrArg Int32.toInt ((f208 a0 16 (Or.inr (by decide))).trans ku55)
                    have rk214 : (I207 a0 17).toInt = u56.toInt := congrArg Int32.toInt ((f208 a0 17 (Or.inr (by decide))).trans ku56)
                    have rk215 : (I207 (gr g a0 0) 717).toInt = u57.toInt := congrArg Int32.toInt ((f208 (gr g a0 0) 717 (Or.inl (is_ne h0_ h6 (by decide)))).trans ku57)
                    have rk216 : (I207 (gr g a0 0) 715).toInt = u58.toInt := congrArg Int32.toInt ((f208 (gr g a0 0) 715 (Or.inl (is_ne h0_ h6 (by decide)))).trans ku58)
                    have rk217 : (I207 (gr g a0 0) 716).toInt = u59.toInt := congrArg Int32.toInt ((f208 (gr g a0 0) 716 (Or.inl (is_ne h0_ h6 (by decide)))).trans ku59)
                    have rk218 : (I207 (gr g a0 0) 722).toInt = u60.toInt := congrArg Int32.toInt ((f208 (gr g a0 0) 722 (Or.inl (is_ne h0_ h6 (by decide)))).trans ku60)
                    have rk219 : (I207 (gr g a0 0) 718).toInt = u61.toInt := congrArg Int32.toInt ((f208 (gr g a0 0) 718 (Or.inl (is_ne h0_ h6 (by decide)))).trans ku61)
                    have rk220 : (I207 (gr g a0 0) 719).toInt = u62.toInt := congrArg Int32.toInt ((f208 (gr g a0 0) 719 (Or.inl (is_ne h0_ h6 (by decide)))).trans ku62)
                    exact r_PV C M hr hlk F ⟨hj2, ⟨⟨by omega, by omega, by omega, by omega, by omega, by omega, by omega⟩, (by simp only [ci1, ci2, ci3, ci4, ci5, ci7, ci8, ci9, ci10, ci11, ci12, rk210, rk211, rk212, rk213, rk214, rk215, rk216, rk217, rk218, rk219, rk220]; first | assumption | exact g4), (im_put M.2.2.2.2.2.1 h0_ h0_ rfl f208 im42)⟩⟩ dX11_againTold_128
                  ·
                    exact J84 _ _ _ M hl
        have jc221 : (I18 a0 20).toInt = u23.toInt := congrArg Int32.toInt ku23
        have jc222 : (I18 a0 14).toInt = i2.toInt := congrArg Int32.toInt ((G20 a0 9 14 h0_ (by decide) (by decide)).trans ki2)
        have jc223 : (I18 a0 15).toInt = u26.toInt := congrArg Int32.toInt ku26
        have jc224 : (I18 a0 16).toInt = u28.toInt := congrArg Int32.toInt ku28
        have jc225 : (I18 a0 17).toInt = u30.toInt := congrArg Int32.toInt ku30
        have jc226 : (I18 (gr g a0 0) 717).toInt = i7.toInt := congrArg Int32.toInt ((G20 (gr g a0 0) 28 717 h6 (by decide) (by decide)).trans ki7)
        have jc227 : (I18 (gr g a0 0) 715).toInt = i8.toInt := congrArg Int32.toInt ((G20 (gr g a0 0) 28 715 h6 (by decide) (by decide)).trans ki8)
        have jc228 : (I18 (gr g a0 0) 716).toInt = i9.toInt := congrArg Int32.toInt ((G20 (gr g a0 0) 28 716 h6 (by decide) (by decide)).trans ki9)
        have jc229 : (I18 (gr g a0 0) 722).toInt = i10.toInt := congrArg Int32.toInt ((G20 (gr g a0 0) 28 722 h6 (by decide) (by decide)).trans ki10)
        have jc230 : (I18 (gr g a0 0) 718).toInt = i11.toInt := congrArg Int32.toInt ((G20 (gr g a0 0) 28 718 h6 (by decide) (by decide)).trans ki11)
        have jc231 : (I18 (gr g a0 0) 719).toInt = i12.toInt := congrArg Int32.toInt ((G20 (gr g a0 0) 28 719 h6 (by decide) (by decide)).trans ki12)
        have cz232 : (0 : Int32).toInt = 0 := rfl
        exact L59 _ 0 I18 J19 _ _ _ ((G20 a0 9 14 h0_ (by decide) (by decide)).trans ki2) (im_fr M.2.2.2.2.2.1 h0_ G20 (by decide) g5) hj2 (by omega) (by omega) (by omega) (by omega) (by omega) (by omega) (by simp only [jc221, jc222, jc223, jc224, jc225, jc226, jc227, jc228, jc229, jc230, jc231]; first | assumption | exact g0) (by omega) (by omega) (by omega) (by omega) (n_big _) F M (lv_sub hl [2, 3, 4, 5, 6, 1, 0] rfl)
      refine n_if_eq C (tgt := 53) dX11_againTold_46 (by decide) rfl (fun q233 => ?_) (fun q233 => ?_)
      ·
        refine lv_iconst (v := 1) C.1 C.2.1 dX11_againTold_53 (by decide) ?_
        have cz234 : (1 : Int32).toInt = 1 := rfl
        exact J54 1 _ _ _ M (lv_sub hl [2, 3, 5, 1, 0] rfl)
      ·
        refine lv_iload_n C.1 C.2.1 dX11_againTold_49 rfl (lv_at hl 4 rfl) ?_
        refine lv_goto (tgt := 54) C.1 C.2.1 dX11_againTold_50 (by decide) ?_
        exact J54 r22 _ _ _ M (lv_sub hl [2, 3, 5, 1, 0] rfl)
    have J35 : ∀ (H : Heap) (locs : List Loc) (ls : Array Slot), Mm g s I18 J19 H locs → lv_has ls 8 [(0, .ref a0), (1, .int x1), (2, .int r22), (3, .int v33)] → W p l e (rmL 39) s m args below meth c H locs 0 0 (MQg below g (PV g md_X11_againTold_1 I (fun I1 J1 => (J1.1 = J.1 ∧ J1.2.1 = J.2.1) ∧ ((0 ≤ (I1 a0 20).toInt ∧ (I1 a0 16).toInt ≤ (I1 a0 14).toInt ∧ (I1 a0 15).toInt ≤ (I1 a0 16).toInt ∧ ((I1 a0 17).toInt = 3 → (I1 a0 15).toInt < (I1 a0 16).toInt) ∧ (I1 a0 14).toInt = (I a0 14).toInt ∧ (I a0 15).toInt ≤ (I1 a0 15).toInt ∧ (0 < (I a0 20).toInt → (I1 a0 20).toInt = (I a0 20).toInt)) ∧ jm (I1 (gr g a0 0) 717).toInt (I1 (gr g a0 0) 715).toInt (I1 (gr g a0 0) 716).toInt (I1 (gr g a0 0) 722).toInt (I1 (gr g a0 0) 718).toInt (I1 (gr g a0 0) 719).toInt ∧ IM g I1 a0))) args s) (F0 m 35 ls []) := by
      intro H locs ls M hl
      refine lv_iconst (v := 0) C.1 C.2.1 dX11_againTold_35 (by decide) ?_
      have cz235 : (0 : Int32).toInt = 0 := rfl
      exact J36 0 _ _ _ (by omega) (by omega) M hl
    refine n_if_eq C (tgt := 35) dX11_againTold_24 (by decide) rfl (fun q236 => ?_) (fun q236 => ?_)
    ·
      exact J35 _ _ _ M (lv_sub hl [2, 3, 1, 0] rfl)
    ·
      refine lv_iload_n C.1 C.2.1 dX11_againTold_27 rfl (lv_at hl 1 rfl) ?_
      refine n_if_le C (tgt := 35) dX11_againTold_28 (by decide) rfl (fun q237 => ?_) (fun q237 => ?_)
      ·
        exact J35 _ _ _ M (lv_sub hl [2, 3, 1, 0] rfl)
      ·
        refine lv_iconst (v := 1) C.1 C.2.1 dX11_againTold_31 (by decide) ?_
        refine lv_goto (tgt := 36) C.1 C.2.1 dX11_againTold_32 (by decide) ?_
        have cz238 : (1 : Int32).toInt = 1 := rfl
        exact J36 1 _ _ _ (by omega) (by omega) M (lv_sub hl [2, 3, 1, 0] rfl)
  ·
    have rk239 : (I18 a0 20).toInt = u23.toInt := congrArg Int32.toInt ku23
    have rk240 : (I18 a0 14).toInt = i2.toInt := congrArg Int32.toInt ((G20 a0 9 14 h0_ (by decide) (by decide)).trans ki2)
    have rk241 : (I18 a0 15).toInt = u26.toInt := congrArg Int32.toInt ku26
    have rk242 : (I18 a0 16).toInt = u28.toInt := congrArg Int32.toInt ku28
    have rk243 : (I18 a0 17).toInt = u30.toInt := congrArg Int32.toInt ku30
    have rk244 : (I18 (gr g a0 0) 717).toInt = i7.toInt := congrArg Int32.toInt ((G20 (gr g a0 0) 28 717 h6 (by decide) (by decide)).trans ki7)
    have rk245 : (I18 (gr g a0 0) 715).toInt = i8.toInt := congrArg Int32.toInt ((G20 (gr g a0 0) 28 715 h6 (by decide) (by decide)).trans ki8)
    have rk246 : (I18 (gr g a0 0) 716).toInt = i9.toInt := congrArg Int32.toInt ((G20 (gr g a0 0) 28 716 h6 (by decide) (by decide)).trans ki9)
    have rk247 : (I18 (gr g a0 0) 722).toInt = i10.toInt := congrArg Int32.toInt ((G20 (gr g a0 0) 28 722 h6 (by decide) (by decide)).trans ki10)
    have rk248 : (I18 (gr g a0 0) 718).toInt = i11.toInt := congrArg Int32.toInt ((G20 (gr g a0 0) 28 718 h6 (by decide) (by decide)).trans ki11)
    have rk249 : (I18 (gr g a0 0) 719).toInt = i12.toInt := congrArg Int32.toInt ((G20 (gr g a0 0) 28 719 h6 (by decide) (by decide)).trans ki12)
    exact r_PV C M hr hlk F ⟨hj2, ⟨⟨by omega, by omega, by omega, by omega, by omega, by omega, by omega⟩, (by simp only [ci1, ci2, ci3, ci4, ci5, ci7, ci8, ci9, ci10, ci11, ci12, rk239, rk240, rk241, rk242, rk243, rk244, rk245, rk246, rk247, rk248, rk249]; first | assumption | exact g4), (im_fr M.2.2.2.2.2.1 h0_ G20 (by decide) g5)⟩⟩ dX11_againTold_14
