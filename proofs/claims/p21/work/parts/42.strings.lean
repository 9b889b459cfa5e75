/-! THE JDK's String methods over the constants -/
section CNR
variable {p : Program} {l : Launch} {e : Env} {R : Room} {s : State} {m : MethodId} {args : Array Value} {below : List Frame} {meth : Method} {c : Code} {H : Heap} {locs : List Loc} {cells slots : Nat} {Q : State → Prop} {cc : ByteArray} {nL pc : Nat} {ls : Array Slot} {st : List Value} {own : String} {g : Gs} {I I0 : Ms} {J : Js} {a : Nat}
theorem r_PIn (C : CallFix p m c cc nL s args TB own) (M : Mm g s I J H locs) {ty : FieldType} (hr : meth.sig.returnType = some ty) (hlk : meth.locks = false) {v : Int32} {P : Int → Prop} (hn : narrow ty (.int v) = .int v) (hp : P v.toInt) (hd : decode cc pc = .ok (.ireturn, 1)) : W p l e R s m args below meth c H locs 0 0 (MQg below g (PI I J P) args s) (F0 m pc ls [.int v]) :=
  W.zret C.1 C.2.1 hr hn (fun _ ht hW => ⟨⟨_, I, J, rfl, ⟨v, rfl, rfl, rfl, hp⟩, m_wm M ht hW⟩, M.2.2.2.2.1.F ht⟩) M.2.2.2.2.1.2.2 hd hlk
end CNR
theorem i_eq0 {r : Int32} (h : r.toInt = 0) : r = 0 := Int32.toInt_inj.mp (by rw [h]; rfl)
theorem ct_J0_coder_7d493 (l : Launch) (g : Gs) (I : Ms) (J : Js) (d0 : Nat) (h0_ : d0 < 14) : Ctr l yJ0_coder_7d493 cJ0_coder_7d493 1 (Option.some Jvm.ClassFile.FieldType.byte) 1 g [.ref (gSk g d0)] I J (PI I J (fun z => z = 0)) := by
  refine m_start (by decide) (Nat.le_of_ble_eq_true rfl) ?_
  intro p e s m args below meth c C hr hlk M ls hl
  have hl : lv_has ls 1 [(0, .ref (gSk g d0))] := hl
  have C : CallFix p m c cJ0_coder_7d493 1 s args TB RJ0 := C
  refine va_gets C.1 C.2.1 M.1.2.1.2.2.2.2.2.1 M.2.2.2.2.1 C.2.2.2.1 (C.2.2.2.2 _ fl_J0_38) (fun _ h => h) dJ0_coder_7d493_0 ?_
  refine n_if_eq C (tgt := 13) (X := 1) dJ0_coder_7d493_3 (by decide) rfl (fun q => ?_) (fun q => ?_)
  · exact absurd q (by omega)
  · refine lv_aload_n C.1 C.2.1 dJ0_coder_7d493_6 rfl (lv_at hl 0 rfl) ?_
    refine vk_getf C.1 C.2.1 (M.1.2.1.2.2.1 d0 h0_).2.1 M.2.2.2.2.1 C.2.2.2.1 (C.2.2.2.2 _ fl_J0_15) (fun _ h => h) dJ0_coder_7d493_7 ?_
    refine lv_goto (tgt := 14) C.1 C.2.1 dJ0_coder_7d493_10 (by decide) ?_
    exact r_PIn C M hr hlk rfl rfl dJ0_coder_7d493_14
theorem ct_J0_isLatin1_aae02 (l : Launch) (g : Gs) (I : Ms) (J : Js) (d0 : Nat) (h0_ : d0 < 14) : Ctr l yJ0_isLatin1_aae02 cJ0_isLatin1_aae02 1 (Option.some Jvm.ClassFile.FieldType.boolean) 1 g [.ref (gSk g d0)] I J (PI I J (fun z => z = 1)) := by
  refine m_start (by decide) (Nat.le_of_ble_eq_true rfl) ?_
  intro p e s m args below meth c C hr hlk M ls hl
  have hl : lv_has ls 1 [(0, .ref (gSk g d0))] := hl
  have C : CallFix p m c cJ0_isLatin1_aae02 1 s args TB RJ0 := C
  refine va_gets C.1 C.2.1 M.1.2.1.2.2.2.2.2.1 M.2.2.2.2.1 C.2.2.2.1 (C.2.2.2.2 _ fl_J0_38) (fun _ h => h) dJ0_isLatin1_aae02_0 ?_
  refine n_if_eq C (tgt := 17) (X := 1) dJ0_isLatin1_aae02_3 (by decide) rfl (fun q => ?_) (fun q => ?_)
  · exact absurd q (by omega)
  · refine lv_aload_n C.1 C.2.1 dJ0_isLatin1_aae02_6 rfl (lv_at hl 0 rfl) ?_
    refine vk_getf C.1 C.2.1 (M.1.2.1.2.2.1 d0 h0_).2.1 M.2.2.2.2.1 C.2.2.2.1 (C.2.2.2.2 _ fl_J0_15) (fun _ h => h) dJ0_isLatin1_aae02_7 ?_
    refine n_if_ne C (tgt := 17) (X := 0) dJ0_isLatin1_aae02_10 (by decide) rfl (fun q => ?_) (fun q => ?_)
    · exact absurd q (by omega)
    · refine lv_iconst (v := 1) C.1 C.2.1 dJ0_isLatin1_aae02_13 (by decide) ?_
      refine lv_goto (tgt := 18) C.1 C.2.1 dJ0_isLatin1_aae02_14 (by decide) ?_
      exact r_PIn C M hr hlk rfl rfl dJ0_isLatin1_aae02_18
theorem len_ok : ∀ i, i < 14 → (Int32.ofNat (lenD.getD i 0) >>> ((0 : Int32) &&& 31)).toInt = ((lenD.getD i 0 : Nat) : Int) := by decide
theorem len_ok2 : ∀ i, i < 14 → (Int32.ofNat (lenD.getD i 0)).toInt = ((lenD.getD i 0 : Nat) : Int) := by decide
theorem ct_J0_length_8abf5 (l : Launch) (g : Gs) (I : Ms) (J : Js) (d0 : Nat) (h0_ : d0 < 14) : Ctr l yJ0_length_8abf5 cJ0_length_8abf5 1 (Option.some Jvm.ClassFile.FieldType.int) 2 g [.ref (gSk g d0)] I J (PI I J (fun z => z = ((lenD.getD d0 0 : Nat) : Int))) := by
  refine m_start (by decide) (Nat.le_of_ble_eq_true rfl) ?_
  intro p e s m args below meth c C hr hlk M ls hl
  have hl : lv_has ls 1 [(0, .ref (gSk g d0))] := hl
  have C : CallFix p m c cJ0_length_8abf5 1 s args TB RJ0 := C
  refine lv_aload_n C.1 C.2.1 dJ0_length_8abf5_0 rfl (lv_at hl 0 rfl) ?_
  refine vk_getf C.1 C.2.1 (M.1.2.1.2.2.1 d0 h0_).2.2.1 M.2.2.2.2.1 C.2.2.2.1 (C.2.2.2.2 _ fl_J0_9) (fun _ h => h) dJ0_length_8abf5_1 ?_
  refine va_tlen C.1 C.2.1 (M.1.2.1.2.2.1 d0 h0_).2.2.2 M.2.2.2.2.1 rfl dJ0_length_8abf5_4 ?_
  refine lv_aload_n C.1 C.2.1 dJ0_length_8abf5_5 rfl (lv_at hl 0 rfl) ?_
  refine kq_PI C M h0_ (ct_J0_coder_7d493 l g I J d0 h0_) (cw_J0_335 C.2.2.2.2 (by decide)) rfl hl.1 rfl (Nat.le_of_ble_eq_true rfl) dJ0_length_8abf5_6 ⟨Nat.le_refl _, Nat.le_refl _⟩ (fun r H locs hP M => ?_)
  have hP : r.toInt = 0 := hP
  have hr0 := i_eq0 hP
  subst hr0
  refine lv_ishr C.1 C.2.1 dJ0_length_8abf5_9 ?_
  exact r_PI C M hr hlk rfl (len_ok d0 h0_) dJ0_length_8abf5_10
theorem ct_J3_checkIndex_8e157 (l : Launch) (g : Gs) (I : Ms) (J : Js) (x0 x1 : Int32) (v : Option Nat) (g0 : 0 ≤ x0.toInt) (g1 : x0.toInt < x1.toInt) : Ctr l yJ3_checkIndex_8e157 cJ3_checkIndex_8e157 3 (Option.some Jvm.ClassFile.FieldType.int) 1 g [.int x0, .int x1, va_rf v] I J (PI I J (fun z => True)) := by
  refine m_start (by decide) (by cases v <;> exact Nat.le_of_ble_eq_true rfl) ?_
  intro p e s m args below meth c C hr hlk M ls hl
  have hl : lv_has ls 3 [(0, .int x0), (1, .int x1), (2, va_rf v)] := by
    cases v <;> exact hl
  have C : CallFix p m c cJ3_checkIndex_8e157 3 s args TB RJ3 := C
  refine lv_iload_n C.1 C.2.1 dJ3_checkIndex_8e157_0 rfl (lv_at hl 0 rfl) ?_
  refine n_if_lt C (tgt := 9) dJ3_checkIndex_8e157_1 (by decide) rfl (fun q => ?_) (fun q => ?_)
  · exact absurd q (by omega)
  · refine lv_iload_n C.1 C.2.1 dJ3_checkIndex_8e157_4 rfl (lv_at hl 0 rfl) ?_
    refine lv_iload_n C.1 C.2.1 dJ3_checkIndex_8e157_5 rfl (lv_at hl 1 rfl) ?_
    refine n_icmp_lt C (tgt := 16) dJ3_checkIndex_8e157_6 (by decide) rfl rfl (fun q => ?_) (fun q => ?_)
    · refine lv_iload_n C.1 C.2.1 dJ3_checkIndex_8e157_16 rfl (lv_at hl 0 rfl) ?_
      exact r_PI C M hr hlk rfl trivial dJ3_checkIndex_8e157_17
    · exact absurd q (by omega)
theorem ct_J0_checkIndex_df160 (l : Launch) (g : Gs) (I : Ms) (J : Js) (x0 x1 : Int32) (g0 : 0 ≤ x0.toInt) (g1 : x0.toInt < x1.toInt) : Ctr l yJ0_checkIndex_df160 cJ0_checkIndex_df160 2 (Option.none : Option Jvm.ClassFile.FieldType) 2 g [.int x0, .int x1] I J (PV g [] I (fun I1 J1 => I1 = I ∧ J1 = J)) := by
  refine m_start (by decide) (Nat.le_of_ble_eq_true rfl) ?_
  intro p e s m args below meth c C hr hlk M ls hl
  have hl : lv_has ls 2 [(0, .int x0), (1, .int x1)] := hl
  have C : CallFix p m c cJ0_checkIndex_df160 2 s args TB RJ0 := C
  have hZ : ∃ v : Option Nat, va_Z "jdk/internal/util/Preconditions" "SIOOBE_FORMATTER" "Ljava/util/function/BiFunction;" (va_rf v) (fun q => gb g ≤ q) s s.heap := by
    rcases M.1.2.1.2.2.2.2.2.2.1 with h | ⟨t, h⟩
    · exact ⟨none, h⟩
    · exact ⟨some t, h⟩
  obtain ⟨v, hZ⟩ := hZ
  refine lv_iload_n C.1 C.2.1 dJ0_checkIndex_df160_0 rfl (lv_at hl 0 rfl) ?_
  refine lv_iload_n C.1 C.2.1 dJ0_checkIndex_df160_1 rfl (lv_at hl 1 rfl) ?_
  refine va_gets C.1 C.2.1 hZ M.2.2.2.2.1 C.2.2.2.1 (C.2.2.2.2 _ fl_J0_1053) (fun _ h => h) dJ0_checkIndex_df160_2 ?_
  refine ks_PI C M (ct_J3_checkIndex_8e157 l g I J x0 x1 v g0 g1) (cw_J0_1059 C.2.2.2.2 (by decide)) rfl hl.1 rfl (Nat.le_of_ble_eq_true rfl) dJ0_checkIndex_df160_5 ⟨Nat.le_refl _, Nat.le_refl _⟩ (fun r H locs hP M => ?_)
  refine lv_pop C.1 C.2.1 dJ0_checkIndex_df160_8 rfl ?_
  exact r_PV C M hr hlk fr_rf ⟨rfl, rfl⟩ dJ0_checkIndex_df160_9
theorem ct_J1_charAt_3b067 (l : Launch) (g : Gs) (I : Ms) (J : Js) (d0 : Nat) (x1 : Int32) (h0_ : d0 < 14) (g0 : 0 ≤ x1.toInt) (g1 : x1.toInt < ((lenD.getD d0 0 : Nat) : Int)) : Ctr l yJ1_charAt_3b067 cJ1_charAt_3b067 2 (Option.some Jvm.ClassFile.FieldType.char) 3 g [.ref (gSv g d0), .int x1] I J (PI I J (fun z => ∃ b : Int32, z = (b &&& 255).toInt)) := by
  refine m_start (by decide) (Nat.le_of_ble_eq_true rfl) ?_
  intro p e s m args below meth c C hr hlk M ls hl
  have hl : lv_has ls 2 [(0, .ref (gSv g d0)), (1, .int x1)] := hl
  have C : CallFix p m c cJ1_charAt_3b067 2 s args TB RJ1 := C
  refine lv_iload_n C.1 C.2.1 dJ1_charAt_3b067_0 rfl (lv_at hl 1 rfl) ?_
  refine lv_aload_n C.1 C.2.1 dJ1_charAt_3b067_1 rfl (lv_at hl 0 rfl) ?_
  refine va_tlen C.1 C.2.1 (M.1.2.1.2.2.1 d0 h0_).2.2.2 M.2.2.2.2.1 rfl dJ1_charAt_3b067_2 ?_
  refine ks_PV C M (ct_J0_checkIndex_df160 l g I J x1 (Int32.ofNat (lenD.getD d0 0)) g0 (by rw [len_ok2 d0 h0_]; exact g1)) (cw_J1_9 C.2.2.2.2 (by decide)) rfl hl.1 rfl (Nat.le_of_ble_eq_true rfl) dJ1_charAt_3b067_3 ⟨Nat.le_refl _, Nat.le_refl _⟩ (fun I1 J1 H locs hF hP M9 => ?_)
  obtain ⟨rfl, rfl⟩ := hP
  have M := M9
  refine lv_aload_n C.1 C.2.1 dJ1_charAt_3b067_6 rfl (lv_at hl 0 rfl) ?_
  refine lv_iload_n C.1 C.2.1 dJ1_charAt_3b067_7 rfl (lv_at hl 1 rfl) ?_
  refine va_tb C.1 C.2.1 (M.1.2.1.2.2.1 d0 h0_).2.2.2 M.2.2.2.2.1 (i_in g0 g1) rfl dJ1_charAt_3b067_8 ?_
  refine lv_sipush (v := 255) C.1 C.2.1 dJ1_charAt_3b067_9 (by decide) ?_
  refine lv_iand C.1 C.2.1 dJ1_charAt_3b067_12 ?_
  refine lv_i2c C.1 C.2.1 dJ1_charAt_3b067_13 (sc_c2 _) ?_
  exact r_PIn C M hr hlk (sc_nar _) ⟨_, rfl⟩ dJ1_charAt_3b067_14
theorem ct_J0_charAt_5068e (l : Launch) (g : Gs) (I : Ms) (J : Js) (d0 : Nat) (x1 : Int32) (h0_ : d0 < 14) (g0 : 0 ≤ x1.toInt) (g1 : x1.toInt < ((lenD.getD d0 0 : Nat) : Int)) : Ctr l yJ0_charAt_5068e cJ0_charAt_5068e 2 (Option.some Jvm.ClassFile.FieldType.char) 5 g [.ref (gSk g d0), .int x1] I J (PI I J (fun z => True)) := by
  refine m_start (by decide) (Nat.le_of_ble_eq_true rfl) ?_
  intro p e s m args below meth c C hr hlk M ls hl
  have hl : lv_has ls 2 [(0, .ref (gSk g d0)), (1, .int x1)] := hl
  have C : CallFix p m c cJ0_charAt_5068e 2 s args TB RJ0 := C
  refine lv_aload_n C.1 C.2.1 dJ0_charAt_5068e_0 rfl (lv_at hl 0 rfl) ?_
  refine kq_PI C M h0_ (ct_J0_isLatin1_aae02 l g I J d0 h0_) (cw_J0_492 C.2.2.2.2 (by decide)) rfl hl.1 rfl (Nat.le_of_ble_eq_true rfl) dJ0_charAt_5068e_1 ⟨Nat.le_refl _, Nat.le_refl _⟩ (fun r H locs hP M => ?_)
  have hP : r.toInt = 1 := hP
  refine n_if_eq C (tgt := 16) dJ0_charAt_5068e_4 (by decide) rfl (fun q => ?_) (fun q => ?_)
  · exact absurd q (by omega)
  · refine lv_aload_n C.1 C.2.1 dJ0_charAt_5068e_7 rfl (lv_at hl 0 rfl) ?_
    refine vk_getf C.1 C.2.1 (M.1.2.1.2.2.1 d0 h0_).2.2.1 M.2.2.2.2.1 C.2.2.2.1 (C.2.2.2.2 _ fl_J0_9) (fun _ h => h) dJ0_charAt_5068e_8 ?_
    refine lv_iload_n C.1 C.2.1 dJ0_charAt_5068e_11 rfl (lv_at hl 1 rfl) ?_
    refine ks_PI C M (ct_J1_charAt_3b067 l g I J d0 x1 h0_ g0 g1) (cw_J0_495 C.2.2.2.2 (by decide)) rfl hl.1 rfl (Nat.le_of_ble_eq_true rfl) dJ0_charAt_5068e_12 ⟨Nat.le_refl _, Nat.le_refl _⟩ (fun r2 H locs hP2 M => ?_)
    obtain ⟨b, hb⟩ := hP2
    have hb2 : r2 = b &&& 255 := Int32.toInt_inj.mp hb
    subst hb2
    exact r_PIn C M hr hlk (sc_nar _) trivial dJ0_charAt_5068e_15
/-- Enum.ordinal -/
theorem or_ok : ∀ i, i < 14 → (([0, 1, 2, 3, 4, 5, 6, 7, 8, 9, 10, 11, 12, 13] : List Int32).getD i 0).toInt = (i : Int) := by decide
theorem ct_Je_ordinal (l : Launch) (g : Gs) (I : Ms) (J : Js) (d0 : Nat) (h0_ : d0 < 14) : Ctr l yJx29ce0_ordinal_8abf5 cJx29ce0_ordinal_8abf5 1 (Option.some Jvm.ClassFile.FieldType.int) 1 g [.ref (gDd g d0)] I J (PI I J (fun z => z = d0)) := by
  refine m_start (by decide) (Nat.le_of_ble_eq_true rfl) ?_
  intro p e s m args below meth c C hr hlk M ls hl
  have hl : lv_has ls 1 [(0, .ref (gDd g d0))] := hl
  have C : CallFix p m c cJx29ce0_ordinal_8abf5 1 s args TB RJx29ce0 := C
  refine lv_aload_n C.1 C.2.1 dJx29ce0_ordinal_8abf5_0 rfl (lv_at hl 0 rfl) ?_
  refine va_getE (q := ("java/lang/Enum", "ordinal", "I", [0, 1, 2, 3, 4, 5, 6, 7, 8, 9, 10, 11, 12, 13])) C.1 C.2.1 M.1.2.1.1 (show d0 < nmD.length from h0_) M.2.2.2.2.1 C.2.2.2.1 (by simp [fD]) (C.2.2.2.2 _ fl_Je_7) (fun _ h => h) dJx29ce0_ordinal_8abf5_1 ?_
  exact r_PI C M hr hlk rfl (or_ok d0 h0_) dJx29ce0_ordinal_8abf5_4
section ORD
variable {p : Program} {l : Launch} {e : Env} {R : Room} {s : State} {m : MethodId} {args : Array Value} {below : List Frame} {meth : Method} {c : Code} {H : Heap} {locs : List Loc} {cells slots : Nat} {Q : State → Prop} {cc : ByteArray} {nL pc D : Nat} {ls : Array Slot} {st : List Value} {own : String} {g : Gs} {I : Ms} {J : Js}
def yDo : MethodName := ⟨"GrowHouse$Deed", "ordinal", "()I"⟩
theorem ml_X10_227 : Cond.methodLink RX10 227 yDo ∈ TB := tb_mem 871 (by decide +kernel) rfl
theorem sm_ord : Cond.sameMethod "GrowHouse$Deed" "java/lang/Enum" "ordinal" "()I" ∈ TB := tb_mem 872 (by decide +kernel) rfl
theorem se_ord : Cond.selects "GrowHouse$Deed" yDo yJx29ce0_ordinal_8abf5 ∈ TB := tb_mem 874 (by decide +kernel) rfl
theorem im_ord : Cond.instanceMethod yJx29ce0_ordinal_8abf5 ∈ TB := tb_mem 875 (by decide +kernel) rfl
theorem cd_ord : Cond.code yJx29ce0_ordinal_8abf5 cJx29ce0_ordinal_8abf5 1 (Option.some Jvm.ClassFile.FieldType.int) ∈ TB := tb_mem 876 (by decide +kernel) rfl
theorem s_ord (C : CallFix p m c cc nL s args TB RX10) (M : Mm g s I J H locs) (ini : Cond.initialized "java/lang/Enum" ∈ TB) {i : Nat} (hi : i < 14) (hD : 1 < D) (hsize : ls.size = nL) (hW : (st.map fun v => v.category).sum ≤ 8) (hd : decode cc pc = .ok (.invokevirtual 227, 3))
    (kk : ∀ (r : Int32) (H1 : Heap) (locs1 : List Loc), r.toInt = i → Mm g s I J H1 locs1 → W p l e (rmL D) s m args below meth c H1 locs1 0 0 Q (F0 m (pc + 3) ls (.int r :: st))) : W p l e (rmL D) s m args below meth c H locs 0 0 Q (F0 m pc ls (.ref (gDd g i) :: st)) := by
  have hG : GoodIn TB (.code yJx29ce0_ordinal_8abf5 cJx29ce0_ordinal_8abf5 1 (Option.some Jvm.ClassFile.FieldType.int) :: TB) := fun w hw => by
    rcases List.mem_cons.mp hw with rfl | hw
    · exact ⟨cd_ord, tb_good cd_ord⟩
    · exact ⟨hw, tb_good hw⟩
  have hG2 : GoodIn TB (va_wsU RX10 227 "GrowHouse$Deed" "java/lang/Enum" yDo yJx29ce0_ordinal_8abf5 (.code yJx29ce0_ordinal_8abf5 cJx29ce0_ordinal_8abf5 1 (Option.some Jvm.ClassFile.FieldType.int) :: TB)) := fun w hw => by
    unfold va_wsU at hw
    rcases List.mem_append.mp hw with hw | hw
    · simp only [List.mem_cons, List.not_mem_nil, or_false] at hw
      rcases hw with rfl | rfl | rfl | rfl | rfl
      · exact ⟨ml_X10_227, tb_good ml_X10_227⟩
      · exact ⟨sm_ord, tb_good sm_ord⟩
      · exact ⟨se_ord, tb_good se_ord⟩
      · exact ⟨im_ord, tb_good im_ord⟩
      · exact ⟨ini, tb_good ini⟩
    · exact hG w hw
  have cw : va_CU (rmL D) s args RX10 "GrowHouse$Deed" "java/lang/Enum" 227 yDo yJx29ce0_ordinal_8abf5 cJx29ce0_ordinal_8abf5 1 (Option.some Jvm.ClassFile.FieldType.int) (.code yJx29ce0_ordinal_8abf5 cJx29ce0_ordinal_8abf5 1 (Option.some Jvm.ClassFile.FieldType.int) :: TB) (rmL 1) 0 0 0 :=
    va_cwU 0 C.2.2.2.2 hG2 rfl rfl rfl rfl ⟨by decide, by decide, by decide⟩ ⟨hD, by show 8 + (1 + 11) + 100 * 1 ≤ 100 * D; omega⟩
  refine m_after (y := yJx29ce0_ordinal_8abf5) M (va_runU (g := F0 m pc ls (.ref (gDd g i) :: st)) (As := []) (rest := st) C (ct_Je_ordinal l g I J i hi) cw ⟨m_blind, va_recvE M.1.2.1.1 (show i < nmD.length from hi) M.2.2.2.2.1, fun U hU hWW => ⟨rfl, m_wm M hU hWW⟩⟩ rfl rfl hsize rfl (lv_room hW) hd ⟨Nat.le_refl _, Nat.le_refl _⟩) (fun v I1 J1 H1 locs1 hp M1 => ?_)
  obtain ⟨r, rfl, rfl, rfl, hP⟩ := hp
  exact kk r H1 locs1 hP M1
end ORD
theorem ini_Je : Cond.initialized "java/lang/Enum" ∈ TB := tb_mem 74 (by decide +kernel) rfl
