abbrev md_X11_keeps : List (Nat × Nat) := [(29, 0)]
set_option maxHeartbeats 4000000 in
set_option maxRecDepth 100000 in
theorem ct_X11_keeps (l : Launch) (g : Gs) (I : Ms) (J : Js) (a0 : Nat) (h0_ : Is g a0 9) : Ctr l yX11_keeps cX11_keeps 2 (Option.none : Option Jvm.ClassFile.FieldType) 1 g [.ref a0] I J (PV g md_X11_keeps I (fun I1 J1 => J1 = J ∧ (∀ j, j < 729 → I1 (gr g a0 1) j = I (gr g a0 0) j))) := by
  refine m_start (by decide) (Nat.le_of_ble_eq_true rfl) ?_
  intro p e s m args below meth c C hr hlk M ls hl
  have hl : lv_has ls 2 [(0, .ref a0)] := hl
  have C : CallFix p m c cX11_keeps 2 s args TB RX11 := C
  have F : Fr g md_X11_keeps I I := fr_rf
  refine lv_iconst (v := 0) C.1 C.2.1 dX11_keeps_0 (by decide) ?_
  refine lv_istore_n (lv' := [(1, .int 0), (0, .ref a0)]) C.1 C.2.1 dX11_keeps_1 rfl hl (by decide) rfl (fun ls hl => ?_)
  have L2 : ∀ (n2 : Nat) (y1 : Int32) (I2 : Ms) (H : Heap) (locs : List Loc) (ls : Array Slot), 0 ≤ y1.toInt → y1.toInt ≤ 729 → (∀ j : Nat, (j : Int) < y1.toInt → I2 (gr g a0 1) (0 + j) = I (gr g a0 0) (0 + j)) → 729 - y1.toInt < (n2 : Int) → Fr g md_X11_keeps I I2 → Mm g s I2 J H locs → lv_has ls 2 [(0, .ref a0), (1, .int y1)] → W p l e (rmL 1) s m args below meth c H locs 0 0 (MQg below g (PV g md_X11_keeps I (fun I1 J1 => J1 = J ∧ (∀ j, j < 729 → I1 (gr g a0 1) j = I (gr g a0 0) j))) args s) (F0 m 2 ls []) := by
    intro n2
    induction n2 with
    | zero =>
      intro y1 I2 H locs ls f3 f4 hc hm2 F M hl
      exact absurd hm2 (by omega)
    | succ n2 ih2 =>
      intro y1 I2 H locs ls f3 f4 hc hm2 F M hl
      refine lv_iload_n C.1 C.2.1 dX11_keeps_2 rfl (lv_at hl 1 rfl) ?_
      refine lv_sipush (v := 729) C.1 C.2.1 dX11_keeps_3 (by decide) ?_
      refine n_icmp_ge C (tgt := 27) (Y := 729) dX11_keeps_6 (by decide) rfl rfl (fun q5 => ?_) (fun q5 => ?_)
      ·
        exact r_PV C M hr hlk F ⟨rfl, (fun j hj => by have e9 := hc j (by omega); rw [Nat.zero_add] at e9; exact e9)⟩ dX11_keeps_27
      ·
        refine lv_aload_n C.1 C.2.1 dX11_keeps_9 rfl (lv_at hl 0 rfl) ?_
        refine gi_X11_13 C M h0_ dX11_keeps_10 (fun h6 => ?_)
        refine lv_iload_n C.1 C.2.1 dX11_keeps_13 rfl (lv_at hl 1 rfl) ?_
        refine lv_aload_n C.1 C.2.1 dX11_keeps_14 rfl (lv_at hl 0 rfl) ?_
        refine gi_X11_7 C M h0_ dX11_keeps_15 (fun h7 => ?_)
        refine lv_iload_n C.1 C.2.1 dX11_keeps_18 rfl (lv_at hl 1 rfl) ?_
        refine a_ld C M h7 (n := 729) rfl rfl rfl (by omega) (by omega) rfl dX11_keeps_19 (fun v8 kv8 => ?_)
        have hv9 : v8 = I (gr g a0 0) (0 + y1.toInt.toNat) := (by rw [Nat.zero_add]; exact kv8.symm.trans (F (gr g a0 0) 28 _ h7 (by decide) (by simp)))
        refine a_stU C M h6 (n := 729) rfl rfl rfl (by omega) (by omega) rfl rfl dX11_keeps_20 (fun H locs I9 k11 f10 M => ?_)
        have F := fr_put F h6 (Or.inl (by decide)) f10
        refine n_iinc C (k := 1) (N := 1) (lv' := fun v => [(1, .int v), (0, .ref a0)]) dX11_keeps_21 hl rfl (by decide) rfl rfl (by omega) (by omega) (fun _ => rfl) (fun v12 ls ev12 hl => ?_)
        refine lv_goto (tgt := 2) C.1 C.2.1 dX11_keeps_24 (by decide) ?_
        exact ih2 v12 I9 _ _ _ (by omega) (by omega) (by first | (intro j hj; exact absurd hj (by omega)) | (rw [ev12]; exact c_step (by omega) (by omega) hc k11 f10 hv9)) (by omega) F M (lv_sub hl [1, 0] rfl)
  have cz13 : (0 : Int32).toInt = 0 := rfl
  exact L2 _ 0 I _ _ _ (by omega) (by omega) (by first | (intro j hj; exact absurd hj (by omega)) | (rw [e0]; exact c_step (by omega) (by omega) hc hl hl hv9)) (n_big _) F M (lv_sub hl [1, 0] rfl)

abbrev md_X11_comesBack : List (Nat × Nat) := [(28, 0)]
set_option maxHeartbeats 4000000 in
set_option maxRecDepth 100000 in
theorem ct_X11_comesBack (l : Launch) (g : Gs) (I : Ms) (J : Js) (a0 : Nat) (h0_ : Is g a0 9) (g0 : Wd28 I (gr g a0 1) 0) : Ctr l yX11_comesBack cX11_comesBack 2 (Option.none : Option Jvm.ClassFile.FieldType) 1 g [.ref a0] I J (PV g md_X11_comesBack I (fun I1 J1 => J1 = J ∧ (∀ j, j < 729 → I1 (gr g a0 0) j = I (gr g a0 1) j))) := by
  refine m_start (by decide) (Nat.le_of_ble_eq_true rfl) ?_
  intro p e s m args below meth c C hr hlk M ls hl
  have hl : lv_has ls 2 [(0, .ref a0)] := hl
  have C : CallFix p m c cX11_comesBack 2 s args TB RX11 := C
  have F : Fr g md_X11_comesBack I I := fr_rf
  refine lv_iconst (v := 0) C.1 C.2.1 dX11_comesBack_0 (by decide) ?_
  refine lv_istore_n (lv' := [(1, .int 0), (0, .ref a0)]) C.1 C.2.1 dX11_comesBack_1 rfl hl (by decide) rfl (fun ls hl => ?_)
  have L2 : ∀ (n2 : Nat) (y1 : Int32) (I2 : Ms) (H : Heap) (locs : List Loc) (ls : Array Slot), 0 ≤ y1.toInt → y1.toInt ≤ 729 → (∀ j : Nat, (j : Int) < y1.toInt → I2 (gr g a0 0) (0 + j) = I (gr g a0 1) (0 + j)) → 729 - y1.toInt < (n2 : Int) → Fr g md_X11_comesBack I I2 → Mm g s I2 J H locs → lv_has ls 2 [(0, .ref a0), (1, .int y1)] → W p l e (rmL 1) s m args below meth c H locs 0 0 (MQg below g (PV g md_X11_comesBack I (fun I1 J1 => J1 = J ∧ (∀ j, j < 729 → I1 (gr g a0 0) j = I (gr g a0 1) j))) args s) (F0 m 2 ls []) := by
    intro n2
    induction n2 with
    | zero =>
      intro y1 I2 H locs ls f3 f4 hc hm2 F M hl
      exact absurd hm2 (by omega)
    | succ n2 ih2 =>
      intro y1 I2 H locs ls f3 f4 hc hm2 F M hl
      refine lv_iload_n C.1 C.2.1 dX11_comesBack_2 rfl (lv_at hl 1 rfl) ?_
      refine lv_sipush (v := 729) C.1 C.2.1 dX11_comesBack_3 (by decide) ?_
      refine n_icmp_ge C (tgt := 27) (Y := 729) dX11_comesBack_6 (by decide) rfl rfl (fun q5 => ?_) (fun q5 => ?_)
      ·
        exact r_PV C M hr hlk F ⟨rfl, (fun j hj => by have e9 := hc j (by omega); rw [Nat.zero_add] at e9; exact e9)⟩ dX11_comesBack_27
      ·
        refine lv_aload_n C.1 C.2.1 dX11_comesBack_9 rfl (lv_at hl 0 rfl) ?_
        refine gi_X11_7 C M h0_ dX11_comesBack_10 (fun h6 => ?_)
        refine lv_iload_n C.1 C.2.1 dX11_comesBack_13 rfl (lv_at hl 1 rfl) ?_
        refine lv_aload_n C.1 C.2.1 dX11_comesBack_14 rfl (lv_at hl 0 rfl) ?_
        refine gi_X11_13 C M h0_ dX11_comesBack_15 (fun h7 => ?_)
        refine lv_iload_n C.1 C.2.1 dX11_comesBack_18 rfl (lv_at hl 1 rfl) ?_
        refine a_ld C M h7 (n := 729) rfl rfl rfl (by omega) (by omega) rfl dX11_comesBack_19 (fun v8 kv8 => ?_)
        have hv9 : v8 = I (gr g a0 1) (0 + y1.toInt.toNat) := (by rw [Nat.zero_add]; exact kv8.symm.trans (F (gr g a0 1) 29 _ h7 (by decide) (by simp)))
        refine a_st C M h6 (n := 729) rfl rfl rfl (by omega) (by omega) rfl rfl (lo := (rng 28 (y1.toInt.toNat)).1) (hi := (rng 28 (y1.toInt.toNat)).2) rfl (show _ ∧ _ from by rw [hv9]; exact g0 _ (by omega)).1 (show _ ∧ _ from by rw [hv9]; exact g0 _ (by omega)).2 dX11_comesBack_20 (fun H locs I9 k11 f10 M => ?_)
        have F := fr_put F h6 (Or.inl (by decide)) f10
        refine n_iinc C (k := 1) (N := 1) (lv' := fun v => [(1, .int v), (0, .ref a0)]) dX11_comesBack_21 hl rfl (by decide) rfl rfl (by omega) (by omega) (fun _ => rfl) (fun v12 ls ev12 hl => ?_)
        refine lv_goto (tgt := 2) C.1 C.2.1 dX11_comesBack_24 (by decide) ?_
        exact ih2 v12 I9 _ _ _ (by omega) (by omega) (by first | (intro j hj; exact absurd hj (by omega)) | (rw [ev12]; exact c_step (by omega) (by omega) hc k11 f10 hv9)) (by omega) F M (lv_sub hl [1, 0] rfl)
  have cz13 : (0 : Int32).toInt = 0 := rfl
  exact L2 _ 0 I _ _ _ (by omega) (by omega) (by first | (intro j hj; exact absurd hj (by omega)) | (rw [e0]; exact c_step (by omega) (by omega) hc hl hl hv9)) (n_big _) F M (lv_sub hl [1, 0] rfl)
