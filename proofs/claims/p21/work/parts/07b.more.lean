section MORE
variable {p : Program} {l : Launch} {e : Env} {R : Room} {s : State} {m : MethodId} {args : Array Value} {below : List Frame} {meth : Method} {c : Code} {H : Heap} {locs : List Loc} {cells slots : Nat} {Q : State → Prop} {cc : ByteArray} {nL pc : Nat} {ls : Array Slot} {st : List Value} {own : String} {g : Gs} {I : Ms} {J : Js} {a : Nat}
theorem a_ldB (C : CallFix p m c cc nL s args TB own) (M : Mm g s I J H locs) (h : Is g a 26) {i : Int32} {X : Int} (hx : i.toInt = X) (i1 : 0 ≤ X) (i2 : X < 264) (hd : decode cc pc = .ok (.baload, 1)) (kk : ∀ v : Int32, I a X.toNat = v → W p l e R s m args below meth c H locs cells slots Q (F0 m (pc + 1) ls (.int v :: st))) : W p l e R s m args below meth c H locs cells slots Q (F0 m pc ls (.int i :: .ref a :: st)) := by
  subst hx
  obtain ⟨k0, hk0⟩ := m_place M h
  rw [ct_arr h (by decide) (by decide)] at hk0
  exact va_bald (D := g.1) C.1 C.2.1 M.2.1 M.2.2.1 k0 1 hk0 rfl (i_in i1 i2) hd (kk _ rfl)
theorem a_stB (C : CallFix p m c cc nL s args TB own) (M : Mm g s I J H locs) (h : Is g a 26) {i : Int32} {X : Int} (hx : i.toInt = X) (i1 : 0 ≤ X) (i2 : X < 264) {v : Int32} (hd : decode cc pc = .ok (.bastore, 1)) (kk : ∀ (H1 : Heap) (locs1 : List Loc) (I1 : Ms), (∀ b k, (b ≠ a ∨ k ≠ X.toNat) → I1 b k = I b k) → Mm g s I1 J H1 locs1 → W p l e R s m args below meth c H1 locs1 cells slots Q (F0 m (pc + 1) ls st)) : W p l e R s m args below meth c H locs cells slots Q (F0 m pc ls (.int v :: .int i :: .ref a :: st)) := by
  subst hx
  obtain ⟨k0, hk0⟩ := m_place M h
  have hk1 := hk0
  rw [ct_arr h (by decide) (by decide)] at hk0
  refine va_bast (D := g.1) C.1 C.2.1 M.2.1 M.2.2.1 M.2.2.2.1 M.2.2.2.2.1 k0 1 hk0 rfl (i_in i1 i2) hd (fun H1 locs1 hP hD hS => ?_)
  have ee := va_pl_set (X := []) (f := ct g I J) (e := .inl (gA g (aty 26), aln 26, .inl (upd (I a) i.toNatClampNeg (vp_nar .byte v)))) M.2.2.2.1 h.1 hk1
  rw [List.nil_append, List.nil_append, ct_upA h (by decide) (by decide) (vp_nar .byte v)] at ee
  rw [ee] at hP hD
  refine kk H1 locs1 _ (fun b k q => ?_) ⟨M.1, M.2.1, hP, hD, hS, M.2.2.2.2.2.1, ti_up M.2.2.2.2.2.2.1 h ?_ ?_, M.2.2.2.2.2.2.2⟩
  · exact if_neg (fun w => q.elim (fun q => q w.1) (fun q => q w.2))
  · show (-128 : Int) ≤ _
    rw [vp_nar_byte, Int8.toInt_toInt32]
    exact Int8.le_toInt _
  · show _ ≤ (127 : Int)
    rw [vp_nar_byte, Int8.toInt_toInt32]
    exact Int.lt_add_one_iff.mp (Int8.toInt_lt _)
theorem a_ldZ (C : CallFix p m c cc nL s args TB own) (M : Mm g s I J H locs) {t n : Nat} (h : Is g a t) (h1 : 16 ≤ t) (h2 : t < 40) (h3 : aty t = 2) (hn : aln t = n) {i : Int32} {X : Int} (hx : i.toInt = X) (i1 : 0 ≤ X) (i2 : X < n) {j : Nat} (hj : X.toNat = j) (hd : decode cc pc = .ok (.baload, 1)) (kk : ∀ v : Int32, I a j = v → W p l e R s m args below meth c H locs cells slots Q (F0 m (pc + 1) ls (.int v :: st))) : W p l e R s m args below meth c H locs cells slots Q (F0 m pc ls (.int i :: .ref a :: st)) := by
  subst hx; subst hn; subst hj
  obtain ⟨k0, hk0⟩ := m_place M h
  rw [ct_arr h (by omega) h2, h3] at hk0
  exact va_zald (D := g.1) C.1 C.2.1 M.2.1 M.2.2.1 k0 2 hk0 rfl (i_in i1 i2) hd (kk _ rfl)
theorem a_stZ (C : CallFix p m c cc nL s args TB own) (M : Mm g s I J H locs) {t n : Nat} (h : Is g a t) (h1 : 16 ≤ t) (h2 : t < 40) (h3 : aty t = 2) (hn : aln t = n) {i : Int32} {X : Int} (hx : i.toInt = X) (i1 : 0 ≤ X) (i2 : X < n) {j : Nat} (hj : X.toNat = j) {v : Int32} {V : Int} (hv : v.toInt = V) (v1 : 0 ≤ V) (v2 : V ≤ 1) (hr : rng t j = (0, 1)) (hd : decode cc pc = .ok (.bastore, 1)) (kk : ∀ (H1 : Heap) (locs1 : List Loc) (I1 : Ms), I1 a j = v → (∀ b k, (b ≠ a ∨ k ≠ j) → I1 b k = I b k) → Mm g s I1 J H1 locs1 → W p l e R s m args below meth c H1 locs1 cells slots Q (F0 m (pc + 1) ls st)) : W p l e R s m args below meth c H locs cells slots Q (F0 m pc ls (.int v :: .int i :: .ref a :: st)) := by
  subst hx; subst hn; subst hj; subst hv
  obtain ⟨k0, hk0⟩ := m_place M h
  have hk1 := hk0
  rw [ct_arr h (by omega) h2, h3] at hk0
  have hb : vp_nar .boolean v = v := by
    unfold vp_nar
    rw [(m_nar (ty := .boolean) (Or.inr ⟨rfl, v1, v2⟩)).1]
  refine va_zast (D := g.1) C.1 C.2.1 M.2.1 M.2.2.1 M.2.2.2.1 M.2.2.2.2.1 k0 2 hk0 rfl (i_in i1 i2) hd (fun H1 locs1 hP hD hS => ?_)
  rw [hb] at hP hD
  have ee := va_pl_set (X := []) (f := ct g I J) (e := .inl (gA g (aty t), aln t, .inl (upd (I a) i.toNatClampNeg v))) M.2.2.2.1 h.1 hk1
  rw [List.nil_append, List.nil_append, ct_upA h (by omega) h2 v, h3] at ee
  rw [ee] at hP hD
  refine kk H1 locs1 _ (up2_s _ _ _ _) (fun b k q => ?_) ⟨M.1, M.2.1, hP, hD, hS, M.2.2.2.2.2.1, ti_up M.2.2.2.2.2.2.1 h ?_ ?_, M.2.2.2.2.2.2.2⟩
  · exact if_neg (fun w => q.elim (fun q => q w.1) (fun q => q w.2))
  · show (rng t i.toInt.toNat).1 ≤ _
    rw [hr]; exact v1
  · show _ ≤ (rng t i.toInt.toNat).2
    rw [hr]; exact v2
theorem n_iand255 (C : CallFix p m c cc nL s args TB own) (hd : decode cc pc = .ok (.iand, 1)) {x : Int32} (kk : ∀ v : Int32, 0 ≤ v.toInt → v.toInt ≤ 255 → W p l e R s m args below meth c H locs cells slots Q (F0 m (pc + 1) ls (.int v :: st))) : W p l e R s m args below meth c H locs cells slots Q (F0 m pc ls (.int 255 :: .int x :: st)) := by
  obtain ⟨j, hj, ej⟩ := pk_andE x (m := 255) 8 rfl
  refine lv_iand C.1 C.2.1 hd (kk _ ?_ ?_)
  · rw [ej, nI_toInt (by omega)]; omega
  · rw [ej, nI_toInt (by omega)]; omega
/-- a row of references that stay -/
theorem a_ldr (C : CallFix p m c cc nL s args TB own) (M : Mm g s I J H locs) {t n u : Nat} (h : Is g a t) (ht : t = 40 ∨ t = 41) (hn : aln t = n) (hu : ∀ k, rt t k = u) {i : Int32} {X : Int} (hx : i.toInt = X) (i1 : 0 ≤ X) (i2 : X < n) {j : Nat} (hj : X.toNat = j) (hd : decode cc pc = .ok (.aaload, 1)) (kk : Is g (gr g a j) u → W p l e R s m args below meth c H locs cells slots Q (F0 m (pc + 1) ls (.ref (gr g a j) :: st))) : W p l e R s m args below meth c H locs cells slots Q (F0 m pc ls (.int i :: .ref a :: st)) := by
  subst hx; subst hn; subst hj
  obtain ⟨k0, hk0⟩ := m_place M h
  rw [ct_rarr h (by omega) (by omega)] at hk0
  have hr : isR t i.toInt.toNat = true := by
    have : i.toInt.toNat < aln t := by omega
    rcases ht with rfl | rfl
    · exact (show (false || (true && decide (i.toInt.toNat < aln 40))) = true by rw [decide_eq_true this]; rfl)
    · exact (show (false || (true && decide (i.toInt.toNat < aln 41))) = true by rw [decide_eq_true this]; rfl)
  have hk := kk (hu _ ▸ M.2.2.2.2.2.1 a t _ h hr)
  rcases ht with rfl | rfl
  · exact va_aldq (D := g.1) C.1 C.2.1 M.2.1 M.2.2.1 k0 3 hk0 rfl (i_in i1 i2) hd hk
  · exact va_aldq (D := g.1) C.1 C.2.1 M.2.1 M.2.2.1 k0 4 hk0 rfl (i_in i1 i2) hd hk
def upq (J : Js) (a k b : Nat) : Js := (fun c j => if c = a ∧ j = k then b else J.1 c j, J.2)
theorem fls_setq {t k b : Nat} (h : (cds t)[k]? = some 2) : (fls g I J a t).set k (.ref b) = fls g I (upq J a k b) a t := by
  apply List.ext_getElem?
  intro j
  by_cases hj : k = j
  · subst hj
    have hl : k < (fls g I J a t).length := (List.getElem?_eq_some_iff.mp (fls_get h)).1
    rw [List.getElem?_set_self hl, fls_get h]
    simp [vl, upq]
  · rw [List.getElem?_set_ne hj]
    unfold fls
    rw [List.getElem?_mapIdx, List.getElem?_mapIdx]
    cases h9 : (cds t)[j]? with
    | none => rfl
    | some q =>
      simp only [Option.map_some]
      have : (upq J a k b).1 a j = J.1 a j := if_neg fun e => hj e.2.symm
      match q with
      | 0 => rfl
      | 1 => rfl
      | 2 => simp only [vl]; rw [this]
      | n + 3 => rfl
theorem ct_upq {t k b : Nat} (h : Is g a t) (ht : t < 16) (hk : (cds t)[k]? = some 2) : va_up (ct g I J) a (.inr (t, (fls g I J a t).set k (.ref b))) = ct g I (upq J a k b) := by
  funext x
  by_cases hb : x = a
  · subst hb
    rw [va_up_self, ct_obj h ht, fls_setq hk]
  · rw [va_up_ne _ _ hb]
    have e2 : ∀ j q, vl g I (upq J a k b) x j q = vl g I J x j q := by
      intro j q
      match q with
      | 0 => rfl
      | 1 => rfl
      | 2 => show Value.ref _ = Value.ref _; rw [show (upq J a k b).1 x j = J.1 x j from if_neg fun e => hb e.1]
      | n + 3 => rfl
    unfold ct fls
    simp only [e2]
    rfl
theorem m_putq (C : CallFix p m c cc nL s args TB RX4) (M : Mm g s I J H locs) (h : Is g a 2) (k : Nat) (hk : k = 6 ∨ k = 7) {index : Nat} (hl : Cond.fieldLink RX4 index (TX4 k).1 (TX4 k).2.1 (TX4 k).2.2.1 ∈ TB) {b : Nat} (hb : Is g b 3) (hd : decode cc pc = .ok (.putfield index, 3))
    (kk : ∀ (H1 : Heap) (locs1 : List Loc) (J1 : Js), J1.1 a k = b → (∀ c j, (c ≠ a ∨ j ≠ k) → J1.1 c j = J.1 c j) → J1.2 = J.2 → Mm g s I J1 H1 locs1 → W p l e R s m args below meth c H1 locs1 cells slots Q (F0 m (pc + 3) ls st)) : W p l e R s m args below meth c H locs cells slots Q (F0 m pc ls (.ref b :: .ref a :: st)) := by
  obtain ⟨k0, hk0⟩ := m_place M h
  have hk1 := hk0
  rw [ct_obj h (by decide)] at hk0
  have hq : (cds 2)[k]? = some 2 := by rcases hk with rfl | rfl <;> rfl
  have hk17 : k < 17 := by omega
  have hlen : k < (fls g I J a 2).length := (List.getElem?_eq_some_iff.mp (fls_get (g := g) (I := I) (J := J) (a := a) hq)).1
  have hfin : (TX4 k).2.2.2 = false := by rcases hk with rfl | rfl <;> rfl
  have hty : tyX4 k = .object "GrowHouse$Layout" := by rcases hk with rfl | rfl <;> rfl
  refine va_put (D := g.1) (ci := 2) (C := RX4) (T := TX4) (N := 17) (v := .ref b) C.1 C.2.1 C.2.2.2.2 uw_X4 tyX4 tyX4_ok nmX4 C.2.2.2.1 M.2.1 M.2.2.1 M.2.2.2.1 M.2.2.2.2.1 k0 hk0 rfl k hk17 (C.2.2.2.2 _ hl) (fun _ h9 => h9) hfin (tyX4_ok k hk17) (by rw [hty]; rfl) (by rw [hty]; rfl) hlen hd (fun H1 locs1 hP hD hS => ?_)
  have ee := va_pl_set (X := []) (f := ct g I J) (e := .inr (2, (fls g I J a 2).set k (.ref b))) M.2.2.2.1 h.1 hk1
  rw [List.nil_append, List.nil_append, ct_upq h (by decide) hq] at ee
  rw [ee] at hP hD
  refine kk H1 locs1 (upq J a k b) (if_pos ⟨rfl, rfl⟩) (fun c j q => if_neg (fun w => q.elim (fun q => q w.1) (fun q => q w.2))) rfl ⟨M.1, M.2.1, hP, hD, hS, M.2.2.2.2.2.1, M.2.2.2.2.2.2.1, ?_⟩
  intro x hx
  have old := M.2.2.2.2.2.2.2 x hx
  refine ⟨?_, ?_⟩
  · show Is g (if x = a ∧ 6 = k then b else J.1 x 6) 3
    split
    · exact hb
    · exact old.1
  · show Is g (if x = a ∧ 7 = k then b else J.1 x 7) 3
    split
    · exact hb
    · exact old.2
end MORE
/-! a house's border lies within the new stripes -/
def nsI (rows ow nw : Int) : Int := (rows * ow + nw - 1) / nw
def RH (g : Gs) (I : Ms) (J : Js) (a : Nat) : Prop := (I a 9).toInt ≤ nsI (I (gr g a 0) 4).toInt (I (J.1 a 6) 1).toInt (I (J.1 a 7) 1).toInt
/-- of each house the border is within; houses have disks of their own; a house's layouts are as wide as their numbers say -/
def RHs (g : Gs) (I : Ms) (J : Js) : Prop := (∀ a, Is g a 2 → RH g I J a) ∧ (∀ a b, Is g a 2 → Is g b 2 → gr g a 0 = gr g b 0 → a = b) ∧ ∀ a k, Is g a 2 → 3 ≤ k → k ≤ 7 → (I (gr g (gr g a 2) k) 1).toInt = k - 1
theorem nsI_nn {r o n : Int} (h1 : 0 ≤ r) (h2 : 0 ≤ o) (h3 : 0 < n) : 0 ≤ nsI r o n := by
  have := Int.mul_nonneg h1 h2
  exact Int.ediv_nonneg (by omega) (by omega)
theorem nsI_le {r o n : Int} (h1 : 0 ≤ r) (h1' : r ≤ 40) (h2 : 0 ≤ o) (h2' : o ≤ 7) (h3 : 2 ≤ n) (h3' : n ≤ 7) : nsI r o n ≤ 143 := by
  have := i_prod h1 h1' h2 h2'
  exact i_dle (by omega) (by omega) (by omega)
theorem is_lay {g : Gs} (hWf : Wf g) {a k : Nat} (h : Is g a 2) (hk : k ≤ 7) : Is g (gr g (gr g a 2) k) 3 := by
  have h1 : Is g (gr g a 2) 40 := hWf a 2 2 h rfl
  have : k < aln 40 := by show k < 8; omega
  exact hWf _ 40 k h1 (show (false || (true && decide (k < aln 40))) = true by rw [decide_eq_true this]; rfl)
/-- one house has changed, its own border being within -/
theorem rh_of {g : Gs} {I I1 : Ms} {J J1 : Js} {a0 : Nat} (hR : RHs g I J) (hWf : Wf g) (hQ : Tq g J) (hQ1 : Tq g J1) (h0 : Is g a0 2) (F3 : ∀ b, Is g b 3 → I1 b 1 = I b 1) (fo : ∀ b, Is g b 2 → b ≠ a0 → I1 b 9 = I b 9) (fd : ∀ b, Is g b 1 → b ≠ gr g a0 0 → I1 b 4 = I b 4) (fj : ∀ b, b ≠ a0 → J1.1 b 6 = J.1 b 6 ∧ J1.1 b 7 = J.1 b 7) (hself : RH g I1 J1 a0) : RHs g I1 J1 := by
  refine ⟨fun b hb => ?_, hR.2.1, fun a k ha h1 h2 => ?_⟩
  · by_cases q : b = a0
    · subst q; exact hself
    · have hd : Is g (gr g b 0) 1 := hWf b 2 0 hb rfl
      have := hR.1 b hb
      unfold RH at this ⊢
      rw [fo b hb q, fd _ hd (fun w => q (hR.2.1 b a0 hb h0 w)), (fj b q).1, (fj b q).2, F3 _ (hQ b hb).1, F3 _ (hQ b hb).2]
      exact this
  · rw [F3 _ (is_lay hWf ha h2)]
    exact hR.2.2 a k ha h1 h2
theorem rh_fr {g : Gs} {I I1 : Ms} {J : Js} {md : List (Nat × Nat)} (hWf : Wf g) (hQ : Tq g J) (F : Fr g md I I1) (h : ((2, 0) ∉ md ∧ (2, 10) ∉ md) ∧ ((1, 0) ∉ md ∧ (1, 5) ∉ md) ∧ ((3, 0) ∉ md ∧ (3, 2) ∉ md)) (hR : RHs g I J) : RHs g I1 J := by
  refine ⟨fun a ha => ?_, hR.2.1, fun a k ha h1 h2 => ?_⟩
  · have hd : Is g (gr g a 0) 1 := hWf a 2 0 ha rfl
    have := hR.1 a ha
    unfold RH at this ⊢
    rw [F a 2 9 ha h.1.1 h.1.2, F _ 1 4 hd h.2.1.1 h.2.1.2, F _ 3 1 (hQ a ha).1 h.2.2.1 h.2.2.2, F _ 3 1 (hQ a ha).2 h.2.2.1 h.2.2.2]
    exact this
  · rw [F _ 3 1 (is_lay hWf ha h2) h.2.2.1 h.2.2.2]
    exact hR.2.2 a k ha h1 h2
theorem rh_put {g : Gs} {I I1 : Ms} {J : Js} {a t k : Nat} (hWf : Wf g) (hQ : Tq g J) (h : Is g a t) (f : ∀ b j, (b ≠ a ∨ j ≠ k) → I1 b j = I b j) (hc : (t ≠ 2 ∨ k ≠ 9) ∧ (t ≠ 1 ∨ k ≠ 4) ∧ t ≠ 3) (hR : RHs g I J) : RHs g I1 J := by
  refine rh_fr (md := [(t, k + 1)]) hWf hQ (fr_put fr_rf h (Or.inr List.mem_cons_self) f) ⟨⟨?_, ?_⟩, ⟨?_, ?_⟩, ⟨?_, ?_⟩⟩ hR <;> simp only [List.mem_singleton, Prod.mk.injEq, not_and] <;> intro q <;> first | omega | (intro w; omega) | exact absurd q (by omega) | exact absurd q.symm hc.2.2
/-- a border of 0 is within -/
theorem rh_zero {g : Gs} {s : State} {I : Ms} {J : Js} {H : Heap} {locs : List Loc} (M : Mm g s I J H locs) {a : Nat} (h : Is g a 2) {v : Int32} (hk : I a 9 = v) (hv : v.toInt = 0) : RH g I J a := by
  unfold RH
  have h1 := m_rng M (is_ref M h 0 1 rfl rfl) 4 rfl rfl
  have h2 := m_rng M (is_old M h) 1 rfl rfl
  have h3 := m_rng M (is_next M h) 1 rfl rfl
  have := nsI_nn (r := (I (gr g a 0) 4).toInt) (o := (I (J.1 a 6) 1).toInt) (n := (I (J.1 a 7) 1).toInt) (by omega) (by omega) (by omega)
  rw [hk, hv]
  exact this
/-- a border that is within is not large -/
theorem rh_small {g : Gs} {s : State} {I : Ms} {J : Js} {H : Heap} {locs : List Loc} (M : Mm g s I J H locs) {a : Nat} (h : Is g a 2) (hR : RHs g I J) {v : Int32} (hk : I a 9 = v) : v.toInt ≤ 143 := by
  have h1 := m_rng M (is_ref M h 0 1 rfl rfl) 4 rfl rfl
  have h2 := m_rng M (is_old M h) 1 rfl rfl
  have h3 := m_rng M (is_next M h) 1 rfl rfl
  have := nsI_le (r := (I (gr g a 0) 4).toInt) (o := (I (J.1 a 6) 1).toInt) (n := (I (J.1 a 7) 1).toInt) (by omega) (by omega) (by omega) (by omega) (by omega) (by omega)
  have h4 := hR.1 a h
  unfold RH at h4
  rw [hk] at h4
  omega
