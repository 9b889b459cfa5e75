/-! THE CONSTANTS IN THE WALK: deeds, strings, static rows -/
theorem fl_X7_73 : Cond.fieldLink RX7 73 "GrowHouse$Deed" "AGAIN" "LGrowHouse$Deed;" ∈ TB := tb_mem 847 (by decide +kernel) rfl
theorem fl_X7_91 : Cond.fieldLink RX7 91 "GrowHouse$Deed" "CLOSE" "LGrowHouse$Deed;" ∈ TB := tb_mem 775 (by decide +kernel) rfl
theorem fl_X7_97 : Cond.fieldLink RX7 97 "GrowHouse$Deed" "spelling" "Ljava/lang/String;" ∈ TB := tb_mem 1534 (by decide +kernel) rfl
theorem fl_X7_81 : Cond.fieldLink RX7 81 "GrowHouse$Deed" "numbers" "I" ∈ TB := tb_mem 1537 (by decide +kernel) rfl
theorem fl_X10_222 : Cond.fieldLink RX10 222 "GrowHouse$1" "$SwitchMap$GrowHouse$Deed" "[I" ∈ TB := tb_mem 869 (by decide +kernel) rfl
theorem fl_J0_9 : Cond.fieldLink RJ0 9 "java/lang/String" "value" "[B" ∈ TB := tb_mem 1535 (by decide +kernel) rfl
theorem fl_J0_15 : Cond.fieldLink RJ0 15 "java/lang/String" "coder" "B" ∈ TB := tb_mem 1536 (by decide +kernel) rfl
theorem fl_J0_38 : Cond.fieldLink RJ0 38 "java/lang/String" "COMPACT_STRINGS" "Z" ∈ TB := tb_mem 807 (by decide +kernel) rfl
theorem fl_J0_1053 : Cond.fieldLink RJ0 1053 "jdk/internal/util/Preconditions" "SIOOBE_FORMATTER" "Ljava/util/function/BiFunction;" ∈ TB := tb_mem 823 (by decide +kernel) rfl
theorem fl_Je_7 : Cond.fieldLink RJx29ce0 7 "java/lang/Enum" "ordinal" "I" ∈ TB := tb_mem 1538 (by decide +kernel) rfl
theorem fn_X7_94 : Cond.fieldLinkNest RX7 94 "GrowHouse" "DEEDS" "[LGrowHouse$Deed;" "GrowHouse" ∈ lw_tbl := List.mem_of_getElem? (i := 793) (by decide +kernel)
def DO (g : Gs) (r : Option Nat) : Prop := r = none ∨ ∃ i, i < 14 ∧ r = some (gDd g i)
def DR (g : Gs) (J : Js) : Prop := ∀ a j, Is g a 42 → DO g (J.2.1 a j)
theorem dr_eq {g : Gs} {J J1 : Js} (e : J1.2.1 = J.2.1) (h : DR g J) : DR g J1 := fun a j ha => e ▸ h a j ha
theorem do_d {g : Gs} {i : Nat} (hi : i < 14) : DO g (some (gDd g i)) := Or.inr ⟨i, hi, rfl⟩
section CN
variable {p : Program} {l : Launch} {e : Env} {R : Room} {s : State} {m : MethodId} {args : Array Value} {below : List Frame} {meth : Method} {c : Code} {H : Heap} {locs : List Loc} {cells slots : Nat} {Q : State → Prop} {cc : ByteArray} {nL pc : Nat} {ls : Array Slot} {st : List Value} {own : String} {g : Gs} {I I0 : Ms} {J : Js} {a : Nat}
theorem ldcWS {T : State} (X : Stand p l e R s m args below meth c T locs cells slots) (hexec : p.tables.exec = Jvm.exec) {own text : String} {index : Nat} {a : Addr} (hown : s.vm.findClass own = some m.cls)
    (hconst : (Cond.stringRef own index text).before #[] s = true) (hev : (Term.string own index).eval #[] s none [] s = some (.ref a)) {g : JFrame} (hg : g.method = m) (hdg : decode c.code g.pc = .ok (.ldc_w index, 3)) :
    ∀ target, Steps p.tables e below (T.setTop { g with pc := g.pc + 3, stack := .ref a :: g.stack }) target → Steps p.tables e below (T.setTop g) target := by
  obtain ⟨k, cf, i, a', hk, hcf, hcp, -, hr, hev'⟩ := Cond.stringRef_spec hown hconst
  cases hev.symm.trans hev'
  obtain ⟨k', hk', he⟩ := X.warmed.alike.2.2 _ _ hk
  have hr' : k'.resolved[index]? = some (some (.string a)) := by
    rcases X.warmed.entry hk hk' index with h | ⟨h, -⟩
    · rw [h]; exact hr
    · rw [hr] at h; cases h
  intro target hrest
  subst hg
  jvm_step X.here [hexec, hdg, ldc_w.wp_string (e := e) (s := T) (f := g) X.here.top hk' (by rw [he]; exact hcf) hcp hr']
  exact hrest
theorem s_ldcw (C : CallFix p m c cc nL s args TB own) (M : Mm g s I J H locs) (ho : own = "GrowHouseModel") {i index : Nat} (hi : i < 13) (hx : ixM.getD i 0 = index) (hd : decode cc pc = .ok (.ldc_w index, 3)) (kk : W p l e R s m args below meth c H locs cells slots Q (F0 m (pc + 3) ls (.ref (gSk g i) :: st))) : W p l e R s m args below meth c H locs cells slots Q (F0 m pc ls st) := by
  subst ho; subst hx
  intro T hT X
  obtain ⟨t, a1, b1⟩ := kk T hT X
  exact ⟨t, ldcWS X C.1 C.2.2.2.1 (M.1.2.2.1 i hi).1 (M.1.2.2.1 i hi).2 (g := F0 m pc ls st) rfl (by rw [C.2.1]; exact hd) t a1, b1⟩
theorem s_ldc (C : CallFix p m c cc nL s args TB own) (M : Mm g s I J H locs) (ho : own = "GrowHouseModel") {i index : Nat} (hi : i < 13) (hx : ixM.getD i 0 = index) (hd : decode cc pc = .ok (.ldc index, 2)) (kk : W p l e R s m args below meth c H locs cells slots Q (F0 m (pc + 2) ls (.ref (gSk g i) :: st))) : W p l e R s m args below meth c H locs cells slots Q (F0 m pc ls st) := by
  subst ho; subst hx
  exact va_ldcS C.1 C.2.1 C.2.2.2.1 (M.1.2.2.1 i hi) hd kk
theorem s_deed (C : CallFix p m c cc nL s args TB own) (M : Mm g s I J H locs) {i index : Nat} (hi : i < 14) {n : String} (hn : nmD.getD i "" = n) (hl : Cond.fieldLink own index "GrowHouse$Deed" n "LGrowHouse$Deed;" ∈ TB) (hd : decode cc pc = .ok (.getstatic index, 3)) (kk : W p l e R s m args below meth c H locs cells slots Q (F0 m (pc + 3) ls (.ref (gDd g i) :: st))) : W p l e R s m args below meth c H locs cells slots Q (F0 m pc ls st) := by
  subst hn
  exact va_gets C.1 C.2.1 (M.1.2.1.1.1 i hi).1 M.2.2.2.2.1 C.2.2.2.1 (C.2.2.2.2 _ hl) (fun _ h => h) hd kk
theorem nu_ok : ∀ i, i < 14 → 0 ≤ (([0, 0, 0, 0, 1, 1, 1, 2, 3, 2, 1, 1, 1, 0] : List Int32).getD i 0).toInt ∧ (([0, 0, 0, 0, 1, 1, 1, 2, 3, 2, 1, 1, 1, 0] : List Int32).getD i 0).toInt ≤ 3 := by decide
theorem s_nums (C : CallFix p m c cc nL s args TB own) (M : Mm g s I J H locs) {i index : Nat} (hi : i < 14) (hl : Cond.fieldLink own index "GrowHouse$Deed" "numbers" "I" ∈ TB) (hd : decode cc pc = .ok (.getfield index, 3)) (kk : ∀ v : Int32, 0 ≤ v.toInt → v.toInt ≤ 3 → W p l e R s m args below meth c H locs cells slots Q (F0 m (pc + 3) ls (.int v :: st))) : W p l e R s m args below meth c H locs cells slots Q (F0 m pc ls (.ref (gDd g i) :: st)) :=
  va_getE (q := ("GrowHouse$Deed", "numbers", "I", [0, 0, 0, 0, 1, 1, 1, 2, 3, 2, 1, 1, 1, 0])) C.1 C.2.1 M.1.2.1.1 hi M.2.2.2.2.1 C.2.2.2.1 (by simp [fD]) (C.2.2.2.2 _ hl) (fun _ h => h) hd (kk _ (nu_ok i hi).1 (nu_ok i hi).2)
theorem s_spell (C : CallFix p m c cc nL s args TB own) (M : Mm g s I J H locs) {i index : Nat} (hi : i < 14) (hl : Cond.fieldLink own index "GrowHouse$Deed" "spelling" "Ljava/lang/String;" ∈ TB) (hd : decode cc pc = .ok (.getfield index, 3)) (kk : W p l e R s m args below meth c H locs cells slots Q (F0 m (pc + 3) ls (.ref (gSk g i) :: st))) : W p l e R s m args below meth c H locs cells slots Q (F0 m pc ls (.ref (gDd g i) :: st)) :=
  vk_getf C.1 C.2.1 (M.1.2.1.2.1 i hi) M.2.2.2.2.1 C.2.2.2.1 (C.2.2.2.2 _ hl) (fun _ h => h) hd kk
theorem s_deeds (C : CallFix p m c cc nL s args TB RX7) (M : Mm g s I J H locs) (hd : decode cc pc = .ok (.getstatic 94, 3)) (kk : W p l e R s m args below meth c H locs cells slots Q (F0 m (pc + 3) ls (.ref (gDA g) :: st))) : W p l e R s m args below meth c H locs cells slots Q (F0 m pc ls st) :=
  va_getsN C.1 C.2.1 M.1.2.1.2.2.2.1.1 M.2.2.2.2.1 C.2.2.2.1 (va_Nw.use rfl (M.1.2.2.2 _ fn_X7_94 rfl)) (fun _ h => h) hd kk
theorem s_dlen (C : CallFix p m c cc nL s args TB own) (M : Mm g s I J H locs) (hd : decode cc pc = .ok (.arraylength, 1)) (kk : W p l e R s m args below meth c H locs cells slots Q (F0 m (pc + 1) ls (.int 14 :: st))) : W p l e R s m args below meth c H locs cells slots Q (F0 m pc ls (.ref (gDA g) :: st)) :=
  va_tlen C.1 C.2.1 M.1.2.1.2.2.2.1.2 M.2.2.2.2.1 rfl hd kk
theorem s_dget (C : CallFix p m c cc nL s args TB own) (M : Mm g s I J H locs) {i : Int32} {X : Int} (hx : i.toInt = X) (i1 : 0 ≤ X) (i2 : X < 14) (hd : decode cc pc = .ok (.aaload, 1)) (kk : W p l e R s m args below meth c H locs cells slots Q (F0 m (pc + 1) ls (.ref (gDd g X.toNat) :: st))) : W p l e R s m args below meth c H locs cells slots Q (F0 m pc ls (.int i :: .ref (gDA g) :: st)) := by
  subst hx
  exact vb_tq C.1 C.2.1 M.1.2.1.2.2.2.1.2 M.2.2.2.2.1 (i_in i1 i2) rfl hd kk
theorem s_sm (C : CallFix p m c cc nL s args TB RX10) (M : Mm g s I J H locs) (hd : decode cc pc = .ok (.getstatic 222, 3)) (kk : W p l e R s m args below meth c H locs cells slots Q (F0 m (pc + 3) ls (.ref (gSM g) :: st))) : W p l e R s m args below meth c H locs cells slots Q (F0 m pc ls st) :=
  va_gets C.1 C.2.1 M.1.2.1.2.2.2.2.1.1 M.2.2.2.2.1 C.2.2.2.1 (C.2.2.2.2 _ fl_X10_222) (fun _ h => h) hd kk
theorem sm_ok : ∀ i, i < 14 → 0 ≤ (smD.getD i 0).toInt ∧ (smD.getD i 0).toInt ≤ 12 := by decide
theorem s_smget (C : CallFix p m c cc nL s args TB own) (M : Mm g s I J H locs) {i : Int32} {X : Int} (hx : i.toInt = X) (i1 : 0 ≤ X) (i2 : X < 14) (hd : decode cc pc = .ok (.iaload, 1)) (kk : ∀ v : Int32, 0 ≤ v.toInt → v.toInt ≤ 12 → W p l e R s m args below meth c H locs cells slots Q (F0 m (pc + 1) ls (.int v :: st))) : W p l e R s m args below meth c H locs cells slots Q (F0 m pc ls (.int i :: .ref (gSM g) :: st)) := by
  subst hx
  have q : i.toNatClampNeg < 14 := by show i.toInt.toNat < 14; omega
  exact va_ti C.1 C.2.1 M.1.2.1.2.2.2.2.1.2 M.2.2.2.2.1 (i_in i1 i2) rfl hd (kk _ (sm_ok _ q).1 (sm_ok _ q).2)
theorem ct_darr {a : Nat} (h : Is g a 42) : ct g I J a = .inl (gA g 42, aln 42, .inr (.inr (.inr (.inr (J.2.1 a))))) := by
  unfold ct
  rw [h.2, if_neg (by omega), if_neg (by omega), if_neg (by omega), if_pos (by omega)]
def upD (J : Js) (a k b : Nat) : Js := (J.1, (fun x => if x = a then va_up (J.2.1 a) k (some b) else J.2.1 x), J.2.2)
theorem ct_upD {a k b : Nat} (h : Is g a 42) : va_up (ct g I J) a (.inl (gA g 42, aln 42, .inr (.inr (.inr (.inr (va_up (J.2.1 a) k (some b))))))) = ct g I (upD J a k b) := by
  funext x
  by_cases hb : x = a
  · subst hb
    rw [va_up_self, ct_darr h]
    unfold upD
    simp only [if_true]
  · rw [va_up_ne _ _ hb]
    unfold ct
    have e2 : (upD J a k b).2.1 x = J.2.1 x := if_neg hb
    rw [e2]
    rfl
theorem s_dld (C : CallFix p m c cc nL s args TB own) (M : Mm g s I J H locs) (h : Is g a 42) {i : Int32} {X : Int} (hx : i.toInt = X) (i1 : 0 ≤ X) (i2 : X < 240) (hd : decode cc pc = .ok (.aaload, 1)) (kk : ∀ r : Option Nat, J.2.1 a X.toNat = r → W p l e R s m args below meth c H locs cells slots Q (F0 m (pc + 1) ls (va_rf r :: st))) : W p l e R s m args below meth c H locs cells slots Q (F0 m pc ls (.int i :: .ref a :: st)) := by
  subst hx
  obtain ⟨k0, hk0⟩ := m_place M h
  rw [ct_darr h] at hk0
  exact va_aldq (D := g.1) C.1 C.2.1 M.2.1 M.2.2.1 k0 5 hk0 rfl (i_in i1 i2) hd (kk _ rfl)
theorem s_dst (C : CallFix p m c cc nL s args TB own) (M : Mm g s I J H locs) (h : Is g a 42) {i : Int32} {X : Int} (hx : i.toInt = X) (i1 : 0 ≤ X) (i2 : X < 240) {d : Nat} (hdd : d < 14) (hd : decode cc pc = .ok (.aastore, 1)) (hR : DR g J) (kk : ∀ (H1 : Heap) (locs1 : List Loc) (J1 : Js), J1.1 = J.1 → J1.2.2 = J.2.2 → DR g J1 → Mm g s I J1 H1 locs1 → W p l e R s m args below meth c H1 locs1 cells slots Q (F0 m (pc + 1) ls st)) : W p l e R s m args below meth c H locs cells slots Q (F0 m pc ls (.ref (gDd g d) :: .int i :: .ref a :: st)) := by
  subst hx
  obtain ⟨k0, hk0⟩ := m_place M h
  have hk1 := hk0
  rw [ct_darr h] at hk0
  have hA : va_Any "GrowHouse$Deed" s H (gDd g d) := by
    obtain ⟨cell, h1, h2, h3⟩ := va_recvE M.1.2.1.1 (show d < nmD.length from hdd) M.2.2.2.2.1
    obtain ⟨kC, hkC, -⟩ := Vm.findClass_spec h3
    refine ⟨cell, h1, h2, ⟨kC, hkC⟩, fun comp hc => ?_⟩
    rw [h3] at hc
    cases hc
    exact va_asg _ _
  refine va_astqM (D := g.1) C.1 C.2.1 M.2.1 M.2.2.1 M.2.2.2.1 M.2.2.2.2.1 k0 5 hk0 rfl hA (i_in i1 i2) hd (fun H1 locs1 hP hD hS => ?_)
  have ee := va_pl_set (X := []) (f := ct g I J) (e := .inl (gA g 42, aln 42, .inr (.inr (.inr (.inr (va_up (J.2.1 a) i.toNatClampNeg (some (gDd g d)))))))) M.2.2.2.1 h.1 hk1
  rw [List.nil_append, List.nil_append, ct_upD h] at ee
  rw [ee] at hP hD
  refine kk H1 locs1 (upD J a i.toNatClampNeg (gDd g d)) rfl rfl (fun x j hx => ?_) ⟨M.1, M.2.1, hP, hD, hS, M.2.2.2.2.2.1, M.2.2.2.2.2.2.1, M.2.2.2.2.2.2.2⟩
  show DO g ((if x = a then va_up (J.2.1 a) i.toNatClampNeg (some (gDd g d)) else J.2.1 x) j)
  split
  · rename_i q
    subst q
    by_cases hj : j = i.toNatClampNeg
    · rw [hj, va_up_self]; exact do_d hdd
    · rw [va_up_ne _ _ hj]; exact hR x j hx
  · exact hR x j hx
/-- a call of a method of a constant object -/
theorem m_callVR {y : MethodName} {bytes : ByteArray} {maxL n index d : Nat} {ret : Option FieldType} {As rest : List Value} {Cn : String} {Post : Option Value → Ms → Js → Prop} (C : CallFix p m c cc nL s args TB own) (M : Mm g s I J H locs) (hrc : ∃ cell : Cell, H[a]? = some cell ∧ cell.vm.isStatics = false ∧ s.vm.findClass Cn = some cell.cls) (hM : Ctr l y bytes maxL ret d g (.ref a :: As) I J Post) (cw : CallW R s args own Cn index y bytes maxL ret (.code y bytes maxL ret :: TB) (rmL d) 0 0 n)
    (hn : As.length = n) (hsize : ls.size = nL) {st0 : List Value} (hst : st0 = As.reverse ++ .ref a :: rest) (hW : (rest.map fun v => v.category).sum ≤ 8) (hd : decode cc pc = .ok (.invokevirtual index, 3)) (hcs : cells ≤ R.cells ∧ slots ≤ R.slots)
    (kk : ∀ (v : Option Value) (I1 : Ms) (J1 : Js) (H1 : Heap) (locs1 : List Loc), Post v I1 J1 → Mm g s I1 J1 H1 locs1 → W p l e R s m args below meth c H1 locs1 cells slots Q (F0 m (pc + 3) ls (v.toList ++ rest))) : W p l e R s m args below meth c H locs cells slots Q (F0 m pc ls st0) :=
  m_after (y := y) M (va_runV (g := F0 m pc ls st0) (As := As) (rest := rest) C hM cw ⟨m_blind, hrc, fun U hU hWW => ⟨rfl, m_wm M hU hWW⟩⟩ rfl hn hsize hst (lv_room hW) hd hcs) kk
theorem s_recvS (M : Mm g s I J H locs) {i : Nat} (hi : i < 14) : ∃ cell : Cell, H[gSk g i]? = some cell ∧ cell.vm.isStatics = false ∧ s.vm.findClass RJ0 = some cell.cls := by
  obtain ⟨cell, h1, h2, h3, -⟩ := ((M.1.2.1.2.2.1 i hi).1).kept M.2.2.2.2.1.2.1
  exact ⟨cell, h1, h2, h3⟩
theorem kq_PI {y : MethodName} {bytes : ByteArray} {maxL n index d i : Nat} {ret : Option FieldType} {As rest : List Value} {P : Int → Prop} (C : CallFix p m c cc nL s args TB own) (M : Mm g s I J H locs) (hi : i < 14) (hM : Ctr l y bytes maxL ret d g (.ref (gSk g i) :: As) I J (PI I J P)) (cw : CallW R s args own RJ0 index y bytes maxL ret (.code y bytes maxL ret :: TB) (rmL d) 0 0 n)
    (hn : As.length = n) (hsize : ls.size = nL) {st0 : List Value} (hst : st0 = As.reverse ++ .ref (gSk g i) :: rest) (hW : (rest.map fun v => v.category).sum ≤ 8) (hd : decode cc pc = .ok (.invokevirtual index, 3)) (hcs : cells ≤ R.cells ∧ slots ≤ R.slots)
    (kk : ∀ (r : Int32) (H1 : Heap) (locs1 : List Loc), P r.toInt → Mm g s I J H1 locs1 → W p l e R s m args below meth c H1 locs1 cells slots Q (F0 m (pc + 3) ls (.int r :: rest))) : W p l e R s m args below meth c H locs cells slots Q (F0 m pc ls st0) :=
  m_callVR C M (s_recvS M hi) hM cw hn hsize hst hW hd hcs (fun v I1 J1 H1 locs1 hp M1 => by obtain ⟨r, rfl, rfl, rfl, hP⟩ := hp; exact kk r H1 locs1 hP M1)
/-- a long, nothing changed -/
def PL (I : Ms) (J : Js) : Option Value → Ms → Js → Prop := fun v I1 J1 => ∃ r : Int64, v = some (.long r) ∧ I1 = I ∧ J1 = J
theorem r_PL (C : CallFix p m c cc nL s args TB own) (M : Mm g s I J H locs) (hr : meth.sig.returnType = some .long) (hlk : meth.locks = false) {v : Int64} (hd : decode cc pc = .ok (.lreturn, 1)) : W p l e R s m args below meth c H locs 0 0 (MQg below g (PL I J) args s) (F0 m pc ls [.long v]) :=
  W.lret C.1 C.2.1 hr (fun _ ht hW => ⟨⟨_, I, J, rfl, ⟨v, rfl, rfl, rfl⟩, m_wm M ht hW⟩, M.2.2.2.2.1.F ht⟩) M.2.2.2.2.1.2.2 hd hlk
theorem ks_PL {y : MethodName} {bytes : ByteArray} {maxL n index d : Nat} {ret : Option FieldType} {As rest : List Value} (C : CallFix p m c cc nL s args TB own) (M : Mm g s I J H locs) (hM : Ctr l y bytes maxL ret d g As I J (PL I J)) (cw : CallB R s args own index y bytes maxL ret (.code y bytes maxL ret :: TB) (rmL d) 0 0 n ∧ (Cond.static y).before args s = true)
    (hn : As.length = n) (hsize : ls.size = nL) {st0 : List Value} (hst : st0 = As.reverse ++ rest) (hW : (rest.map fun v => v.category).sum ≤ 8) (hd : decode cc pc = .ok (.invokestatic index, 3)) (hcs : cells ≤ R.cells ∧ slots ≤ R.slots)
    (kk : ∀ (r : Int64) (H1 : Heap) (locs1 : List Loc), Mm g s I J H1 locs1 → W p l e R s m args below meth c H1 locs1 cells slots Q (F0 m (pc + 3) ls (.long r :: rest))) : W p l e R s m args below meth c H locs cells slots Q (F0 m pc ls st0) :=
  m_callS C M hM cw hn hsize hst hW hd hcs (fun v I1 J1 H1 locs1 hp M1 => by obtain ⟨r, rfl, rfl, rfl⟩ := hp; exact kk r H1 locs1 M1)
/-- a deed or null, of the memory what the frame says -/
def PQ (g : Gs) (md : List (Nat × Nat)) (I : Ms) (P : Ms → Js → Prop) : Option Value → Ms → Js → Prop := fun v I1 J1 => ∃ r : Option Nat, v = some (va_rf r) ∧ DO g r ∧ Fr g md I I1 ∧ P I1 J1
theorem r_PQ (C : CallFix p m c cc nL s args TB own) (M : Mm g s I J H locs) {n : String} (hr : meth.sig.returnType = some (.object n)) (hlk : meth.locks = false) {md : List (Nat × Nat)} (F : Fr g md I0 I) {P : Ms → Js → Prop} {r : Option Nat} (hq : DO g r) (hp : P I J) (hd : decode cc pc = .ok (.areturn, 1)) {v : Value} (hv : v = va_rf r) : W p l e R s m args below meth c H locs 0 0 (MQg below g (PQ g md I0 P) args s) (F0 m pc ls [v]) := by
  subst hv
  exact W.aret C.1 C.2.1 hr (Or.inl ⟨n, rfl⟩) (by cases r; exact Or.inl rfl; exact Or.inr ⟨_, rfl⟩) (fun _ ht hW => ⟨⟨_, I, J, rfl, ⟨r, rfl, hq, F, hp⟩, m_wm M ht hW⟩, M.2.2.2.2.1.F ht⟩) M.2.2.2.2.1.2.2 hd hlk
theorem k_PQ {y : MethodName} {bytes : ByteArray} {maxL n index d t0 : Nat} {ret : Option FieldType} {As rest : List Value} {Cn : String} {T : u_T} {N : Nat} {md : List (Nat × Nat)} {P : Ms → Js → Prop} (C : CallFix p m c cc nL s args TB own) (M : Mm g s I J H locs) (h : Is g a t0) (ht : t0 < 16) (hc : vwCl[t0]? = some (Cn, T, N)) (hM : Ctr l y bytes maxL ret d g (.ref a :: As) I J (PQ g md I P)) (cw : CallW R s args own Cn index y bytes maxL ret (.code y bytes maxL ret :: TB) (rmL d) 0 0 n)
    (hn : As.length = n) (hsize : ls.size = nL) {st0 : List Value} (hst : st0 = As.reverse ++ .ref a :: rest) (hW : (rest.map fun v => v.category).sum ≤ 8) (hd : decode cc pc = .ok (.invokevirtual index, 3)) (hcs : cells ≤ R.cells ∧ slots ≤ R.slots)
    (kk : ∀ (r : Option Nat) (I1 : Ms) (J1 : Js) (H1 : Heap) (locs1 : List Loc), DO g r → Fr g md I I1 → P I1 J1 → Mm g s I1 J1 H1 locs1 → W p l e R s m args below meth c H1 locs1 cells slots Q (F0 m (pc + 3) ls (va_rf r :: rest))) : W p l e R s m args below meth c H locs cells slots Q (F0 m pc ls st0) :=
  m_callV C M h ht hc hM cw hn hsize hst hW hd hcs (fun v I1 J1 H1 locs1 hp M1 => by obtain ⟨r, rfl, hq, hF, hP⟩ := hp; exact kk r I1 J1 H1 locs1 hq hF hP M1)
theorem n_lcmp (C : CallFix p m c cc nL s args TB own) {x y : Int64} (hd : decode cc pc = .ok (.lcmp, 1)) (kk : ∀ v : Int32, W p l e R s m args below meth c H locs cells slots Q (F0 m (pc + 1) ls (.int v :: st))) : W p l e R s m args below meth c H locs cells slots Q (F0 m pc ls (.long y :: .long x :: st)) :=
  W.lcmp C.1 C.2.1 hd (kk _)
end CN
