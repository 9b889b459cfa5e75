/-! MAKING: the world as a list of cells, ahead of the pool -/
def Nws (U : State) : Prop := (∀ w ∈ lw_tbl, nwK w = true → va_Nw w U) ∧ va_AO "GrowHouse$Layout" U ∧ va_AO "GrowHouse$House" U ∧ va_AO "GrowHouse$Deed" U
def Wl (D : va_G) (ty : List (ClassId × FieldType)) (B : Nat) (ws : va_W) (U : State) : Prop :=
  (B ≤ U.heap.size ∧ Nws U) ∧ va_K D vwCl ty U ∧ va_P D vwCl ws U.heap ∧ va_D (fun q => B ≤ q) ws
def El (D : va_G) (ty : List (ClassId × FieldType)) (B : Nat) (s : State) (ws : va_W) (H : Heap) (locs : List Loc) : Prop :=
  (B ≤ s.heap.size ∧ Nws s) ∧ va_K D vwCl ty s ∧ va_P D vwCl ws H ∧ va_D (fun q => B ≤ q) ws ∧ va_S (fun q => B ≤ q) s.heap H locs
def rmE (d mc ms : Nat) : Room := { frames := d, cells := mc, slots := ms, locals := 100 * d }
def QE (D : va_G) (ty : List (ClassId × FieldType)) (B : Nat) (Post : Option Value → va_W → Prop) : Array Value → State → Outcome → State → Prop := fun _ st oc t =>
  (∃ (v : Option Value) (ws : va_W), oc = .returned v ∧ Post v ws ∧ Wl D ty B ws t) ∧ va_F (fun q => B ≤ q) st t
def CtE (l : Launch) (y : MethodName) (cc : ByteArray) (nL : Nat) (ret : Option FieldType) (d mc ms : Nat) (D : va_G) (ty : List (ClassId × FieldType)) (B : Nat) (av : List Value) (ws : va_W) (Post : Option Value → va_W → Prop) : Prop :=
  Met l y (.code y cc nL ret :: TB) (rmE d mc ms) (va_Pc av (fun U => Wl D ty B ws U)) (QE D ty B Post) mc ms (fun q => B ≤ q)
def tyl (c : Nat → ClassId) : List (ClassId × FieldType) := [(c 0, .int), (c 1, .byte), (c 2, .boolean), (c 40, .object "GrowHouse$Layout"), (c 41, .object "GrowHouse$House"), (c 42, .object "GrowHouse$Deed"), (c 43, .long)]
theorem ap_get {wr ow : va_W} {i : Nat} {x : Nat × va_E} (h : ow[i]? = some x) : (wr ++ ow)[wr.length + i]? = some x := by
  rw [List.getElem?_append_right (Nat.le_add_right _ _), Nat.add_sub_cancel_left]
  exact h
theorem ap_set {wr ow : va_W} {i : Nat} {x : Nat × va_E} : (wr ++ ow).set (wr.length + i) x = wr ++ ow.set i x := by
  rw [List.set_append_right _ _ (Nat.le_add_right _ _), Nat.add_sub_cancel_left]
theorem set_id {ws : va_W} {k : Nat} {x : Nat × va_E} (h : ws[k]? = some x) : ws.set k x = ws := by
  apply List.ext_getElem?
  intro j
  by_cases hj : k = j
  · subst hj
    rw [List.getElem?_set_self (List.getElem?_eq_some_iff.mp h).1, h]
  · rw [List.getElem?_set_ne hj]
theorem upd0 {i : Nat} : upd (fun _ => (0 : Int32)) i 0 = fun _ => 0 := by
  funext j
  unfold upd
  split <;> rfl
theorem Nws.warm {s t : State} (hW : s.WarmedH t.vm) (h : Nws s) : Nws t := ⟨fun w hw hk => nw_warm hk hW (h.1 w hw hk), va_AO.moved hW.alike h.2.1, va_AO.moved hW.alike h.2.2.1, va_AO.moved hW.alike h.2.2.2⟩
section EX
variable {p : Program} {l : Launch} {e : Env} {R : Room} {s : State} {m : MethodId} {args : Array Value} {below : List Frame} {meth : Method} {c : Code} {H : Heap} {locs : List Loc} {cells slots : Nat} {Q : State → Prop} {cc : ByteArray} {nL pc : Nat} {ls : Array Slot} {st : List Value} {own : String} {D : va_G} {ty : List (ClassId × FieldType)} {B : Nat} {ws : va_W} {a : Nat} {Post : Option Value → va_W → Prop}
theorem e_start {y : MethodName} {ret : Option FieldType} {d mc ms : Nat} {av : List Value} (hy : plainName y.cls = true) (hn : (lg_sl av).length ≤ nL)
    (body : ∀ (p : Program) (e : Env) (s : State) (m : MethodId) (args : Array Value) (below : List Frame) (meth : Method) (c : Code), CallFix p m c cc nL s args TB y.cls → meth.sig.returnType = ret → meth.locks = false → meth.name = y.name → El D ty B s ws s.heap [] → ∀ ls : Array Slot, lv_has ls nL (lv_args 0 av) →
      W p l e (rmE d mc ms) s m args below meth c s.heap [] 0 0 (MQ below (QE D ty B Post) args s mc ms (fun q => B ≤ q)) (F0 m 0 ls [])) : CtE l y cc nL ret d mc ms D ty B av ws Post := by
  refine Met.ofW (cc := cc) (maxL := nL) (ret := ret) hy rfl ?_
  intro p e s m args below meth c s₁ BB hml hv
  obtain ⟨rfl, h0, hK, hP, hD⟩ := hv
  have hts := atoms_spec (ws := .code y cc nL ret :: TB) BB.pre
  have hown : s.vm.findClass y.cls = some m.cls := findClass_of_methodNamed BB.named
  have hin : meth.name = y.name := (name_of_methodNamed BB.named BB.method).1
  have hl := lv_entry av (n := nL) hn
  rw [lg_entry_eq]
  exact body p e s m _ below meth c ⟨BB.exec, BB.bytes, hml, hown, fun w hw => hts w (List.mem_cons_of_mem _ hw)⟩ BB.returns BB.notSynchronized hin ⟨h0, hK, hP, hD, va_S.rf⟩ _ hl
theorem e_wl (E : El D ty B s ws H locs) {t : State} (ht : t.heap = H) (hW : s.WarmedH t.vm) : Wl D ty B ws t :=
  ⟨⟨by rw [ht]; exact Nat.le_trans E.1.1 E.2.2.2.2.1, E.1.2.warm hW⟩, va_K.moved hW.alike E.2.1, by rw [ht]; exact E.2.2.1, E.2.2.2.1⟩
theorem e_blind {av : List Value} : FrameBlind (va_Pc av (fun U => Wl D ty B ws U)) := by
  intro a U gg mk q
  obtain ⟨q0, q1, q2, q3, q4⟩ := q
  exact ⟨q0, ⟨q1.1, fun w hw hk => va_Nw.same (nw_tab hk) (u := U) rfl (q1.2.1 w hw hk), va_AO.moved (Vm.Alike.refl U.vm) q1.2.2.1, va_AO.moved (Vm.Alike.refl U.vm) q1.2.2.2.1, va_AO.moved (Vm.Alike.refl U.vm) q1.2.2.2.2⟩, va_K.moved (u := U) (U := U.calling gg mk a) (Vm.Alike.refl U.vm) q2, q3, q4⟩
theorem e_vret {mc ms : Nat} (C : CallFix p m c cc nL s args TB own) (E : El D ty B s ws H locs) (hr : meth.sig.returnType = none) (hlk : meth.locks = false) (hc : cells ≤ mc) (hs : slots ≤ ms) (hp : Post none ws) (hd : decode cc pc = .ok (.return_, 1)) : W p l e R s m args below meth c H locs cells slots (MQ below (QE D ty B Post) args s mc ms (fun q => B ≤ q)) (F0 m pc ls []) :=
  W.widen hc hs (W.vret C.1 C.2.1 hr (fun _ ht hW => ⟨⟨_, ws, rfl, hp, e_wl E ht hW⟩, E.2.2.2.2.F ht⟩) E.2.2.2.2.2.2 hd hlk)
theorem e_aret {mc ms : Nat} (C : CallFix p m c cc nL s args TB own) (E : El D ty B s ws H locs) {n : String} (hr : meth.sig.returnType = some (.object n)) (hlk : meth.locks = false) {b : Nat} (hc : cells ≤ mc) (hs : slots ≤ ms) (hp : Post (some (.ref b)) ws) (hd : decode cc pc = .ok (.areturn, 1)) : W p l e R s m args below meth c H locs cells slots (MQ below (QE D ty B Post) args s mc ms (fun q => B ≤ q)) (F0 m pc ls [.ref b]) :=
  W.widen hc hs (W.aret C.1 C.2.1 hr (Or.inl ⟨n, rfl⟩) (Or.inr ⟨b, rfl⟩) (fun _ ht hW => ⟨⟨_, ws, rfl, hp, e_wl E ht hW⟩, E.2.2.2.2.F ht⟩) E.2.2.2.2.2.2 hd hlk)
theorem e_get (C : CallFix p m c cc nL s args TB own) (E : El D ty B s ws H locs) (k0 : Nat) {t : Nat} {fs : List Value} (h : ws[k0]? = some (a, .inr (t, fs))) {Cn : String} {T : u_T} {N : Nat} (hc : vwCl[t]? = some (Cn, T, N)) (hin : ∀ w ∈ u_ws Cn T N, w ∈ TB) (k : Nat) (hk : k < N) {index : Nat} (hl : Cond.fieldLink own index (T k).1 (T k).2.1 (T k).2.2.1 ∈ TB) {v : Value} (hv : fs[k]? = some v) (hd : decode cc pc = .ok (.getfield index, 3))
    (kk : W p l e R s m args below meth c H locs cells slots Q (F0 m (pc + 3) ls (v :: st))) : W p l e R s m args below meth c H locs cells slots Q (F0 m pc ls (.ref a :: st)) :=
  va_get (D := D) (ci := t) (C := Cn) (T := T) (N := N) C.1 C.2.1 C.2.2.2.2 hin C.2.2.2.1 E.2.1 E.2.2.1 k0 h hc k hk (C.2.2.2.2 _ hl) (fun _ h9 => h9) hv hd kk
theorem e_put (C : CallFix p m c cc nL s args TB own) (E : El D ty B s ws H locs) (k0 : Nat) {t : Nat} {fs : List Value} (h : ws[k0]? = some (a, .inr (t, fs))) {Cn : String} {T : u_T} {N : Nat} (hc : vwCl[t]? = some (Cn, T, N)) (hin : ∀ w ∈ u_ws Cn T N, w ∈ TB) (ty0 : Nat → FieldType) (hty : ∀ k, k < N → parseFieldDescriptor (T k).2.2.1 = some (ty0 k)) (hnm : ∀ a, a < N → ∀ b, b < N → a ≠ b → (T a).2.1 ≠ (T b).2.1) (k : Nat) (hk : k < N) {index : Nat} (hl : Cond.fieldLink own index (T k).1 (T k).2.1 (T k).2.2.1 ∈ TB) (hfin : (T k).2.2.2 = false) {v : Value} (hn : narrow (ty0 k) v = v) (hf : fits (ty0 k) v = true) (hlen : k < fs.length) (hd : decode cc pc = .ok (.putfield index, 3))
    (kk : ∀ (H1 : Heap) (locs1 : List Loc), El D ty B s (ws.set k0 (a, .inr (t, fs.set k v))) H1 locs1 → W p l e R s m args below meth c H1 locs1 cells slots Q (F0 m (pc + 3) ls st)) : W p l e R s m args below meth c H locs cells slots Q (F0 m pc ls (v :: .ref a :: st)) :=
  va_put (D := D) (ci := t) (C := Cn) (T := T) (N := N) (v := v) C.1 C.2.1 C.2.2.2.2 hin ty0 hty hnm C.2.2.2.1 E.2.1 E.2.2.1 E.2.2.2.1 E.2.2.2.2 k0 h hc k hk (C.2.2.2.2 _ hl) (fun _ h9 => h9) hfin (hty k hk) hn hf hlen hd (fun H1 locs1 hP hD hS => kk H1 locs1 ⟨E.1, E.2.1, hP, hD, hS⟩)
theorem e_putF (C : CallFix p m c cc nL s args TB own) (E : El D ty B s ws H locs) (hin2 : meth.name = "<init>") (k0 : Nat) {t : Nat} {fs : List Value} (h : ws[k0]? = some (a, .inr (t, fs))) {Cn : String} {T : u_T} {N : Nat} (hc : vwCl[t]? = some (Cn, T, N)) (hin : ∀ w ∈ u_ws Cn T N, w ∈ TB) (ty0 : Nat → FieldType) (hty : ∀ k, k < N → parseFieldDescriptor (T k).2.2.1 = some (ty0 k)) (hnm : ∀ a, a < N → ∀ b, b < N → a ≠ b → (T a).2.1 ≠ (T b).2.1) (k : Nat) (hk : k < N) {index : Nat} (hl : Cond.fieldLink own index (T k).1 (T k).2.1 (T k).2.2.1 ∈ TB) (hfin : (T k).2.2.2 = true) (hdecl : (T k).1 = own) {v : Value} (hn : narrow (ty0 k) v = v) (hf : fits (ty0 k) v = true) (hlen : k < fs.length) (hd : decode cc pc = .ok (.putfield index, 3))
    (kk : ∀ (H1 : Heap) (locs1 : List Loc), El D ty B s (ws.set k0 (a, .inr (t, fs.set k v))) H1 locs1 → W p l e R s m args below meth c H1 locs1 cells slots Q (F0 m (pc + 3) ls st)) : W p l e R s m args below meth c H locs cells slots Q (F0 m pc ls (v :: .ref a :: st)) :=
  va_putF (D := D) (ci := t) (C := Cn) (T := T) (N := N) (v := v) C.1 C.2.1 C.2.2.2.2 hin ty0 hty hnm C.2.2.2.1 E.2.1 E.2.2.1 E.2.2.2.1 E.2.2.2.2 k0 h hc k hk (C.2.2.2.2 _ hl) (fun _ h9 => h9) hfin hin2 hdecl (hty k hk) hn hf hlen hd (fun H1 locs1 hP hD hS => kk H1 locs1 ⟨E.1, E.2.1, hP, hD, hS⟩)
theorem e_new (C : CallFix p m c cc nL s args TB own) (E : El D ty B s ws H locs) {t : Nat} {fs : List Value} {Cn : String} {T : u_T} {N : Nat} (hc : vwCl[t]? = some (Cn, T, N)) (hin : ∀ w ∈ u_ws Cn T N, w ∈ TB) (ty0 : Nat → FieldType) (hty : ∀ k, k < N → parseFieldDescriptor (T k).2.2.1 = some (ty0 k)) {index : Nat} (hcl : Cond.classLink own index Cn ∈ TB) (hinst : Cond.instantiable Cn N ∈ TB) (hini : Cond.initialized Cn ∈ TB) (hfs : ∀ j, j < N → defaultValue (ty0 j) = vp_V fs j) (h1 : cells + 1 ≤ R.cells) (h2 : slots + N ≤ R.slots) (hd : decode cc pc = .ok (.new index, 3))
    (kk : ∀ (q : Nat) (H1 : Heap), El D ty B s (ws ++ [(q, .inr (t, fs))]) H1 locs → W p l e R s m args below meth c H1 locs (cells + 1) (slots + N) Q (F0 m (pc + 3) ls (.ref q :: st))) : W p l e R s m args below meth c H locs cells slots Q (F0 m pc ls st) :=
  va_new (D := D) (C := Cn) (T := T) (N := N) C.1 C.2.1 C.2.2.2.2 hin ty0 hty C.2.2.2.1 (C.2.2.2.2 _ hcl) (C.2.2.2.2 _ hinst) (C.2.2.2.2 _ hini) E.2.1 E.2.2.1 E.2.2.2.1 E.2.2.2.2 (fun q hq => Nat.le_trans E.1.1 hq) hc hfs h1 h2 hd (fun q H1 hP hD hS => kk q H1 ⟨E.1, E.2.1, hP, hD, hS⟩)
theorem e_newa (C : CallFix p m c cc nL s args TB own) (E : El D ty B s ws H locs) {atype : ArrayType} (harr : Cond.arrayClass (newarray.typeOf atype) ∈ TB) {cA : ClassId} (t0 : Nat) (ht : ty[t0]? = some (cA, newarray.typeOf atype)) {n : Int32} {N' : Nat} (ha : ∀ cA : ClassId, vp_cell cA (N', .inl fun _ => 0) = arrV cA N' (fun _ => defaultValue (newarray.typeOf atype))) (hn : ¬ n < 0) (hN : n.toNatClampNeg = N') (hbytes : N' * componentBytes (newarray.typeOf atype) ≤ 536870912) (h1 : cells + 1 ≤ R.cells) (h2 : slots + N' ≤ R.slots) (hd : decode cc pc = .ok (.newarray atype, 2))
    (kk : ∀ (q : Nat) (H1 : Heap), El D ty B s (ws ++ [(q, .inl (cA, N', .inl fun _ => 0))]) H1 locs → W p l e R s m args below meth c H1 locs (cells + 1) (slots + N') Q (F0 m (pc + 2) ls (.ref q :: st))) : W p l e R s m args below meth c H locs cells slots Q (F0 m pc ls (.int n :: st)) := by
  refine va_newa (D := D) (a0 := (N', .inl fun _ => 0)) C.1 C.2.1 (C.2.2.2.2 _ harr) rfl E.2.1 E.2.2.1 E.2.2.2.1 E.2.2.2.2 (fun q hq => Nat.le_trans E.1.1 hq) ha hn hN hbytes h1 h2 hd (fun q cB H1 hK hP hD hS => ?_)
  have e1 := (E.2.1.2 t0 _ ht).2
  have e2 := (hK.2 ty.length (cB, newarray.typeOf atype) (by rw [List.getElem?_append_right (Nat.le_refl _), Nat.sub_self]; rfl)).2
  have e3 : cB = cA := by
    cases atype <;> exact Option.some.inj (e2.symm.trans e1)
  subst e3
  exact kk q H1 ⟨E.1, E.2.1, hP, hD, hS⟩
theorem e_newl (C : CallFix p m c cc nL s args TB own) (E : El D ty B s ws H locs) (harr : Cond.arrayClass (newarray.typeOf .long) ∈ TB) {cA : ClassId} (t0 : Nat) (ht : ty[t0]? = some (cA, .long)) {n : Int32} {N' : Nat} (hn : ¬ n < 0) (hN : n.toNatClampNeg = N') (hbytes : N' * componentBytes (newarray.typeOf .long) ≤ 536870912) (h1 : cells + 1 ≤ R.cells) (h2 : slots + N' ≤ R.slots) (hd : decode cc pc = .ok (.newarray .long, 2))
    (kk : ∀ (q : Nat) (H1 : Heap), El D ty B s (ws ++ [(q, .inl (cA, N', .inr (.inl fun _ => 0)))]) H1 locs → W p l e R s m args below meth c H1 locs (cells + 1) (slots + N') Q (F0 m (pc + 2) ls (.ref q :: st))) : W p l e R s m args below meth c H locs cells slots Q (F0 m pc ls (.int n :: st)) := by
  refine va_newa (D := D) (atype := .long) (a0 := (N', .inr (.inl fun _ => 0))) C.1 C.2.1 (C.2.2.2.2 _ harr) rfl E.2.1 E.2.2.1 E.2.2.2.1 E.2.2.2.2 (fun q hq => Nat.le_trans E.1.1 hq) (fun _ => rfl) hn hN hbytes h1 h2 hd (fun q cB H1 hK hP hD hS => ?_)
  have e1 := (E.2.1.2 t0 _ ht).2
  have e2 := (hK.2 ty.length (cB, .long) (by rw [List.getElem?_append_right (Nat.le_refl _), Nat.sub_self]; rfl)).2
  have e3 : cB = cA := Option.some.inj (e2.symm.trans e1)
  subst e3
  exact kk q H1 ⟨E.1, E.2.1, hP, hD, hS⟩
theorem e_newq (C : CallFix p m c cc nL s args TB own) (E : El D ty B s ws H locs) {Cn : String} {index : Nat} (hcl : Cond.classLink own index Cn ∈ TB) (hover : va_AO Cn s) {cA : ClassId} (t0 : Nat) (ht : ty[t0]? = some (cA, .object Cn)) {n : Int32} {N' : Nat} (hn : ¬ n < 0) (hN : n.toNatClampNeg = N') (hbytes : N' * 4 ≤ 536870912) (h1 : cells + 1 ≤ R.cells) (h2 : slots + N' ≤ R.slots) (hd : decode cc pc = .ok (.anewarray index, 3))
    (kk : ∀ (q : Nat) (H1 : Heap), El D ty B s (ws ++ [(q, .inl (cA, N', .inr (.inr (.inr (.inr fun _ => none)))))]) H1 locs → W p l e R s m args below meth c H1 locs (cells + 1) (slots + N') Q (F0 m (pc + 3) ls (.ref q :: st))) : W p l e R s m args below meth c H locs cells slots Q (F0 m pc ls (.int n :: st)) := by
  refine va_newq (D := D) C.1 C.2.1 C.2.2.2.1 (C.2.2.2.2 _ hcl) hover E.2.1 E.2.2.1 E.2.2.2.1 E.2.2.2.2 (fun q hq => Nat.le_trans E.1.1 hq) hn hN hbytes h1 h2 hd (fun q cB H1 hK hP hD hS => ?_)
  obtain ⟨kA, comp, -, -, -, e1⟩ := (E.2.1.2 t0 _ ht).2
  obtain ⟨kB, comp2, -, -, -, e2⟩ := (hK.2 ty.length (cB, .object Cn) (by rw [List.getElem?_append_right (Nat.le_refl _), Nat.sub_self]; rfl)).2
  have e3 : cB = cA := Option.some.inj (e2.symm.trans e1)
  subst e3
  exact kk q H1 ⟨E.1, E.2.1, hP, hD, hS⟩
theorem e_aast (C : CallFix p m c cc nL s args TB own) (E : El D ty B s ws H locs) (q0 t0 qk t : Nat) {cA : ClassId} {r : vw_C} {n v : Nat} {vs : List Value} {f : Nat → Option Nat} (ha : ws[q0]? = some (a, .inl (cA, n, .inr (.inr (.inr (.inr f)))))) (ht : ty[t0]? = some (cA, .object r.1)) (hv : ws[qk]? = some (v, .inr (t, vs))) (hc : vwCl[t]? = some r) {i : Int32} (hin : vp_in i n) (hd : decode cc pc = .ok (.aastore, 1))
    (kk : ∀ (H1 : Heap) (locs1 : List Loc), El D ty B s (ws.set q0 (a, .inl (cA, n, .inr (.inr (.inr (.inr (va_up f i.toNatClampNeg (some v)))))))) H1 locs1 → W p l e R s m args below meth c H1 locs1 cells slots Q (F0 m (pc + 1) ls st)) : W p l e R s m args below meth c H locs cells slots Q (F0 m pc ls (.ref v :: .int i :: .ref a :: st)) :=
  va_astq (D := D) C.1 C.2.1 E.2.1 E.2.2.1 E.2.2.2.1 E.2.2.2.2 q0 t0 qk t ha ht hv hc hin hd (fun H1 locs1 hP hD hS => kk H1 locs1 ⟨E.1, E.2.1, hP, hD, hS⟩)
theorem e_iast (C : CallFix p m c cc nL s args TB own) (E : El D ty B s ws H locs) (q0 t0 : Nat) {cA : ClassId} {n : Nat} {f : Nat → Int32} (ha : ws[q0]? = some (a, .inl (cA, n, .inl f))) (ht : ty[t0]? = some (cA, .int)) {i v : Int32} (hin : vp_in i n) (hd : decode cc pc = .ok (.iastore, 1))
    (kk : ∀ (H1 : Heap) (locs1 : List Loc), El D ty B s (ws.set q0 (a, .inl (cA, n, .inl (upd f i.toNatClampNeg v)))) H1 locs1 → W p l e R s m args below meth c H1 locs1 cells slots Q (F0 m (pc + 1) ls st)) : W p l e R s m args below meth c H locs cells slots Q (F0 m pc ls (.int v :: .int i :: .ref a :: st)) :=
  va_iast (D := D) C.1 C.2.1 E.2.1 E.2.2.1 E.2.2.2.1 E.2.2.2.2 q0 t0 ha ht hin hd (fun H1 locs1 hP hD hS => kk H1 locs1 ⟨E.1, E.2.1, hP, hD, hS⟩)
theorem e_obj (C : CallFix p m c cc nL s args TB own) {idx d mc ms : Nat} (hl : Cond.methodLink own idx Lib.objectInit ∈ TB) (h2 : Cond.instanceMethod Lib.objectInit ∈ TB) (h3 : Cond.code Lib.objectInit ⟨#[0xb1]⟩ 1 none ∈ TB) (hsize : ls.size = nL) (hd : decode cc pc = .ok (.invokespecial idx, 3)) (hW : (st.map fun v => v.category).sum ≤ 8)
    (kk : W p l e (rmE (d + 1) mc ms) s m args below meth c H locs cells slots Q (F0 m (pc + 3) ls st)) : W p l e (rmE (d + 1) mc ms) s m args below meth c H locs cells slots Q (F0 m pc ls (.ref a :: st)) :=
  W.objInit (g := F0 m pc ls (.ref a :: st)) C.1 C.2.1 C.2.2.2.1 (C.2.2.2.2 _ hl) (C.2.2.2.2 _ h2) (C.2.2.2.2 _ h3) rfl (hsize.trans C.2.2.1.symm) rfl hd (Nat.succ_le_succ (Nat.zero_le d)) (by
    show 2 * 0 + (st.map fun v => v.category).sum + 12 ≤ 100 * (d + 1)
    omega) kk
/-- behind a call -/
theorem e_after {y : MethodName} {gg : JFrame} {rest : List Value} {a0 : Array Value} {mc ms : Nat} (E : El D ty B s ws H locs) (hr : va_Run p l e R s m args below meth c H locs cells slots mc ms gg rest (QE D ty B Post a0) (fun q => B ≤ q))
    (kk : ∀ (v : Option Value) (w1 : va_W) (H1 : Heap) (locs1 : List Loc), Post v w1 → El D ty B s w1 H1 locs1 → W p l e R s m args below meth c H1 locs1 (cells + mc) (slots + ms) Q { gg with pc := gg.pc + 3, stack := v.toList ++ rest }) : W p l e R s m args below meth c H locs cells slots Q gg := by
  intro T hT X
  obtain ⟨v, st0, t, T', L, e1, X', hL, e2, e3, ⟨⟨v1, w1, hv, hp, w0, wK, wP, wD⟩, hF⟩, hG⟩ := hr T hT X
  cases hv
  have hS1 : va_S (fun q => B ≤ q) s.heap t.heap (locs ++ L) := by
    refine ⟨Nat.le_trans E.2.2.2.2.1 (by rw [← e1]; exact hF.1), fun q hq hn => ?_, fun x hx => ?_⟩
    · rw [hF.2 q (by rw [e1]; exact Nat.lt_of_lt_of_le hq E.2.2.2.2.1) hn, e1]
      exact E.2.2.2.2.2.1 q hq hn
    · rcases List.mem_append.mp hx with h1 | h1
      · exact E.2.2.2.2.2.2 x h1
      · exact hL x h1
  obtain ⟨tt, a1, b1⟩ := kk v w1 t.heap (locs ++ L) hp ⟨E.1, E.2.1, wP, wD, hS1⟩ T' e2 X'
  exact ⟨tt, hG tt a1, b1⟩
theorem e_good {y : MethodName} {bytes : ByteArray} {maxL : Nat} {ret : Option FieldType} (h5 : Cond.code y bytes maxL ret ∈ TB) : GoodIn TB (.code y bytes maxL ret :: TB) := fun w hw => by
  rcases List.mem_cons.mp hw with rfl | hw
  · exact ⟨h5, tb_good h5⟩
  · exact ⟨hw, tb_good hw⟩
theorem e_callI {y : MethodName} {bytes : ByteArray} {maxL n index d mc ms : Nat} {As rest : List Value} (C : CallFix p m c cc nL s args TB own) (E : El D ty B s ws H locs) (hM : CtE l y bytes maxL none d mc ms D ty B (.ref a :: As) ws Post) (h1 : Cond.methodLink own index y ∈ TB) (h2 : Cond.instanceMethod y ∈ TB) (h4 : Cond.initialized y.cls ∈ TB) (h5 : Cond.code y bytes maxL none ∈ TB) (hy : y.name = "<init>") (hd0 : y.cls ≠ "java/lang/invoke/MethodHandle" ∧ y.cls ≠ "java/lang/invoke/VarHandle" ∧ (parseMethodDescriptor y.desc).map (fun d => d.parameters.length) = some n) (hR : d + 1 ≤ R.frames ∧ 8 + (maxL + 11) + 100 * d ≤ R.locals)
    (hn : As.length = n) (hsize : ls.size = nL) {st0 : List Value} (hst : st0 = As.reverse ++ .ref a :: rest) (hW : (rest.map fun v => v.category).sum ≤ 8) (hd : decode cc pc = .ok (.invokespecial index, 3)) (hcs : cells + mc ≤ R.cells ∧ slots + ms ≤ R.slots)
    (kk : ∀ (v : Option Value) (w1 : va_W) (H1 : Heap) (locs1 : List Loc), Post v w1 → El D ty B s w1 H1 locs1 → W p l e R s m args below meth c H1 locs1 (cells + mc) (slots + ms) Q (F0 m (pc + 3) ls (v.toList ++ rest))) : W p l e R s m args below meth c H locs cells slots Q (F0 m pc ls st0) :=
  e_after (y := y) E (va_runI (g := F0 m pc ls st0) (As := As) (rest := rest) C hM ⟨callB_of n C.2.2.2.2 (e_good h5) rfl rfl rfl (C.2.2.2.2 _ h4) (C.2.2.2.2 _ h1) hd0 hR, hy, C.2.2.2.2 _ h2⟩ ⟨e_blind, fun U hU hWW => ⟨rfl, e_wl E hU hWW⟩⟩ rfl hn hsize hst (lv_room hW) hd hcs) kk
theorem e_callN {y : MethodName} {host : String} {bytes : ByteArray} {maxL n index d mc ms : Nat} {As rest : List Value} (C : CallFix p m c cc nL s args TB own) (E : El D ty B s ws H locs) (hM : CtE l y bytes maxL none d mc ms D ty B (.ref a :: As) ws Post) (h1 : Cond.methodLinkNest own index y host ∈ lw_tbl) (h2 : Cond.instanceMethod y ∈ TB) (h4 : Cond.initialized y.cls ∈ TB) (h5 : Cond.code y bytes maxL none ∈ TB) (hy : y.name = "<init>") (hd0 : y.cls ≠ "java/lang/invoke/MethodHandle" ∧ y.cls ≠ "java/lang/invoke/VarHandle" ∧ (parseMethodDescriptor y.desc).map (fun d => d.parameters.length) = some n) (hR : d + 1 ≤ R.frames ∧ 8 + (maxL + 11) + 100 * d ≤ R.locals)
    (hn : As.length = n) (hsize : ls.size = nL) {st0 : List Value} (hst : st0 = As.reverse ++ .ref a :: rest) (hW : (rest.map fun v => v.category).sum ≤ 8) (hd : decode cc pc = .ok (.invokespecial index, 3)) (hcs : cells + mc ≤ R.cells ∧ slots + ms ≤ R.slots)
    (kk : ∀ (v : Option Value) (w1 : va_W) (H1 : Heap) (locs1 : List Loc), Post v w1 → El D ty B s w1 H1 locs1 → W p l e R s m args below meth c H1 locs1 (cells + mc) (slots + ms) Q (F0 m (pc + 3) ls (v.toList ++ rest))) : W p l e R s m args below meth c H locs cells slots Q (F0 m pc ls st0) :=
  e_after (y := y) E (va_runIN (g := F0 m pc ls st0) (As := As) (rest := rest) C hM ⟨va_cnB n C.2.2.2.2 (e_good h5) rfl rfl rfl (E.1.2.1 _ h1 rfl) (C.2.2.2.2 _ h4) hd0 hR, hy, C.2.2.2.2 _ h2⟩ ⟨e_blind, fun U hU hWW => ⟨rfl, e_wl E hU hWW⟩⟩ rfl hn hsize hst (lv_room hW) hd hcs) kk
theorem e_callV {y : MethodName} {bytes : ByteArray} {maxL n index d mc ms t k0 : Nat} {ret : Option FieldType} {As rest : List Value} {fs : List Value} {T : u_T} {N : Nat} (C : CallFix p m c cc nL s args TB own) (E : El D ty B s ws H locs) (h : ws[k0]? = some (a, .inr (t, fs))) (hc : vwCl[t]? = some (y.cls, T, N)) (hM : CtE l y bytes maxL ret d mc ms D ty B (.ref a :: As) ws Post) (h1 : Cond.methodLink own index y ∈ TB) (h2 : Cond.instanceMethod y ∈ TB) (h3 : Cond.selects y.cls y y ∈ TB) (h4 : Cond.initialized y.cls ∈ TB) (h5 : Cond.code y bytes maxL ret ∈ TB) (hd0 : y.cls ≠ "java/lang/invoke/MethodHandle" ∧ y.cls ≠ "java/lang/invoke/VarHandle" ∧ (parseMethodDescriptor y.desc).map (fun d => d.parameters.length) = some n) (hR : d + 1 ≤ R.frames ∧ 8 + (maxL + 11) + 100 * d ≤ R.locals)
    (hn : As.length = n) (hsize : ls.size = nL) {st0 : List Value} (hst : st0 = As.reverse ++ .ref a :: rest) (hW : (rest.map fun v => v.category).sum ≤ 8) (hd : decode cc pc = .ok (.invokevirtual index, 3)) (hcs : cells + mc ≤ R.cells ∧ slots + ms ≤ R.slots)
    (kk : ∀ (v : Option Value) (w1 : va_W) (H1 : Heap) (locs1 : List Loc), Post v w1 → El D ty B s w1 H1 locs1 → W p l e R s m args below meth c H1 locs1 (cells + mc) (slots + ms) Q (F0 m (pc + 3) ls (v.toList ++ rest))) : W p l e R s m args below meth c H locs cells slots Q (F0 m pc ls st0) :=
  e_after (y := y) E (va_runV (C := y.cls) (g := F0 m pc ls st0) (As := As) (rest := rest) C hM ⟨callB_of n C.2.2.2.2 (e_good h5) rfl rfl rfl (C.2.2.2.2 _ h4) (C.2.2.2.2 _ h1) hd0 hR, C.2.2.2.2 _ h2, C.2.2.2.2 _ h3⟩ ⟨e_blind, va_recv E.2.1 E.2.2.1 hc h, fun U hU hWW => ⟨rfl, e_wl E hU hWW⟩⟩ rfl hn hsize hst (lv_room hW) hd hcs) kk
theorem e_callS {y : MethodName} {bytes : ByteArray} {maxL n index d mc ms : Nat} {ret : Option FieldType} {As rest : List Value} (C : CallFix p m c cc nL s args TB own) (E : El D ty B s ws H locs) (hM : CtE l y bytes maxL ret d mc ms D ty B As ws Post) (h1 : Cond.methodLink own index y ∈ TB) (h2 : Cond.static y ∈ TB) (h4 : Cond.initialized y.cls ∈ TB) (h5 : Cond.code y bytes maxL ret ∈ TB) (hd0 : y.cls ≠ "java/lang/invoke/MethodHandle" ∧ y.cls ≠ "java/lang/invoke/VarHandle" ∧ (parseMethodDescriptor y.desc).map (fun d => d.parameters.length) = some n) (hR : d + 1 ≤ R.frames ∧ 8 + (maxL + 11) + 100 * d ≤ R.locals)
    (hn : As.length = n) (hsize : ls.size = nL) {st0 : List Value} (hst : st0 = As.reverse ++ rest) (hW : (rest.map fun v => v.category).sum ≤ 8) (hd : decode cc pc = .ok (.invokestatic index, 3)) (hcs : cells + mc ≤ R.cells ∧ slots + ms ≤ R.slots)
    (kk : ∀ (v : Option Value) (w1 : va_W) (H1 : Heap) (locs1 : List Loc), Post v w1 → El D ty B s w1 H1 locs1 → W p l e R s m args below meth c H1 locs1 (cells + mc) (slots + ms) Q (F0 m (pc + 3) ls (v.toList ++ rest))) : W p l e R s m args below meth c H locs cells slots Q (F0 m pc ls st0) :=
  e_after (y := y) E (va_runS (g := F0 m pc ls st0) (As := As) (rest := rest) C hM ⟨callB_of n C.2.2.2.2 (e_good h5) rfl rfl rfl (C.2.2.2.2 _ h4) (C.2.2.2.2 _ h1) hd0 hR, C.2.2.2.2 _ h2⟩ ⟨e_blind, fun U hU hWW => ⟨rfl, e_wl E hU hWW⟩⟩ rfl hn hsize hst (lv_room hW) hd hcs) kk
end EX
