section Steps1
variable {p : Program} {l : Launch} {e : Env} {R : Room} {s : State} {m : MethodId} {args : Array Value} {below : List Frame} {meth : Method} {c : Code} {H : Heap} {locs : List Loc} {cells slots : Nat} {Q : State → Prop} {cc : ByteArray} {nL pc : Nat} {ls : Array Slot} {st : List Value} {own : String} {g : Gs} {I : Ms} {J : Js} {a : Nat}
theorem m_place (M : Mm g s I J H locs) {t : Nat} (h : Is g a t) : ∃ k : Nat, (va_pl (gL g) (ct g I J))[k]? = some (a, ct g I J a) := va_pl_get (X := []) (f := ct g I J) h.1
theorem m_get (C : CallFix p m c cc nL s args TB own) (M : Mm g s I J H locs) {t : Nat} (h : Is g a t) (ht : t < 16) {Cn : String} {T : u_T} {N : Nat} (hc : vwCl[t]? = some (Cn, T, N)) (hin : ∀ w ∈ u_ws Cn T N, w ∈ TB) (k : Nat) (hk : k < N) {index : Nat} (hl : Cond.fieldLink own index (T k).1 (T k).2.1 (T k).2.2.1 ∈ TB) {q : Nat} (hq : (cds t)[k]? = some q) (hd : decode cc pc = .ok (.getfield index, 3))
    (kk : W p l e R s m args below meth c H locs cells slots Q (F0 m (pc + 3) ls (vl g I J a k q :: st))) : W p l e R s m args below meth c H locs cells slots Q (F0 m pc ls (.ref a :: st)) := by
  obtain ⟨k0, hk0⟩ := m_place M h
  rw [ct_obj h ht] at hk0
  exact va_get (D := g.1) (ci := t) (C := Cn) (T := T) (N := N) C.1 C.2.1 C.2.2.2.2 hin C.2.2.2.1 M.2.1 M.2.2.1 k0 hk0 hc k hk (C.2.2.2.2 _ hl) (fun _ h9 => h9) (fls_get hq) hd kk
theorem m_geti (C : CallFix p m c cc nL s args TB own) (M : Mm g s I J H locs) {t : Nat} (h : Is g a t) (ht : t < 16) {Cn : String} {T : u_T} {N : Nat} (hc : vwCl[t]? = some (Cn, T, N)) (hin : ∀ w ∈ u_ws Cn T N, w ∈ TB) (k : Nat) (hk : k < N) {index : Nat} (hl : Cond.fieldLink own index (T k).1 (T k).2.1 (T k).2.2.1 ∈ TB) (hq : (cds t)[k]? = some 0) {v : Int32} (hv : I a k = v) (hd : decode cc pc = .ok (.getfield index, 3))
    (kk : W p l e R s m args below meth c H locs cells slots Q (F0 m (pc + 3) ls (.int v :: st))) : W p l e R s m args below meth c H locs cells slots Q (F0 m pc ls (.ref a :: st)) :=
  m_get C M h ht hc hin k hk hl hq hd (by subst hv; exact kk)
theorem m_nar {x : Int32} {ty : FieldType} (h : ty = .int ∨ ty = .boolean ∧ 0 ≤ x.toInt ∧ x.toInt ≤ 1) : narrow ty (.int x) = .int x ∧ fits ty (.int x) = true := by
  rcases h with rfl | ⟨rfl, h0, h1⟩
  · exact ⟨rfl, rfl⟩
  · have : x = 0 ∨ x = 1 := by
      by_cases q : x.toInt < 1
      · exact Or.inl (i_eq.mpr (by rw [show (0 : Int32).toInt = 0 from rfl]; omega))
      · exact Or.inr (i_eq.mpr (by rw [show (1 : Int32).toInt = 1 from rfl]; omega))
    rcases this with rfl | rfl
    · exact ⟨by decide +kernel, by decide +kernel⟩
    · exact ⟨by decide +kernel, by decide +kernel⟩
theorem m_puti (C : CallFix p m c cc nL s args TB own) (M : Mm g s I J H locs) {t : Nat} (h : Is g a t) (ht : t < 16) {Cn : String} {T : u_T} {N : Nat} (hc : vwCl[t]? = some (Cn, T, N)) (hin : ∀ w ∈ u_ws Cn T N, w ∈ TB) (ty0 : Nat → FieldType) (hty : ∀ k, k < N → parseFieldDescriptor (T k).2.2.1 = some (ty0 k)) (hnm : ∀ a, a < N → ∀ b, b < N → a ≠ b → (T a).2.1 ≠ (T b).2.1) (k : Nat) (hk : k < N) {index : Nat} (hl : Cond.fieldLink own index (T k).1 (T k).2.1 (T k).2.2.1 ∈ TB) (hfin : (T k).2.2.2 = false) (hq : (cds t)[k]? = some 0) {v : Int32} (hb : ty0 k = .int ∨ ty0 k = .boolean ∧ 0 ≤ v.toInt ∧ v.toInt ≤ 1) (h1 : (rng t k).1 ≤ v.toInt) (h2 : v.toInt ≤ (rng t k).2) (hd : decode cc pc = .ok (.putfield index, 3))
    (kk : ∀ (H1 : Heap) (locs1 : List Loc) (I1 : Ms), I1 = up2 I a k v → Mm g s I1 J H1 locs1 → W p l e R s m args below meth c H1 locs1 cells slots Q (F0 m (pc + 3) ls st)) : W p l e R s m args below meth c H locs cells slots Q (F0 m pc ls (.int v :: .ref a :: st)) := by
  obtain ⟨k0, hk0⟩ := m_place M h
  have hk1 := hk0
  rw [ct_obj h ht] at hk0
  have hlen : k < (fls g I J a t).length := (List.getElem?_eq_some_iff.mp (fls_get (g := g) (I := I) (J := J) (a := a) hq)).1
  refine va_put (D := g.1) (ci := t) (C := Cn) (T := T) (N := N) (v := .int v) C.1 C.2.1 C.2.2.2.2 hin ty0 hty hnm C.2.2.2.1 M.2.1 M.2.2.1 M.2.2.2.1 M.2.2.2.2.1 k0 hk0 hc k hk (C.2.2.2.2 _ hl) (fun _ h9 => h9) hfin (hty k hk) (m_nar hb).1 (m_nar hb).2 hlen hd (fun H1 locs1 hP hD hS => ?_)
  have e := va_pl_set (X := []) (f := ct g I J) (e := .inr (t, (fls g I J a t).set k (.int v))) M.2.2.2.1 h.1 hk1
  rw [List.nil_append, List.nil_append, ct_up h ht hq v] at e
  rw [e] at hP hD
  exact kk H1 locs1 _ rfl ⟨M.1, M.2.1, hP, hD, hS, M.2.2.2.2.2.1, ti_up M.2.2.2.2.2.2.1 h h1 h2, M.2.2.2.2.2.2.2⟩
theorem m_ty (M : Mm g s I J H locs) {t : Nat} (h2 : aty t = 0 ∨ aty t = 1 ∨ aty t = 2) : ∃ t0 : Nat, (tysG g)[t0]? = some (gA g (aty t), tyc (aty t)) := by
  rcases h2 with h | h | h <;> rw [h]
  · exact ⟨0, rfl⟩
  · exact ⟨1, rfl⟩
  · exact ⟨2, rfl⟩
theorem m_iald (C : CallFix p m c cc nL s args TB own) (M : Mm g s I J H locs) {t : Nat} (h : Is g a t) (h1 : ¬ t < 16) (h2 : t < 40) (h3 : aty t = 0) {i : Int32} (i1 : 0 ≤ i.toInt) (i2 : i.toInt < aln t) (hd : decode cc pc = .ok (.iaload, 1)) {v : Int32} (hv : I a i.toNatClampNeg = v)
    (kk : W p l e R s m args below meth c H locs cells slots Q (F0 m (pc + 1) ls (.int v :: st))) : W p l e R s m args below meth c H locs cells slots Q (F0 m pc ls (.int i :: .ref a :: st)) := by
  obtain ⟨k0, hk0⟩ := m_place M h
  rw [ct_arr h h1 h2, h3] at hk0
  subst hv
  exact va_iald (D := g.1) C.1 C.2.1 M.2.1 M.2.2.1 k0 0 hk0 rfl (i_in i1 i2) hd kk
theorem m_iast (C : CallFix p m c cc nL s args TB own) (M : Mm g s I J H locs) {t : Nat} (h : Is g a t) (h1 : ¬ t < 16) (h2 : t < 40) (h3 : aty t = 0) {i : Int32} (i1 : 0 ≤ i.toInt) (i2 : i.toInt < aln t) {v : Int32} (r1 : (rng t i.toNatClampNeg).1 ≤ v.toInt) (r2 : v.toInt ≤ (rng t i.toNatClampNeg).2) (hd : decode cc pc = .ok (.iastore, 1))
    (kk : ∀ (H1 : Heap) (locs1 : List Loc) (I1 : Ms), I1 = up2 I a i.toNatClampNeg v → Mm g s I1 J H1 locs1 → W p l e R s m args below meth c H1 locs1 cells slots Q (F0 m (pc + 1) ls st)) : W p l e R s m args below meth c H locs cells slots Q (F0 m pc ls (.int v :: .int i :: .ref a :: st)) := by
  obtain ⟨k0, hk0⟩ := m_place M h
  have hk1 := hk0
  rw [ct_arr h h1 h2, h3] at hk0
  refine va_iast (D := g.1) C.1 C.2.1 M.2.1 M.2.2.1 M.2.2.2.1 M.2.2.2.2.1 k0 0 hk0 rfl (i_in i1 i2) hd (fun H1 locs1 hP hD hS => ?_)
  have e := va_pl_set (X := []) (f := ct g I J) (e := .inl (gA g (aty t), aln t, .inl (upd (I a) i.toNatClampNeg v))) M.2.2.2.1 h.1 hk1
  rw [List.nil_append, List.nil_append, ct_upA h h1 h2 v, h3] at e
  rw [e] at hP hD
  exact kk H1 locs1 _ rfl ⟨M.1, M.2.1, hP, hD, hS, M.2.2.2.2.2.1, ti_up M.2.2.2.2.2.2.1 h r1 r2, M.2.2.2.2.2.2.2⟩
theorem m_alen (C : CallFix p m c cc nL s args TB own) (M : Mm g s I J H locs) {t : Nat} (h : Is g a t) (h1 : ¬ t < 16) (h2 : t < 40) (h3 : aty t = 0 ∨ aty t = 1 ∨ aty t = 2) {v : Int32} (hv : Int32.ofNat (aln t) = v) (hd : decode cc pc = .ok (.arraylength, 1))
    (kk : W p l e R s m args below meth c H locs cells slots Q (F0 m (pc + 1) ls (.int v :: st))) : W p l e R s m args below meth c H locs cells slots Q (F0 m pc ls (.ref a :: st)) := by
  obtain ⟨k0, hk0⟩ := m_place M h
  rw [ct_arr h h1 h2] at hk0
  obtain ⟨t0, ht0⟩ := m_ty M h3
  exact va_alen (D := g.1) C.1 C.2.1 M.2.1 M.2.2.1 k0 t0 hk0 ht0 hv hd kk
end Steps1
/-- the room of a method that makes nothing, by the height of its calls -/
def rmL (d : Nat) : Room := { frames := d, cells := 0, slots := 0, locals := 100 * d }
def QC (g : Gs) (Post : Option Value → Ms → Js → Prop) : Array Value → State → Outcome → State → Prop := fun _ st oc t =>
  (∃ (v : Option Value) (I1 : Ms) (J1 : Js), oc = .returned v ∧ Post v I1 J1 ∧ Wm g I1 J1 t) ∧ va_F (fun q => gb g ≤ q) st t
def Ctr (l : Launch) (y : MethodName) (cc : ByteArray) (nL : Nat) (ret : Option FieldType) (d : Nat) (g : Gs) (av : List Value) (I : Ms) (J : Js) (Post : Option Value → Ms → Js → Prop) : Prop :=
  Met l y (.code y cc nL ret :: TB) (rmL d) (va_Pc av (fun U => Wm g I J U)) (QC g Post) 0 0 (fun q => gb g ≤ q)
theorem m_start {l : Launch} {y : MethodName} {cc : ByteArray} {nL : Nat} {ret : Option FieldType} {d : Nat} {g : Gs} {av : List Value} {I : Ms} {J : Js} {Post : Option Value → Ms → Js → Prop} (hy : plainName y.cls = true) (hn : (lg_sl av).length ≤ nL)
    (body : ∀ (p : Program) (e : Env) (s : State) (m : MethodId) (args : Array Value) (below : List Frame) (meth : Method) (c : Code), CallFix p m c cc nL s args TB y.cls → meth.sig.returnType = ret → meth.locks = false → Mm g s I J s.heap [] → ∀ ls : Array Slot, lv_has ls nL (lv_args 0 av) →
      W p l e (rmL d) s m args below meth c s.heap [] 0 0 (MQ below (QC g Post) args s 0 0 (fun q => gb g ≤ q)) (F0 m 0 ls [])) : Ctr l y cc nL ret d g av I J Post := by
  refine Met.ofW (cc := cc) (maxL := nL) (ret := ret) hy rfl ?_
  intro p e s m args below meth c s₁ B hml hv
  obtain ⟨rfl, h0, hK, hP, hD, hW, hI, hQ⟩ := hv
  have hts := atoms_spec (ws := .code y cc nL ret :: TB) B.pre
  have hown : s.vm.findClass y.cls = some m.cls := findClass_of_methodNamed B.named
  have hl := lv_entry av (n := nL) hn
  rw [lg_entry_eq]
  exact body p e s m _ below meth c ⟨B.exec, B.bytes, hml, hown, fun w hw => hts w (List.mem_cons_of_mem _ hw)⟩ B.returns B.notSynchronized ⟨h0, hK, hP, hD, va_S.rf, hW, hI, hQ⟩ _ hl
section Steps2
variable {p : Program} {l : Launch} {e : Env} {R : Room} {s : State} {m : MethodId} {args : Array Value} {below : List Frame} {meth : Method} {c : Code} {H : Heap} {locs : List Loc} {cells slots : Nat} {Q : State → Prop} {cc : ByteArray} {nL pc : Nat} {ls : Array Slot} {st : List Value} {own : String} {g : Gs} {I : Ms} {J : Js} {a : Nat} {Post : Option Value → Ms → Js → Prop}
theorem m_wm (M : Mm g s I J H locs) {t : State} (ht : t.heap = H) (hW : s.WarmedH t.vm) : Wm g I J t :=
  ⟨⟨by rw [ht]; exact Nat.le_trans M.1.1 M.2.2.2.2.1.1, M.1.2.warm (locs := locs) hW (by rw [ht]; exact M.2.2.2.2.1)⟩, va_K.moved hW.alike M.2.1, by rw [ht]; exact M.2.2.1, M.2.2.2.1, M.2.2.2.2.2.1, M.2.2.2.2.2.2.1, M.2.2.2.2.2.2.2⟩
theorem m_iret (C : CallFix p m c cc nL s args TB own) (M : Mm g s I J H locs) (hr : meth.sig.returnType = some .int) (hlk : meth.locks = false) {v : Int32} (hp : Post (some (.int v)) I J) (hd : decode cc pc = .ok (.ireturn, 1)) : W p l e R s m args below meth c H locs 0 0 (MQ below (QC g Post) args s 0 0 (fun q => gb g ≤ q)) (F0 m pc ls [.int v]) :=
  W.iret C.1 C.2.1 hr (fun _ ht hW => ⟨⟨_, I, J, rfl, hp, m_wm M ht hW⟩, M.2.2.2.2.1.F ht⟩) M.2.2.2.2.1.2.2 hd hlk
theorem m_zret (C : CallFix p m c cc nL s args TB own) (M : Mm g s I J H locs) (hr : meth.sig.returnType = some .boolean) (hlk : meth.locks = false) {v : Int32} (h0 : 0 ≤ v.toInt) (h1 : v.toInt ≤ 1) (hp : Post (some (.int v)) I J) (hd : decode cc pc = .ok (.ireturn, 1)) : W p l e R s m args below meth c H locs 0 0 (MQ below (QC g Post) args s 0 0 (fun q => gb g ≤ q)) (F0 m pc ls [.int v]) :=
  W.zret C.1 C.2.1 hr (m_nar (Or.inr ⟨rfl, h0, h1⟩)).1 (fun _ ht hW => ⟨⟨_, I, J, rfl, hp, m_wm M ht hW⟩, M.2.2.2.2.1.F ht⟩) M.2.2.2.2.1.2.2 hd hlk
theorem m_vret (C : CallFix p m c cc nL s args TB own) (M : Mm g s I J H locs) (hr : meth.sig.returnType = none) (hlk : meth.locks = false) (hp : Post none I J) (hd : decode cc pc = .ok (.return_, 1)) : W p l e R s m args below meth c H locs 0 0 (MQ below (QC g Post) args s 0 0 (fun q => gb g ≤ q)) (F0 m pc ls []) :=
  W.vret C.1 C.2.1 hr (fun _ ht hW => ⟨⟨_, I, J, rfl, hp, m_wm M ht hW⟩, M.2.2.2.2.1.F ht⟩) M.2.2.2.2.1.2.2 hd hlk
theorem m_aret (C : CallFix p m c cc nL s args TB own) (M : Mm g s I J H locs) {n : String} (hr : meth.sig.returnType = some (.object n)) (hlk : meth.locks = false) {b : Nat} (hp : Post (some (.ref b)) I J) (hd : decode cc pc = .ok (.areturn, 1)) : W p l e R s m args below meth c H locs 0 0 (MQ below (QC g Post) args s 0 0 (fun q => gb g ≤ q)) (F0 m pc ls [.ref b]) :=
  W.aret C.1 C.2.1 hr (Or.inl ⟨n, rfl⟩) (Or.inr ⟨b, rfl⟩) (fun _ ht hW => ⟨⟨_, I, J, rfl, hp, m_wm M ht hW⟩, M.2.2.2.2.1.F ht⟩) M.2.2.2.2.1.2.2 hd hlk
theorem m_blind {av : List Value} : FrameBlind (va_Pc av (fun U => Wm g I J U)) := by
  intro a U gg mk q
  obtain ⟨q0, q1, q2, q3, q4⟩ := q
  exact ⟨q0, ⟨q1.1, q1.2.call⟩, va_K.moved (u := U) (U := U.calling gg mk a) (Vm.Alike.refl U.vm) q2, q3, q4⟩
/-- behind a call -/
theorem m_after {y : MethodName} {gg : JFrame} {rest : List Value} {a0 : Array Value} (M : Mm g s I J H locs) (hr : va_Run p l e R s m args below meth c H locs cells slots 0 0 gg rest (QC g Post a0) (fun q => gb g ≤ q))
    (kk : ∀ (v : Option Value) (I1 : Ms) (J1 : Js) (H1 : Heap) (locs1 : List Loc), Post v I1 J1 → Mm g s I1 J1 H1 locs1 → W p l e R s m args below meth c H1 locs1 cells slots Q { gg with pc := gg.pc + 3, stack := v.toList ++ rest }) : W p l e R s m args below meth c H locs cells slots Q gg := by
  intro T hT X
  obtain ⟨v, st0, t, T', L, e1, X', hL, e2, e3, ⟨⟨v1, I1, J1, hv, hp, w0, wK, wP, wD, wW, wI, wQ⟩, hF⟩, hG⟩ := hr T hT X
  cases hv
  have hal : s.vm.Alike t.vm := by rw [← e3]; exact X'.warmed.alike
  have hS1 : va_S (fun q => gb g ≤ q) s.heap t.heap (locs ++ L) := by
    refine ⟨Nat.le_trans M.2.2.2.2.1.1 (by rw [← e1]; exact hF.1), fun q hq hn => ?_, fun x hx => ?_⟩
    · rw [hF.2 q (by rw [e1]; exact Nat.lt_of_lt_of_le hq M.2.2.2.2.1.1) hn, e1]
      exact M.2.2.2.2.1.2.1 q hq hn
    · rcases List.mem_append.mp hx with h1 | h1
      · exact M.2.2.2.2.1.2.2 x h1
      · exact hL x h1
  have MM : Mm g s I1 J1 t.heap (locs ++ L) := ⟨M.1, M.2.1, wP, wD, hS1, wW, wI, wQ⟩
  obtain ⟨tt, a1, b1⟩ := kk v I1 J1 t.heap (locs ++ L) hp MM T' e2 X'
  exact ⟨tt, hG tt a1, b1⟩
theorem m_callV {y : MethodName} {bytes : ByteArray} {maxL n index d t : Nat} {ret : Option FieldType} {As rest : List Value} {Cn : String} {T : u_T} {N : Nat} (C : CallFix p m c cc nL s args TB own) (M : Mm g s I J H locs) (h : Is g a t) (ht : t < 16) (hc : vwCl[t]? = some (Cn, T, N)) (hM : Ctr l y bytes maxL ret d g (.ref a :: As) I J Post) (cw : CallW R s args own Cn index y bytes maxL ret (.code y bytes maxL ret :: TB) (rmL d) 0 0 n)
    (hn : As.length = n) (hsize : ls.size = nL) {st0 : List Value} (hst : st0 = As.reverse ++ .ref a :: rest) (hW : (rest.map fun v => v.category).sum ≤ 8) (hd : decode cc pc = .ok (.invokevirtual index, 3)) (hcs : cells ≤ R.cells ∧ slots ≤ R.slots)
    (kk : ∀ (v : Option Value) (I1 : Ms) (J1 : Js) (H1 : Heap) (locs1 : List Loc), Post v I1 J1 → Mm g s I1 J1 H1 locs1 → W p l e R s m args below meth c H1 locs1 cells slots Q (F0 m (pc + 3) ls (v.toList ++ rest))) : W p l e R s m args below meth c H locs cells slots Q (F0 m pc ls st0) := by
  obtain ⟨k0, hk0⟩ := m_place M h
  rw [ct_obj h ht] at hk0
  exact m_after (y := y) M (va_runV (g := F0 m pc ls st0) (As := As) (rest := rest) C hM cw ⟨m_blind, va_recv M.2.1 M.2.2.1 hc hk0, fun U hU hWW => ⟨rfl, m_wm M hU hWW⟩⟩ rfl hn hsize hst (lv_room hW) hd hcs) kk
theorem m_callS {y : MethodName} {bytes : ByteArray} {maxL n index d : Nat} {ret : Option FieldType} {As rest : List Value} (C : CallFix p m c cc nL s args TB own) (M : Mm g s I J H locs) (hM : Ctr l y bytes maxL ret d g As I J Post) (cw : CallB R s args own index y bytes maxL ret (.code y bytes maxL ret :: TB) (rmL d) 0 0 n ∧ (Cond.static y).before args s = true)
    (hn : As.length = n) (hsize : ls.size = nL) {st0 : List Value} (hst : st0 = As.reverse ++ rest) (hW : (rest.map fun v => v.category).sum ≤ 8) (hd : decode cc pc = .ok (.invokestatic index, 3)) (hcs : cells ≤ R.cells ∧ slots ≤ R.slots)
    (kk : ∀ (v : Option Value) (I1 : Ms) (J1 : Js) (H1 : Heap) (locs1 : List Loc), Post v I1 J1 → Mm g s I1 J1 H1 locs1 → W p l e R s m args below meth c H1 locs1 cells slots Q (F0 m (pc + 3) ls (v.toList ++ rest))) : W p l e R s m args below meth c H locs cells slots Q (F0 m pc ls st0) :=
  m_after (y := y) M (va_runS (g := F0 m pc ls st0) (As := As) (rest := rest) C hM cw ⟨m_blind, fun U hU hWW => ⟨rfl, m_wm M hU hWW⟩⟩ rfl hn hsize hst (lv_room hW) hd hcs) kk
theorem m_cwV {y : MethodName} {bytes : ByteArray} {maxL n index d D : Nat} {ret : Option FieldType} (hts : ∀ w ∈ TB, w.before args s = true) (h1 : Cond.methodLink own index y ∈ TB) (h2 : Cond.instanceMethod y ∈ TB) (h3 : Cond.selects y.cls y y ∈ TB) (h4 : Cond.initialized y.cls ∈ TB) (h5 : Cond.code y bytes maxL ret ∈ TB) (hm : maxL ≤ 80) (hdD : d < D)
    (hd : y.cls ≠ "java/lang/invoke/MethodHandle" ∧ y.cls ≠ "java/lang/invoke/VarHandle" ∧ (parseMethodDescriptor y.desc).map (fun d => d.parameters.length) = some n) : CallW (rmL D) s args own y.cls index y bytes maxL ret (.code y bytes maxL ret :: TB) (rmL d) 0 0 n := by
  have hG : GoodIn TB (.code y bytes maxL ret :: TB) := fun w hw => by
    rcases List.mem_cons.mp hw with rfl | hw
    · exact ⟨h5, tb_good h5⟩
    · exact ⟨hw, tb_good hw⟩
  refine ⟨callB_of n hts hG rfl rfl rfl (hts _ h4) (hts _ h1) hd ⟨hdD, ?_⟩, hts _ h2, hts _ h3⟩
  show 8 + (maxL + 11) + 100 * d ≤ 100 * D
  omega
theorem m_cwS {y : MethodName} {bytes : ByteArray} {maxL n index d D : Nat} {ret : Option FieldType} (hts : ∀ w ∈ TB, w.before args s = true) (h1 : Cond.methodLink own index y ∈ TB) (h2 : Cond.static y ∈ TB) (h4 : Cond.initialized y.cls ∈ TB) (h5 : Cond.code y bytes maxL ret ∈ TB) (hm : maxL ≤ 80) (hdD : d < D)
    (hd : y.cls ≠ "java/lang/invoke/MethodHandle" ∧ y.cls ≠ "java/lang/invoke/VarHandle" ∧ (parseMethodDescriptor y.desc).map (fun d => d.parameters.length) = some n) : CallB (rmL D) s args own index y bytes maxL ret (.code y bytes maxL ret :: TB) (rmL d) 0 0 n ∧ (Cond.static y).before args s = true := by
  have hG : GoodIn TB (.code y bytes maxL ret :: TB) := fun w hw => by
    rcases List.mem_cons.mp hw with rfl | hw
    · exact ⟨h5, tb_good h5⟩
    · exact ⟨hw, tb_good hw⟩
  refine ⟨callB_of n hts hG rfl rfl rfl (hts _ h4) (hts _ h1) hd ⟨hdD, ?_⟩, hts _ h2⟩
  show 8 + (maxL + 11) + 100 * d ≤ 100 * D
  omega
end Steps2
