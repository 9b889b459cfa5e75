/-! METHODS THAT MAY THROW, and the law's three helpers that catch -/
def NSE : String := "java/util/NoSuchElementException"
def XG (g : Gs) (I : Ms) (J : Js) : String → State → State → Prop := fun E st t => E = NSE ∧ va_P g.1 vwCl (va_pl (gL g) (ct g I J)) t.heap ∧ va_F (fun q => gb g ≤ q) st t
def CtX (l : Launch) (y : MethodName) (cc : ByteArray) (nL : Nat) (ret : Option FieldType) (d : Nat) (g : Gs) (av : List Value) (I : Ms) (J : Js) : Prop :=
  vx_Met l y (.code y cc nL ret :: TB) (rmE d 1 6) (va_Pc av (fun U => Wm g I J U)) (QC g (PI I J (fun _ => True))) (XG g I J) 1 6 (fun q => gb g ≤ q)
abbrev xNames : List String := ["java/lang/RuntimeException", "java/lang/Exception"]
def xPl : List Nat := [69, 973, 982, 984, 987, 989, 974, 975, 87, 88, 976, 981, 985, 1001, 963, 1002, 965, 1003, 967, 977, 979, 969, 991, 992, 993, 994, 954, 994, 995, 996, 997, 956, 997, 998, 999, 974, 958, 990, 952, 953, 960, 961, 962, 964, 966, 968, 972, 971, 970]
theorem x_pl : vx_at0 RX10 91 NSE xNames = xPl.filterMap (fun i => lw_tbl[i]?) := by decide +kernel
theorem x_kinds : ∀ w ∈ vx_at0 RX10 91 NSE xNames, (goodWord w || nwK w) = true := by decide +kernel
theorem x_good : ∀ w ∈ Cond.classLink RX10 89 NSE :: Cond.initialized NSE :: vx_at0 RX10 91 NSE xNames, vx_ot w = true := by decide +kernel
theorem cl_X10_89 : Cond.classLink RX10 89 NSE ∈ TB := tb_mem 951 (by decide +kernel) rfl
theorem ini_NSE : Cond.initialized NSE ∈ TB := tb_mem 72 (by decide +kernel) rfl
theorem cl_L_13 : Cond.classLink RL 13 NSE ∈ TB := tb_mem 945 (by decide +kernel) rfl
theorem x_in {w : Cond} (h : w ∈ vx_at0 RX10 91 NSE xNames) : w ∈ lw_tbl := by
  rw [x_pl] at h
  obtain ⟨i, -, hi⟩ := List.mem_filterMap.mp h
  exact List.mem_of_getElem? hi
section TH
variable {p : Program} {l : Launch} {e : Env} {R : Room} {s : State} {m : MethodId} {args : Array Value} {below : List Frame} {meth : Method} {c : Code} {H : Heap} {locs : List Loc} {cells slots : Nat} {Q : State → Prop} {cc : ByteArray} {nL pc : Nat} {ls : Array Slot} {st : List Value} {own : String} {g : Gs} {I : Ms} {J : Js} {a : Nat}
theorem x_word {w : Cond} (C : CallFix p m c cc nL s args TB own) (M : Mm g s I J H locs) (h : w ∈ vx_at0 RX10 91 NSE xNames) : w.before args s = true := by
  have hk := x_kinds w h
  by_cases hg : goodWord w = true
  · exact C.2.2.2.2 _ (List.mem_filter.mpr ⟨x_in h, hg⟩)
  · have hn : nwK w = true := by
      rw [Bool.or_eq_true] at hk
      exact hk.resolve_left hg
    exact va_Nw.use (nw_tab hn) (M.1.2.2.2 w (x_in h) hn)
theorem cw_up {D : Nat} {y : MethodName} {bytes : ByteArray} {maxL index mc ms n : Nat} {ret : Option FieldType} {ws : List Cond} {rm : Room} {Cn : String} (h : CallW (rmL D) s args own Cn index y bytes maxL ret ws rm mc ms n) (h1 : D ≤ R.frames) (h2 : 100 * D ≤ R.locals) : CallW R s args own Cn index y bytes maxL ret ws rm mc ms n := by
  obtain ⟨⟨a1, a2, a3, a4, a5⟩, b⟩ := h
  exact ⟨⟨a1, a2, Nat.le_trans a3 h1, Nat.le_trans a4 h2, a5⟩, b⟩
theorem x_start {y : MethodName} {ret : Option FieldType} {d : Nat} {av : List Value} (hy : plainName y.cls = true) (hn : (lg_sl av).length ≤ nL)
    (body : ∀ (p : Program) (e : Env) (s : State) (m : MethodId) (args : Array Value) (below : List Frame) (meth : Method) (c : Code), CallFix p m c cc nL s args TB y.cls → meth.sig.returnType = ret → meth.locks = false → (∀ x ∈ c.exceptionTable.toList, False) → Mm g s I J s.heap [] → ∀ ls : Array Slot, lv_has ls nL (lv_args 0 av) →
      W p l e (rmE d 1 6) s m args below meth c s.heap [] 0 0 (vx_MQ below (QC g (PI I J (fun _ => True))) (XG g I J) args s 1 6 (fun q => gb g ≤ q)) (F0 m 0 ls [])) : CtX l y cc nL ret d g av I J := by
  refine vx_ofW (cc := cc) (maxL := nL) (ret := ret) hy rfl ?_
  intro p e s m args below meth c s₁ B hml hex hv
  obtain ⟨rfl, h0, hK, hP, hD, hW, hI, hQ⟩ := hv
  have hts := atoms_spec (ws := .code y cc nL ret :: TB) B.pre
  have hown : s.vm.findClass y.cls = some m.cls := findClass_of_methodNamed B.named
  have hl := lv_entry av (n := nL) hn
  rw [lg_entry_eq]
  exact body p e s m _ below meth c ⟨B.exec, B.bytes, hml, hown, fun w hw => hts w (List.mem_cons_of_mem _ hw)⟩ B.returns B.notSynchronized hex ⟨h0, hK, hP, hD, va_S.rf, hW, hI, hQ⟩ _ hl
theorem r_X (C : CallFix p m c cc nL s args TB own) (M : Mm g s I J H locs) (hr : meth.sig.returnType = some .int) (hlk : meth.locks = false) {v : Int32} (hd : decode cc pc = .ok (.ireturn, 1)) : W p l e R s m args below meth c H locs 0 0 (vx_MQ below (QC g (PI I J (fun _ => True))) (XG g I J) args s 1 6 (fun q => gb g ≤ q)) (F0 m pc ls [.int v]) :=
  W.widen (Nat.zero_le 1) (Nat.zero_le 6) (vx_ret (W.iret C.1 C.2.1 hr (fun _ ht hW => ⟨⟨_, I, J, rfl, ⟨v, rfl, rfl, rfl, trivial⟩, m_wm M ht hW⟩, M.2.2.2.2.1.F ht⟩) M.2.2.2.2.1.2.2 hd hlk))
theorem x_throw {d : Nat} (C : CallFix p m c cc nL s args TB RX10) (M : Mm g s I J H locs) (hls : l.stackTraces = false) (hex : ∀ x ∈ c.exceptionTable.toList, False) (hsize : ls.size = nL) (hlk : meth.locks = false) (hd5 : 5 < d) (hst : (st.map fun v => v.category).sum ≤ 8)
    (d0 : decode cc pc = .ok (.new 89, 3)) (d3 : decode cc (pc + 3) = .ok (.dup, 1)) (d4 : decode cc (pc + 4) = .ok (.invokespecial 91, 3)) (d7 : decode cc (pc + 7) = .ok (.athrow, 1)) : W p l e (rmE d 1 6) s m args below meth c H locs 0 0 (vx_MQ below (QC g (PI I J (fun _ => True))) (XG g I J) args s 1 6 (fun q => gb g ≤ q)) (F0 m pc ls st) := by
  refine vx_throw0 (own := RX10) (cls := NSE) (names := xNames) (ik := 89) (ic := 91) C.1 C.2.1 hls C.2.2.2.1 (by decide +kernel) (by decide +kernel) (C.2.2.2.2 _ cl_X10_89) (C.2.2.2.2 _ ini_NSE) (fun w hw => x_word C M hw) x_good M.1.2.1.2.2.2.2.2.2.2.1 M.1.2.1.2.2.2.2.2.2.2.2 M.2.2.2.2.1 (hsize.trans C.2.2.1.symm) d0 d3 d4 d7 (fun x hx => absurd hx (fun h => hex x h)) (by show 5 < d; exact hd5) (by show _ ≤ 100 * d; have : (13 * (xNames.length + 1) + 42) = 81 := rfl; omega) (Nat.le_refl _) (Nat.le_refl _) hlk (fun t hal hsz hkp => ⟨rfl, ?_, ?_⟩) M.2.2.2.2.1.2.2 (Nat.le_refl _) (Nat.le_refl _)
  · exact M.2.2.1.kept (fun k x hx => hkp x.1 (M.2.2.1 k x hx).lt)
  · exact ⟨Nat.le_trans M.2.2.2.2.1.1 hsz, fun q hq hn => (hkp q (Nat.lt_of_lt_of_le hq M.2.2.2.2.1.1)).trans (M.2.2.2.2.1.2.1 q hq hn)⟩
theorem m_callX {y : MethodName} {bytes : ByteArray} {maxL n index d t : Nat} {ret : Option FieldType} {As rest : List Value} {Cn : String} {T : u_T} {N : Nat} (C : CallFix p m c cc nL s args TB own) (M : Mm g s I J H locs) (h : Is g a t) (ht : t < 16) (hc : vwCl[t]? = some (Cn, T, N)) (hM : CtX l y bytes maxL ret d g (.ref a :: As) I J) (cw : CallW R s args own Cn index y bytes maxL ret (.code y bytes maxL ret :: TB) (rmE d 1 6) 1 6 n)
    (hn : As.length = n) (hsize : ls.size = nL) {st0 : List Value} (hst : st0 = As.reverse ++ .ref a :: rest) (hW : (rest.map fun v => v.category).sum ≤ 8) (hd : decode cc pc = .ok (.invokevirtual index, 3)) (hcs : cells + 1 ≤ R.cells ∧ slots + 6 ≤ R.slots)
    (kk : ∀ (r : Int32) (H1 : Heap) (locs1 : List Loc), Mm g s I J H1 locs1 → W p l e R s m args below meth c H1 locs1 (cells + 1) (slots + 6) Q (F0 m (pc + 3) ls (.int r :: rest)))
    (kx : ∀ (q : Addr) (ce : Cell) (H1 : Heap) (locs1 : List Loc), Mm g s I J H1 locs1 → H1[q]? = some ce → ce.vm = .none → s.vm.findClass NSE = some ce.cls → vx_W p l e R s m args below meth c H1 locs1 (cells + 1) (slots + 6) Q (F0 m pc ls rest) q) : W p l e R s m args below meth c H locs cells slots Q (F0 m pc ls st0) := by
  obtain ⟨k0, hk0⟩ := m_place M h
  rw [ct_obj h ht] at hk0
  have hr := vx_runV (p := p) (l := l) (e := e) (R := R) (below := below) (meth := meth) (locs := locs) (cells := cells) (slots := slots) (g := F0 m pc ls st0) (As := As) (rest := rest) C hM cw ⟨m_blind, va_recv M.2.1 M.2.2.1 hc hk0, fun U hU hWW => ⟨rfl, m_wm M hU hWW⟩⟩ rfl hn hsize hst (lv_room hW) hd hcs
  intro T hT X
  have key : ∀ (st0' t : State) (L : List Loc), st0'.heap = H → (∀ q ∈ L, gb g ≤ q.base) → va_F (fun q => gb g ≤ q) st0' t → va_S (fun q => gb g ≤ q) s.heap t.heap (locs ++ L) := by
    intro st0' t L e1 hL hF
    refine ⟨Nat.le_trans M.2.2.2.2.1.1 (by rw [← e1]; exact hF.1), fun q hq hn => ?_, fun x hx => ?_⟩
    · rw [hF.2 q (by rw [e1]; exact Nat.lt_of_lt_of_le hq M.2.2.2.2.1.1) hn, e1]
      exact M.2.2.2.2.1.2.1 q hq hn
    · rcases List.mem_append.mp hx with h1 | h1
      · exact M.2.2.2.2.1.2.2 x h1
      · exact hL x h1
  rcases hr T hT X with ⟨v, st0', t, T', L, e1, X', hL, e2, e3, ⟨⟨v1, I1, J1, hv, hp, w0, wK, wP, wD, wW, wI, wQ⟩, hF⟩, hG⟩ | ⟨q, st0', t, T', L, E, ce, e1, X', hL, e2, e3, ⟨hE, wP, hF⟩, hce, hcv, hcl, hG⟩
  · cases hv
    obtain ⟨r, rfl, rfl, rfl, -⟩ := hp
    obtain ⟨tt, a1, b1⟩ := kk r t.heap (locs ++ L) ⟨M.1, M.2.1, wP, wD, key st0' t L e1 hL hF, wW, wI, wQ⟩ T' e2 X'
    exact ⟨tt, hG tt a1, b1⟩
  · subst hE
    obtain ⟨tt, a1, b1⟩ := kx q ce t.heap (locs ++ L) ⟨M.1, M.2.1, wP, M.2.2.2.1, key st0' t L e1 hL hF, M.2.2.2.2.2.1, M.2.2.2.2.2.2.1, M.2.2.2.2.2.2.2⟩ hce hcv hcl T' e2 X'
    exact ⟨tt, hG.trans a1, b1⟩
theorem ct_larr {a : Nat} (h : Is g a 43) : ct g I J a = .inl (gA g 43, aln 43, .inr (.inl fun j => (I a j).toInt64)) := by
  unfold ct
  rw [h.2, if_neg (by omega), if_neg (by omega), if_neg (by omega), if_neg (by omega)]
theorem ct_upL {a : Nat} (h : Is g a 43) (v : Int32) : va_up (ct g I J) a (.inl (gA g 43, aln 43, .inr (.inl (vp_updL (fun j => (I a j).toInt64) 0 v.toInt64)))) = ct g (up2 I a 0 v) J := by
  funext b
  by_cases hb : b = a
  · subst hb
    rw [va_up_self, ct_larr h]
    have e9 : vp_updL (fun j => (I b j).toInt64) 0 v.toInt64 = fun j => (up2 I b 0 v b j).toInt64 := by
      funext j
      unfold vp_updL up2
      by_cases hj : j = 0
      · rw [if_pos hj, if_pos ⟨rfl, hj⟩]
      · rw [if_neg hj, if_neg fun q => hj q.2]
    rw [e9]
  · rw [va_up_ne _ _ hb]
    have e : up2 I a 0 v b = I b := funext fun j => up2_a I 0 j v hb
    unfold ct fls
    rw [e]
    have e2 : ∀ j q, vl g (up2 I a 0 v) J b j q = vl g I J b j q := by
      intro j q
      match q with
      | 0 => simp [vl, e]
      | 1 => rfl
      | 2 => rfl
      | n + 3 => rfl
    simp only [e2]
theorem m_last (C : CallFix p m c cc nL s args TB own) (M : Mm g s I J H locs) (h : Is g a 43) {v : Int32} (hd : decode cc pc = .ok (.lastore, 1)) (kk : ∀ (H1 : Heap) (locs1 : List Loc) (I1 : Ms), Fr g [(43, 0)] I I1 → Mm g s I1 J H1 locs1 → W p l e R s m args below meth c H1 locs1 cells slots Q (F0 m (pc + 1) ls st)) : W p l e R s m args below meth c H locs cells slots Q (F0 m pc ls (.long v.toInt64 :: .int 0 :: .ref a :: st)) := by
  obtain ⟨k0, hk0⟩ := m_place M h
  have hk1 := hk0
  rw [ct_larr h] at hk0
  refine va_last (D := g.1) C.1 C.2.1 M.2.1 M.2.2.1 M.2.2.2.1 M.2.2.2.2.1 k0 6 hk0 rfl (i_in (x := 0) (by decide) (by decide)) hd (fun H1 locs1 hP hD hS => ?_)
  have ee := va_pl_set (X := []) (f := ct g I J) (e := .inl (gA g 43, aln 43, .inr (.inl (vp_updL (fun j => (I a j).toInt64) 0 v.toInt64)))) M.2.2.2.1 h.1 hk1
  rw [List.nil_append, List.nil_append, ct_upL h] at ee
  have e0 : Int32.toNatClampNeg 0 = 0 := rfl
  rw [e0, ee] at hP hD
  refine kk H1 locs1 (up2 I a 0 v) (fr_put fr_rf h (Or.inl List.mem_cons_self) (fun b j q => if_neg (fun w => q.elim (fun q => q w.1) (fun q => q w.2)))) ⟨M.1, M.2.1, hP, hD, hS, M.2.2.2.2.2.1, ti_up M.2.2.2.2.2.2.1 h ?_ ?_, M.2.2.2.2.2.2.2⟩
  · exact i_lo v
  · exact Int.lt_add_one_iff.mp (i_hi v)
end TH
set_option maxHeartbeats 4000000 in
set_option maxRecDepth 100000 in
theorem cx_X10_read (l : Launch) (hls : l.stackTraces = false) (g : Gs) (I : Ms) (J : Js) (a0 : Nat) (x1 : Int32) (h0_ : Is g a0 8) : CtX l yX10_read cX10_read 2 (Option.some Jvm.ClassFile.FieldType.int) 12 g [.ref a0, .int x1] I J := by
  refine x_start (by decide) (Nat.le_of_ble_eq_true rfl) ?_
  intro p e s m args below meth c C hr hlk hex M ls hl
  have hl : lv_has ls 2 [(0, .ref a0), (1, .int x1)] := hl
  have C : CallFix p m c cX10_read 2 s args TB RX10 := C
  refine lv_aload_n C.1 C.2.1 dX10_read_0 rfl (lv_at hl 0 rfl) ?_
  refine gi_X10_10 C M h0_ dX10_read_1 (fun h1 => ?_)
  refine lv_iload_n C.1 C.2.1 dX10_read_4 rfl (lv_at hl 1 rfl) ?_
  refine k_PI C M h1 (by decide) rfl (ct_X4_hasBlock l g I J (gr g a0 0) x1 h1) (cw_up (cw_X10_82 (D := 12) C.2.2.2.2 (by decide)) (Nat.le_refl _) (Nat.le_refl _)) rfl hl.1 rfl (Nat.le_of_ble_eq_true rfl) dX10_read_5 ⟨Nat.zero_le _, Nat.zero_le _⟩ (fun r2 H locs p3r M => ?_)
  have p3 : 0 ≤ r2.toInt ∧ r2.toInt ≤ 1 ∧ (r2.toInt = 1 → 0 ≤ x1.toInt ∧ x1.toInt ≤ 280) := p3r
  refine n_if_eq C (tgt := 22) dX10_read_8 (by decide) rfl (fun q4 => ?_) (fun q4 => ?_)
  ·
    exact x_throw C M hls hex hl.1 hlk (by decide) (Nat.le_of_ble_eq_true rfl) dX10_read_22 dX10_read_25 dX10_read_26 dX10_read_29
  ·
    refine lv_aload_n C.1 C.2.1 dX10_read_11 rfl (lv_at hl 0 rfl) ?_
    refine gi_X10_10 C M h0_ dX10_read_12 (fun h5 => ?_)
    refine lv_iload_n C.1 C.2.1 dX10_read_15 rfl (lv_at hl 1 rfl) ?_
    refine k_PI C M h1 (by decide) rfl (ct_X4_canRead l g I J (gr g a0 0) x1 h1) (cw_up (cw_X10_86 (D := 12) C.2.2.2.2 (by decide)) (Nat.le_refl _) (Nat.le_refl _)) rfl hl.1 rfl (Nat.le_of_ble_eq_true rfl) dX10_read_16 ⟨Nat.zero_le _, Nat.zero_le _⟩ (fun r6 H locs p7r M => ?_)
    have p7 : 0 ≤ r6.toInt ∧ r6.toInt ≤ 1 := p7r
    refine n_if_ne C (tgt := 30) dX10_read_19 (by decide) rfl (fun q8 => ?_) (fun q8 => ?_)
    ·
      refine lv_aload_n C.1 C.2.1 dX10_read_30 rfl (lv_at hl 0 rfl) ?_
      refine gi_X10_10 C M h0_ dX10_read_31 (fun h9 => ?_)
      refine lv_iload_n C.1 C.2.1 dX10_read_34 rfl (lv_at hl 1 rfl) ?_
      refine k_PI C M h1 (by decide) rfl (ct_X4_wordOf l g I J (gr g a0 0) x1 h1) (cw_up (cw_X10_92 (D := 12) C.2.2.2.2 (by decide)) (Nat.le_refl _) (Nat.le_refl _)) rfl hl.1 rfl (Nat.le_of_ble_eq_true rfl) dX10_read_35 ⟨Nat.zero_le _, Nat.zero_le _⟩ (fun r10 H locs p11r M => ?_)
      have p11 : True := p11r
      exact r_X C M hr hlk dX10_read_38
    ·
      exact x_throw C M hls hex hl.1 hlk (by decide) (Nat.le_of_ble_eq_true rfl) dX10_read_22 dX10_read_25 dX10_read_26 dX10_read_29

set_option maxHeartbeats 4000000 in
set_option maxRecDepth 100000 in
theorem cx_X10_served (l : Launch) (hls : l.stackTraces = false) (g : Gs) (I : Ms) (J : Js) (a0 : Nat) (x1 : Int32) (x2 : Int32) (h0_ : Is g a0 8) : CtX l yX10_served cX10_served 4 (Option.some Jvm.ClassFile.FieldType.int) 12 g [.ref a0, .int x1, .int x2] I J := by
  refine x_start (by decide) (Nat.le_of_ble_eq_true rfl) ?_
  intro p e s m args below meth c C hr hlk hex M ls hl
  have hl : lv_has ls 4 [(0, .ref a0), (1, .int x1), (2, .int x2)] := hl
  have C : CallFix p m c cX10_served 4 s args TB RX10 := C
  refine lv_aload_n C.1 C.2.1 dX10_served_0 rfl (lv_at hl 0 rfl) ?_
  refine gi_X10_30 C M h0_ dX10_served_1 (fun h1 => ?_)
  refine lv_iload_n C.1 C.2.1 dX10_served_4 rfl (lv_at hl 1 rfl) ?_
  refine k_PI C M h1 (by decide) rfl (ct_X8_slotOf l g I J (gr g a0 4) x1 h1) (cw_up (cw_X10_133 (D := 12) C.2.2.2.2 (by decide)) (Nat.le_refl _) (Nat.le_refl _)) rfl hl.1 rfl (Nat.le_of_ble_eq_true rfl) dX10_served_5 ⟨Nat.zero_le _, Nat.zero_le _⟩ (fun r2 H locs p3r M => ?_)
  have p3 : True := p3r
  refine lv_istore_n (lv' := [(3, .int r2), (0, .ref a0), (1, .int x1), (2, .int x2)]) C.1 C.2.1 dX10_served_8 rfl hl (by decide) rfl (fun ls hl => ?_)
  refine lv_iload_n C.1 C.2.1 dX10_served_9 rfl (lv_at hl 0 rfl) ?_
  refine lv_iconst (v := -1) C.1 C.2.1 dX10_served_10 (by decide) ?_
  refine n_icmp_eq C (tgt := 23) (Y := (-1)) dX10_served_11 (by decide) rfl rfl (fun q4 => ?_) (fun q4 => ?_)
  ·
    exact x_throw C M hls hex hl.1 hlk (by decide) (Nat.le_of_ble_eq_true rfl) dX10_served_23 dX10_served_26 dX10_served_27 dX10_served_30
  ·
    refine lv_iload_n C.1 C.2.1 dX10_served_14 rfl (lv_at hl 3 rfl) ?_
    refine n_if_lt C (tgt := 23) dX10_served_15 (by decide) rfl (fun q5 => ?_) (fun q5 => ?_)
    ·
      exact x_throw C M hls hex hl.1 hlk (by decide) (Nat.le_of_ble_eq_true rfl) dX10_served_23 dX10_served_26 dX10_served_27 dX10_served_30
    ·
      refine lv_iload_n C.1 C.2.1 dX10_served_18 rfl (lv_at hl 3 rfl) ?_
      refine lv_iconst (v := 2) C.1 C.2.1 dX10_served_19 (by decide) ?_
      refine n_icmp_le C (tgt := 31) (Y := 2) dX10_served_20 (by decide) rfl rfl (fun q6 => ?_) (fun q6 => ?_)
      ·
        refine lv_aload_n C.1 C.2.1 dX10_served_31 rfl (lv_at hl 1 rfl) ?_
        refine gi_X10_30 C M h0_ dX10_served_32 (fun h7 => ?_)
        refine lv_iload_n C.1 C.2.1 dX10_served_35 rfl (lv_at hl 0 rfl) ?_
        refine lv_iload_n C.1 C.2.1 dX10_served_36 rfl (lv_at hl 3 rfl) ?_
        refine k_PI C M h1 (by decide) rfl (ct_X8_tell l g I J (gr g a0 4) r2 x2 h1) (cw_up (cw_X10_136 (D := 12) C.2.2.2.2 (by decide)) (Nat.le_refl _) (Nat.le_refl _)) rfl hl.1 rfl (Nat.le_of_ble_eq_true rfl) dX10_served_37 ⟨Nat.zero_le _, Nat.zero_le _⟩ (fun r8 H locs p9r M => ?_)
        have p9 : True := p9r
        exact r_X C M hr hlk dX10_served_40
      ·
        exact x_throw C M hls hex hl.1 hlk (by decide) (Nat.le_of_ble_eq_true rfl) dX10_served_23 dX10_served_26 dX10_served_27 dX10_served_30

set_option maxHeartbeats 4000000 in
set_option maxRecDepth 100000 in
theorem cx_X10_word (l : Launch) (hls : l.stackTraces = false) (g : Gs) (I : Ms) (J : Js) (a0 : Nat) (x1 : Int32) (x2 : Int32) (h0_ : Is g a0 8) : CtX l yX10_word cX10_word 3 (Option.some Jvm.ClassFile.FieldType.int) 12 g [.ref a0, .int x1, .int x2] I J := by
  refine x_start (by decide) (Nat.le_of_ble_eq_true rfl) ?_
  intro p e s m args below meth c C hr hlk hex M ls hl
  have hl : lv_has ls 3 [(0, .ref a0), (1, .int x1), (2, .int x2)] := hl
  have C : CallFix p m c cX10_word 3 s args TB RX10 := C
  refine lv_aload_n C.1 C.2.1 dX10_word_0 rfl (lv_at hl 0 rfl) ?_
  refine gi_X10_10 C M h0_ dX10_word_1 (fun h1 => ?_)
  refine gi_X10_103 C M h1 dX10_word_4 (fun h2 => ?_)
  refine lv_iload_n C.1 C.2.1 dX10_word_7 rfl (lv_at hl 1 rfl) ?_
  refine lv_iload_n C.1 C.2.1 dX10_word_8 rfl (lv_at hl 2 rfl) ?_
  refine k_PI C M h2 (by decide) rfl (ct_X3_has l g I J (gr g (gr g a0 0) 0) x1 x2 h2) (cw_up (cw_X10_197 (D := 12) C.2.2.2.2 (by decide)) (Nat.le_refl _) (Nat.le_refl _)) rfl hl.1 rfl (Nat.le_of_ble_eq_true rfl) dX10_word_9 ⟨Nat.zero_le _, Nat.zero_le _⟩ (fun r3 H locs p4r M => ?_)
  have p4 : 0 ≤ r3.toInt ∧ r3.toInt ≤ 1 ∧ (r3.toInt = 1 → 0 ≤ x1.toInt ∧ x1.toInt ≤ 6 ∧ 0 ≤ x2.toInt ∧ x2.toInt ≤ 39) := p4r
  refine n_if_ne C (tgt := 23) dX10_word_12 (by decide) rfl (fun q5 => ?_) (fun q5 => ?_)
  ·
    refine lv_aload_n C.1 C.2.1 dX10_word_23 rfl (lv_at hl 0 rfl) ?_
    refine gi_X10_10 C M h0_ dX10_word_24 (fun h6 => ?_)
    refine gi_X10_103 C M h1 dX10_word_27 (fun h7 => ?_)
    refine gi_X10_200 C M h2 dX10_word_30 (fun h8 => ?_)
    refine lv_iload_n C.1 C.2.1 dX10_word_33 rfl (lv_at hl 1 rfl) ?_
    refine lv_bipush (v := 40) C.1 C.2.1 dX10_word_34 (by decide) ?_
    refine n_imul C (Y := 40) dX10_word_36 rfl rfl (by omega) (by omega) (fun v9 ev9 => ?_)
    refine lv_iload_n C.1 C.2.1 dX10_word_37 rfl (lv_at hl 2 rfl) ?_
    refine n_iadd C dX10_word_38 rfl rfl (by omega) (by omega) (fun v10 ev10 => ?_)
    refine a_ld C M h8 (n := 280) rfl rfl rfl (by omega) (by omega) rfl dX10_word_39 (fun v11 kv11 => ?_)
    exact r_X C M hr hlk dX10_word_40
  ·
    exact x_throw C M hls hex hl.1 hlk (by decide) (Nat.le_of_ble_eq_true rfl) dX10_word_15 dX10_word_18 dX10_word_19 dX10_word_22
section HP
variable {p : Program} {l : Launch} {e : Env} {R : Room} {s : State} {m : MethodId} {args : Array Value} {below : List Frame} {meth : Method} {c : Code} {H : Heap} {locs : List Loc} {cells slots : Nat} {Q : State → Prop} {cc : ByteArray} {nL pc : Nat} {ls : Array Slot} {st : List Value} {own : String} {g : Gs} {I I0 : Ms} {J J0 : Js} {a : Nat}
def PH (g : Gs) (I : Ms) (J : Js) : Option Value → Ms → Js → Prop := PM g [(43, 0)] I (fun _ _ J1 => J1 = J)
def CtH (l : Launch) (y : MethodName) (cc : ByteArray) (nL : Nat) (hh : List (Nat × Nat × Nat × Nat)) (g : Gs) (av : List Value) (I : Ms) (J : Js) : Prop :=
  Met l y (.codeWith y cc nL (Option.some Jvm.ClassFile.FieldType.int) hh :: TB) (rmE 20 1 6) (va_Pc av (fun U => Wm g I J U)) (QC g (PH g I J)) 1 6 (fun q => gb g ≤ q)
theorem h_start {y : MethodName} {hh : List (Nat × Nat × Nat × Nat)} {av : List Value} (hy : plainName y.cls = true) (hn : (lg_sl av).length ≤ nL)
    (body : ∀ (p : Program) (e : Env) (s : State) (m : MethodId) (args : Array Value) (below : List Frame) (meth : Method) (c : Code), CallFix p m c cc nL s args TB y.cls → meth.sig.returnType = some .int → meth.locks = false → c.exceptionTable.toList = tableOf hh → Mm g s I J s.heap [] → ∀ ls : Array Slot, lv_has ls nL (lv_args 0 av) →
      W p l e (rmE 20 1 6) s m args below meth c s.heap [] 0 0 (MQ below (QC g (PH g I J)) args s 1 6 (fun q => gb g ≤ q)) (F0 m 0 ls [])) : CtH l y cc nL hh g av I J := by
  refine va_MetW (cc := cc) (maxL := nL) (ret := Option.some Jvm.ClassFile.FieldType.int) (hh := hh) hy rfl ?_
  intro p e s m args below meth c s₁ B hml hv
  obtain ⟨rfl, h0, hK, hP, hD, hW, hI, hQ⟩ := hv
  have hts := atoms_spec (ws := .codeWith y cc nL (Option.some Jvm.ClassFile.FieldType.int) hh :: TB) B.pre
  have hown : s.vm.findClass y.cls = some m.cls := findClass_of_methodNamed B.named
  have hl := lv_entry av (n := nL) hn
  have hex := vx_table (x := y) B (hts _ List.mem_cons_self)
  rw [lg_entry_eq]
  exact body p e s m _ below meth c ⟨B.exec, B.bytes, hml, hown, fun w hw => hts w (List.mem_cons_of_mem _ hw)⟩ B.returns B.notSynchronized hex ⟨h0, hK, hP, hD, va_S.rf, hW, hI, hQ⟩ _ hl
theorem r_H (C : CallFix p m c cc nL s args TB own) (M : Mm g s I J H locs) (hr : meth.sig.returnType = some .int) (hlk : meth.locks = false) (F : Fr g [(43, 0)] I0 I) (hJ : J = J0) (hc : cells ≤ 1) (hs : slots ≤ 6) {v : Int32} (hd : decode cc pc = .ok (.ireturn, 1)) : W p l e R s m args below meth c H locs cells slots (MQ below (QC g (PH g I0 J0)) args s 1 6 (fun q => gb g ≤ q)) (F0 m pc ls [.int v]) :=
  W.widen hc hs (W.iret C.1 C.2.1 hr (fun _ ht hW => ⟨⟨_, I, J, rfl, ⟨v, rfl, F, hJ⟩, m_wm M ht hW⟩, M.2.2.2.2.1.F ht⟩) M.2.2.2.2.1.2.2 hd hlk)
theorem cast_NSE : Cond.castable NSE NSE ∈ lw_tbl := List.mem_of_getElem? (i := 953) (by decide +kernel)
theorem cw_X {y : MethodName} {bytes : ByteArray} {maxL index n d : Nat} {ret : Option FieldType} (C : CallFix p m c cc nL s args TB own) (h1 : Cond.methodLink own index y ∈ TB) (h2 : Cond.instanceMethod y ∈ TB) (h3 : Cond.selects y.cls y y ∈ TB) (h4 : Cond.initialized y.cls ∈ TB) (h5 : Cond.code y bytes maxL ret ∈ TB) (hd0 : y.cls ≠ "java/lang/invoke/MethodHandle" ∧ y.cls ≠ "java/lang/invoke/VarHandle" ∧ (parseMethodDescriptor y.desc).map (fun d => d.parameters.length) = some n) (hR : d + 1 ≤ R.frames ∧ 8 + (maxL + 11) + 100 * d ≤ R.locals) : CallW R s args own y.cls index y bytes maxL ret (.code y bytes maxL ret :: TB) (rmE d 1 6) 1 6 n :=
  ⟨callB_of n C.2.2.2.2 (e_good h5) rfl rfl rfl (C.2.2.2.2 _ h4) (C.2.2.2.2 _ h1) hd0 hR, C.2.2.2.2 _ h2, C.2.2.2.2 _ h3⟩
end HP
theorem ch_L_read (l : Launch) (hls : l.stackTraces = false) (g : Gs) (I : Ms) (J : Js) (a0 : Nat) (x1 : Int32) (a2 : Nat) (h0_ : Is g a0 8) (h9_ : Is g a2 43) : CtH l yL_read cL_read 4 [(0, 9, 12, 13)] g [.ref a0, .int x1, .ref a2] I J := by
  refine h_start (by decide) (Nat.le_of_ble_eq_true rfl) ?_
  intro p e s m args below meth c C hr hlk hex M ls hl
  have hl : lv_has ls 4 [(0, .ref a0), (1, .int x1), (2, .ref a2)] := hl
  have C : CallFix p m c cL_read 4 s args TB RL := C
  refine lv_aload_n C.1 C.2.1 dL_read_0 rfl (lv_at hl 2 rfl) ?_
  refine lv_iconst (v := 0) C.1 C.2.1 dL_read_1 (by decide) ?_
  refine lv_aload_n C.1 C.2.1 dL_read_2 rfl (lv_at hl 0 rfl) ?_
  refine lv_iload_n C.1 C.2.1 dL_read_3 rfl (lv_at hl 1 rfl) ?_
  refine m_callX C M h0_ (by decide) rfl (cx_X10_read l hls g I J a0 x1 h0_) (cw_X (n := 1) C ml_L_7 im_X10_read se_X10_read ini_X10 cd_X10_read (by decide) ⟨Nat.le_of_ble_eq_true rfl, Nat.le_of_ble_eq_true rfl⟩) rfl hl.1 rfl (Nat.le_of_ble_eq_true rfl) dL_read_4 ⟨Nat.le_refl _, Nat.le_refl _⟩ (fun r H locs M => ?_) (fun q ce H locs M hce hcv hcl => ?_)
  · refine lv_i2l C.1 C.2.1 dL_read_7 rfl ?_
    refine m_last C M h9_ dL_read_8 (fun H locs I1 F M => ?_)
    refine lv_goto (tgt := 15) C.1 C.2.1 dL_read_9 (by decide) ?_
    refine lv_iconst (v := 0) C.1 C.2.1 dL_read_15 (by decide) ?_
    exact r_H C M hr hlk F rfl (Nat.le_refl _) (Nat.le_refl _) dL_read_16
  · refine vx_catch (own := RL) (name := NSE) (E := NSE) C.2.2.2.1 [] ⟨0, 9, 12, 13⟩ [] hex (fun z hz => absurd hz List.not_mem_nil) (by decide) (by decide) (C.2.2.2.2 _ cl_L_13) (va_Nw.use rfl (M.1.2.2.2 _ cast_NSE rfl)) hce hcv hcl ?_
    refine lv_astore_n (lv' := [(3, .ref q), (0, .ref a0), (1, .int x1), (2, .ref a2)]) C.1 C.2.1 dL_read_12 rfl hl (by decide) rfl (fun ls hl => ?_)
    refine lv_iconst (v := 1) C.1 C.2.1 dL_read_13 (by decide) ?_
    exact r_H C M hr hlk fr_rf rfl (Nat.le_refl _) (Nat.le_refl _) dL_read_14
theorem ch_L_served (l : Launch) (hls : l.stackTraces = false) (g : Gs) (I : Ms) (J : Js) (a0 : Nat) (x1 : Int32) (x2 : Int32) (a3 : Nat) (h0_ : Is g a0 8) (h9_ : Is g a3 43) : CtH l yL_served cL_served 5 [(0, 10, 13, 13)] g [.ref a0, .int x1, .int x2, .ref a3] I J := by
  refine h_start (by decide) (Nat.le_of_ble_eq_true rfl) ?_
  intro p e s m args below meth c C hr hlk hex M ls hl
  have hl : lv_has ls 5 [(0, .ref a0), (1, .int x1), (2, .int x2), (3, .ref a3)] := hl
  have C : CallFix p m c cL_served 5 s args TB RL := C
  refine lv_aload_n C.1 C.2.1 dL_served_0 rfl (lv_at hl 3 rfl) ?_
  refine lv_iconst (v := 0) C.1 C.2.1 dL_served_1 (by decide) ?_
  refine lv_aload_n C.1 C.2.1 dL_served_2 rfl (lv_at hl 0 rfl) ?_
  refine lv_iload_n C.1 C.2.1 dL_served_3 rfl (lv_at hl 1 rfl) ?_
  refine lv_iload_n C.1 C.2.1 dL_served_4 rfl (lv_at hl 2 rfl) ?_
  refine m_callX C M h0_ (by decide) rfl (cx_X10_served l hls g I J a0 x1 x2 h0_) (cw_X (n := 2) C ml_L_15 im_X10_served se_X10_served ini_X10 cd_X10_served (by decide) ⟨Nat.le_of_ble_eq_true rfl, Nat.le_of_ble_eq_true rfl⟩) rfl hl.1 rfl (Nat.le_of_ble_eq_true rfl) dL_served_5 ⟨Nat.le_refl _, Nat.le_refl _⟩ (fun r H locs M => ?_) (fun q ce H locs M hce hcv hcl => ?_)
  · refine lv_i2l C.1 C.2.1 dL_served_8 rfl ?_
    refine m_last C M h9_ dL_served_9 (fun H locs I1 F M => ?_)
    refine lv_goto (tgt := 17) C.1 C.2.1 dL_served_10 (by decide) ?_
    refine lv_iconst (v := 0) C.1 C.2.1 dL_served_17 (by decide) ?_
    exact r_H C M hr hlk F rfl (Nat.le_refl _) (Nat.le_refl _) dL_served_18
  · refine vx_catch (own := RL) (name := NSE) (E := NSE) C.2.2.2.1 [] ⟨0, 10, 13, 13⟩ [] hex (fun z hz => absurd hz List.not_mem_nil) (by decide) (by decide) (C.2.2.2.2 _ cl_L_13) (va_Nw.use rfl (M.1.2.2.2 _ cast_NSE rfl)) hce hcv hcl ?_
    refine lv_astore (lv' := [(4, .ref q), (0, .ref a0), (1, .int x1), (2, .int x2), (3, .ref a3)]) C.1 C.2.1 dL_served_13 hl (by decide) rfl (fun ls hl => ?_)
    refine lv_iconst (v := 1) C.1 C.2.1 dL_served_15 (by decide) ?_
    exact r_H C M hr hlk fr_rf rfl (Nat.le_refl _) (Nat.le_refl _) dL_served_16
theorem ch_L_word (l : Launch) (hls : l.stackTraces = false) (g : Gs) (I : Ms) (J : Js) (a0 : Nat) (x1 : Int32) (x2 : Int32) (a3 : Nat) (h0_ : Is g a0 8) (h9_ : Is g a3 43) : CtH l yL_word cL_word 5 [(0, 10, 13, 13)] g [.ref a0, .int x1, .int x2, .ref a3] I J := by
  refine h_start (by decide) (Nat.le_of_ble_eq_true rfl) ?_
  intro p e s m args below meth c C hr hlk hex M ls hl
  have hl : lv_has ls 5 [(0, .ref a0), (1, .int x1), (2, .int x2), (3, .ref a3)] := hl
  have C : CallFix p m c cL_word 5 s args TB RL := C
  refine lv_aload_n C.1 C.2.1 dL_word_0 rfl (lv_at hl 3 rfl) ?_
  refine lv_iconst (v := 0) C.1 C.2.1 dL_word_1 (by decide) ?_
  refine lv_aload_n C.1 C.2.1 dL_word_2 rfl (lv_at hl 0 rfl) ?_
  refine lv_iload_n C.1 C.2.1 dL_word_3 rfl (lv_at hl 1 rfl) ?_
  refine lv_iload_n C.1 C.2.1 dL_word_4 rfl (lv_at hl 2 rfl) ?_
  refine m_callX C M h0_ (by decide) rfl (cx_X10_word l hls g I J a0 x1 x2 h0_) (cw_X (n := 2) C ml_L_19 im_X10_word se_X10_word ini_X10 cd_X10_word (by decide) ⟨Nat.le_of_ble_eq_true rfl, Nat.le_of_ble_eq_true rfl⟩) rfl hl.1 rfl (Nat.le_of_ble_eq_true rfl) dL_word_5 ⟨Nat.le_refl _, Nat.le_refl _⟩ (fun r H locs M => ?_) (fun q ce H locs M hce hcv hcl => ?_)
  · refine lv_i2l C.1 C.2.1 dL_word_8 rfl ?_
    refine m_last C M h9_ dL_word_9 (fun H locs I1 F M => ?_)
    refine lv_goto (tgt := 17) C.1 C.2.1 dL_word_10 (by decide) ?_
    refine lv_iconst (v := 0) C.1 C.2.1 dL_word_17 (by decide) ?_
    exact r_H C M hr hlk F rfl (Nat.le_refl _) (Nat.le_refl _) dL_word_18
  · refine vx_catch (own := RL) (name := NSE) (E := NSE) C.2.2.2.1 [] ⟨0, 10, 13, 13⟩ [] hex (fun z hz => absurd hz List.not_mem_nil) (by decide) (by decide) (C.2.2.2.2 _ cl_L_13) (va_Nw.use rfl (M.1.2.2.2 _ cast_NSE rfl)) hce hcv hcl ?_
    refine lv_astore (lv' := [(4, .ref q), (0, .ref a0), (1, .int x1), (2, .int x2), (3, .ref a3)]) C.1 C.2.1 dL_word_13 hl (by decide) rfl (fun ls hl => ?_)
    refine lv_iconst (v := 1) C.1 C.2.1 dL_word_15 (by decide) ?_
    exact r_H C M hr hlk fr_rf rfl (Nat.le_refl _) (Nat.le_refl _) dL_word_16
