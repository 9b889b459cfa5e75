theorem known_all {args : Array Value} {s : State} (htb : ∀ w ∈ TB, w.before args s = true) : ∃ D : va_G, ∀ (c : Nat) (q : vw_C), vwCl[c]? = some q → u_Kn s q.1 q.2.1 q.2.2 (D.1 c) (D.2 c) := by
  have h0 : ∀ c : Nat, ∃ z : ClassId × (Nat → Nat), ∀ q : vw_C, vwCl[c]? = some q → u_Kn s q.1 q.2.1 q.2.2 z.1 z.2 := by
    intro c
    match c with
    | 0 =>
      obtain ⟨a, b, h⟩ := u_known (C := RX1) (T := TX1) (N := 7) htb uw_X1 (htb _ ins_X1)
      exact ⟨(a, b), fun q hq => by cases hq; exact h⟩
    | 1 =>
      obtain ⟨a, b, h⟩ := u_known (C := RX3) (T := TX3) (N := 6) htb uw_X3 (htb _ ins_X3)
      exact ⟨(a, b), fun q hq => by cases hq; exact h⟩
    | 2 =>
      obtain ⟨a, b, h⟩ := u_known (C := RX4) (T := TX4) (N := 17) htb uw_X4 (htb _ ins_X4)
      exact ⟨(a, b), fun q hq => by cases hq; exact h⟩
    | 3 =>
      obtain ⟨a, b, h⟩ := u_known (C := RX5) (T := TX5) (N := 2) htb uw_X5 (htb _ ins_X5)
      exact ⟨(a, b), fun q hq => by cases hq; exact h⟩
    | 4 =>
      obtain ⟨a, b, h⟩ := u_known (C := RX6) (T := TX6) (N := 3) htb uw_X6 (htb _ ins_X6)
      exact ⟨(a, b), fun q hq => by cases hq; exact h⟩
    | 5 =>
      obtain ⟨a, b, h⟩ := u_known (C := RX7) (T := TX7) (N := 10) htb uw_X7 (htb _ ins_X7)
      exact ⟨(a, b), fun q hq => by cases hq; exact h⟩
    | 6 =>
      obtain ⟨a, b, h⟩ := u_known (C := RX8) (T := TX8) (N := 3) htb uw_X8 (htb _ ins_X8)
      exact ⟨(a, b), fun q hq => by cases hq; exact h⟩
    | 7 =>
      obtain ⟨a, b, h⟩ := u_known (C := RX9) (T := TX9) (N := 2) htb uw_X9 (htb _ ins_X9)
      exact ⟨(a, b), fun q hq => by cases hq; exact h⟩
    | 8 =>
      obtain ⟨a, b, h⟩ := u_known (C := RX10) (T := TX10) (N := 8) htb uw_X10 (htb _ ins_X10)
      exact ⟨(a, b), fun q hq => by cases hq; exact h⟩
    | 9 =>
      obtain ⟨a, b, h⟩ := u_known (C := RX11) (T := TX11) (N := 24) htb uw_X11 (htb _ ins_X11)
      exact ⟨(a, b), fun q hq => by cases hq; exact h⟩
    | n + 10 => exact ⟨(default, fun _ => 0), fun q hq => by cases hq⟩
  obtain ⟨F, hF⟩ := Classical.axiomOfChoice h0
  exact ⟨(fun c => (F c).1, fun c => (F c).2), fun c q hq => hF c q hq⟩
theorem arr_p {args : Array Value} {s : State} {ty : FieldType} (h : (Cond.arrayClass ty).before args s = true) : ∃ c : ClassId, ArrOfT s c ty ∧ s.vm.findClass ("[" ++ ty.toString) = some c := by
  obtain ⟨c, k, comp, h1, h2, h3⟩ := Cond.arrayClass_spec h
  exact ⟨c, fun n z => ⟨fun k h => (by cases h), k, h2, comp, h3⟩, h1⟩
theorem arr_o {args : Array Value} {s : State} {n : String} (h : (Cond.arrayOver (.object n)).before args s = true) : ∃ c : ClassId, ArrOfT s c (.object n) ∧ va_RA s c (.object n) := by
  obtain ⟨comp, c, k, h1, -, h2, h3, h4⟩ := Cond.arrayOver_spec h
  exact ⟨c, fun n z => ⟨fun k h => (by cases h), k, h2, comp, h3⟩, k, comp, h2, h3, h1, h4⟩
theorem arr_all {b : Nat} {s : State} (hts : ∀ w ∈ lw_tbl, w.before #[Value.ref b] s = true) : ∃ cf : Nat → ClassId, ∀ (k : Nat) (q : ClassId × FieldType), (tyl cf)[k]? = some q → ArrOfT s q.1 q.2 ∧ va_RA s q.1 q.2 := by
  obtain ⟨c0, a0, b0⟩ := arr_p (st_t hts 126 (by decide +kernel) : (Cond.arrayClass .int).before #[Value.ref b] s = true)
  obtain ⟨c1, a1, b1⟩ := arr_p (st_t hts 304 (by decide +kernel) : (Cond.arrayClass .byte).before #[Value.ref b] s = true)
  obtain ⟨c2, a2, b2⟩ := arr_p (st_t hts 288 (by decide +kernel) : (Cond.arrayClass .boolean).before #[Value.ref b] s = true)
  obtain ⟨c3, a3, b3⟩ := arr_o (st_t hts 147 (by decide +kernel) : (Cond.arrayOver (.object "GrowHouse$Layout")).before #[Value.ref b] s = true)
  obtain ⟨c4, a4, b4⟩ := arr_o (st_t hts 271 (by decide +kernel) : (Cond.arrayOver (.object "GrowHouse$House")).before #[Value.ref b] s = true)
  obtain ⟨c5, a5, b5⟩ := arr_o (st_t hts 312 (by decide +kernel) : (Cond.arrayOver (.object "GrowHouse$Deed")).before #[Value.ref b] s = true)
  obtain ⟨c6, a6, b6⟩ := arr_p (st_t hts 1518 (by decide +kernel) : (Cond.arrayClass .long).before #[Value.ref b] s = true)
  refine ⟨fun k => if k = 0 then c0 else if k = 1 then c1 else if k = 2 then c2 else if k = 40 then c3 else if k = 41 then c4 else if k = 42 then c5 else c6, fun k q hq => ?_⟩
  match k with
  | 0 => cases hq; exact ⟨a0, b0⟩
  | 1 => cases hq; exact ⟨a1, b1⟩
  | 2 => cases hq; exact ⟨a2, b2⟩
  | 3 => cases hq; exact ⟨a3, b3⟩
  | 4 => cases hq; exact ⟨a4, b4⟩
  | 5 => cases hq; exact ⟨a5, b5⟩
  | 6 => cases hq; exact ⟨a6, b6⟩
  | n + 7 => cases hq
def adL (ax am ao : Nat) (h f : Nat → Nat) (fh : Nat → Nat → Nat) : List Nat := [ax, h 0, fh 0 0, fh 0 1, fh 0 2, fh 0 3, fh 0 4, fh 0 5, fh 0 6, fh 0 7, fh 0 8, fh 0 9, fh 0 10, fh 0 11, fh 0 12, fh 0 13, fh 0 14, fh 0 15, fh 0 16, fh 0 17, h 1, fh 1 0, fh 1 1, fh 1 2, fh 1 3, fh 1 4, fh 1 5, fh 1 6, fh 1 7, fh 1 8, fh 1 9, fh 1 10, fh 1 11, fh 1 12, fh 1 13, fh 1 14, fh 1 15, fh 1 16, fh 1 17, h 2, h 3, h 4, fh 4 0, h 5, fh 5 0, h 6, fh 6 0, h 7, fh 7 0, fh 7 1, fh 7 2, fh 7 3, fh 7 4, h 8, fh 8 0, fh 8 1, fh 8 2, fh 8 3, fh 8 4, fh 8 5, fh 8 6, fh 8 7, fh 8 8, fh 8 9, fh 8 10, fh 8 11, fh 8 12, fh 8 13, fh 8 14, fh 8 15, fh 8 16, fh 8 17, h 9, fh 9 0, fh 9 1, fh 9 2, fh 9 3, fh 9 4, fh 9 5, fh 9 6, fh 9 7, fh 9 8, fh 9 9, fh 9 10, fh 9 11, fh 9 12, fh 9 13, fh 9 14, fh 9 15, fh 9 16, fh 9 17, am, f 0, f 1, f 2, f 3, f 4, f 5, f 6, f 7, ao]
set_option maxHeartbeats 4000000 in
set_option maxRecDepth 100000 in
theorem ws_all (ax am ao : Nat) (h f : Nat → Nat) (fh : Nat → Nat → Nat) (cf : Nat → ClassId) : (([] ++ xCells ax h fh cf) ++ mCells am f cf) ++ [(ao, .inl (cf 43, 1, .inr (.inl fun _ => 0)))] = wsOf (fun i => (adL ax am ao h f fh).getD i 0) cf := rfl
set_option maxHeartbeats 4000000 in
set_option maxRecDepth 100000 in
/-- from the entry, for every script of at most 3584 ints, the law comes to its end with true -/
theorem whole_start {p : Program} {e : Env} {s : State} {m : MethodId} {below : List Frame} {meth : Method} {c : Code} (l : Launch) (hflags : l.flags = flags0) {b L : Nat} {xs : Nat → Int32} (hL : L ≤ 3584) (C0 : lw_At p s m meth c b L xs) : W p l e room_1 s m #[Value.ref b] below meth c s.heap [] 0 0 (lw_Z below #[Value.ref b] s) (entryFrame m ([Value.ref b] : List Value).toArray 7) := by
  obtain ⟨hx9, hb, hr, hml, hown, hts, hX, hbl, hlk, hg⟩ := C0
  have htb : ∀ w ∈ TB, w.before #[Value.ref b] s = true := fun w hw => hts w (tb_in hw)
  have C : CallFix p m c cL_law 7 s #[Value.ref b] TB RL := ⟨hx9, hb, hml, hown, htb⟩
  have hls : l.stackTraces = false := by
    unfold Launch.stackTraces
    rw [hflags]
    decide +kernel
  obtain ⟨D, hD⟩ := known_all htb
  obtain ⟨cf, hcf⟩ := arr_all hts
  obtain ⟨cd, hSt⟩ := sts_of hts hg
  have E : El D (tyl cf) s.heap.size s [] s.heap [] := ⟨⟨Nat.le_refl _, fun w hw hk => va_Nw.of (nw_tab hk) (hts w hw), va_AO.of (st_t hts 147 (by decide +kernel)), va_AO.of (st_t hts 271 (by decide +kernel)), va_AO.of (st_t hts 312 (by decide +kernel))⟩, ⟨hD, hcf⟩, fun k q h => (by cases h), ⟨fun i j p q h => (by cases h), fun k q h => (by cases h)⟩, va_S.rf⟩
  have hl := lv_entry [Value.ref b] (n := 7) (Nat.le_of_ble_eq_true rfl)
  rw [lg_entry_eq]
  generalize hls9 : (lg_sl [Value.ref b] ++ List.replicate (7 - (lg_sl [Value.ref b]).length) Slot.unset).toArray = ls at hl ⊢
  have hl : lv_has ls 7 [(0, .ref b)] := hl
  refine e_new C E (t := 8) (fs := [.null, .null, .null, .null, .null, .null, .null, .null]) rfl uw_X10 tyX10 tyX10_ok cl_L_8 ins_X10 ini_X10 (by decide) (Nat.le_of_ble_eq_true rfl) (Nat.le_of_ble_eq_true rfl) dL_law_0 (fun ax H E => ?_)
  refine lv_dup C.1 C.2.1 dL_law_3 rfl ?_
  refine e_callI (n := 0) C E (ce_X10_init l D cf s.heap.size [] ax) mi_L_22 im_X10_init ini_X10 cd_X10_init rfl (by decide) ⟨(Nat.le_of_ble_eq_true rfl), (Nat.le_of_ble_eq_true rfl)⟩ rfl hl.1 rfl (Nat.le_of_ble_eq_true rfl) dL_law_4 ⟨(Nat.le_of_ble_eq_true rfl), (Nat.le_of_ble_eq_true rfl)⟩ (fun v w H locs hp E9 => ?_)
  obtain ⟨rfl, h, fh, e9⟩ := hp
  rw [e9] at E9
  have E := E9
  change W p l e room_1 s m #[Value.ref b] below meth c H locs _ _ _ (F0 m 7 ls [.ref ax])
  refine lv_astore_n (lv' := [(1, .ref ax), (0, .ref b)]) C.1 C.2.1 dL_law_7 rfl hl (by decide) rfl (fun ls hl => ?_)
  refine e_new C E (t := 9) (fs := [.null, .null, .null, .null, .null, .int 0, .int 0, .null, .int 0, .int 0, .int 0, .int 0, .null, .null, .int 0, .int 0, .int 0, .int 0, .long 0, .int 0, .int 0, .int 0, .int 0, .int 0]) rfl uw_X11 tyX11 tyX11_ok cl_L_23 ins_X11 ini_X11 (by decide) (Nat.le_of_ble_eq_true rfl) (Nat.le_of_ble_eq_true rfl) dL_law_8 (fun am H E => ?_)
  refine lv_dup C.1 C.2.1 dL_law_11 rfl ?_
  refine e_callI (n := 0) C E (ce_X11_init l D cf s.heap.size ([] ++ xCells ax h fh cf) am) mi_L_25 im_X11_init ini_X11 cd_X11_init rfl (by decide) ⟨(Nat.le_of_ble_eq_true rfl), (Nat.le_of_ble_eq_true rfl)⟩ rfl hl.1 rfl (Nat.le_of_ble_eq_true rfl) dL_law_12 ⟨(Nat.le_of_ble_eq_true rfl), (Nat.le_of_ble_eq_true rfl)⟩ (fun v w H locs hp E9 => ?_)
  obtain ⟨rfl, f, e9⟩ := hp
  rw [e9] at E9
  have E := E9
  change W p l e room_1 s m #[Value.ref b] below meth c H locs _ _ _ (F0 m 15 ls [.ref am])
  refine lv_astore_n (lv' := [(2, .ref am), (1, .ref ax), (0, .ref b)]) C.1 C.2.1 dL_law_15 rfl hl (by decide) rfl (fun ls hl => ?_)
  refine lv_iconst (v := 1) C.1 C.2.1 dL_law_16 (by decide) ?_
  refine e_newl C E ac_long 6 rfl (n := 1) (N' := 1) (by decide) rfl (Nat.le_of_ble_eq_true rfl) (Nat.le_of_ble_eq_true rfl) (Nat.le_of_ble_eq_true rfl) dL_law_17 (fun ao H E => ?_)
  refine lv_astore_n (lv' := [(3, .ref ao), (2, .ref am), (1, .ref ax), (0, .ref b)]) C.1 C.2.1 dL_law_19 rfl hl (by decide) rfl (fun ls hl => ?_)
  refine lv_iconst (v := 0) C.1 C.2.1 dL_law_20 (by decide) ?_
  refine lv_istore (lv' := [(4, .int 0), (3, .ref ao), (2, .ref am), (1, .ref ax), (0, .ref b)]) C.1 C.2.1 dL_law_21 hl (by decide) rfl (fun ls hl => ?_)
  rw [ws_all] at E
  obtain ⟨pos, M, hLw, hx, hm, ho⟩ := pool (cd := cd) E rfl (fun pos => hSt _ rfl rfl)
  refine W.widen (k := 200 + 0) (n := 12000 + 6 * 0) (Nat.le_of_ble_eq_true rfl) (Nat.le_of_ble_eq_true rfl) ?_
  exact law_loop (ax := ax) (am := am) (ao := ao) C hX hbl rfl hx hm ho hls hL hr hlk 3600 0 0 _ _ H locs ls rfl (by decide) (by decide) hLw M (lv_sub hl [0, 4, 3, 2, 1] rfl)
set_option maxHeartbeats 4000000 in
theorem lw_walk (l : Launch) (hflags : l.flags = flags0) (b : Addr) (xs : List Int32) : MetFree l x (headSpec (Jvm.Cond.code x code maxLocals ret :: tables_1) room_1) (lw_P b xs) (fun _ _ _ _ _ => True) lw_Q := by
  refine MetFree.of_bodyS (code := code) (maxLocals := maxLocals) (ret := ret) (by decide) ?_ ?_
  · intro args s m h hn
    obtain ⟨meth, c, h1, h2, h3, h4, h5, h6, -, -⟩ := Cond.code_spec hn (atoms_spec (ws := Jvm.Cond.code x code maxLocals ret :: tables_1) h _ List.mem_cons_self)
    exact ⟨meth, c, h1, h2, h3, h4, h5, h6⟩
  · intro p e s m args below meth c s₁ B hml0 hP _
    obtain ⟨rfl, hx, hbd, hgv⟩ := hP
    obtain ⟨scr, harrAt, hlist, hof, hsmall⟩ := hx
    obtain ⟨hcb, hkn, -, -⟩ := State.arrayAt?_spec harrAt
    have hown : s.vm.findClass R_law = some m.cls := findClass_of_methodNamed B.named
    have hts0 : ∀ c ∈ (Jvm.Cond.code x code maxLocals ret :: tables_1), c.before #[Value.ref b] s = true := atoms_spec (ws := Jvm.Cond.code x code maxLocals ret :: tables_1) B.pre
    have hts : ∀ w ∈ lw_tbl, w.before #[Value.ref b] s = true := k2_hts_sels lw_privs (fun w hw => hts0 w (List.mem_cons_of_mem _ hw)) lw_privs_ok
    have hml : c.maxLocals = 7 := B.maxLocals_eq (hts0 _ List.mem_cons_self)
    have X₀ : Stand p l e room_1 s m #[Value.ref b] below meth c s₁ [] 0 0 := Stand.of_body B
    have hh0 : s₁.heap = s.heap := by rw [B.state]; rfl
    have hsz : scr.slots.size = xs.length := by rw [← Array.length_toList, hlist, List.length_map]
    have hval : ∀ j : Nat, j < xs.length → scr.slots[j]? = some (.int (xs.getD j 0)) := fun j hj => by
      rw [← Array.getElem?_toList, hlist]
      simp [hj]
    have hbl : b < s.heap.size := (Array.getElem?_eq_some_iff.mp hcb).1
    have hX : va_X b xs.length (fun j => xs.getD j 0) s s.heap := ⟨scr, hcb, hof, hkn, hsz, hval⟩
    have K : W p l e room_1 s m #[Value.ref b] below meth c s₁.heap [] 0 0 (lw_Z below #[Value.ref b] s) (entryFrame m ([Value.ref b] : List Value).toArray 7) := by
      rw [hh0]
      exact whole_start l hflags hbd ⟨B.exec, B.bytes, B.returns, hml, hown, hts, hX, hbl, B.notSynchronized, hgv⟩
    obtain ⟨t, a1, o, b1, b2, b3⟩ := K s₁ rfl X₀
    exact ⟨t, o, a1, b1, b2, b3⟩
theorem lw_pre_spec {args : Array Value} {s : State} (h : (Jvm.Cond.and given_1 narrow_1).before args s = true) (hr : rest_1_c.before args s = true) : ∃ (b : Addr) (xs : List Int32), lw_P b xs args s := by
  have hs := flat_of_before _ h
  have hq := flat_of_before _ hr
  have hc : (Cond.count 1).before args s = true := hs _ (by decide +kernel)
  have harr : (Cond.arrayOf (.arg 0) .int).before args s = true := hs _ (by decide +kernel)
  have hle : (Cond.le (.length (.arg 0)) (.int 3584)).before args s = true := hs _ (by decide +kernel)
  have hlen : (Cond.isInt (.length (.arg 0))).before args s = true := hq _ (by decide +kernel)
  have hall : (Cond.all (.arg 0) (.isInt (.elem (.arg 0) (.index 0)))).before args s = true := hq _ (by decide +kernel)
  obtain ⟨b, xs, hb, hx⟩ := State.ints_of_pre rfl harr hlen hall
  have hsm : xs.length < 2 ^ 31 := hx.choose_spec.2.2.2
  have hev : (Term.length (.arg 0)).eval args s none [] s = some (.int xs.length.toInt32) := hx.length_eval hb
  have hv := Cond.le_ints hev (show (Term.int 3584).eval args s none [] s = some (.int 3584) from rfl)
  have hd : xs.length.toInt32 ≤ 3584 := by
    simpa [Cond.before, Cond.holds, hv] using hle
  have hN : xs.length ≤ 3584 := (Int32.ofNat_le_ofNat hsm (by decide)).mp (show Int32.ofNat xs.length ≤ Int32.ofNat 3584 from hd)
  exact ⟨b, xs, Cond.one_arg hc (show args[0]? = some (.ref b) from hb), hx, hN, h⟩
theorem lw_comes (l : Launch) (hflags : l.flags = flags0) : Comes l x (Jvm.Cond.code x code maxLocals ret :: tables_1) room_1 (fun tb e args s => Calls_1 tb e args s ∧ rest_1 tb e args s ∧ Pre_1 tb e args s)
    (fun _ _ args s o t => lw_Q args s o t) := by
  intro p e ha hc hk s m args below hf hfit hheap happ hpre
  obtain ⟨b, xs, hP⟩ := lw_pre_spec hpre.2.2 hpre.2.1
  obtain ⟨k, o, h1, h2, h3, hQ⟩ := lw_walk l hflags b xs p e ha hc hk s m args below hf ((Spec.applies_iff_loose hf).mp happ).1 hP trivial
  exact ⟨k, o, h1, h2, h3, hQ⟩
theorem lw_frame {s t : State} {o : Outcome} {args : Array Value} (h : Framed s o t [] 601024 7293034) :
    Framed s o t (fieldLocs frame_1_writes args s ++ arrayLocs frame_1_arrays args s ++ staticLocs frame_1_statics s) 601024 7293034 := h
theorem lw_limb (L : Cond) (hL : ∀ (args : Array Value) (s t : State), L.after args s (.returned (some (.int 1))) t = true) :
    ArmFor flags0 classFile x code maxLocals ret World_1 tables_1 room_1 Calls_1 rest_1 Pre_1
      (fun tb e a s o t => postC L tb e a s o t ∧ Framed s o t (fieldLocs frame_1_writes a s ++ arrayLocs frame_1_arrays a s ++ staticLocs frame_1_statics s) 601024 7293034) := by
  intro l hflags _ _ p e ha hc hk s m args below hf hfit hheap happ hpre
  obtain ⟨k, o, h1, h2, h3, rfl, hF⟩ := lw_comes l hflags p e ha hc hk s m args below hf hfit hheap happ hpre
  exact ⟨k, _, h1, h2, h3, hL args s _, lw_frame hF⟩
theorem i_vc : Claimed_1_1 ∧ Claimed_1_2 := ⟨lw_limb limb_1_1 (fun args s t => by simp [limb_1_1, Cond.after, Cond.holds, Cond.value]), lw_limb limb_1_2 (fun args s t => Cond.after_iff.mpr (by
  first | (rw [show limb_1_2 = Cond.eq .result (.int 1) from rfl, Cond.eq_ints (x := 1) (y := 1) rfl rfl]; simp; done) | (simp [limb_1_2, Cond.value, Term.eval]; done)))⟩

