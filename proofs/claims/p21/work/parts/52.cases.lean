theorem cn_L_119 : Cond.constantLong RL 119 4294967295 ∈ TB := tb_mem 1517 (by decide +kernel) rfl
theorem mh_read : Cond.methodLink RL 48 yL_read ∈ TB := tb_mem 942 (by decide +kernel) rfl
theorem sh_read : Cond.static yL_read ∈ TB := tb_mem 943 (by decide +kernel) rfl
theorem ch_read : Cond.codeWith yL_read cL_read 4 (Option.some Jvm.ClassFile.FieldType.int) [(0, 9, 12, 13)] ∈ TB := tb_mem 944 (by decide +kernel) rfl
theorem mh_served : Cond.methodLink RL 86 yL_served ∈ TB := tb_mem 1013 (by decide +kernel) rfl
theorem sh_served : Cond.static yL_served ∈ TB := tb_mem 1014 (by decide +kernel) rfl
theorem ch_served : Cond.codeWith yL_served cL_served 5 (Option.some Jvm.ClassFile.FieldType.int) [(0, 10, 13, 13)] ∈ TB := tb_mem 1015 (by decide +kernel) rfl
theorem mh_word : Cond.methodLink RL 142 yL_word ∈ TB := tb_mem 1029 (by decide +kernel) rfl
theorem sh_word : Cond.static yL_word ∈ TB := tb_mem 1030 (by decide +kernel) rfl
theorem ch_word : Cond.codeWith yL_word cL_word 5 (Option.some Jvm.ClassFile.FieldType.int) [(0, 10, 13, 13)] ∈ TB := tb_mem 1031 (by decide +kernel) rfl
set_option maxHeartbeats 4000000 in
set_option maxRecDepth 100000 in
theorem lc_0 {p : Program} {l : Launch} {e : Env} {s : State} {m : MethodId} {below : List Frame} {meth : Method} {c : Code} {g : Gs} {b L ax am ao kk : Nat} {xs : Nat → Int32} (C : CallFix p m c cL_law 7 s #[Value.ref b] TB RL) (hX : va_X b L xs s s.heap) (hbl : b < s.heap.size) (hgb : gb g = s.heap.size) (hx : Is g ax 8) (hm : Is g am 9) (ho : Is g ao 43) (hls : l.stackTraces = false) {y4 : Int32} (hk : kk ≤ 512) (hy0 : 0 ≤ y4.toInt) (hy1 : y4.toInt + 7 ≤ L) (hL : L ≤ 3584)
    (K : ∀ (I : Ms) (J : Js) (H : Heap) (locs : List Loc) (ls : Array Slot), Lw g am I J → Mm g s I J H locs → lv_has ls 7 [(4, .int y4), (0, .ref b), (1, .ref ax), (2, .ref am), (3, .ref ao)] → W p l e room_1 s m #[Value.ref b] below meth c H locs (200 + kk + 1) (12000 + 6 * kk + 6) (lw_Z below #[Value.ref b] s) (F0 m 1239 ls []))
    {I : Ms} {J : Js} {H : Heap} {locs : List Loc} {ls : Array Slot} (hLw : Lw g am I J) (M : Mm g s I J H locs) (hl : lv_has ls 7 [(4, .int y4), (0, .ref b), (1, .ref ax), (2, .ref am), (3, .ref ao)]) : W p l e room_1 s m #[Value.ref b] below meth c H locs (200 + kk) (12000 + 6 * kk) (lw_Z below #[Value.ref b] s) (F0 m 184 ls []) := by
  have hS := is_ref M hm 0 28 rfl rfl
  have hcs : 200 + kk ≤ room_1.cells ∧ 12000 + 6 * kk ≤ room_1.slots := ⟨by show 200 + kk ≤ 601024; omega, by show 12000 + 6 * kk ≤ 7293034; omega⟩
  have hcs2 : 200 + kk + 1 ≤ room_1.cells ∧ 12000 + 6 * kk + 6 ≤ room_1.slots := ⟨by show 200 + kk + 1 ≤ 601024; omega, by show 12000 + 6 * kk + 6 ≤ 7293034; omega⟩
  have hw : Wf g := M.2.2.2.2.2.1
  refine lv_aload_n C.1 C.2.1 dL_law_184 rfl (lv_at hl 2 rfl) ?_
  refine lv_aload_n C.1 C.2.1 dL_law_185 rfl (lv_at hl 1 rfl) ?_
  refine lv_iload C.1 C.2.1 dL_law_186 (lv_at hl 0 rfl) ?_
  refine lv_iconst (v := 1) C.1 C.2.1 dL_law_188 (by decide) ?_
  refine n_iadd C (Y := 1) dL_law_189 rfl rfl (by omega) (by omega) (fun v1 ev1 => ?_)
  refine s_ld C M hX hbl hgb ev1 (by omega) (by omega) dL_law_190 ?_
  refine lv_aload_n C.1 C.2.1 dL_law_191 rfl (lv_at hl 1 rfl) ?_
  refine lv_iload C.1 C.2.1 dL_law_192 (lv_at hl 0 rfl) ?_
  refine lv_iconst (v := 2) C.1 C.2.1 dL_law_194 (by decide) ?_
  refine n_iadd C (Y := 2) dL_law_195 rfl rfl (by omega) (by omega) (fun v2 ev2 => ?_)
  refine s_ld C M hX hbl hgb ev2 (by omega) (by omega) dL_law_196 ?_
  refine k_PM C M hx (by decide) rfl (ct_X10_make l g I J ax (xs (y4.toInt + 1).toNat) (xs (y4.toInt + 2).toNat) hx hLw.1) (cw_up (cw_L_26 (D := 60) C.2.2.2.2 (by decide)) (Nat.le_of_ble_eq_true rfl) (Nat.le_of_ble_eq_true rfl)) rfl hl.1 rfl (Nat.le_of_ble_eq_true rfl) dL_law_197 hcs (fun r3 I4 J5 H locs F6 hp7 M => ?_)
  obtain ⟨ej, hp7⟩ := hp7
  have mk1 := hp7.1
  have hLw : Lw g am I4 J5 := ⟨hp7.2, (dr_eq (congrArg Prod.fst ej) hLw.2.1), (jm_fr hS F6 (by decide) hLw.2.2.1), (im_fr hw hm F6 (by decide) hLw.2.2.2)⟩
  refine lv_pop C.1 C.2.1 dL_law_200 rfl ?_
  refine lv_aload_n C.1 C.2.1 dL_law_201 rfl (lv_at hl 3 rfl) ?_
  refine lv_aload_n C.1 C.2.1 dL_law_202 rfl (lv_at hl 1 rfl) ?_
  refine lv_iload C.1 C.2.1 dL_law_203 (lv_at hl 0 rfl) ?_
  refine lv_iconst (v := 1) C.1 C.2.1 dL_law_205 (by decide) ?_
  refine n_iadd C (Y := 1) dL_law_206 rfl rfl (by omega) (by omega) (fun v8 ev8 => ?_)
  refine s_ld C M hX hbl hgb ev8 (by omega) (by omega) dL_law_207 ?_
  refine lv_aload_n C.1 C.2.1 dL_law_208 rfl (lv_at hl 1 rfl) ?_
  refine lv_iload C.1 C.2.1 dL_law_209 (lv_at hl 0 rfl) ?_
  refine lv_iconst (v := 2) C.1 C.2.1 dL_law_211 (by decide) ?_
  refine n_iadd C (Y := 2) dL_law_212 rfl rfl (by omega) (by omega) (fun v9 ev9 => ?_)
  refine s_ld C M hX hbl hgb ev9 (by omega) (by omega) dL_law_213 ?_
  refine k_PM C M hm (by decide) rfl (ct_X11_make l g I4 J5 am (xs (y4.toInt + 1).toNat) (xs (y4.toInt + 2).toNat) hm hLw.2.2.1 hLw.2.2.2) (cw_up (cw_L_29 (D := 60) C.2.2.2.2 (by decide)) (Nat.le_of_ble_eq_true rfl) (Nat.le_of_ble_eq_true rfl)) rfl hl.1 rfl (Nat.le_of_ble_eq_true rfl) dL_law_214 hcs (fun r10 I11 J12 H locs F13 hp14 M => ?_)
  obtain ⟨ej, hp14⟩ := hp14
  have ej := ej.symm
  subst ej
  have mk2 := hp14.1.1
  have hLw : Lw g am I11 J5 := ⟨(rh_fr hw M.2.2.2.2.2.2.2 F13 (by decide) hLw.1), hLw.2.1, hp14.1.2, hp14.2⟩
  refine lv_pop C.1 C.2.1 dL_law_217 rfl ?_
  refine lv_goto (tgt := 1239) C.1 C.2.1 dL_law_218 (by decide) ?_
  refine W.widen (k := 200 + kk + 1) (n := 12000 + 6 * kk + 6) (Nat.le_succ _) (Nat.le_add_right _ _) ?_
  exact K I11 J5 _ _ _ hLw M hl

set_option maxHeartbeats 4000000 in
set_option maxRecDepth 100000 in
theorem lc_1 {p : Program} {l : Launch} {e : Env} {s : State} {m : MethodId} {below : List Frame} {meth : Method} {c : Code} {g : Gs} {b L ax am ao kk : Nat} {xs : Nat → Int32} (C : CallFix p m c cL_law 7 s #[Value.ref b] TB RL) (hX : va_X b L xs s s.heap) (hbl : b < s.heap.size) (hgb : gb g = s.heap.size) (hx : Is g ax 8) (hm : Is g am 9) (ho : Is g ao 43) (hls : l.stackTraces = false) {y4 : Int32} (hk : kk ≤ 512) (hy0 : 0 ≤ y4.toInt) (hy1 : y4.toInt + 7 ≤ L) (hL : L ≤ 3584)
    (K : ∀ (I : Ms) (J : Js) (H : Heap) (locs : List Loc) (ls : Array Slot), Lw g am I J → Mm g s I J H locs → lv_has ls 7 [(4, .int y4), (0, .ref b), (1, .ref ax), (2, .ref am), (3, .ref ao)] → W p l e room_1 s m #[Value.ref b] below meth c H locs (200 + kk + 1) (12000 + 6 * kk + 6) (lw_Z below #[Value.ref b] s) (F0 m 1239 ls []))
    {I : Ms} {J : Js} {H : Heap} {locs : List Loc} {ls : Array Slot} (hLw : Lw g am I J) (M : Mm g s I J H locs) (hl : lv_has ls 7 [(4, .int y4), (0, .ref b), (1, .ref ax), (2, .ref am), (3, .ref ao)]) : W p l e room_1 s m #[Value.ref b] below meth c H locs (200 + kk) (12000 + 6 * kk) (lw_Z below #[Value.ref b] s) (F0 m 221 ls []) := by
  have hS := is_ref M hm 0 28 rfl rfl
  have hcs : 200 + kk ≤ room_1.cells ∧ 12000 + 6 * kk ≤ room_1.slots := ⟨by show 200 + kk ≤ 601024; omega, by show 12000 + 6 * kk ≤ 7293034; omega⟩
  have hcs2 : 200 + kk + 1 ≤ room_1.cells ∧ 12000 + 6 * kk + 6 ≤ room_1.slots := ⟨by show 200 + kk + 1 ≤ 601024; omega, by show 12000 + 6 * kk + 6 ≤ 7293034; omega⟩
  have hw : Wf g := M.2.2.2.2.2.1
  refine lv_aload_n C.1 C.2.1 dL_law_221 rfl (lv_at hl 2 rfl) ?_
  refine lv_aload_n C.1 C.2.1 dL_law_222 rfl (lv_at hl 1 rfl) ?_
  refine lv_iload C.1 C.2.1 dL_law_223 (lv_at hl 0 rfl) ?_
  refine lv_iconst (v := 1) C.1 C.2.1 dL_law_225 (by decide) ?_
  refine n_iadd C (Y := 1) dL_law_226 rfl rfl (by omega) (by omega) (fun v1 ev1 => ?_)
  refine s_ld C M hX hbl hgb ev1 (by omega) (by omega) dL_law_227 ?_
  refine lv_aload_n C.1 C.2.1 dL_law_228 rfl (lv_at hl 1 rfl) ?_
  refine lv_iload C.1 C.2.1 dL_law_229 (lv_at hl 0 rfl) ?_
  refine lv_iconst (v := 2) C.1 C.2.1 dL_law_231 (by decide) ?_
  refine n_iadd C (Y := 2) dL_law_232 rfl rfl (by omega) (by omega) (fun v2 ev2 => ?_)
  refine s_ld C M hX hbl hgb ev2 (by omega) (by omega) dL_law_233 ?_
  refine k_PM C M hx (by decide) rfl (ct_X10_set l g I J ax (xs (y4.toInt + 1).toNat) (xs (y4.toInt + 2).toNat) hx hLw.1) (cw_up (cw_L_30 (D := 60) C.2.2.2.2 (by decide)) (Nat.le_of_ble_eq_true rfl) (Nat.le_of_ble_eq_true rfl)) rfl hl.1 rfl (Nat.le_of_ble_eq_true rfl) dL_law_234 hcs (fun r3 I4 J5 H locs F6 hp7 M => ?_)
  obtain ⟨ej, hp7⟩ := hp7
  have ej := ej.symm
  subst ej
  have hLw : Lw g am I4 J := ⟨(rh_fr hw M.2.2.2.2.2.2.2 F6 (by decide) hLw.1), hLw.2.1, (jm_fr hS F6 (by decide) hLw.2.2.1), (im_fr hw hm F6 (by decide) hLw.2.2.2)⟩
  refine lv_pop C.1 C.2.1 dL_law_237 rfl ?_
  refine lv_aload_n C.1 C.2.1 dL_law_238 rfl (lv_at hl 3 rfl) ?_
  refine lv_aload_n C.1 C.2.1 dL_law_239 rfl (lv_at hl 1 rfl) ?_
  refine lv_iload C.1 C.2.1 dL_law_240 (lv_at hl 0 rfl) ?_
  refine lv_iconst (v := 1) C.1 C.2.1 dL_law_242 (by decide) ?_
  refine n_iadd C (Y := 1) dL_law_243 rfl rfl (by omega) (by omega) (fun v8 ev8 => ?_)
  refine s_ld C M hX hbl hgb ev8 (by omega) (by omega) dL_law_244 ?_
  refine lv_aload_n C.1 C.2.1 dL_law_245 rfl (lv_at hl 1 rfl) ?_
  refine lv_iload C.1 C.2.1 dL_law_246 (lv_at hl 0 rfl) ?_
  refine lv_iconst (v := 2) C.1 C.2.1 dL_law_248 (by decide) ?_
  refine n_iadd C (Y := 2) dL_law_249 rfl rfl (by omega) (by omega) (fun v9 ev9 => ?_)
  refine s_ld C M hX hbl hgb ev9 (by omega) (by omega) dL_law_250 ?_
  refine k_PM C M hm (by decide) rfl (ct_X11_set l g I4 J am (xs (y4.toInt + 1).toNat) (xs (y4.toInt + 2).toNat) hm hLw.2.2.1) (cw_up (cw_L_33 (D := 60) C.2.2.2.2 (by decide)) (Nat.le_of_ble_eq_true rfl) (Nat.le_of_ble_eq_true rfl)) rfl hl.1 rfl (Nat.le_of_ble_eq_true rfl) dL_law_251 hcs (fun r10 I11 J12 H locs F13 hp14 M => ?_)
  obtain ⟨ej, hp14⟩ := hp14
  have ej := ej.symm
  subst ej
  have hLw : Lw g am I11 J := ⟨(rh_fr hw M.2.2.2.2.2.2.2 F13 (by decide) hLw.1), hLw.2.1, hp14.1, (im_fr hw hm F13 (by decide) hLw.2.2.2)⟩
  refine lv_pop C.1 C.2.1 dL_law_254 rfl ?_
  refine lv_goto (tgt := 1239) C.1 C.2.1 dL_law_255 (by decide) ?_
  refine W.widen (k := 200 + kk + 1) (n := 12000 + 6 * kk + 6) (Nat.le_succ _) (Nat.le_add_right _ _) ?_
  exact K I11 J _ _ _ hLw M hl

set_option maxHeartbeats 4000000 in
set_option maxRecDepth 100000 in
theorem lc_2 {p : Program} {l : Launch} {e : Env} {s : State} {m : MethodId} {below : List Frame} {meth : Method} {c : Code} {g : Gs} {b L ax am ao kk : Nat} {xs : Nat → Int32} (C : CallFix p m c cL_law 7 s #[Value.ref b] TB RL) (hX : va_X b L xs s s.heap) (hbl : b < s.heap.size) (hgb : gb g = s.heap.size) (hx : Is g ax 8) (hm : Is g am 9) (ho : Is g ao 43) (hls : l.stackTraces = false) {y4 : Int32} (hk : kk ≤ 512) (hy0 : 0 ≤ y4.toInt) (hy1 : y4.toInt + 7 ≤ L) (hL : L ≤ 3584)
    (K : ∀ (I : Ms) (J : Js) (H : Heap) (locs : List Loc) (ls : Array Slot), Lw g am I J → Mm g s I J H locs → lv_has ls 7 [(4, .int y4), (0, .ref b), (1, .ref ax), (2, .ref am), (3, .ref ao)] → W p l e room_1 s m #[Value.ref b] below meth c H locs (200 + kk + 1) (12000 + 6 * kk + 6) (lw_Z below #[Value.ref b] s) (F0 m 1239 ls []))
    {I : Ms} {J : Js} {H : Heap} {locs : List Loc} {ls : Array Slot} (hLw : Lw g am I J) (M : Mm g s I J H locs) (hl : lv_has ls 7 [(4, .int y4), (0, .ref b), (1, .ref ax), (2, .ref am), (3, .ref ao)]) : W p l e room_1 s m #[Value.ref b] below meth c H locs (200 + kk) (12000 + 6 * kk) (lw_Z below #[Value.ref b] s) (F0 m 258 ls []) := by
  have hS := is_ref M hm 0 28 rfl rfl
  have hcs : 200 + kk ≤ room_1.cells ∧ 12000 + 6 * kk ≤ room_1.slots := ⟨by show 200 + kk ≤ 601024; omega, by show 12000 + 6 * kk ≤ 7293034; omega⟩
  have hcs2 : 200 + kk + 1 ≤ room_1.cells ∧ 12000 + 6 * kk + 6 ≤ room_1.slots := ⟨by show 200 + kk + 1 ≤ 601024; omega, by show 12000 + 6 * kk + 6 ≤ 7293034; omega⟩
  have hw : Wf g := M.2.2.2.2.2.1
  refine lv_aload_n C.1 C.2.1 dL_law_258 rfl (lv_at hl 2 rfl) ?_
  refine k_PM C M hx (by decide) rfl (ct_X10_grow l g I J ax hx hLw.1) (cw_up (cw_L_34 (D := 60) C.2.2.2.2 (by decide)) (Nat.le_of_ble_eq_true rfl) (Nat.le_of_ble_eq_true rfl)) rfl hl.1 rfl (Nat.le_of_ble_eq_true rfl) dL_law_259 hcs (fun r1 I2 J3 H locs F4 hp5 M => ?_)
  obtain ⟨ej, hp5⟩ := hp5
  have hLw : Lw g am I2 J3 := ⟨hp5.2, (dr_eq (congrArg Prod.fst ej) hLw.2.1), (jm_fr hS F4 (by decide) hLw.2.2.1), (im_fr hw hm F4 (by decide) hLw.2.2.2)⟩
  refine lv_pop C.1 C.2.1 dL_law_262 rfl ?_
  refine lv_aload_n C.1 C.2.1 dL_law_263 rfl (lv_at hl 3 rfl) ?_
  refine k_PM C M hm (by decide) rfl (ct_X11_grow l g I2 J3 am hm hLw.2.2.1) (cw_up (cw_L_38 (D := 60) C.2.2.2.2 (by decide)) (Nat.le_of_ble_eq_true rfl) (Nat.le_of_ble_eq_true rfl)) rfl hl.1 rfl (Nat.le_of_ble_eq_true rfl) dL_law_264 hcs (fun r6 I7 J8 H locs F9 hp10 M => ?_)
  obtain ⟨ej, hp10⟩ := hp10
  have ej := ej.symm
  subst ej
  have hLw : Lw g am I7 J3 := ⟨(rh_fr hw M.2.2.2.2.2.2.2 F9 (by decide) hLw.1), hLw.2.1, hp10.1, (im_fr hw hm F9 (by decide) hLw.2.2.2)⟩
  refine lv_pop C.1 C.2.1 dL_law_267 rfl ?_
  refine lv_goto (tgt := 1239) C.1 C.2.1 dL_law_268 (by decide) ?_
  refine W.widen (k := 200 + kk + 1) (n := 12000 + 6 * kk + 6) (Nat.le_succ _) (Nat.le_add_right _ _) ?_
  exact K I7 J3 _ _ _ hLw M hl

set_option maxHeartbeats 4000000 in
set_option maxRecDepth 100000 in
theorem lc_3 {p : Program} {l : Launch} {e : Env} {s : State} {m : MethodId} {below : List Frame} {meth : Method} {c : Code} {g : Gs} {b L ax am ao kk : Nat} {xs : Nat → Int32} (C : CallFix p m c cL_law 7 s #[Value.ref b] TB RL) (hX : va_X b L xs s s.heap) (hbl : b < s.heap.size) (hgb : gb g = s.heap.size) (hx : Is g ax 8) (hm : Is g am 9) (ho : Is g ao 43) (hls : l.stackTraces = false) {y4 : Int32} (hk : kk ≤ 512) (hy0 : 0 ≤ y4.toInt) (hy1 : y4.toInt + 7 ≤ L) (hL : L ≤ 3584)
    (K : ∀ (I : Ms) (J : Js) (H : Heap) (locs : List Loc) (ls : Array Slot), Lw g am I J → Mm g s I J H locs → lv_has ls 7 [(4, .int y4), (0, .ref b), (1, .ref ax), (2, .ref am), (3, .ref ao)] → W p l e room_1 s m #[Value.ref b] below meth c H locs (200 + kk + 1) (12000 + 6 * kk + 6) (lw_Z below #[Value.ref b] s) (F0 m 1239 ls []))
    {I : Ms} {J : Js} {H : Heap} {locs : List Loc} {ls : Array Slot} (hLw : Lw g am I J) (M : Mm g s I J H locs) (hl : lv_has ls 7 [(4, .int y4), (0, .ref b), (1, .ref ax), (2, .ref am), (3, .ref ao)]) : W p l e room_1 s m #[Value.ref b] below meth c H locs (200 + kk) (12000 + 6 * kk) (lw_Z below #[Value.ref b] s) (F0 m 271 ls []) := by
  have hS := is_ref M hm 0 28 rfl rfl
  have hcs : 200 + kk ≤ room_1.cells ∧ 12000 + 6 * kk ≤ room_1.slots := ⟨by show 200 + kk ≤ 601024; omega, by show 12000 + 6 * kk ≤ 7293034; omega⟩
  have hcs2 : 200 + kk + 1 ≤ room_1.cells ∧ 12000 + 6 * kk + 6 ≤ room_1.slots := ⟨by show 200 + kk + 1 ≤ 601024; omega, by show 12000 + 6 * kk + 6 ≤ 7293034; omega⟩
  have hw : Wf g := M.2.2.2.2.2.1
  refine lv_aload_n C.1 C.2.1 dL_law_271 rfl (lv_at hl 2 rfl) ?_
  refine lv_aload_n C.1 C.2.1 dL_law_272 rfl (lv_at hl 1 rfl) ?_
  refine lv_iload C.1 C.2.1 dL_law_273 (lv_at hl 0 rfl) ?_
  refine lv_iconst (v := 1) C.1 C.2.1 dL_law_275 (by decide) ?_
  refine n_iadd C (Y := 1) dL_law_276 rfl rfl (by omega) (by omega) (fun v1 ev1 => ?_)
  refine s_ld C M hX hbl hgb ev1 (by omega) (by omega) dL_law_277 ?_
  refine k_PM C M hx (by decide) rfl (ct_X10_steps l g I J ax (xs (y4.toInt + 1).toNat) hx hLw.1) (cw_up (cw_L_39 (D := 60) C.2.2.2.2 (by decide)) (Nat.le_of_ble_eq_true rfl) (Nat.le_of_ble_eq_true rfl)) rfl hl.1 rfl (Nat.le_of_ble_eq_true rfl) dL_law_278 hcs (fun r2 I3 J4 H locs F5 hp6 M => ?_)
  obtain ⟨ej, hp6⟩ := hp6
  have hLw : Lw g am I3 J4 := ⟨hp6.2, (dr_eq (congrArg Prod.fst ej) hLw.2.1), (jm_fr hS F5 (by decide) hLw.2.2.1), (im_fr hw hm F5 (by decide) hLw.2.2.2)⟩
  refine lv_pop C.1 C.2.1 dL_law_281 rfl ?_
  refine lv_aload_n C.1 C.2.1 dL_law_282 rfl (lv_at hl 3 rfl) ?_
  refine lv_aload_n C.1 C.2.1 dL_law_283 rfl (lv_at hl 1 rfl) ?_
  refine lv_iload C.1 C.2.1 dL_law_284 (lv_at hl 0 rfl) ?_
  refine lv_iconst (v := 1) C.1 C.2.1 dL_law_286 (by decide) ?_
  refine n_iadd C (Y := 1) dL_law_287 rfl rfl (by omega) (by omega) (fun v7 ev7 => ?_)
  refine s_ld C M hX hbl hgb ev7 (by omega) (by omega) dL_law_288 ?_
  refine k_PM C M hm (by decide) rfl (ct_X11_steps l g I3 J4 am (xs (y4.toInt + 1).toNat) hm hLw.2.2.1) (cw_up (cw_L_42 (D := 60) C.2.2.2.2 (by decide)) (Nat.le_of_ble_eq_true rfl) (Nat.le_of_ble_eq_true rfl)) rfl hl.1 rfl (Nat.le_of_ble_eq_true rfl) dL_law_289 hcs (fun r8 I9 J10 H locs F11 hp12 M => ?_)
  obtain ⟨ej, hp12⟩ := hp12
  have ej := ej.symm
  subst ej
  have hLw : Lw g am I9 J4 := ⟨(rh_fr hw M.2.2.2.2.2.2.2 F11 (by decide) hLw.1), hLw.2.1, hp12.1, (im_fr hw hm F11 (by decide) hLw.2.2.2)⟩
  refine lv_pop C.1 C.2.1 dL_law_292 rfl ?_
  refine lv_goto (tgt := 1239) C.1 C.2.1 dL_law_293 (by decide) ?_
  refine W.widen (k := 200 + kk + 1) (n := 12000 + 6 * kk + 6) (Nat.le_succ _) (Nat.le_add_right _ _) ?_
  exact K I9 J4 _ _ _ hLw M hl

set_option maxHeartbeats 4000000 in
set_option maxRecDepth 100000 in
theorem lc_4 {p : Program} {l : Launch} {e : Env} {s : State} {m : MethodId} {below : List Frame} {meth : Method} {c : Code} {g : Gs} {b L ax am ao kk : Nat} {xs : Nat → Int32} (C : CallFix p m c cL_law 7 s #[Value.ref b] TB RL) (hX : va_X b L xs s s.heap) (hbl : b < s.heap.size) (hgb : gb g = s.heap.size) (hx : Is g ax 8) (hm : Is g am 9) (ho : Is g ao 43) (hls : l.stackTraces = false) {y4 : Int32} (hk : kk ≤ 512) (hy0 : 0 ≤ y4.toInt) (hy1 : y4.toInt + 7 ≤ L) (hL : L ≤ 3584)
    (K : ∀ (I : Ms) (J : Js) (H : Heap) (locs : List Loc) (ls : Array Slot), Lw g am I J → Mm g s I J H locs → lv_has ls 7 [(4, .int y4), (0, .ref b), (1, .ref ax), (2, .ref am), (3, .ref ao)] → W p l e room_1 s m #[Value.ref b] below meth c H locs (200 + kk + 1) (12000 + 6 * kk + 6) (lw_Z below #[Value.ref b] s) (F0 m 1239 ls []))
    {I : Ms} {J : Js} {H : Heap} {locs : List Loc} {ls : Array Slot} (hLw : Lw g am I J) (M : Mm g s I J H locs) (hl : lv_has ls 7 [(4, .int y4), (0, .ref b), (1, .ref ax), (2, .ref am), (3, .ref ao)]) : W p l e room_1 s m #[Value.ref b] below meth c H locs (200 + kk) (12000 + 6 * kk) (lw_Z below #[Value.ref b] s) (F0 m 296 ls []) := by
  have hS := is_ref M hm 0 28 rfl rfl
  have hcs : 200 + kk ≤ room_1.cells ∧ 12000 + 6 * kk ≤ room_1.slots := ⟨by show 200 + kk ≤ 601024; omega, by show 12000 + 6 * kk ≤ 7293034; omega⟩
  have hcs2 : 200 + kk + 1 ≤ room_1.cells ∧ 12000 + 6 * kk + 6 ≤ room_1.slots := ⟨by show 200 + kk + 1 ≤ 601024; omega, by show 12000 + 6 * kk + 6 ≤ 7293034; omega⟩
  have hw : Wf g := M.2.2.2.2.2.1
  refine lv_aload_n C.1 C.2.1 dL_law_296 rfl (lv_at hl 2 rfl) ?_
  refine k_PM C M hx (by decide) rfl (ct_X10_crash l g I J ax hx) (cw_up (cw_L_43 (D := 60) C.2.2.2.2 (by decide)) (Nat.le_of_ble_eq_true rfl) (Nat.le_of_ble_eq_true rfl)) rfl hl.1 rfl (Nat.le_of_ble_eq_true rfl) dL_law_297 hcs (fun r1 I2 J3 H locs F4 hp5 M => ?_)
  obtain ⟨ej, hp5⟩ := hp5
  have ej := ej.symm
  subst ej
  have hLw : Lw g am I2 J := ⟨(rh_fr hw M.2.2.2.2.2.2.2 F4 (by decide) hLw.1), hLw.2.1, (jm_fr hS F4 (by decide) hLw.2.2.1), (im_fr hw hm F4 (by decide) hLw.2.2.2)⟩
  refine lv_pop C.1 C.2.1 dL_law_300 rfl ?_
  refine lv_aload_n C.1 C.2.1 dL_law_301 rfl (lv_at hl 3 rfl) ?_
  refine k_PM C M hm (by decide) rfl (ct_X11_crash l g I2 J am hm hLw.2.2.1) (cw_up (cw_L_47 (D := 60) C.2.2.2.2 (by decide)) (Nat.le_of_ble_eq_true rfl) (Nat.le_of_ble_eq_true rfl)) rfl hl.1 rfl (Nat.le_of_ble_eq_true rfl) dL_law_302 hcs (fun r6 I7 J8 H locs F9 hp10 M => ?_)
  obtain ⟨ej, hp10⟩ := hp10
  have ej := ej.symm
  subst ej
  have hLw : Lw g am I7 J := ⟨(rh_fr hw M.2.2.2.2.2.2.2 F9 (by decide) hLw.1), hLw.2.1, hp10.1.2.2, (im_fr hw hm F9 (by decide) hLw.2.2.2)⟩
  refine lv_pop C.1 C.2.1 dL_law_305 rfl ?_
  refine lv_goto (tgt := 1239) C.1 C.2.1 dL_law_306 (by decide) ?_
  refine W.widen (k := 200 + kk + 1) (n := 12000 + 6 * kk + 6) (Nat.le_succ _) (Nat.le_add_right _ _) ?_
  exact K I7 J _ _ _ hLw M hl

set_option maxHeartbeats 4000000 in
set_option maxRecDepth 100000 in
theorem lc_5 {p : Program} {l : Launch} {e : Env} {s : State} {m : MethodId} {below : List Frame} {meth : Method} {c : Code} {g : Gs} {b L ax am ao kk : Nat} {xs : Nat → Int32} (C : CallFix p m c cL_law 7 s #[Value.ref b] TB RL) (hX : va_X b L xs s s.heap) (hbl : b < s.heap.size) (hgb : gb g = s.heap.size) (hx : Is g ax 8) (hm : Is g am 9) (ho : Is g ao 43) (hls : l.stackTraces = false) {y4 : Int32} (hk : kk ≤ 512) (hy0 : 0 ≤ y4.toInt) (hy1 : y4.toInt + 7 ≤ L) (hL : L ≤ 3584)
    (K : ∀ (I : Ms) (J : Js) (H : Heap) (locs : List Loc) (ls : Array Slot), Lw g am I J → Mm g s I J H locs → lv_has ls 7 [(4, .int y4), (0, .ref b), (1, .ref ax), (2, .ref am), (3, .ref ao)] → W p l e room_1 s m #[Value.ref b] below meth c H locs (200 + kk + 1) (12000 + 6 * kk + 6) (lw_Z below #[Value.ref b] s) (F0 m 1239 ls []))
    {I : Ms} {J : Js} {H : Heap} {locs : List Loc} {ls : Array Slot} (hLw : Lw g am I J) (M : Mm g s I J H locs) (hl : lv_has ls 7 [(4, .int y4), (0, .ref b), (1, .ref ax), (2, .ref am), (3, .ref ao)]) : W p l e room_1 s m #[Value.ref b] below meth c H locs (200 + kk) (12000 + 6 * kk) (lw_Z below #[Value.ref b] s) (F0 m 309 ls []) := by
  have hS := is_ref M hm 0 28 rfl rfl
  have hcs : 200 + kk ≤ room_1.cells ∧ 12000 + 6 * kk ≤ room_1.slots := ⟨by show 200 + kk ≤ 601024; omega, by show 12000 + 6 * kk ≤ 7293034; omega⟩
  have hcs2 : 200 + kk + 1 ≤ room_1.cells ∧ 12000 + 6 * kk + 6 ≤ room_1.slots := ⟨by show 200 + kk + 1 ≤ 601024; omega, by show 12000 + 6 * kk + 6 ≤ 7293034; omega⟩
  have hw : Wf g := M.2.2.2.2.2.1
  refine lv_aload_n C.1 C.2.1 dL_law_309 rfl (lv_at hl 2 rfl) ?_
  refine lv_aload_n C.1 C.2.1 dL_law_310 rfl (lv_at hl 1 rfl) ?_
  refine lv_iload C.1 C.2.1 dL_law_311 (lv_at hl 0 rfl) ?_
  refine lv_iconst (v := 1) C.1 C.2.1 dL_law_313 (by decide) ?_
  refine n_iadd C (Y := 1) dL_law_314 rfl rfl (by omega) (by omega) (fun v1 ev1 => ?_)
  refine s_ld C M hX hbl hgb ev1 (by omega) (by omega) dL_law_315 ?_
  refine lv_aload_n C.1 C.2.1 dL_law_316 rfl (lv_at hl 4 rfl) ?_
  refine m_callH (n := 3) C M (ch_L_read l hls g I J ax (xs (y4.toInt + 1).toNat) ao hx ho) mh_read sh_read ini_L ch_read (by decide) ⟨(Nat.le_of_ble_eq_true rfl), (Nat.le_of_ble_eq_true rfl)⟩ rfl hl.1 rfl (Nat.le_of_ble_eq_true rfl) dL_law_317 hcs2 (fun r2 I3 H locs F4 M => ?_)
  have hLw : Lw g am I3 J := ⟨rh_fr hw M.2.2.2.2.2.2.2 F4 (by decide) hLw.1, hLw.2.1, jm_fr hS F4 (by decide) hLw.2.2.1, im_fr hw hm F4 (by decide) hLw.2.2.2⟩
  refine lv_istore (lv' := [(5, .int r2), (4, .int y4), (0, .ref b), (1, .ref ax), (2, .ref am), (3, .ref ao)]) C.1 C.2.1 dL_law_320 hl (by decide) rfl (fun ls hl => ?_)
  refine lv_aload_n C.1 C.2.1 dL_law_322 rfl (lv_at hl 4 rfl) ?_
  refine lv_aload_n C.1 C.2.1 dL_law_323 rfl (lv_at hl 2 rfl) ?_
  refine lv_iload C.1 C.2.1 dL_law_324 (lv_at hl 1 rfl) ?_
  refine lv_iconst (v := 1) C.1 C.2.1 dL_law_326 (by decide) ?_
  refine n_iadd C (Y := 1) dL_law_327 rfl rfl (by omega) (by omega) (fun v5 ev5 => ?_)
  refine s_ld C M hX hbl hgb ev5 (by omega) (by omega) dL_law_328 ?_
  refine k_PM C M hm (by decide) rfl (ct_X11_read l g I3 J am (xs (y4.toInt + 1).toNat) hm hLw.2.2.1) (cw_up (cw_L_53 (D := 60) C.2.2.2.2 (by decide)) (Nat.le_of_ble_eq_true rfl) (Nat.le_of_ble_eq_true rfl)) rfl hl.1 rfl (Nat.le_of_ble_eq_true rfl) dL_law_329 hcs2 (fun r6 I7 J8 H locs F9 hp10 M => ?_)
  obtain ⟨ej, hp10⟩ := hp10
  have ej := ej.symm
  subst ej
  have hLw : Lw g am I7 J := ⟨(rh_fr hw M.2.2.2.2.2.2.2 F9 (by decide) hLw.1), hLw.2.1, (jm_fr hS F9 (by decide) hLw.2.2.1), (im_fr hw hm F9 (by decide) hLw.2.2.2)⟩
  refine lv_istore (lv' := [(6, .int r6), (5, .int r2), (4, .int y4), (0, .ref b), (1, .ref ax), (2, .ref am), (3, .ref ao)]) C.1 C.2.1 dL_law_332 hl (by decide) rfl (fun ls hl => ?_)
  refine lv_goto (tgt := 1239) C.1 C.2.1 dL_law_334 (by decide) ?_
  exact K I7 J _ _ _ hLw M (lv_sub hl [2, 3, 4, 5, 6] rfl)

set_option maxHeartbeats 4000000 in
set_option maxRecDepth 100000 in
theorem lc_6 {p : Program} {l : Launch} {e : Env} {s : State} {m : MethodId} {below : List Frame} {meth : Method} {c : Code} {g : Gs} {b L ax am ao kk : Nat} {xs : Nat → Int32} (C : CallFix p m c cL_law 7 s #[Value.ref b] TB RL) (hX : va_X b L xs s s.heap) (hbl : b < s.heap.size) (hgb : gb g = s.heap.size) (hx : Is g ax 8) (hm : Is g am 9) (ho : Is g ao 43) (hls : l.stackTraces = false) {y4 : Int32} (hk : kk ≤ 512) (hy0 : 0 ≤ y4.toInt) (hy1 : y4.toInt + 7 ≤ L) (hL : L ≤ 3584)
    (K : ∀ (I : Ms) (J : Js) (H : Heap) (locs : List Loc) (ls : Array Slot), Lw g am I J → Mm g s I J H locs → lv_has ls 7 [(4, .int y4), (0, .ref b), (1, .ref ax), (2, .ref am), (3, .ref ao)] → W p l e room_1 s m #[Value.ref b] below meth c H locs (200 + kk + 1) (12000 + 6 * kk + 6) (lw_Z below #[Value.ref b] s) (F0 m 1239 ls []))
    {I : Ms} {J : Js} {H : Heap} {locs : List Loc} {ls : Array Slot} (hLw : Lw g am I J) (M : Mm g s I J H locs) (hl : lv_has ls 7 [(4, .int y4), (0, .ref b), (1, .ref ax), (2, .ref am), (3, .ref ao)]) : W p l e room_1 s m #[Value.ref b] below meth c H locs (200 + kk) (12000 + 6 * kk) (lw_Z below #[Value.ref b] s) (F0 m 337 ls []) := by
  have hS := is_ref M hm 0 28 rfl rfl
  have hcs : 200 + kk ≤ room_1.cells ∧ 12000 + 6 * kk ≤ room_1.slots := ⟨by show 200 + kk ≤ 601024; omega, by show 12000 + 6 * kk ≤ 7293034; omega⟩
  have hcs2 : 200 + kk + 1 ≤ room_1.cells ∧ 12000 + 6 * kk + 6 ≤ room_1.slots := ⟨by show 200 + kk + 1 ≤ 601024; omega, by show 12000 + 6 * kk + 6 ≤ 7293034; omega⟩
  have hw : Wf g := M.2.2.2.2.2.1
  refine lv_aload_n C.1 C.2.1 dL_law_337 rfl (lv_at hl 2 rfl) ?_
  refine lv_aload_n C.1 C.2.1 dL_law_338 rfl (lv_at hl 1 rfl) ?_
  refine lv_iload C.1 C.2.1 dL_law_339 (lv_at hl 0 rfl) ?_
  refine lv_iconst (v := 1) C.1 C.2.1 dL_law_341 (by decide) ?_
  refine n_iadd C (Y := 1) dL_law_342 rfl rfl (by omega) (by omega) (fun v1 ev1 => ?_)
  refine s_ld C M hX hbl hgb ev1 (by omega) (by omega) dL_law_343 ?_
  refine lv_aload_n C.1 C.2.1 dL_law_344 rfl (lv_at hl 1 rfl) ?_
  refine lv_iload C.1 C.2.1 dL_law_345 (lv_at hl 0 rfl) ?_
  refine lv_iconst (v := 2) C.1 C.2.1 dL_law_347 (by decide) ?_
  refine n_iadd C (Y := 2) dL_law_348 rfl rfl (by omega) (by omega) (fun v2 ev2 => ?_)
  refine s_ld C M hX hbl hgb ev2 (by omega) (by omega) dL_law_349 ?_
  refine k_PM C M hx (by decide) rfl (ct_X10_write l g I J ax (xs (y4.toInt + 1).toNat) (xs (y4.toInt + 2).toNat) hx) (cw_up (cw_L_54 (D := 60) C.2.2.2.2 (by decide)) (Nat.le_of_ble_eq_true rfl) (Nat.le_of_ble_eq_true rfl)) rfl hl.1 rfl (Nat.le_of_ble_eq_true rfl) dL_law_350 hcs (fun r3 I4 J5 H locs F6 hp7 M => ?_)
  obtain ⟨ej, hp7⟩ := hp7
  have ej := ej.symm
  subst ej
  have hLw : Lw g am I4 J := ⟨(rh_fr hw M.2.2.2.2.2.2.2 F6 (by decide) hLw.1), hLw.2.1, (jm_fr hS F6 (by decide) hLw.2.2.1), (im_fr hw hm F6 (by decide) hLw.2.2.2)⟩
  refine lv_pop C.1 C.2.1 dL_law_353 rfl ?_
  refine lv_aload_n C.1 C.2.1 dL_law_354 rfl (lv_at hl 3 rfl) ?_
  refine lv_aload_n C.1 C.2.1 dL_law_355 rfl (lv_at hl 1 rfl) ?_
  refine lv_iload C.1 C.2.1 dL_law_356 (lv_at hl 0 rfl) ?_
  refine lv_iconst (v := 1) C.1 C.2.1 dL_law_358 (by decide) ?_
  refine n_iadd C (Y := 1) dL_law_359 rfl rfl (by omega) (by omega) (fun v8 ev8 => ?_)
  refine s_ld C M hX hbl hgb ev8 (by omega) (by omega) dL_law_360 ?_
  refine lv_aload_n C.1 C.2.1 dL_law_361 rfl (lv_at hl 1 rfl) ?_
  refine lv_iload C.1 C.2.1 dL_law_362 (lv_at hl 0 rfl) ?_
  refine lv_iconst (v := 2) C.1 C.2.1 dL_law_364 (by decide) ?_
  refine n_iadd C (Y := 2) dL_law_365 rfl rfl (by omega) (by omega) (fun v9 ev9 => ?_)
  refine s_ld C M hX hbl hgb ev9 (by omega) (by omega) dL_law_366 ?_
  refine k_PM C M hm (by decide) rfl (ct_X11_write l g I4 J am (xs (y4.toInt + 1).toNat) (xs (y4.toInt + 2).toNat) hm hLw.2.2.1) (cw_up (cw_L_57 (D := 60) C.2.2.2.2 (by decide)) (Nat.le_of_ble_eq_true rfl) (Nat.le_of_ble_eq_true rfl)) rfl hl.1 rfl (Nat.le_of_ble_eq_true rfl) dL_law_367 hcs (fun r10 I11 J12 H locs F13 hp14 M => ?_)
  obtain ⟨ej, hp14⟩ := hp14
  have ej := ej.symm
  subst ej
  have hLw : Lw g am I11 J := ⟨(rh_fr hw M.2.2.2.2.2.2.2 F13 (by decide) hLw.1), hLw.2.1, (jm_eq (hp14.2 717 (by decide)) (hp14.2 715 (by decide)) (hp14.2 716 (by decide)) (hp14.2 722 (by decide)) (hp14.2 718 (by decide)) (hp14.2 719 (by decide)) hLw.2.2.1), (im_fr hw hm F13 (by decide) hLw.2.2.2)⟩
  refine lv_pop C.1 C.2.1 dL_law_370 rfl ?_
  refine lv_goto (tgt := 1239) C.1 C.2.1 dL_law_371 (by decide) ?_
  refine W.widen (k := 200 + kk + 1) (n := 12000 + 6 * kk + 6) (Nat.le_succ _) (Nat.le_add_right _ _) ?_
  exact K I11 J _ _ _ hLw M hl

set_option maxHeartbeats 4000000 in
set_option maxRecDepth 100000 in
theorem lc_7 {p : Program} {l : Launch} {e : Env} {s : State} {m : MethodId} {below : List Frame} {meth : Method} {c : Code} {g : Gs} {b L ax am ao kk : Nat} {xs : Nat → Int32} (C : CallFix p m c cL_law 7 s #[Value.ref b] TB RL) (hX : va_X b L xs s s.heap) (hbl : b < s.heap.size) (hgb : gb g = s.heap.size) (hx : Is g ax 8) (hm : Is g am 9) (ho : Is g ao 43) (hls : l.stackTraces = false) {y4 : Int32} (hk : kk ≤ 512) (hy0 : 0 ≤ y4.toInt) (hy1 : y4.toInt + 7 ≤ L) (hL : L ≤ 3584)
    (K : ∀ (I : Ms) (J : Js) (H : Heap) (locs : List Loc) (ls : Array Slot), Lw g am I J → Mm g s I J H locs → lv_has ls 7 [(4, .int y4), (0, .ref b), (1, .ref ax), (2, .ref am), (3, .ref ao)] → W p l e room_1 s m #[Value.ref b] below meth c H locs (200 + kk + 1) (12000 + 6 * kk + 6) (lw_Z below #[Value.ref b] s) (F0 m 1239 ls []))
    {I : Ms} {J : Js} {H : Heap} {locs : List Loc} {ls : Array Slot} (hLw : Lw g am I J) (M : Mm g s I J H locs) (hl : lv_has ls 7 [(4, .int y4), (0, .ref b), (1, .ref ax), (2, .ref am), (3, .ref ao)]) : W p l e room_1 s m #[Value.ref b] below meth c H locs (200 + kk) (12000 + 6 * kk) (lw_Z below #[Value.ref b] s) (F0 m 374 ls []) := by
  have hS := is_ref M hm 0 28 rfl rfl
  have hcs : 200 + kk ≤ room_1.cells ∧ 12000 + 6 * kk ≤ room_1.slots := ⟨by show 200 + kk ≤ 601024; omega, by show 12000 + 6 * kk ≤ 7293034; omega⟩
  have hcs2 : 200 + kk + 1 ≤ room_1.cells ∧ 12000 + 6 * kk + 6 ≤ room_1.slots := ⟨by show 200 + kk + 1 ≤ 601024; omega, by show 12000 + 6 * kk + 6 ≤ 7293034; omega⟩
  have hw : Wf g := M.2.2.2.2.2.1
  refine lv_aload_n C.1 C.2.1 dL_law_374 rfl (lv_at hl 2 rfl) ?_
  refine lv_aload_n C.1 C.2.1 dL_law_375 rfl (lv_at hl 1 rfl) ?_
  refine lv_iload C.1 C.2.1 dL_law_376 (lv_at hl 0 rfl) ?_
  refine lv_iconst (v := 1) C.1 C.2.1 dL_law_378 (by decide) ?_
  refine n_iadd C (Y := 1) dL_law_379 rfl rfl (by omega) (by omega) (fun v1 ev1 => ?_)
  refine s_ld C M hX hbl hgb ev1 (by omega) (by omega) dL_law_380 ?_
  refine lv_aload_n C.1 C.2.1 dL_law_381 rfl (lv_at hl 1 rfl) ?_
  refine lv_iload C.1 C.2.1 dL_law_382 (lv_at hl 0 rfl) ?_
  refine lv_iconst (v := 2) C.1 C.2.1 dL_law_384 (by decide) ?_
  refine n_iadd C (Y := 2) dL_law_385 rfl rfl (by omega) (by omega) (fun v2 ev2 => ?_)
  refine s_ld C M hX hbl hgb ev2 (by omega) (by omega) dL_law_386 ?_
  refine lv_aload_n C.1 C.2.1 dL_law_387 rfl (lv_at hl 1 rfl) ?_
  refine lv_iload C.1 C.2.1 dL_law_388 (lv_at hl 0 rfl) ?_
  refine lv_iconst (v := 3) C.1 C.2.1 dL_law_390 (by decide) ?_
  refine n_iadd C (Y := 3) dL_law_391 rfl rfl (by omega) (by omega) (fun v3 ev3 => ?_)
  refine s_ld C M hX hbl hgb ev3 (by omega) (by omega) dL_law_392 ?_
  refine k_PM C M hx (by decide) rfl (ct_X10_fill l g I J ax (xs (y4.toInt + 1).toNat) (xs (y4.toInt + 2).toNat) (xs (y4.toInt + 3).toNat) hx) (cw_up (cw_L_58 (D := 60) C.2.2.2.2 (by decide)) (Nat.le_of_ble_eq_true rfl) (Nat.le_of_ble_eq_true rfl)) rfl hl.1 rfl (Nat.le_of_ble_eq_true rfl) dL_law_393 hcs (fun r4 I5 J6 H locs F7 hp8 M => ?_)
  obtain ⟨ej, hp8⟩ := hp8
  have ej := ej.symm
  subst ej
  have hLw : Lw g am I5 J := ⟨(rh_fr hw M.2.2.2.2.2.2.2 F7 (by decide) hLw.1), hLw.2.1, (jm_fr hS F7 (by decide) hLw.2.2.1), (im_fr hw hm F7 (by decide) hLw.2.2.2)⟩
  refine lv_pop C.1 C.2.1 dL_law_396 rfl ?_
  refine lv_aload_n C.1 C.2.1 dL_law_397 rfl (lv_at hl 3 rfl) ?_
  refine lv_aload_n C.1 C.2.1 dL_law_398 rfl (lv_at hl 1 rfl) ?_
  refine lv_iload C.1 C.2.1 dL_law_399 (lv_at hl 0 rfl) ?_
  refine lv_iconst (v := 1) C.1 C.2.1 dL_law_401 (by decide) ?_
  refine n_iadd C (Y := 1) dL_law_402 rfl rfl (by omega) (by omega) (fun v9 ev9 => ?_)
  refine s_ld C M hX hbl hgb ev9 (by omega) (by omega) dL_law_403 ?_
  refine lv_aload_n C.1 C.2.1 dL_law_404 rfl (lv_at hl 1 rfl) ?_
  refine lv_iload C.1 C.2.1 dL_law_405 (lv_at hl 0 rfl) ?_
  refine lv_iconst (v := 2) C.1 C.2.1 dL_law_407 (by decide) ?_
  refine n_iadd C (Y := 2) dL_law_408 rfl rfl (by omega) (by omega) (fun v10 ev10 => ?_)
  refine s_ld C M hX hbl hgb ev10 (by omega) (by omega) dL_law_409 ?_
  refine lv_aload_n C.1 C.2.1 dL_law_410 rfl (lv_at hl 1 rfl) ?_
  refine lv_iload C.1 C.2.1 dL_law_411 (lv_at hl 0 rfl) ?_
  refine lv_iconst (v := 3) C.1 C.2.1 dL_law_413 (by decide) ?_
  refine n_iadd C (Y := 3) dL_law_414 rfl rfl (by omega) (by omega) (fun v11 ev11 => ?_)
  refine s_ld C M hX hbl hgb ev11 (by omega) (by omega) dL_law_415 ?_
  refine k_PM C M hm (by decide) rfl (ct_X11_fill l g I5 J am (xs (y4.toInt + 1).toNat) (xs (y4.toInt + 2).toNat) (xs (y4.toInt + 3).toNat) hm hLw.2.2.1) (cw_up (cw_L_62 (D := 60) C.2.2.2.2 (by decide)) (Nat.le_of_ble_eq_true rfl) (Nat.le_of_ble_eq_true rfl)) rfl hl.1 rfl (Nat.le_of_ble_eq_true rfl) dL_law_416 hcs (fun r12 I13 J14 H locs F15 hp16 M => ?_)
  obtain ⟨ej, hp16⟩ := hp16
  have ej := ej.symm
  subst ej
  have hLw : Lw g am I13 J := ⟨(rh_fr hw M.2.2.2.2.2.2.2 F15 (by decide) hLw.1), hLw.2.1, (jm_eq (hp16.2 717 (by decide)) (hp16.2 715 (by decide)) (hp16.2 716 (by decide)) (hp16.2 722 (by decide)) (hp16.2 718 (by decide)) (hp16.2 719 (by decide)) hLw.2.2.1), (im_fr hw hm F15 (by decide) hLw.2.2.2)⟩
  refine lv_pop C.1 C.2.1 dL_law_419 rfl ?_
  refine lv_goto (tgt := 1239) C.1 C.2.1 dL_law_420 (by decide) ?_
  refine W.widen (k := 200 + kk + 1) (n := 12000 + 6 * kk + 6) (Nat.le_succ _) (Nat.le_add_right _ _) ?_
  exact K I13 J _ _ _ hLw M hl

set_option maxHeartbeats 4000000 in
set_option maxRecDepth 100000 in
theorem lc_8 {p : Program} {l : Launch} {e : Env} {s : State} {m : MethodId} {below : List Frame} {meth : Method} {c : Code} {g : Gs} {b L ax am ao kk : Nat} {xs : Nat → Int32} (C : CallFix p m c cL_law 7 s #[Value.ref b] TB RL) (hX : va_X b L xs s s.heap) (hbl : b < s.heap.size) (hgb : gb g = s.heap.size) (hx : Is g ax 8) (hm : Is g am 9) (ho : Is g ao 43) (hls : l.stackTraces = false) {y4 : Int32} (hk : kk ≤ 512) (hy0 : 0 ≤ y4.toInt) (hy1 : y4.toInt + 7 ≤ L) (hL : L ≤ 3584)
    (K : ∀ (I : Ms) (J : Js) (H : Heap) (locs : List Loc) (ls : Array Slot), Lw g am I J → Mm g s I J H locs → lv_has ls 7 [(4, .int y4), (0, .ref b), (1, .ref ax), (2, .ref am), (3, .ref ao)] → W p l e room_1 s m #[Value.ref b] below meth c H locs (200 + kk + 1) (12000 + 6 * kk + 6) (lw_Z below #[Value.ref b] s) (F0 m 1239 ls []))
    {I : Ms} {J : Js} {H : Heap} {locs : List Loc} {ls : Array Slot} (hLw : Lw g am I J) (M : Mm g s I J H locs) (hl : lv_has ls 7 [(4, .int y4), (0, .ref b), (1, .ref ax), (2, .ref am), (3, .ref ao)]) : W p l e room_1 s m #[Value.ref b] below meth c H locs (200 + kk) (12000 + 6 * kk) (lw_Z below #[Value.ref b] s) (F0 m 423 ls []) := by
  have hS := is_ref M hm 0 28 rfl rfl
  have hcs : 200 + kk ≤ room_1.cells ∧ 12000 + 6 * kk ≤ room_1.slots := ⟨by show 200 + kk ≤ 601024; omega, by show 12000 + 6 * kk ≤ 7293034; omega⟩
  have hcs2 : 200 + kk + 1 ≤ room_1.cells ∧ 12000 + 6 * kk + 6 ≤ room_1.slots := ⟨by show 200 + kk + 1 ≤ 601024; omega, by show 12000 + 6 * kk + 6 ≤ 7293034; omega⟩
  have hw : Wf g := M.2.2.2.2.2.1
  refine lv_aload_n C.1 C.2.1 dL_law_423 rfl (lv_at hl 2 rfl) ?_
  refine lv_aload_n C.1 C.2.1 dL_law_424 rfl (lv_at hl 1 rfl) ?_
  refine lv_iload C.1 C.2.1 dL_law_425 (lv_at hl 0 rfl) ?_
  refine lv_iconst (v := 1) C.1 C.2.1 dL_law_427 (by decide) ?_
  refine n_iadd C (Y := 1) dL_law_428 rfl rfl (by omega) (by omega) (fun v1 ev1 => ?_)
  refine s_ld C M hX hbl hgb ev1 (by omega) (by omega) dL_law_429 ?_
  refine k_PM C M hx (by decide) rfl (ct_X10_lose l g I J ax (xs (y4.toInt + 1).toNat) hx) (cw_up (cw_L_63 (D := 60) C.2.2.2.2 (by decide)) (Nat.le_of_ble_eq_true rfl) (Nat.le_of_ble_eq_true rfl)) rfl hl.1 rfl (Nat.le_of_ble_eq_true rfl) dL_law_430 hcs (fun r2 I3 J4 H locs F5 hp6 M => ?_)
  obtain ⟨ej, hp6⟩ := hp6
  have ej := ej.symm
  subst ej
  have hLw : Lw g am I3 J := ⟨(rh_fr hw M.2.2.2.2.2.2.2 F5 (by decide) hLw.1), hLw.2.1, (jm_fr hS F5 (by decide) hLw.2.2.1), (im_fr hw hm F5 (by decide) hLw.2.2.2)⟩
  refine lv_pop C.1 C.2.1 dL_law_433 rfl ?_
  refine lv_aload_n C.1 C.2.1 dL_law_434 rfl (lv_at hl 3 rfl) ?_
  refine lv_aload_n C.1 C.2.1 dL_law_435 rfl (lv_at hl 1 rfl) ?_
  refine lv_iload C.1 C.2.1 dL_law_436 (lv_at hl 0 rfl) ?_
  refine lv_iconst (v := 1) C.1 C.2.1 dL_law_438 (by decide) ?_
  refine n_iadd C (Y := 1) dL_law_439 rfl rfl (by omega) (by omega) (fun v7 ev7 => ?_)
  refine s_ld C M hX hbl hgb ev7 (by omega) (by omega) dL_law_440 ?_
  refine k_PM C M hm (by decide) rfl (ct_X11_lose l g I3 J am (xs (y4.toInt + 1).toNat) hm hLw.2.2.1) (cw_up (cw_L_67 (D := 60) C.2.2.2.2 (by decide)) (Nat.le_of_ble_eq_true rfl) (Nat.le_of_ble_eq_true rfl)) rfl hl.1 rfl (Nat.le_of_ble_eq_true rfl) dL_law_441 hcs (fun r8 I9 J10 H locs F11 hp12 M => ?_)
  obtain ⟨ej, hp12⟩ := hp12
  have ej := ej.symm
  subst ej
  have hLw : Lw g am I9 J := ⟨(rh_fr hw M.2.2.2.2.2.2.2 F11 (by decide) hLw.1), hLw.2.1, (jm_eq (hp12.2 717 (by decide) (by decide)) (hp12.2 715 (by decide) (by decide)) (hp12.2 716 (by decide) (by decide)) (hp12.2 722 (by decide) (by decide)) (hp12.2 718 (by decide) (by decide)) (hp12.2 719 (by decide) (by decide)) hLw.2.2.1), (im_fr hw hm F11 (by decide) hLw.2.2.2)⟩
  refine lv_pop C.1 C.2.1 dL_law_444 rfl ?_
  refine lv_goto (tgt := 1239) C.1 C.2.1 dL_law_445 (by decide) ?_
  refine W.widen (k := 200 + kk + 1) (n := 12000 + 6 * kk + 6) (Nat.le_succ _) (Nat.le_add_right _ _) ?_
  exact K I9 J _ _ _ hLw M hl

set_option maxHeartbeats 4000000 in
set_option maxRecDepth 100000 in
theorem lc_9 {p : Program} {l : Launch} {e : Env} {s : State} {m : MethodId} {below : List Frame} {meth : Method} {c : Code} {g : Gs} {b L ax am ao kk : Nat} {xs : Nat → Int32} (C : CallFix p m c cL_law 7 s #[Value.ref b] TB RL) (hX : va_X b L xs s s.heap) (hbl : b < s.heap.size) (hgb : gb g = s.heap.size) (hx : Is g ax 8) (hm : Is g am 9) (ho : Is g ao 43) (hls : l.stackTraces = false) {y4 : Int32} (hk : kk ≤ 512) (hy0 : 0 ≤ y4.toInt) (hy1 : y4.toInt + 7 ≤ L) (hL : L ≤ 3584)
    (K : ∀ (I : Ms) (J : Js) (H : Heap) (locs : List Loc) (ls : Array Slot), Lw g am I J → Mm g s I J H locs → lv_has ls 7 [(4, .int y4), (0, .ref b), (1, .ref ax), (2, .ref am), (3, .ref ao)] → W p l e room_1 s m #[Value.ref b] below meth c H locs (200 + kk + 1) (12000 + 6 * kk + 6) (lw_Z below #[Value.ref b] s) (F0 m 1239 ls []))
    {I : Ms} {J : Js} {H : Heap} {locs : List Loc} {ls : Array Slot} (hLw : Lw g am I J) (M : Mm g s I J H locs) (hl : lv_has ls 7 [(4, .int y4), (0, .ref b), (1, .ref ax), (2, .ref am), (3, .ref ao)]) : W p l e room_1 s m #[Value.ref b] below meth c H locs (200 + kk) (12000 + 6 * kk) (lw_Z below #[Value.ref b] s) (F0 m 448 ls []) := by
  have hS := is_ref M hm 0 28 rfl rfl
  have hcs : 200 + kk ≤ room_1.cells ∧ 12000 + 6 * kk ≤ room_1.slots := ⟨by show 200 + kk ≤ 601024; omega, by show 12000 + 6 * kk ≤ 7293034; omega⟩
  have hcs2 : 200 + kk + 1 ≤ room_1.cells ∧ 12000 + 6 * kk + 6 ≤ room_1.slots := ⟨by show 200 + kk + 1 ≤ 601024; omega, by show 12000 + 6 * kk + 6 ≤ 7293034; omega⟩
  have hw : Wf g := M.2.2.2.2.2.1
  refine lv_aload_n C.1 C.2.1 dL_law_448 rfl (lv_at hl 2 rfl) ?_
  refine k_PM C M hx (by decide) rfl (ct_X10_replace l g I J ax hx) (cw_up (cw_L_68 (D := 60) C.2.2.2.2 (by decide)) (Nat.le_of_ble_eq_true rfl) (Nat.le_of_ble_eq_true rfl)) rfl hl.1 rfl (Nat.le_of_ble_eq_true rfl) dL_law_449 hcs (fun r1 I2 J3 H locs F4 hp5 M => ?_)
  obtain ⟨ej, hp5⟩ := hp5
  have ej := ej.symm
  subst ej
  have hLw : Lw g am I2 J := ⟨(rh_fr hw M.2.2.2.2.2.2.2 F4 (by decide) hLw.1), hLw.2.1, (jm_fr hS F4 (by decide) hLw.2.2.1), (im_fr hw hm F4 (by decide) hLw.2.2.2)⟩
  refine lv_pop C.1 C.2.1 dL_law_452 rfl ?_
  refine lv_aload_n C.1 C.2.1 dL_law_453 rfl (lv_at hl 3 rfl) ?_
  refine k_PM C M hm (by decide) rfl (ct_X11_replace l g I2 J am hm hLw.2.2.1) (cw_up (cw_L_71 (D := 60) C.2.2.2.2 (by decide)) (Nat.le_of_ble_eq_true rfl) (Nat.le_of_ble_eq_true rfl)) rfl hl.1 rfl (Nat.le_of_ble_eq_true rfl) dL_law_454 hcs (fun r6 I7 J8 H locs F9 hp10 M => ?_)
  obtain ⟨ej, hp10⟩ := hp10
  have ej := ej.symm
  subst ej
  have hLw : Lw g am I7 J := ⟨(rh_fr hw M.2.2.2.2.2.2.2 F9 (by decide) hLw.1), hLw.2.1, (jm_eq (hp10.2 717 (by decide) (by decide)) (hp10.2 715 (by decide) (by decide)) (hp10.2 716 (by decide) (by decide)) (hp10.2 722 (by decide) (by decide)) (hp10.2 718 (by decide) (by decide)) (hp10.2 719 (by decide) (by decide)) hLw.2.2.1), (im_fr hw hm F9 (by decide) hLw.2.2.2)⟩
  refine lv_pop C.1 C.2.1 dL_law_457 rfl ?_
  refine lv_goto (tgt := 1239) C.1 C.2.1 dL_law_458 (by decide) ?_
  refine W.widen (k := 200 + kk + 1) (n := 12000 + 6 * kk + 6) (Nat.le_succ _) (Nat.le_add_right _ _) ?_
  exact K I7 J _ _ _ hLw M hl

set_option maxHeartbeats 4000000 in
set_option maxRecDepth 100000 in
theorem lc_10 {p : Program} {l : Launch} {e : Env} {s : State} {m : MethodId} {below : List Frame} {meth : Method} {c : Code} {g : Gs} {b L ax am ao kk : Nat} {xs : Nat → Int32} (C : CallFix p m c cL_law 7 s #[Value.ref b] TB RL) (hX : va_X b L xs s s.heap) (hbl : b < s.heap.size) (hgb : gb g = s.heap.size) (hx : Is g ax 8) (hm : Is g am 9) (ho : Is g ao 43) (hls : l.stackTraces = false) {y4 : Int32} (hk : kk ≤ 512) (hy0 : 0 ≤ y4.toInt) (hy1 : y4.toInt + 7 ≤ L) (hL : L ≤ 3584)
    (K : ∀ (I : Ms) (J : Js) (H : Heap) (locs : List Loc) (ls : Array Slot), Lw g am I J → Mm g s I J H locs → lv_has ls 7 [(4, .int y4), (0, .ref b), (1, .ref ax), (2, .ref am), (3, .ref ao)] → W p l e room_1 s m #[Value.ref b] below meth c H locs (200 + kk + 1) (12000 + 6 * kk + 6) (lw_Z below #[Value.ref b] s) (F0 m 1239 ls []))
    {I : Ms} {J : Js} {H : Heap} {locs : List Loc} {ls : Array Slot} (hLw : Lw g am I J) (M : Mm g s I J H locs) (hl : lv_has ls 7 [(4, .int y4), (0, .ref b), (1, .ref ax), (2, .ref am), (3, .ref ao)]) : W p l e room_1 s m #[Value.ref b] below meth c H locs (200 + kk) (12000 + 6 * kk) (lw_Z below #[Value.ref b] s) (F0 m 461 ls []) := by
  have hS := is_ref M hm 0 28 rfl rfl
  have hcs : 200 + kk ≤ room_1.cells ∧ 12000 + 6 * kk ≤ room_1.slots := ⟨by show 200 + kk ≤ 601024; omega, by show 12000 + 6 * kk ≤ 7293034; omega⟩
  have hcs2 : 200 + kk + 1 ≤ room_1.cells ∧ 12000 + 6 * kk + 6 ≤ room_1.slots := ⟨by show 200 + kk + 1 ≤ 601024; omega, by show 12000 + 6 * kk + 6 ≤ 7293034; omega⟩
  have hw : Wf g := M.2.2.2.2.2.1
  refine lv_aload_n C.1 C.2.1 dL_law_461 rfl (lv_at hl 2 rfl) ?_
  refine lv_aload_n C.1 C.2.1 dL_law_462 rfl (lv_at hl 1 rfl) ?_
  refine lv_iload C.1 C.2.1 dL_law_463 (lv_at hl 0 rfl) ?_
  refine lv_iconst (v := 1) C.1 C.2.1 dL_law_465 (by decide) ?_
  refine n_iadd C (Y := 1) dL_law_466 rfl rfl (by omega) (by omega) (fun v1 ev1 => ?_)
  refine s_ld C M hX hbl hgb ev1 (by omega) (by omega) dL_law_467 ?_
  refine lv_aload_n C.1 C.2.1 dL_law_468 rfl (lv_at hl 1 rfl) ?_
  refine lv_iload C.1 C.2.1 dL_law_469 (lv_at hl 0 rfl) ?_
  refine lv_iconst (v := 2) C.1 C.2.1 dL_law_471 (by decide) ?_
  refine n_iadd C (Y := 2) dL_law_472 rfl rfl (by omega) (by omega) (fun v2 ev2 => ?_)
  refine s_ld C M hX hbl hgb ev2 (by omega) (by omega) dL_law_473 ?_
  refine k_PM C M hx (by decide) rfl (ct_X10_bad l g I J ax (xs (y4.toInt + 1).toNat) (xs (y4.toInt + 2).toNat) hx) (cw_up (cw_L_72 (D := 60) C.2.2.2.2 (by decide)) (Nat.le_of_ble_eq_true rfl) (Nat.le_of_ble_eq_true rfl)) rfl hl.1 rfl (Nat.le_of_ble_eq_true rfl) dL_law_474 hcs (fun r3 I4 J5 H locs F6 hp7 M => ?_)
  obtain ⟨ej, hp7⟩ := hp7
  have ej := ej.symm
  subst ej
  have hLw : Lw g am I4 J := ⟨(rh_fr hw M.2.2.2.2.2.2.2 F6 (by decide) hLw.1), hLw.2.1, (jm_fr hS F6 (by decide) hLw.2.2.1), (im_fr hw hm F6 (by decide) hLw.2.2.2)⟩
  refine lv_pop C.1 C.2.1 dL_law_477 rfl ?_
  refine lv_aload_n C.1 C.2.1 dL_law_478 rfl (lv_at hl 3 rfl) ?_
  refine lv_aload_n C.1 C.2.1 dL_law_479 rfl (lv_at hl 1 rfl) ?_
  refine lv_iload C.1 C.2.1 dL_law_480 (lv_at hl 0 rfl) ?_
  refine lv_iconst (v := 1) C.1 C.2.1 dL_law_482 (by decide) ?_
  refine n_iadd C (Y := 1) dL_law_483 rfl rfl (by omega) (by omega) (fun v8 ev8 => ?_)
  refine s_ld C M hX hbl hgb ev8 (by omega) (by omega) dL_law_484 ?_
  refine lv_aload_n C.1 C.2.1 dL_law_485 rfl (lv_at hl 1 rfl) ?_
  refine lv_iload C.1 C.2.1 dL_law_486 (lv_at hl 0 rfl) ?_
  refine lv_iconst (v := 2) C.1 C.2.1 dL_law_488 (by decide) ?_
  refine n_iadd C (Y := 2) dL_law_489 rfl rfl (by omega) (by omega) (fun v9 ev9 => ?_)
  refine s_ld C M hX hbl hgb ev9 (by omega) (by omega) dL_law_490 ?_
  refine k_PM C M hm (by decide) rfl (ct_X11_bad l g I4 J am (xs (y4.toInt + 1).toNat) (xs (y4.toInt + 2).toNat) hm) (cw_up (cw_L_76 (D := 60) C.2.2.2.2 (by decide)) (Nat.le_of_ble_eq_true rfl) (Nat.le_of_ble_eq_true rfl)) rfl hl.1 rfl (Nat.le_of_ble_eq_true rfl) dL_law_491 hcs (fun r10 I11 J12 H locs F13 hp14 M => ?_)
  obtain ⟨ej, hp14⟩ := hp14
  have ej := ej.symm
  subst ej
  have hLw : Lw g am I11 J := ⟨(rh_fr hw M.2.2.2.2.2.2.2 F13 (by decide) hLw.1), hLw.2.1, (jm_eq (hp14.2 717 (by decide)) (hp14.2 715 (by decide)) (hp14.2 716 (by decide)) (hp14.2 722 (by decide)) (hp14.2 718 (by decide)) (hp14.2 719 (by decide)) hLw.2.2.1), (im_fr hw hm F13 (by decide) hLw.2.2.2)⟩
  refine lv_pop C.1 C.2.1 dL_law_494 rfl ?_
  refine lv_goto (tgt := 1239) C.1 C.2.1 dL_law_495 (by decide) ?_
  refine W.widen (k := 200 + kk + 1) (n := 12000 + 6 * kk + 6) (Nat.le_succ _) (Nat.le_add_right _ _) ?_
  exact K I11 J _ _ _ hLw M hl

set_option maxHeartbeats 4000000 in
set_option maxRecDepth 100000 in
theorem lc_11 {p : Program} {l : Launch} {e : Env} {s : State} {m : MethodId} {below : List Frame} {meth : Method} {c : Code} {g : Gs} {b L ax am ao kk : Nat} {xs : Nat → Int32} (C : CallFix p m c cL_law 7 s #[Value.ref b] TB RL) (hX : va_X b L xs s s.heap) (hbl : b < s.heap.size) (hgb : gb g = s.heap.size) (hx : Is g ax 8) (hm : Is g am 9) (ho : Is g ao 43) (hls : l.stackTraces = false) {y4 : Int32} (hk : kk ≤ 512) (hy0 : 0 ≤ y4.toInt) (hy1 : y4.toInt + 7 ≤ L) (hL : L ≤ 3584)
    (K : ∀ (I : Ms) (J : Js) (H : Heap) (locs : List Loc) (ls : Array Slot), Lw g am I J → Mm g s I J H locs → lv_has ls 7 [(4, .int y4), (0, .ref b), (1, .ref ax), (2, .ref am), (3, .ref ao)] → W p l e room_1 s m #[Value.ref b] below meth c H locs (200 + kk + 1) (12000 + 6 * kk + 6) (lw_Z below #[Value.ref b] s) (F0 m 1239 ls []))
    {I : Ms} {J : Js} {H : Heap} {locs : List Loc} {ls : Array Slot} (hLw : Lw g am I J) (M : Mm g s I J H locs) (hl : lv_has ls 7 [(4, .int y4), (0, .ref b), (1, .ref ax), (2, .ref am), (3, .ref ao)]) : W p l e room_1 s m #[Value.ref b] below meth c H locs (200 + kk) (12000 + 6 * kk) (lw_Z below #[Value.ref b] s) (F0 m 498 ls []) := by
  have hS := is_ref M hm 0 28 rfl rfl
  have hcs : 200 + kk ≤ room_1.cells ∧ 12000 + 6 * kk ≤ room_1.slots := ⟨by show 200 + kk ≤ 601024; omega, by show 12000 + 6 * kk ≤ 7293034; omega⟩
  have hcs2 : 200 + kk + 1 ≤ room_1.cells ∧ 12000 + 6 * kk + 6 ≤ room_1.slots := ⟨by show 200 + kk + 1 ≤ 601024; omega, by show 12000 + 6 * kk + 6 ≤ 7293034; omega⟩
  have hw : Wf g := M.2.2.2.2.2.1
  refine lv_aload_n C.1 C.2.1 dL_law_498 rfl (lv_at hl 2 rfl) ?_
  refine lv_aload_n C.1 C.2.1 dL_law_499 rfl (lv_at hl 1 rfl) ?_
  refine lv_iload C.1 C.2.1 dL_law_500 (lv_at hl 0 rfl) ?_
  refine lv_iconst (v := 1) C.1 C.2.1 dL_law_502 (by decide) ?_
  refine n_iadd C (Y := 1) dL_law_503 rfl rfl (by omega) (by omega) (fun v1 ev1 => ?_)
  refine s_ld C M hX hbl hgb ev1 (by omega) (by omega) dL_law_504 ?_
  have J505 : ∀ z9 : Int32, W p l e room_1 s m #[Value.ref b] below meth c H locs (200 + kk) (12000 + 6 * kk) (lw_Z below #[Value.ref b] s) (F0 m 513 ls [.int z9, .ref ax]) := by
    intro z9
    refine lv_aload_n C.1 C.2.1 dL_law_513 rfl (lv_at hl 1 rfl) ?_
    refine lv_iload C.1 C.2.1 dL_law_514 (lv_at hl 0 rfl) ?_
    refine lv_iconst (v := 2) C.1 C.2.1 dL_law_516 (by decide) ?_
    refine n_iadd C (Y := 2) dL_law_517 rfl rfl (by omega) (by omega) (fun v2 ev2 => ?_)
    refine s_ld C M hX hbl hgb ev2 (by omega) (by omega) dL_law_518 ?_
    refine lv_aload_n C.1 C.2.1 dL_law_519 rfl (lv_at hl 1 rfl) ?_
    refine lv_iload C.1 C.2.1 dL_law_520 (lv_at hl 0 rfl) ?_
    refine lv_iconst (v := 3) C.1 C.2.1 dL_law_522 (by decide) ?_
    refine n_iadd C (Y := 3) dL_law_523 rfl rfl (by omega) (by omega) (fun v3 ev3 => ?_)
    refine s_ld C M hX hbl hgb ev3 (by omega) (by omega) dL_law_524 ?_
    refine lv_aload_n C.1 C.2.1 dL_law_525 rfl (lv_at hl 1 rfl) ?_
    refine lv_iload C.1 C.2.1 dL_law_526 (lv_at hl 0 rfl) ?_
    refine lv_iconst (v := 4) C.1 C.2.1 dL_law_528 (by decide) ?_
    refine n_iadd C (Y := 4) dL_law_529 rfl rfl (by omega) (by omega) (fun v4 ev4 => ?_)
    refine s_ld C M hX hbl hgb ev4 (by omega) (by omega) dL_law_530 ?_
    refine k_PM C M hx (by decide) rfl (ct_X10_ask l g I J ax z9 (xs (y4.toInt + 2).toNat) (xs (y4.toInt + 3).toNat) (xs (y4.toInt + 4).toNat) hx) (cw_up (cw_L_77 (D := 60) C.2.2.2.2 (by decide)) (Nat.le_of_ble_eq_true rfl) (Nat.le_of_ble_eq_true rfl)) rfl hl.1 rfl (Nat.le_of_ble_eq_true rfl) dL_law_531 hcs (fun r5 I6 J7 H locs F8 hp9 M => ?_)
    obtain ⟨ej, hp9⟩ := hp9
    have ej := ej.symm
    subst ej
    have hLw : Lw g am I6 J := ⟨(rh_fr hw M.2.2.2.2.2.2.2 F8 (by decide) hLw.1), hLw.2.1, (jm_fr hS F8 (by decide) hLw.2.2.1), (im_fr hw hm F8 (by decide) hLw.2.2.2)⟩
    refine lv_pop C.1 C.2.1 dL_law_534 rfl ?_
    refine lv_aload_n C.1 C.2.1 dL_law_535 rfl (lv_at hl 3 rfl) ?_
    refine lv_aload_n C.1 C.2.1 dL_law_536 rfl (lv_at hl 1 rfl) ?_
    refine lv_iload C.1 C.2.1 dL_law_537 (lv_at hl 0 rfl) ?_
    refine lv_iconst (v := 1) C.1 C.2.1 dL_law_539 (by decide) ?_
    refine n_iadd C (Y := 1) dL_law_540 rfl rfl (by omega) (by omega) (fun v10 ev10 => ?_)
    refine s_ld C M hX hbl hgb ev10 (by omega) (by omega) dL_law_541 ?_
    have J542 : ∀ z9 : Int32, W p l e room_1 s m #[Value.ref b] below meth c H locs (200 + kk) (12000 + 6 * kk) (lw_Z below #[Value.ref b] s) (F0 m 550 ls [.int z9, .ref am]) := by
      intro z9
      refine lv_aload_n C.1 C.2.1 dL_law_550 rfl (lv_at hl 1 rfl) ?_
      refine lv_iload C.1 C.2.1 dL_law_551 (lv_at hl 0 rfl) ?_
      refine lv_iconst (v := 2) C.1 C.2.1 dL_law_553 (by decide) ?_
      refine n_iadd C (Y := 2) dL_law_554 rfl rfl (by omega) (by omega) (fun v11 ev11 => ?_)
      refine s_ld C M hX hbl hgb ev11 (by omega) (by omega) dL_law_555 ?_
      refine lv_aload_n C.1 C.2.1 dL_law_556 rfl (lv_at hl 1 rfl) ?_
      refine lv_iload C.1 C.2.1 dL_law_557 (lv_at hl 0 rfl) ?_
      refine lv_iconst (v := 3) C.1 C.2.1 dL_law_559 (by decide) ?_
      refine n_iadd C (Y := 3) dL_law_560 rfl rfl (by omega) (by omega) (fun v12 ev12 => ?_)
      refine s_ld C M hX hbl hgb ev12 (by omega) (by omega) dL_law_561 ?_
      refine lv_aload_n C.1 C.2.1 dL_law_562 rfl (lv_at hl 1 rfl) ?_
      refine lv_iload C.1 C.2.1 dL_law_563 (lv_at hl 0 rfl) ?_
      refine lv_iconst (v := 4) C.1 C.2.1 dL_law_565 (by decide) ?_
      refine n_iadd C (Y := 4) dL_law_566 rfl rfl (by omega) (by omega) (fun v13 ev13 => ?_)
      refine s_ld C M hX hbl hgb ev13 (by omega) (by omega) dL_law_567 ?_
      refine k_PM C M hm (by decide) rfl (ct_X11_ask l g I6 J am z9 (xs (y4.toInt + 2).toNat) (xs (y4.toInt + 3).toNat) (xs (y4.toInt + 4).toNat) hm) (cw_up (cw_L_81 (D := 60) C.2.2.2.2 (by decide)) (Nat.le_of_ble_eq_true rfl) (Nat.le_of_ble_eq_true rfl)) rfl hl.1 rfl (Nat.le_of_ble_eq_true rfl) dL_law_568 hcs (fun r14 I15 J16 H locs F17 hp18 M => ?_)
      obtain ⟨ej, hp18⟩ := hp18
      have ej := ej.symm
      subst ej
      have hLw : Lw g am I15 J := ⟨(rh_fr hw M.2.2.2.2.2.2.2 F17 (by decide) hLw.1), hLw.2.1, (jm_eq (hp18.2 717 (by decide) (by decide) (by decide)) (hp18.2 715 (by decide) (by decide) (by decide)) (hp18.2 716 (by decide) (by decide) (by decide)) (hp18.2 722 (by decide) (by decide) (by decide)) (hp18.2 718 (by decide) (by decide) (by decide)) (hp18.2 719 (by decide) (by decide) (by decide)) hLw.2.2.1), (im_fr hw hm F17 (by decide) hLw.2.2.2)⟩
      refine lv_pop C.1 C.2.1 dL_law_571 rfl ?_
      refine lv_goto (tgt := 1239) C.1 C.2.1 dL_law_572 (by decide) ?_
      refine W.widen (k := 200 + kk + 1) (n := 12000 + 6 * kk + 6) (Nat.le_succ _) (Nat.le_add_right _ _) ?_
      exact K I15 J _ _ _ hLw M hl
    refine n_if_eq C (tgt := 549) dL_law_542 (by decide) rfl (fun q19 => ?_) (fun q19 => ?_)
    · refine lv_iconst (v := 0) C.1 C.2.1 dL_law_549 (by decide) ?_
      exact J542 0
    · refine lv_iconst (v := 1) C.1 C.2.1 dL_law_545 (by decide) ?_
      refine lv_goto (tgt := 550) C.1 C.2.1 dL_law_546 (by decide) ?_
      exact J542 1
  refine n_if_eq C (tgt := 512) dL_law_505 (by decide) rfl (fun q20 => ?_) (fun q20 => ?_)
  · refine lv_iconst (v := 0) C.1 C.2.1 dL_law_512 (by decide) ?_
    exact J505 0
  · refine lv_iconst (v := 1) C.1 C.2.1 dL_law_508 (by decide) ?_
    refine lv_goto (tgt := 513) C.1 C.2.1 dL_law_509 (by decide) ?_
    exact J505 1

set_option maxHeartbeats 4000000 in
set_option maxRecDepth 100000 in
theorem lc_12 {p : Program} {l : Launch} {e : Env} {s : State} {m : MethodId} {below : List Frame} {meth : Method} {c : Code} {g : Gs} {b L ax am ao kk : Nat} {xs : Nat → Int32} (C : CallFix p m c cL_law 7 s #[Value.ref b] TB RL) (hX : va_X b L xs s s.heap) (hbl : b < s.heap.size) (hgb : gb g = s.heap.size) (hx : Is g ax 8) (hm : Is g am 9) (ho : Is g ao 43) (hls : l.stackTraces = false) {y4 : Int32} (hk : kk ≤ 512) (hy0 : 0 ≤ y4.toInt) (hy1 : y4.toInt + 7 ≤ L) (hL : L ≤ 3584)
    (K : ∀ (I : Ms) (J : Js) (H : Heap) (locs : List Loc) (ls : Array Slot), Lw g am I J → Mm g s I J H locs → lv_has ls 7 [(4, .int y4), (0, .ref b), (1, .ref ax), (2, .ref am), (3, .ref ao)] → W p l e room_1 s m #[Value.ref b] below meth c H locs (200 + kk + 1) (12000 + 6 * kk + 6) (lw_Z below #[Value.ref b] s) (F0 m 1239 ls []))
    {I : Ms} {J : Js} {H : Heap} {locs : List Loc} {ls : Array Slot} (hLw : Lw g am I J) (M : Mm g s I J H locs) (hl : lv_has ls 7 [(4, .int y4), (0, .ref b), (1, .ref ax), (2, .ref am), (3, .ref ao)]) : W p l e room_1 s m #[Value.ref b] below meth c H locs (200 + kk) (12000 + 6 * kk) (lw_Z below #[Value.ref b] s) (F0 m 575 ls []) := by
  have hS := is_ref M hm 0 28 rfl rfl
  have hcs : 200 + kk ≤ room_1.cells ∧ 12000 + 6 * kk ≤ room_1.slots := ⟨by show 200 + kk ≤ 601024; omega, by show 12000 + 6 * kk ≤ 7293034; omega⟩
  have hcs2 : 200 + kk + 1 ≤ room_1.cells ∧ 12000 + 6 * kk + 6 ≤ room_1.slots := ⟨by show 200 + kk + 1 ≤ 601024; omega, by show 12000 + 6 * kk + 6 ≤ 7293034; omega⟩
  have hw : Wf g := M.2.2.2.2.2.1
  refine lv_aload_n C.1 C.2.1 dL_law_575 rfl (lv_at hl 2 rfl) ?_
  refine lv_aload_n C.1 C.2.1 dL_law_576 rfl (lv_at hl 1 rfl) ?_
  refine lv_iload C.1 C.2.1 dL_law_577 (lv_at hl 0 rfl) ?_
  refine lv_iconst (v := 1) C.1 C.2.1 dL_law_579 (by decide) ?_
  refine n_iadd C (Y := 1) dL_law_580 rfl rfl (by omega) (by omega) (fun v1 ev1 => ?_)
  refine s_ld C M hX hbl hgb ev1 (by omega) (by omega) dL_law_581 ?_
  refine k_PM C M hx (by decide) rfl (ct_X10_tick l g I J ax (xs (y4.toInt + 1).toNat) hx hLw.1) (cw_up (cw_L_82 (D := 60) C.2.2.2.2 (by decide)) (Nat.le_of_ble_eq_true rfl) (Nat.le_of_ble_eq_true rfl)) rfl hl.1 rfl (Nat.le_of_ble_eq_true rfl) dL_law_582 hcs (fun r2 I3 J4 H locs F5 hp6 M => ?_)
  obtain ⟨ej, hp6⟩ := hp6
  have hLw : Lw g am I3 J4 := ⟨hp6.2, (dr_eq (congrArg Prod.fst ej) hLw.2.1), (jm_fr hS F5 (by decide) hLw.2.2.1), (im_fr hw hm F5 (by decide) hLw.2.2.2)⟩
  refine lv_pop C.1 C.2.1 dL_law_585 rfl ?_
  refine lv_aload_n C.1 C.2.1 dL_law_586 rfl (lv_at hl 3 rfl) ?_
  refine lv_aload_n C.1 C.2.1 dL_law_587 rfl (lv_at hl 1 rfl) ?_
  refine lv_iload C.1 C.2.1 dL_law_588 (lv_at hl 0 rfl) ?_
  refine lv_iconst (v := 1) C.1 C.2.1 dL_law_590 (by decide) ?_
  refine n_iadd C (Y := 1) dL_law_591 rfl rfl (by omega) (by omega) (fun v7 ev7 => ?_)
  refine s_ld C M hX hbl hgb ev7 (by omega) (by omega) dL_law_592 ?_
  refine k_PM C M hm (by decide) rfl (ct_X11_tick l g I3 J4 am (xs (y4.toInt + 1).toNat) hm hLw.2.2.1) (cw_up (cw_L_85 (D := 60) C.2.2.2.2 (by decide)) (Nat.le_of_ble_eq_true rfl) (Nat.le_of_ble_eq_true rfl)) rfl hl.1 rfl (Nat.le_of_ble_eq_true rfl) dL_law_593 hcs (fun r8 I9 J10 H locs F11 hp12 M => ?_)
  obtain ⟨ej, hp12⟩ := hp12
  have ej := ej.symm
  subst ej
  have hLw : Lw g am I9 J4 := ⟨(rh_fr hw M.2.2.2.2.2.2.2 F11 (by decide) hLw.1), hLw.2.1, hp12.1, (im_fr hw hm F11 (by decide) hLw.2.2.2)⟩
  refine lv_pop C.1 C.2.1 dL_law_596 rfl ?_
  refine lv_goto (tgt := 1239) C.1 C.2.1 dL_law_597 (by decide) ?_
  refine W.widen (k := 200 + kk + 1) (n := 12000 + 6 * kk + 6) (Nat.le_succ _) (Nat.le_add_right _ _) ?_
  exact K I9 J4 _ _ _ hLw M hl

set_option maxHeartbeats 4000000 in
set_option maxRecDepth 100000 in
theorem lc_13 {p : Program} {l : Launch} {e : Env} {s : State} {m : MethodId} {below : List Frame} {meth : Method} {c : Code} {g : Gs} {b L ax am ao kk : Nat} {xs : Nat → Int32} (C : CallFix p m c cL_law 7 s #[Value.ref b] TB RL) (hX : va_X b L xs s s.heap) (hbl : b < s.heap.size) (hgb : gb g = s.heap.size) (hx : Is g ax 8) (hm : Is g am 9) (ho : Is g ao 43) (hls : l.stackTraces = false) {y4 : Int32} (hk : kk ≤ 512) (hy0 : 0 ≤ y4.toInt) (hy1 : y4.toInt + 7 ≤ L) (hL : L ≤ 3584)
    (K : ∀ (I : Ms) (J : Js) (H : Heap) (locs : List Loc) (ls : Array Slot), Lw g am I J → Mm g s I J H locs → lv_has ls 7 [(4, .int y4), (0, .ref b), (1, .ref ax), (2, .ref am), (3, .ref ao)] → W p l e room_1 s m #[Value.ref b] below meth c H locs (200 + kk + 1) (12000 + 6 * kk + 6) (lw_Z below #[Value.ref b] s) (F0 m 1239 ls []))
    {I : Ms} {J : Js} {H : Heap} {locs : List Loc} {ls : Array Slot} (hLw : Lw g am I J) (M : Mm g s I J H locs) (hl : lv_has ls 7 [(4, .int y4), (0, .ref b), (1, .ref ax), (2, .ref am), (3, .ref ao)]) : W p l e room_1 s m #[Value.ref b] below meth c H locs (200 + kk) (12000 + 6 * kk) (lw_Z below #[Value.ref b] s) (F0 m 600 ls []) := by
  have hS := is_ref M hm 0 28 rfl rfl
  have hcs : 200 + kk ≤ room_1.cells ∧ 12000 + 6 * kk ≤ room_1.slots := ⟨by show 200 + kk ≤ 601024; omega, by show 12000 + 6 * kk ≤ 7293034; omega⟩
  have hcs2 : 200 + kk + 1 ≤ room_1.cells ∧ 12000 + 6 * kk + 6 ≤ room_1.slots := ⟨by show 200 + kk + 1 ≤ 601024; omega, by show 12000 + 6 * kk + 6 ≤ 7293034; omega⟩
  have hw : Wf g := M.2.2.2.2.2.1
  refine lv_aload_n C.1 C.2.1 dL_law_600 rfl (lv_at hl 2 rfl) ?_
  refine lv_aload_n C.1 C.2.1 dL_law_601 rfl (lv_at hl 1 rfl) ?_
  refine lv_iload C.1 C.2.1 dL_law_602 (lv_at hl 0 rfl) ?_
  refine lv_iconst (v := 1) C.1 C.2.1 dL_law_604 (by decide) ?_
  refine n_iadd C (Y := 1) dL_law_605 rfl rfl (by omega) (by omega) (fun v1 ev1 => ?_)
  refine s_ld C M hX hbl hgb ev1 (by omega) (by omega) dL_law_606 ?_
  refine lv_aload_n C.1 C.2.1 dL_law_607 rfl (lv_at hl 1 rfl) ?_
  refine lv_iload C.1 C.2.1 dL_law_608 (lv_at hl 0 rfl) ?_
  refine lv_iconst (v := 2) C.1 C.2.1 dL_law_610 (by decide) ?_
  refine n_iadd C (Y := 2) dL_law_611 rfl rfl (by omega) (by omega) (fun v2 ev2 => ?_)
  refine s_ld C M hX hbl hgb ev2 (by omega) (by omega) dL_law_612 ?_
  refine lv_aload_n C.1 C.2.1 dL_law_613 rfl (lv_at hl 4 rfl) ?_
  refine m_callH (n := 4) C M (ch_L_served l hls g I J ax (xs (y4.toInt + 1).toNat) (xs (y4.toInt + 2).toNat) ao hx ho) mh_served sh_served ini_L ch_served (by decide) ⟨(Nat.le_of_ble_eq_true rfl), (Nat.le_of_ble_eq_true rfl)⟩ rfl hl.1 rfl (Nat.le_of_ble_eq_true rfl) dL_law_614 hcs2 (fun r3 I4 H locs F5 M => ?_)
  have hLw : Lw g am I4 J := ⟨rh_fr hw M.2.2.2.2.2.2.2 F5 (by decide) hLw.1, hLw.2.1, jm_fr hS F5 (by decide) hLw.2.2.1, im_fr hw hm F5 (by decide) hLw.2.2.2⟩
  refine lv_istore (lv' := [(5, .int r3), (4, .int y4), (0, .ref b), (1, .ref ax), (2, .ref am), (3, .ref ao)]) C.1 C.2.1 dL_law_617 hl (by decide) rfl (fun ls hl => ?_)
  refine lv_aload_n C.1 C.2.1 dL_law_619 rfl (lv_at hl 4 rfl) ?_
  refine lv_aload_n C.1 C.2.1 dL_law_620 rfl (lv_at hl 2 rfl) ?_
  refine lv_iload C.1 C.2.1 dL_law_621 (lv_at hl 1 rfl) ?_
  refine lv_iconst (v := 1) C.1 C.2.1 dL_law_623 (by decide) ?_
  refine n_iadd C (Y := 1) dL_law_624 rfl rfl (by omega) (by omega) (fun v6 ev6 => ?_)
  refine s_ld C M hX hbl hgb ev6 (by omega) (by omega) dL_law_625 ?_
  refine lv_aload_n C.1 C.2.1 dL_law_626 rfl (lv_at hl 2 rfl) ?_
  refine lv_iload C.1 C.2.1 dL_law_627 (lv_at hl 1 rfl) ?_
  refine lv_iconst (v := 2) C.1 C.2.1 dL_law_629 (by decide) ?_
  refine n_iadd C (Y := 2) dL_law_630 rfl rfl (by omega) (by omega) (fun v7 ev7 => ?_)
  refine s_ld C M hX hbl hgb ev7 (by omega) (by omega) dL_law_631 ?_
  refine k_PM C M hm (by decide) rfl (ct_X11_served l g I4 J am (xs (y4.toInt + 1).toNat) (xs (y4.toInt + 2).toNat) hm) (cw_up (cw_L_89 (D := 60) C.2.2.2.2 (by decide)) (Nat.le_of_ble_eq_true rfl) (Nat.le_of_ble_eq_true rfl)) rfl hl.1 rfl (Nat.le_of_ble_eq_true rfl) dL_law_632 hcs2 (fun r8 I9 J10 H locs F11 hp12 M => ?_)
  obtain ⟨ej, hp12⟩ := hp12
  have ej := ej.symm
  subst ej
  have hLw : Lw g am I9 J := ⟨(rh_fr hw M.2.2.2.2.2.2.2 F11 (by decide) hLw.1), hLw.2.1, (jm_fr hS F11 (by decide) hLw.2.2.1), (im_fr hw hm F11 (by decide) hLw.2.2.2)⟩
  refine lv_istore (lv' := [(6, .int r8), (5, .int r3), (4, .int y4), (0, .ref b), (1, .ref ax), (2, .ref am), (3, .ref ao)]) C.1 C.2.1 dL_law_635 hl (by decide) rfl (fun ls hl => ?_)
  refine lv_goto (tgt := 1239) C.1 C.2.1 dL_law_637 (by decide) ?_
  exact K I9 J _ _ _ hLw M (lv_sub hl [2, 3, 4, 5, 6] rfl)

set_option maxHeartbeats 4000000 in
set_option maxRecDepth 100000 in
theorem lc_14 {p : Program} {l : Launch} {e : Env} {s : State} {m : MethodId} {below : List Frame} {meth : Method} {c : Code} {g : Gs} {b L ax am ao kk : Nat} {xs : Nat → Int32} (C : CallFix p m c cL_law 7 s #[Value.ref b] TB RL) (hX : va_X b L xs s s.heap) (hbl : b < s.heap.size) (hgb : gb g = s.heap.size) (hx : Is g ax 8) (hm : Is g am 9) (ho : Is g ao 43) (hls : l.stackTraces = false) {y4 : Int32} (hk : kk ≤ 512) (hy0 : 0 ≤ y4.toInt) (hy1 : y4.toInt + 7 ≤ L) (hL : L ≤ 3584)
    (K : ∀ (I : Ms) (J : Js) (H : Heap) (locs : List Loc) (ls : Array Slot), Lw g am I J → Mm g s I J H locs → lv_has ls 7 [(4, .int y4), (0, .ref b), (1, .ref ax), (2, .ref am), (3, .ref ao)] → W p l e room_1 s m #[Value.ref b] below meth c H locs (200 + kk + 1) (12000 + 6 * kk + 6) (lw_Z below #[Value.ref b] s) (F0 m 1239 ls []))
    {I : Ms} {J : Js} {H : Heap} {locs : List Loc} {ls : Array Slot} (hLw : Lw g am I J) (M : Mm g s I J H locs) (hl : lv_has ls 7 [(4, .int y4), (0, .ref b), (1, .ref ax), (2, .ref am), (3, .ref ao)]) : W p l e room_1 s m #[Value.ref b] below meth c H locs (200 + kk) (12000 + 6 * kk) (lw_Z below #[Value.ref b] s) (F0 m 640 ls []) := by
  have hS := is_ref M hm 0 28 rfl rfl
  have hcs : 200 + kk ≤ room_1.cells ∧ 12000 + 6 * kk ≤ room_1.slots := ⟨by show 200 + kk ≤ 601024; omega, by show 12000 + 6 * kk ≤ 7293034; omega⟩
  have hcs2 : 200 + kk + 1 ≤ room_1.cells ∧ 12000 + 6 * kk + 6 ≤ room_1.slots := ⟨by show 200 + kk + 1 ≤ 601024; omega, by show 12000 + 6 * kk + 6 ≤ 7293034; omega⟩
  have hw : Wf g := M.2.2.2.2.2.1
  refine lv_aload_n C.1 C.2.1 dL_law_640 rfl (lv_at hl 2 rfl) ?_
  refine lv_aload_n C.1 C.2.1 dL_law_641 rfl (lv_at hl 1 rfl) ?_
  refine lv_iload C.1 C.2.1 dL_law_642 (lv_at hl 0 rfl) ?_
  refine lv_iconst (v := 1) C.1 C.2.1 dL_law_644 (by decide) ?_
  refine n_iadd C (Y := 1) dL_law_645 rfl rfl (by omega) (by omega) (fun v1 ev1 => ?_)
  refine s_ld C M hX hbl hgb ev1 (by omega) (by omega) dL_law_646 ?_
  refine lv_aload_n C.1 C.2.1 dL_law_647 rfl (lv_at hl 1 rfl) ?_
  refine lv_iload C.1 C.2.1 dL_law_648 (lv_at hl 0 rfl) ?_
  refine lv_iconst (v := 2) C.1 C.2.1 dL_law_650 (by decide) ?_
  refine n_iadd C (Y := 2) dL_law_651 rfl rfl (by omega) (by omega) (fun v2 ev2 => ?_)
  refine s_ld C M hX hbl hgb ev2 (by omega) (by omega) dL_law_652 ?_
  refine k_PI C M hx (by decide) rfl (ct_X10_request l g I J ax (xs (y4.toInt + 1).toNat) (xs (y4.toInt + 2).toNat) hx) (cw_up (cw_L_90 (D := 60) C.2.2.2.2 (by decide)) (Nat.le_of_ble_eq_true rfl) (Nat.le_of_ble_eq_true rfl)) rfl hl.1 rfl (Nat.le_of_ble_eq_true rfl) dL_law_653 hcs (fun r3 H locs _ M => ?_)
  refine lv_pop C.1 C.2.1 dL_law_656 rfl ?_
  refine lv_aload_n C.1 C.2.1 dL_law_657 rfl (lv_at hl 3 rfl) ?_
  refine lv_aload_n C.1 C.2.1 dL_law_658 rfl (lv_at hl 1 rfl) ?_
  refine lv_iload C.1 C.2.1 dL_law_659 (lv_at hl 0 rfl) ?_
  refine lv_iconst (v := 1) C.1 C.2.1 dL_law_661 (by decide) ?_
  refine n_iadd C (Y := 1) dL_law_662 rfl rfl (by omega) (by omega) (fun v4 ev4 => ?_)
  refine s_ld C M hX hbl hgb ev4 (by omega) (by omega) dL_law_663 ?_
  refine lv_aload_n C.1 C.2.1 dL_law_664 rfl (lv_at hl 1 rfl) ?_
  refine lv_iload C.1 C.2.1 dL_law_665 (lv_at hl 0 rfl) ?_
  refine lv_iconst (v := 2) C.1 C.2.1 dL_law_667 (by decide) ?_
  refine n_iadd C (Y := 2) dL_law_668 rfl rfl (by omega) (by omega) (fun v5 ev5 => ?_)
  refine s_ld C M hX hbl hgb ev5 (by omega) (by omega) dL_law_669 ?_
  refine k_PM C M hm (by decide) rfl (ct_X11_request l g I J am (xs (y4.toInt + 1).toNat) (xs (y4.toInt + 2).toNat) hm) (cw_up (cw_L_93 (D := 60) C.2.2.2.2 (by decide)) (Nat.le_of_ble_eq_true rfl) (Nat.le_of_ble_eq_true rfl)) rfl hl.1 rfl (Nat.le_of_ble_eq_true rfl) dL_law_670 hcs (fun r6 I7 J8 H locs F9 hp10 M => ?_)
  obtain ⟨ej, hp10⟩ := hp10
  have ej := ej.symm
  subst ej
  have hLw : Lw g am I7 J := ⟨(rh_fr hw M.2.2.2.2.2.2.2 F9 (by decide) hLw.1), hLw.2.1, (jm_fr hS F9 (by decide) hLw.2.2.1), (im_fr hw hm F9 (by decide) hLw.2.2.2)⟩
  refine lv_pop C.1 C.2.1 dL_law_673 rfl ?_
  refine lv_goto (tgt := 1239) C.1 C.2.1 dL_law_674 (by decide) ?_
  refine W.widen (k := 200 + kk + 1) (n := 12000 + 6 * kk + 6) (Nat.le_succ _) (Nat.le_add_right _ _) ?_
  exact K I7 J _ _ _ hLw M hl

set_option maxHeartbeats 4000000 in
set_option maxRecDepth 100000 in
theorem lc_15 {p : Program} {l : Launch} {e : Env} {s : State} {m : MethodId} {below : List Frame} {meth : Method} {c : Code} {g : Gs} {b L ax am ao kk : Nat} {xs : Nat → Int32} (C : CallFix p m c cL_law 7 s #[Value.ref b] TB RL) (hX : va_X b L xs s s.heap) (hbl : b < s.heap.size) (hgb : gb g = s.heap.size) (hx : Is g ax 8) (hm : Is g am 9) (ho : Is g ao 43) (hls : l.stackTraces = false) {y4 : Int32} (hk : kk ≤ 512) (hy0 : 0 ≤ y4.toInt) (hy1 : y4.toInt + 7 ≤ L) (hL : L ≤ 3584)
    (K : ∀ (I : Ms) (J : Js) (H : Heap) (locs : List Loc) (ls : Array Slot), Lw g am I J → Mm g s I J H locs → lv_has ls 7 [(4, .int y4), (0, .ref b), (1, .ref ax), (2, .ref am), (3, .ref ao)] → W p l e room_1 s m #[Value.ref b] below meth c H locs (200 + kk + 1) (12000 + 6 * kk + 6) (lw_Z below #[Value.ref b] s) (F0 m 1239 ls []))
    {I : Ms} {J : Js} {H : Heap} {locs : List Loc} {ls : Array Slot} (hLw : Lw g am I J) (M : Mm g s I J H locs) (hl : lv_has ls 7 [(4, .int y4), (0, .ref b), (1, .ref ax), (2, .ref am), (3, .ref ao)]) : W p l e room_1 s m #[Value.ref b] below meth c H locs (200 + kk) (12000 + 6 * kk) (lw_Z below #[Value.ref b] s) (F0 m 677 ls []) := by
  have hS := is_ref M hm 0 28 rfl rfl
  have hcs : 200 + kk ≤ room_1.cells ∧ 12000 + 6 * kk ≤ room_1.slots := ⟨by show 200 + kk ≤ 601024; omega, by show 12000 + 6 * kk ≤ 7293034; omega⟩
  have hcs2 : 200 + kk + 1 ≤ room_1.cells ∧ 12000 + 6 * kk + 6 ≤ room_1.slots := ⟨by show 200 + kk + 1 ≤ 601024; omega, by show 12000 + 6 * kk + 6 ≤ 7293034; omega⟩
  have hw : Wf g := M.2.2.2.2.2.1
  refine lv_aload_n C.1 C.2.1 dL_law_677 rfl (lv_at hl 2 rfl) ?_
  refine lv_aload_n C.1 C.2.1 dL_law_678 rfl (lv_at hl 1 rfl) ?_
  refine lv_iload C.1 C.2.1 dL_law_679 (lv_at hl 0 rfl) ?_
  refine lv_iconst (v := 1) C.1 C.2.1 dL_law_681 (by decide) ?_
  refine n_iadd C (Y := 1) dL_law_682 rfl rfl (by omega) (by omega) (fun v1 ev1 => ?_)
  refine s_ld C M hX hbl hgb ev1 (by omega) (by omega) dL_law_683 ?_
  refine lv_aload_n C.1 C.2.1 dL_law_684 rfl (lv_at hl 1 rfl) ?_
  refine lv_iload C.1 C.2.1 dL_law_685 (lv_at hl 0 rfl) ?_
  refine lv_iconst (v := 2) C.1 C.2.1 dL_law_687 (by decide) ?_
  refine n_iadd C (Y := 2) dL_law_688 rfl rfl (by omega) (by omega) (fun v2 ev2 => ?_)
  refine s_ld C M hX hbl hgb ev2 (by omega) (by omega) dL_law_689 ?_
  refine lv_aload_n C.1 C.2.1 dL_law_690 rfl (lv_at hl 1 rfl) ?_
  refine lv_iload C.1 C.2.1 dL_law_691 (lv_at hl 0 rfl) ?_
  refine lv_iconst (v := 3) C.1 C.2.1 dL_law_693 (by decide) ?_
  refine n_iadd C (Y := 3) dL_law_694 rfl rfl (by omega) (by omega) (fun v3 ev3 => ?_)
  refine s_ld C M hX hbl hgb ev3 (by omega) (by omega) dL_law_695 ?_
  refine k_PM C M hx (by decide) rfl (ct_X10_poke l g I J ax (xs (y4.toInt + 1).toNat) (xs (y4.toInt + 2).toNat) (xs (y4.toInt + 3).toNat) hx) (cw_up (cw_L_94 (D := 60) C.2.2.2.2 (by decide)) (Nat.le_of_ble_eq_true rfl) (Nat.le_of_ble_eq_true rfl)) rfl hl.1 rfl (Nat.le_of_ble_eq_true rfl) dL_law_696 hcs (fun r4 I5 J6 H locs F7 hp8 M => ?_)
  obtain ⟨ej, hp8⟩ := hp8
  have ej := ej.symm
  subst ej
  have hLw : Lw g am I5 J := ⟨(rh_fr hw M.2.2.2.2.2.2.2 F7 (by decide) hLw.1), hLw.2.1, (jm_fr hS F7 (by decide) hLw.2.2.1), (im_fr hw hm F7 (by decide) hLw.2.2.2)⟩
  refine lv_pop C.1 C.2.1 dL_law_699 rfl ?_
  refine lv_aload_n C.1 C.2.1 dL_law_700 rfl (lv_at hl 3 rfl) ?_
  refine lv_aload_n C.1 C.2.1 dL_law_701 rfl (lv_at hl 1 rfl) ?_
  refine lv_iload C.1 C.2.1 dL_law_702 (lv_at hl 0 rfl) ?_
  refine lv_iconst (v := 1) C.1 C.2.1 dL_law_704 (by decide) ?_
  refine n_iadd C (Y := 1) dL_law_705 rfl rfl (by omega) (by omega) (fun v9 ev9 => ?_)
  refine s_ld C M hX hbl hgb ev9 (by omega) (by omega) dL_law_706 ?_
  refine lv_aload_n C.1 C.2.1 dL_law_707 rfl (lv_at hl 1 rfl) ?_
  refine lv_iload C.1 C.2.1 dL_law_708 (lv_at hl 0 rfl) ?_
  refine lv_iconst (v := 2) C.1 C.2.1 dL_law_710 (by decide) ?_
  refine n_iadd C (Y := 2) dL_law_711 rfl rfl (by omega) (by omega) (fun v10 ev10 => ?_)
  refine s_ld C M hX hbl hgb ev10 (by omega) (by omega) dL_law_712 ?_
  refine lv_aload_n C.1 C.2.1 dL_law_713 rfl (lv_at hl 1 rfl) ?_
  refine lv_iload C.1 C.2.1 dL_law_714 (lv_at hl 0 rfl) ?_
  refine lv_iconst (v := 3) C.1 C.2.1 dL_law_716 (by decide) ?_
  refine n_iadd C (Y := 3) dL_law_717 rfl rfl (by omega) (by omega) (fun v11 ev11 => ?_)
  refine s_ld C M hX hbl hgb ev11 (by omega) (by omega) dL_law_718 ?_
  refine k_PM C M hm (by decide) rfl (ct_X11_poke l g I5 J am (xs (y4.toInt + 1).toNat) (xs (y4.toInt + 2).toNat) (xs (y4.toInt + 3).toNat) hm) (cw_up (cw_L_98 (D := 60) C.2.2.2.2 (by decide)) (Nat.le_of_ble_eq_true rfl) (Nat.le_of_ble_eq_true rfl)) rfl hl.1 rfl (Nat.le_of_ble_eq_true rfl) dL_law_719 hcs (fun r12 I13 J14 H locs F15 hp16 M => ?_)
  obtain ⟨ej, hp16⟩ := hp16
  have ej := ej.symm
  subst ej
  have hLw : Lw g am I13 J := ⟨(rh_fr hw M.2.2.2.2.2.2.2 F15 (by decide) hLw.1), hLw.2.1, (jm_eq (hp16.2 717 (by decide)) (hp16.2 715 (by decide)) (hp16.2 716 (by decide)) (hp16.2 722 (by decide)) (hp16.2 718 (by decide)) (hp16.2 719 (by decide)) hLw.2.2.1), (im_fr hw hm F15 (by decide) hLw.2.2.2)⟩
  refine lv_pop C.1 C.2.1 dL_law_722 rfl ?_
  refine lv_goto (tgt := 1239) C.1 C.2.1 dL_law_723 (by decide) ?_
  refine W.widen (k := 200 + kk + 1) (n := 12000 + 6 * kk + 6) (Nat.le_succ _) (Nat.le_add_right _ _) ?_
  exact K I13 J _ _ _ hLw M hl

set_option maxHeartbeats 4000000 in
set_option maxRecDepth 100000 in
theorem lc_16 {p : Program} {l : Launch} {e : Env} {s : State} {m : MethodId} {below : List Frame} {meth : Method} {c : Code} {g : Gs} {b L ax am ao kk : Nat} {xs : Nat → Int32} (C : CallFix p m c cL_law 7 s #[Value.ref b] TB RL) (hX : va_X b L xs s s.heap) (hbl : b < s.heap.size) (hgb : gb g = s.heap.size) (hx : Is g ax 8) (hm : Is g am 9) (ho : Is g ao 43) (hls : l.stackTraces = false) {y4 : Int32} (hk : kk ≤ 512) (hy0 : 0 ≤ y4.toInt) (hy1 : y4.toInt + 7 ≤ L) (hL : L ≤ 3584)
    (K : ∀ (I : Ms) (J : Js) (H : Heap) (locs : List Loc) (ls : Array Slot), Lw g am I J → Mm g s I J H locs → lv_has ls 7 [(4, .int y4), (0, .ref b), (1, .ref ax), (2, .ref am), (3, .ref ao)] → W p l e room_1 s m #[Value.ref b] below meth c H locs (200 + kk + 1) (12000 + 6 * kk + 6) (lw_Z below #[Value.ref b] s) (F0 m 1239 ls []))
    {I : Ms} {J : Js} {H : Heap} {locs : List Loc} {ls : Array Slot} (hLw : Lw g am I J) (M : Mm g s I J H locs) (hl : lv_has ls 7 [(4, .int y4), (0, .ref b), (1, .ref ax), (2, .ref am), (3, .ref ao)]) : W p l e room_1 s m #[Value.ref b] below meth c H locs (200 + kk) (12000 + 6 * kk) (lw_Z below #[Value.ref b] s) (F0 m 726 ls []) := by
  have hS := is_ref M hm 0 28 rfl rfl
  have hcs : 200 + kk ≤ room_1.cells ∧ 12000 + 6 * kk ≤ room_1.slots := ⟨by show 200 + kk ≤ 601024; omega, by show 12000 + 6 * kk ≤ 7293034; omega⟩
  have hcs2 : 200 + kk + 1 ≤ room_1.cells ∧ 12000 + 6 * kk + 6 ≤ room_1.slots := ⟨by show 200 + kk + 1 ≤ 601024; omega, by show 12000 + 6 * kk + 6 ≤ 7293034; omega⟩
  have hw : Wf g := M.2.2.2.2.2.1
  refine lv_aload_n C.1 C.2.1 dL_law_726 rfl (lv_at hl 2 rfl) ?_
  refine lv_aload_n C.1 C.2.1 dL_law_727 rfl (lv_at hl 1 rfl) ?_
  refine lv_iload C.1 C.2.1 dL_law_728 (lv_at hl 0 rfl) ?_
  refine lv_iconst (v := 1) C.1 C.2.1 dL_law_730 (by decide) ?_
  refine n_iadd C (Y := 1) dL_law_731 rfl rfl (by omega) (by omega) (fun v1 ev1 => ?_)
  refine s_ld C M hX hbl hgb ev1 (by omega) (by omega) dL_law_732 ?_
  refine k_PI C M hx (by decide) rfl (ct_X10_scrub l g I J ax (xs (y4.toInt + 1).toNat) hx) (cw_up (cw_L_99 (D := 60) C.2.2.2.2 (by decide)) (Nat.le_of_ble_eq_true rfl) (Nat.le_of_ble_eq_true rfl)) rfl hl.1 rfl (Nat.le_of_ble_eq_true rfl) dL_law_733 hcs (fun r2 H locs _ M => ?_)
  refine lv_pop C.1 C.2.1 dL_law_736 rfl ?_
  refine lv_aload_n C.1 C.2.1 dL_law_737 rfl (lv_at hl 3 rfl) ?_
  refine lv_aload_n C.1 C.2.1 dL_law_738 rfl (lv_at hl 1 rfl) ?_
  refine lv_iload C.1 C.2.1 dL_law_739 (lv_at hl 0 rfl) ?_
  refine lv_iconst (v := 1) C.1 C.2.1 dL_law_741 (by decide) ?_
  refine n_iadd C (Y := 1) dL_law_742 rfl rfl (by omega) (by omega) (fun v3 ev3 => ?_)
  refine s_ld C M hX hbl hgb ev3 (by omega) (by omega) dL_law_743 ?_
  refine k_PM C M hm (by decide) rfl (ct_X11_scrub l g I J am (xs (y4.toInt + 1).toNat) hm hLw.2.2.1) (cw_up (cw_L_102 (D := 60) C.2.2.2.2 (by decide)) (Nat.le_of_ble_eq_true rfl) (Nat.le_of_ble_eq_true rfl)) rfl hl.1 rfl (Nat.le_of_ble_eq_true rfl) dL_law_744 hcs (fun r4 I5 J6 H locs F7 hp8 M => ?_)
  obtain ⟨ej, hp8⟩ := hp8
  have ej := ej.symm
  subst ej
  have hLw : Lw g am I5 J := ⟨(rh_fr hw M.2.2.2.2.2.2.2 F7 (by decide) hLw.1), hLw.2.1, (jm_fr hS F7 (by decide) hLw.2.2.1), (im_fr hw hm F7 (by decide) hLw.2.2.2)⟩
  refine lv_pop C.1 C.2.1 dL_law_747 rfl ?_
  refine lv_goto (tgt := 1239) C.1 C.2.1 dL_law_748 (by decide) ?_
  refine W.widen (k := 200 + kk + 1) (n := 12000 + 6 * kk + 6) (Nat.le_succ _) (Nat.le_add_right _ _) ?_
  exact K I5 J _ _ _ hLw M hl

set_option maxHeartbeats 4000000 in
set_option maxRecDepth 100000 in
theorem lc_17 {p : Program} {l : Launch} {e : Env} {s : State} {m : MethodId} {below : List Frame} {meth : Method} {c : Code} {g : Gs} {b L ax am ao kk : Nat} {xs : Nat → Int32} (C : CallFix p m c cL_law 7 s #[Value.ref b] TB RL) (hX : va_X b L xs s s.heap) (hbl : b < s.heap.size) (hgb : gb g = s.heap.size) (hx : Is g ax 8) (hm : Is g am 9) (ho : Is g ao 43) (hls : l.stackTraces = false) {y4 : Int32} (hk : kk ≤ 512) (hy0 : 0 ≤ y4.toInt) (hy1 : y4.toInt + 7 ≤ L) (hL : L ≤ 3584)
    (K : ∀ (I : Ms) (J : Js) (H : Heap) (locs : List Loc) (ls : Array Slot), Lw g am I J → Mm g s I J H locs → lv_has ls 7 [(4, .int y4), (0, .ref b), (1, .ref ax), (2, .ref am), (3, .ref ao)] → W p l e room_1 s m #[Value.ref b] below meth c H locs (200 + kk + 1) (12000 + 6 * kk + 6) (lw_Z below #[Value.ref b] s) (F0 m 1239 ls []))
    {I : Ms} {J : Js} {H : Heap} {locs : List Loc} {ls : Array Slot} (hLw : Lw g am I J) (M : Mm g s I J H locs) (hl : lv_has ls 7 [(4, .int y4), (0, .ref b), (1, .ref ax), (2, .ref am), (3, .ref ao)]) : W p l e room_1 s m #[Value.ref b] below meth c H locs (200 + kk) (12000 + 6 * kk) (lw_Z below #[Value.ref b] s) (F0 m 751 ls []) := by
  have hS := is_ref M hm 0 28 rfl rfl
  have hcs : 200 + kk ≤ room_1.cells ∧ 12000 + 6 * kk ≤ room_1.slots := ⟨by show 200 + kk ≤ 601024; omega, by show 12000 + 6 * kk ≤ 7293034; omega⟩
  have hcs2 : 200 + kk + 1 ≤ room_1.cells ∧ 12000 + 6 * kk + 6 ≤ room_1.slots := ⟨by show 200 + kk + 1 ≤ 601024; omega, by show 12000 + 6 * kk + 6 ≤ 7293034; omega⟩
  have hw : Wf g := M.2.2.2.2.2.1
  refine lv_aload_n C.1 C.2.1 dL_law_751 rfl (lv_at hl 2 rfl) ?_
  refine k_PM C M hx (by decide) rfl (ct_X10_repair l g I J ax hx) (cw_up (cw_L_103 (D := 60) C.2.2.2.2 (by decide)) (Nat.le_of_ble_eq_true rfl) (Nat.le_of_ble_eq_true rfl)) rfl hl.1 rfl (Nat.le_of_ble_eq_true rfl) dL_law_752 hcs (fun r1 I2 J3 H locs F4 hp5 M => ?_)
  obtain ⟨ej, hp5⟩ := hp5
  have ej := ej.symm
  subst ej
  have hLw : Lw g am I2 J := ⟨(rh_fr hw M.2.2.2.2.2.2.2 F4 (by decide) hLw.1), hLw.2.1, (jm_fr hS F4 (by decide) hLw.2.2.1), (im_fr hw hm F4 (by decide) hLw.2.2.2)⟩
  refine lv_pop C.1 C.2.1 dL_law_755 rfl ?_
  refine lv_aload_n C.1 C.2.1 dL_law_756 rfl (lv_at hl 3 rfl) ?_
  refine k_PM C M hm (by decide) rfl (ct_X11_repair l g I2 J am hm hLw.2.2.1) (cw_up (cw_L_106 (D := 60) C.2.2.2.2 (by decide)) (Nat.le_of_ble_eq_true rfl) (Nat.le_of_ble_eq_true rfl)) rfl hl.1 rfl (Nat.le_of_ble_eq_true rfl) dL_law_757 hcs (fun r6 I7 J8 H locs F9 hp10 M => ?_)
  obtain ⟨ej, hp10⟩ := hp10
  have ej := ej.symm
  subst ej
  have hLw : Lw g am I7 J := ⟨(rh_fr hw M.2.2.2.2.2.2.2 F9 (by decide) hLw.1), hLw.2.1, (jm_eq (hp10.2 717 (by decide)) (hp10.2 715 (by decide)) (hp10.2 716 (by decide)) (hp10.2 722 (by decide)) (hp10.2 718 (by decide)) (hp10.2 719 (by decide)) hLw.2.2.1), (im_fr hw hm F9 (by decide) hLw.2.2.2)⟩
  refine lv_pop C.1 C.2.1 dL_law_760 rfl ?_
  refine lv_goto (tgt := 1239) C.1 C.2.1 dL_law_761 (by decide) ?_
  refine W.widen (k := 200 + kk + 1) (n := 12000 + 6 * kk + 6) (Nat.le_succ _) (Nat.le_add_right _ _) ?_
  exact K I7 J _ _ _ hLw M hl

set_option maxHeartbeats 4000000 in
set_option maxRecDepth 100000 in
theorem lc_18 {p : Program} {l : Launch} {e : Env} {s : State} {m : MethodId} {below : List Frame} {meth : Method} {c : Code} {g : Gs} {b L ax am ao kk : Nat} {xs : Nat → Int32} (C : CallFix p m c cL_law 7 s #[Value.ref b] TB RL) (hX : va_X b L xs s s.heap) (hbl : b < s.heap.size) (hgb : gb g = s.heap.size) (hx : Is g ax 8) (hm : Is g am 9) (ho : Is g ao 43) (hls : l.stackTraces = false) {y4 : Int32} (hk : kk ≤ 512) (hy0 : 0 ≤ y4.toInt) (hy1 : y4.toInt + 7 ≤ L) (hL : L ≤ 3584)
    (K : ∀ (I : Ms) (J : Js) (H : Heap) (locs : List Loc) (ls : Array Slot), Lw g am I J → Mm g s I J H locs → lv_has ls 7 [(4, .int y4), (0, .ref b), (1, .ref ax), (2, .ref am), (3, .ref ao)] → W p l e room_1 s m #[Value.ref b] below meth c H locs (200 + kk + 1) (12000 + 6 * kk + 6) (lw_Z below #[Value.ref b] s) (F0 m 1239 ls []))
    {I : Ms} {J : Js} {H : Heap} {locs : List Loc} {ls : Array Slot} (hLw : Lw g am I J) (M : Mm g s I J H locs) (hl : lv_has ls 7 [(4, .int y4), (0, .ref b), (1, .ref ax), (2, .ref am), (3, .ref ao)]) : W p l e room_1 s m #[Value.ref b] below meth c H locs (200 + kk) (12000 + 6 * kk) (lw_Z below #[Value.ref b] s) (F0 m 764 ls []) := by
  have hS := is_ref M hm 0 28 rfl rfl
  have hcs : 200 + kk ≤ room_1.cells ∧ 12000 + 6 * kk ≤ room_1.slots := ⟨by show 200 + kk ≤ 601024; omega, by show 12000 + 6 * kk ≤ 7293034; omega⟩
  have hcs2 : 200 + kk + 1 ≤ room_1.cells ∧ 12000 + 6 * kk + 6 ≤ room_1.slots := ⟨by show 200 + kk + 1 ≤ 601024; omega, by show 12000 + 6 * kk + 6 ≤ 7293034; omega⟩
  have hw : Wf g := M.2.2.2.2.2.1
  refine lv_aload_n C.1 C.2.1 dL_law_764 rfl (lv_at hl 2 rfl) ?_
  refine lv_aload_n C.1 C.2.1 dL_law_765 rfl (lv_at hl 1 rfl) ?_
  refine lv_iload C.1 C.2.1 dL_law_766 (lv_at hl 0 rfl) ?_
  refine lv_iconst (v := 1) C.1 C.2.1 dL_law_768 (by decide) ?_
  refine n_iadd C (Y := 1) dL_law_769 rfl rfl (by omega) (by omega) (fun v1 ev1 => ?_)
  refine s_ld C M hX hbl hgb ev1 (by omega) (by omega) dL_law_770 ?_
  refine k_PM C M hx (by decide) rfl (ct_X10_forecast l g I J ax (xs (y4.toInt + 1).toNat) hx hLw.1) (cw_up (cw_L_107 (D := 60) C.2.2.2.2 (by decide)) (Nat.le_of_ble_eq_true rfl) (Nat.le_of_ble_eq_true rfl)) rfl hl.1 rfl (Nat.le_of_ble_eq_true rfl) dL_law_771 hcs (fun r2 I3 J4 H locs F5 hp6 M => ?_)
  obtain ⟨ej, hp6⟩ := hp6
  have hLw : Lw g am I3 J4 := ⟨hp6.2, (dr_eq (congrArg Prod.fst ej) hLw.2.1), (jm_fr hS F5 (by decide) hLw.2.2.1), (im_fr hw hm F5 (by decide) hLw.2.2.2)⟩
  refine lv_pop C.1 C.2.1 dL_law_774 rfl ?_
  refine lv_aload_n C.1 C.2.1 dL_law_775 rfl (lv_at hl 3 rfl) ?_
  refine lv_aload_n C.1 C.2.1 dL_law_776 rfl (lv_at hl 1 rfl) ?_
  refine lv_iload C.1 C.2.1 dL_law_777 (lv_at hl 0 rfl) ?_
  refine lv_iconst (v := 1) C.1 C.2.1 dL_law_779 (by decide) ?_
  refine n_iadd C (Y := 1) dL_law_780 rfl rfl (by omega) (by omega) (fun v7 ev7 => ?_)
  refine s_ld C M hX hbl hgb ev7 (by omega) (by omega) dL_law_781 ?_
  refine k_PM C M hm (by decide) rfl (ct_X11_forecast l g I3 J4 am (xs (y4.toInt + 1).toNat) hm hLw.2.2.1) (cw_up (cw_L_110 (D := 60) C.2.2.2.2 (by decide)) (Nat.le_of_ble_eq_true rfl) (Nat.le_of_ble_eq_true rfl)) rfl hl.1 rfl (Nat.le_of_ble_eq_true rfl) dL_law_782 hcs (fun r8 I9 J10 H locs F11 hp12 M => ?_)
  obtain ⟨ej, hp12⟩ := hp12
  have ej := ej.symm
  subst ej
  have hLw : Lw g am I9 J4 := ⟨(rh_fr hw M.2.2.2.2.2.2.2 F11 (by decide) hLw.1), hLw.2.1, hp12, (im_fr hw hm F11 (by decide) hLw.2.2.2)⟩
  refine lv_pop C.1 C.2.1 dL_law_785 rfl ?_
  refine lv_goto (tgt := 1239) C.1 C.2.1 dL_law_786 (by decide) ?_
  refine W.widen (k := 200 + kk + 1) (n := 12000 + 6 * kk + 6) (Nat.le_succ _) (Nat.le_add_right _ _) ?_
  exact K I9 J4 _ _ _ hLw M hl

set_option maxHeartbeats 4000000 in
set_option maxRecDepth 100000 in
theorem lc_19 {p : Program} {l : Launch} {e : Env} {s : State} {m : MethodId} {below : List Frame} {meth : Method} {c : Code} {g : Gs} {b L ax am ao kk : Nat} {xs : Nat → Int32} (C : CallFix p m c cL_law 7 s #[Value.ref b] TB RL) (hX : va_X b L xs s s.heap) (hbl : b < s.heap.size) (hgb : gb g = s.heap.size) (hx : Is g ax 8) (hm : Is g am 9) (ho : Is g ao 43) (hls : l.stackTraces = false) {y4 : Int32} (hk : kk ≤ 512) (hy0 : 0 ≤ y4.toInt) (hy1 : y4.toInt + 7 ≤ L) (hL : L ≤ 3584)
    (K : ∀ (I : Ms) (J : Js) (H : Heap) (locs : List Loc) (ls : Array Slot), Lw g am I J → Mm g s I J H locs → lv_has ls 7 [(4, .int y4), (0, .ref b), (1, .ref ax), (2, .ref am), (3, .ref ao)] → W p l e room_1 s m #[Value.ref b] below meth c H locs (200 + kk + 1) (12000 + 6 * kk + 6) (lw_Z below #[Value.ref b] s) (F0 m 1239 ls []))
    {I : Ms} {J : Js} {H : Heap} {locs : List Loc} {ls : Array Slot} (hLw : Lw g am I J) (M : Mm g s I J H locs) (hl : lv_has ls 7 [(4, .int y4), (0, .ref b), (1, .ref ax), (2, .ref am), (3, .ref ao)]) : W p l e room_1 s m #[Value.ref b] below meth c H locs (200 + kk) (12000 + 6 * kk) (lw_Z below #[Value.ref b] s) (F0 m 789 ls []) := by
  have hS := is_ref M hm 0 28 rfl rfl
  have hcs : 200 + kk ≤ room_1.cells ∧ 12000 + 6 * kk ≤ room_1.slots := ⟨by show 200 + kk ≤ 601024; omega, by show 12000 + 6 * kk ≤ 7293034; omega⟩
  have hcs2 : 200 + kk + 1 ≤ room_1.cells ∧ 12000 + 6 * kk + 6 ≤ room_1.slots := ⟨by show 200 + kk + 1 ≤ 601024; omega, by show 12000 + 6 * kk + 6 ≤ 7293034; omega⟩
  have hw : Wf g := M.2.2.2.2.2.1
  refine lv_aload_n C.1 C.2.1 dL_law_789 rfl (lv_at hl 2 rfl) ?_
  refine lv_aload_n C.1 C.2.1 dL_law_790 rfl (lv_at hl 1 rfl) ?_
  refine lv_iload C.1 C.2.1 dL_law_791 (lv_at hl 0 rfl) ?_
  refine lv_iconst (v := 1) C.1 C.2.1 dL_law_793 (by decide) ?_
  refine n_iadd C (Y := 1) dL_law_794 rfl rfl (by omega) (by omega) (fun v1 ev1 => ?_)
  refine s_ld C M hX hbl hgb ev1 (by omega) (by omega) dL_law_795 ?_
  refine k_PM C M hx (by decide) rfl (ct_X10_image l g I J ax (xs (y4.toInt + 1).toNat) hx hLw.1) (cw_up (cw_L_111 (D := 60) C.2.2.2.2 (by decide)) (Nat.le_of_ble_eq_true rfl) (Nat.le_of_ble_eq_true rfl)) rfl hl.1 rfl (Nat.le_of_ble_eq_true rfl) dL_law_796 hcs (fun r2 I3 J4 H locs F5 hp6 M => ?_)
  obtain ⟨ej, hp6⟩ := hp6
  have mk1 := hp6.1
  have hLw : Lw g am I3 J4 := ⟨hp6.2, (dr_eq (congrArg Prod.fst ej) hLw.2.1), (jm_fr hS F5 (by decide) hLw.2.2.1), (im_fr hw hm F5 (by decide) hLw.2.2.2)⟩
  refine lv_aload_n C.1 C.2.1 dL_law_799 rfl (lv_at hl 3 rfl) ?_
  refine lv_aload_n C.1 C.2.1 dL_law_800 rfl (lv_at hl 1 rfl) ?_
  refine lv_iload C.1 C.2.1 dL_law_801 (lv_at hl 0 rfl) ?_
  refine lv_iconst (v := 1) C.1 C.2.1 dL_law_803 (by decide) ?_
  refine n_iadd C (Y := 1) dL_law_804 rfl rfl (by omega) (by omega) (fun v7 ev7 => ?_)
  refine s_ld C M hX hbl hgb ev7 (by omega) (by omega) dL_law_805 ?_
  refine k_PM C M hm (by decide) rfl (ct_X11_image l g I3 J4 am (xs (y4.toInt + 1).toNat) hm hLw.2.2.1 hLw.2.2.2) (cw_up (cw_L_114 (D := 60) C.2.2.2.2 (by decide)) (Nat.le_of_ble_eq_true rfl) (Nat.le_of_ble_eq_true rfl)) rfl hl.1 rfl (Nat.le_of_ble_eq_true rfl) dL_law_806 hcs (fun r8 I9 J10 H locs F11 hp12 M => ?_)
  obtain ⟨ej, hp12⟩ := hp12
  have ej := ej.symm
  subst ej
  have mk2 := hp12
  have hLw : Lw g am I9 J4 := ⟨(rh_fr hw M.2.2.2.2.2.2.2 F11 (by decide) hLw.1), hLw.2.1, (jm_fr hS F11 (by decide) hLw.2.2.1), hp12.2.2.2⟩
  refine n_icmp_eq C (tgt := 1239) dL_law_809 (by decide) rfl rfl (fun q13 => ?_) (fun q13 => ?_)
  ·
    refine W.widen (k := 200 + kk + 1) (n := 12000 + 6 * kk + 6) (Nat.le_succ _) (Nat.le_add_right _ _) ?_
    exact K I9 J4 _ _ _ hLw M hl
  · exfalso
    apply q13
    have u1 := mk1.1
    have u2 := mk1.2.1
    have u3 := mk1.2.2
    have u4 := mk2.1
    have u5 := mk2.2.1
    have u6 := mk2.2.2.1
    omega

set_option maxHeartbeats 4000000 in
set_option maxRecDepth 100000 in
theorem lc_20 {p : Program} {l : Launch} {e : Env} {s : State} {m : MethodId} {below : List Frame} {meth : Method} {c : Code} {g : Gs} {b L ax am ao kk : Nat} {xs : Nat → Int32} (C : CallFix p m c cL_law 7 s #[Value.ref b] TB RL) (hX : va_X b L xs s s.heap) (hbl : b < s.heap.size) (hgb : gb g = s.heap.size) (hx : Is g ax 8) (hm : Is g am 9) (ho : Is g ao 43) (hls : l.stackTraces = false) {y4 : Int32} (hk : kk ≤ 512) (hy0 : 0 ≤ y4.toInt) (hy1 : y4.toInt + 7 ≤ L) (hL : L ≤ 3584)
    (K : ∀ (I : Ms) (J : Js) (H : Heap) (locs : List Loc) (ls : Array Slot), Lw g am I J → Mm g s I J H locs → lv_has ls 7 [(4, .int y4), (0, .ref b), (1, .ref ax), (2, .ref am), (3, .ref ao)] → W p l e room_1 s m #[Value.ref b] below meth c H locs (200 + kk + 1) (12000 + 6 * kk + 6) (lw_Z below #[Value.ref b] s) (F0 m 1239 ls []))
    {I : Ms} {J : Js} {H : Heap} {locs : List Loc} {ls : Array Slot} (hLw : Lw g am I J) (M : Mm g s I J H locs) (hl : lv_has ls 7 [(4, .int y4), (0, .ref b), (1, .ref ax), (2, .ref am), (3, .ref ao)]) : W p l e room_1 s m #[Value.ref b] below meth c H locs (200 + kk) (12000 + 6 * kk) (lw_Z below #[Value.ref b] s) (F0 m 814 ls []) := by
  have hS := is_ref M hm 0 28 rfl rfl
  have hcs : 200 + kk ≤ room_1.cells ∧ 12000 + 6 * kk ≤ room_1.slots := ⟨by show 200 + kk ≤ 601024; omega, by show 12000 + 6 * kk ≤ 7293034; omega⟩
  have hcs2 : 200 + kk + 1 ≤ room_1.cells ∧ 12000 + 6 * kk + 6 ≤ room_1.slots := ⟨by show 200 + kk + 1 ≤ 601024; omega, by show 12000 + 6 * kk + 6 ≤ 7293034; omega⟩
  have hw : Wf g := M.2.2.2.2.2.1
  refine lv_aload_n C.1 C.2.1 dL_law_814 rfl (lv_at hl 2 rfl) ?_
  refine lv_aload_n C.1 C.2.1 dL_law_815 rfl (lv_at hl 1 rfl) ?_
  refine lv_iload C.1 C.2.1 dL_law_816 (lv_at hl 0 rfl) ?_
  refine lv_iconst (v := 1) C.1 C.2.1 dL_law_818 (by decide) ?_
  refine n_iadd C (Y := 1) dL_law_819 rfl rfl (by omega) (by omega) (fun v1 ev1 => ?_)
  refine s_ld C M hX hbl hgb ev1 (by omega) (by omega) dL_law_820 ?_
  refine k_PM C M hx (by decide) rfl (ct_X10_back l g I J ax (xs (y4.toInt + 1).toNat) hx hLw.1) (cw_up (cw_L_115 (D := 60) C.2.2.2.2 (by decide)) (Nat.le_of_ble_eq_true rfl) (Nat.le_of_ble_eq_true rfl)) rfl hl.1 rfl (Nat.le_of_ble_eq_true rfl) dL_law_821 hcs (fun r2 I3 J4 H locs F5 hp6 M => ?_)
  obtain ⟨ej, hp6⟩ := hp6
  have hLw : Lw g am I3 J4 := ⟨hp6.2, (dr_eq (congrArg Prod.fst ej) hLw.2.1), (jm_fr hS F5 (by decide) hLw.2.2.1), (im_fr hw hm F5 (by decide) hLw.2.2.2)⟩
  refine lv_pop C.1 C.2.1 dL_law_824 rfl ?_
  refine lv_aload_n C.1 C.2.1 dL_law_825 rfl (lv_at hl 3 rfl) ?_
  refine lv_aload_n C.1 C.2.1 dL_law_826 rfl (lv_at hl 1 rfl) ?_
  refine lv_iload C.1 C.2.1 dL_law_827 (lv_at hl 0 rfl) ?_
  refine lv_iconst (v := 1) C.1 C.2.1 dL_law_829 (by decide) ?_
  refine n_iadd C (Y := 1) dL_law_830 rfl rfl (by omega) (by omega) (fun v7 ev7 => ?_)
  refine s_ld C M hX hbl hgb ev7 (by omega) (by omega) dL_law_831 ?_
  refine k_PM C M hm (by decide) rfl (ct_X11_back l g I3 J4 am (xs (y4.toInt + 1).toNat) hm hLw.2.2.1 hLw.2.2.2) (cw_up (cw_L_118 (D := 60) C.2.2.2.2 (by decide)) (Nat.le_of_ble_eq_true rfl) (Nat.le_of_ble_eq_true rfl)) rfl hl.1 rfl (Nat.le_of_ble_eq_true rfl) dL_law_832 hcs (fun r8 I9 J10 H locs F11 hp12 M => ?_)
  obtain ⟨ej, hp12⟩ := hp12
  have ej := ej.symm
  subst ej
  have hLw : Lw g am I9 J4 := ⟨(rh_fr hw M.2.2.2.2.2.2.2 F11 (by decide) hLw.1), hLw.2.1, hp12.2.2, (im_fr hw hm F11 (by decide) hLw.2.2.2)⟩
  refine lv_pop C.1 C.2.1 dL_law_835 rfl ?_
  refine lv_goto (tgt := 1239) C.1 C.2.1 dL_law_836 (by decide) ?_
  refine W.widen (k := 200 + kk + 1) (n := 12000 + 6 * kk + 6) (Nat.le_succ _) (Nat.le_add_right _ _) ?_
  exact K I9 J4 _ _ _ hLw M hl

set_option maxHeartbeats 4000000 in
set_option maxRecDepth 100000 in
theorem lc_21 {p : Program} {l : Launch} {e : Env} {s : State} {m : MethodId} {below : List Frame} {meth : Method} {c : Code} {g : Gs} {b L ax am ao kk : Nat} {xs : Nat → Int32} (C : CallFix p m c cL_law 7 s #[Value.ref b] TB RL) (hX : va_X b L xs s s.heap) (hbl : b < s.heap.size) (hgb : gb g = s.heap.size) (hx : Is g ax 8) (hm : Is g am 9) (ho : Is g ao 43) (hls : l.stackTraces = false) {y4 : Int32} (hk : kk ≤ 512) (hy0 : 0 ≤ y4.toInt) (hy1 : y4.toInt + 7 ≤ L) (hL : L ≤ 3584)
    (K : ∀ (I : Ms) (J : Js) (H : Heap) (locs : List Loc) (ls : Array Slot), Lw g am I J → Mm g s I J H locs → lv_has ls 7 [(4, .int y4), (0, .ref b), (1, .ref ax), (2, .ref am), (3, .ref ao)] → W p l e room_1 s m #[Value.ref b] below meth c H locs (200 + kk + 1) (12000 + 6 * kk + 6) (lw_Z below #[Value.ref b] s) (F0 m 1239 ls []))
    {I : Ms} {J : Js} {H : Heap} {locs : List Loc} {ls : Array Slot} (hLw : Lw g am I J) (M : Mm g s I J H locs) (hl : lv_has ls 7 [(4, .int y4), (0, .ref b), (1, .ref ax), (2, .ref am), (3, .ref ao)]) : W p l e room_1 s m #[Value.ref b] below meth c H locs (200 + kk) (12000 + 6 * kk) (lw_Z below #[Value.ref b] s) (F0 m 839 ls []) := by
  have hS := is_ref M hm 0 28 rfl rfl
  have hcs : 200 + kk ≤ room_1.cells ∧ 12000 + 6 * kk ≤ room_1.slots := ⟨by show 200 + kk ≤ 601024; omega, by show 12000 + 6 * kk ≤ 7293034; omega⟩
  have hcs2 : 200 + kk + 1 ≤ room_1.cells ∧ 12000 + 6 * kk + 6 ≤ room_1.slots := ⟨by show 200 + kk + 1 ≤ 601024; omega, by show 12000 + 6 * kk + 6 ≤ 7293034; omega⟩
  have hw : Wf g := M.2.2.2.2.2.1
  refine lv_aload_n C.1 C.2.1 dL_law_839 rfl (lv_at hl 2 rfl) ?_
  refine lv_aload_n C.1 C.2.1 dL_law_840 rfl (lv_at hl 1 rfl) ?_
  refine lv_iload C.1 C.2.1 dL_law_841 (lv_at hl 0 rfl) ?_
  refine lv_iconst (v := 1) C.1 C.2.1 dL_law_843 (by decide) ?_
  refine n_iadd C (Y := 1) dL_law_844 rfl rfl (by omega) (by omega) (fun v1 ev1 => ?_)
  refine s_ld C M hX hbl hgb ev1 (by omega) (by omega) dL_law_845 ?_
  refine lv_i2l C.1 C.2.1 dL_law_846 rfl ?_
  refine lv_topl (fun l2 _ => ?_)
  refine lv_bipush (v := 32) C.1 C.2.1 dL_law_847 (by decide) ?_
  refine lv_lshl C.1 C.2.1 dL_law_849 rfl ?_
  refine lv_topl (fun l3 _ => ?_)
  refine lv_aload_n C.1 C.2.1 dL_law_850 rfl (lv_at hl 1 rfl) ?_
  refine lv_iload C.1 C.2.1 dL_law_851 (lv_at hl 0 rfl) ?_
  refine lv_iconst (v := 2) C.1 C.2.1 dL_law_853 (by decide) ?_
  refine n_iadd C (Y := 2) dL_law_854 rfl rfl (by omega) (by omega) (fun v4 ev4 => ?_)
  refine s_ld C M hX hbl hgb ev4 (by omega) (by omega) dL_law_855 ?_
  refine lv_i2l C.1 C.2.1 dL_law_856 rfl ?_
  refine lv_topl (fun l5 _ => ?_)
  refine lv_ldc2 (v := 4294967295) C.1 C.2.1 C.2.2.2.1 (C.2.2.2.2 _ cn_L_119) dL_law_857 ?_
  refine lv_land C.1 C.2.1 dL_law_860 ?_
  refine lv_topl (fun l6 _ => ?_)
  refine lv_lor C.1 C.2.1 dL_law_861 ?_
  refine lv_topl (fun l7 _ => ?_)
  refine lv_aload_n C.1 C.2.1 dL_law_862 rfl (lv_at hl 1 rfl) ?_
  refine lv_iload C.1 C.2.1 dL_law_863 (lv_at hl 0 rfl) ?_
  refine lv_iconst (v := 3) C.1 C.2.1 dL_law_865 (by decide) ?_
  refine n_iadd C (Y := 3) dL_law_866 rfl rfl (by omega) (by omega) (fun v8 ev8 => ?_)
  refine s_ld C M hX hbl hgb ev8 (by omega) (by omega) dL_law_867 ?_
  refine lv_i2l C.1 C.2.1 dL_law_868 rfl ?_
  refine lv_topl (fun l9 _ => ?_)
  refine lv_bipush (v := 32) C.1 C.2.1 dL_law_869 (by decide) ?_
  refine lv_lshl C.1 C.2.1 dL_law_871 rfl ?_
  refine lv_topl (fun l10 _ => ?_)
  refine lv_aload_n C.1 C.2.1 dL_law_872 rfl (lv_at hl 1 rfl) ?_
  refine lv_iload C.1 C.2.1 dL_law_873 (lv_at hl 0 rfl) ?_
  refine lv_iconst (v := 4) C.1 C.2.1 dL_law_875 (by decide) ?_
  refine n_iadd C (Y := 4) dL_law_876 rfl rfl (by omega) (by omega) (fun v11 ev11 => ?_)
  refine s_ld C M hX hbl hgb ev11 (by omega) (by omega) dL_law_877 ?_
  refine lv_i2l C.1 C.2.1 dL_law_878 rfl ?_
  refine lv_topl (fun l12 _ => ?_)
  refine lv_ldc2 (v := 4294967295) C.1 C.2.1 C.2.2.2.1 (C.2.2.2.2 _ cn_L_119) dL_law_879 ?_
  refine lv_land C.1 C.2.1 dL_law_882 ?_
  refine lv_topl (fun l13 _ => ?_)
  refine lv_lor C.1 C.2.1 dL_law_883 ?_
  refine lv_topl (fun l14 _ => ?_)
  refine lv_aload_n C.1 C.2.1 dL_law_884 rfl (lv_at hl 1 rfl) ?_
  refine lv_iload C.1 C.2.1 dL_law_885 (lv_at hl 0 rfl) ?_
  refine lv_iconst (v := 5) C.1 C.2.1 dL_law_887 (by decide) ?_
  refine n_iadd C (Y := 5) dL_law_888 rfl rfl (by omega) (by omega) (fun v15 ev15 => ?_)
  refine s_ld C M hX hbl hgb ev15 (by omega) (by omega) dL_law_889 ?_
  refine lv_i2l C.1 C.2.1 dL_law_890 rfl ?_
  refine lv_topl (fun l16 _ => ?_)
  refine lv_bipush (v := 32) C.1 C.2.1 dL_law_891 (by decide) ?_
  refine lv_lshl C.1 C.2.1 dL_law_893 rfl ?_
  refine lv_topl (fun l17 _ => ?_)
  refine lv_aload_n C.1 C.2.1 dL_law_894 rfl (lv_at hl 1 rfl) ?_
  refine lv_iload C.1 C.2.1 dL_law_895 (lv_at hl 0 rfl) ?_
  refine lv_bipush (v := 6) C.1 C.2.1 dL_law_897 (by decide) ?_
  refine n_iadd C (Y := 6) dL_law_899 rfl rfl (by omega) (by omega) (fun v18 ev18 => ?_)
  refine s_ld C M hX hbl hgb ev18 (by omega) (by omega) dL_law_900 ?_
  refine lv_i2l C.1 C.2.1 dL_law_901 rfl ?_
  refine lv_topl (fun l19 _ => ?_)
  refine lv_ldc2 (v := 4294967295) C.1 C.2.1 C.2.2.2.1 (C.2.2.2.2 _ cn_L_119) dL_law_902 ?_
  refine lv_land C.1 C.2.1 dL_law_905 ?_
  refine lv_topl (fun l20 _ => ?_)
  refine lv_lor C.1 C.2.1 dL_law_906 ?_
  refine lv_topl (fun l21 _ => ?_)
  refine k_PM C M hx (by decide) rfl (ct_X10_feed l g I J ax l7 l14 l21 hx) (cw_up (cw_L_121 (D := 60) C.2.2.2.2 (by decide)) (Nat.le_of_ble_eq_true rfl) (Nat.le_of_ble_eq_true rfl)) rfl hl.1 rfl (Nat.le_of_ble_eq_true rfl) dL_law_907 hcs (fun r22 I23 J24 H locs F25 hp26 M => ?_)
  obtain ⟨ej, hp26⟩ := hp26
  have ej := ej.symm
  subst ej
  have hLw : Lw g am I23 J := ⟨(rh_fr hw M.2.2.2.2.2.2.2 F25 (by decide) hLw.1), hLw.2.1, (jm_fr hS F25 (by decide) hLw.2.2.1), (im_fr hw hm F25 (by decide) hLw.2.2.2)⟩
  refine lv_pop C.1 C.2.1 dL_law_910 rfl ?_
  refine lv_aload_n C.1 C.2.1 dL_law_911 rfl (lv_at hl 3 rfl) ?_
  refine lv_aload_n C.1 C.2.1 dL_law_912 rfl (lv_at hl 1 rfl) ?_
  refine lv_iload C.1 C.2.1 dL_law_913 (lv_at hl 0 rfl) ?_
  refine lv_iconst (v := 1) C.1 C.2.1 dL_law_915 (by decide) ?_
  refine n_iadd C (Y := 1) dL_law_916 rfl rfl (by omega) (by omega) (fun v27 ev27 => ?_)
  refine s_ld C M hX hbl hgb ev27 (by omega) (by omega) dL_law_917 ?_
  refine lv_i2l C.1 C.2.1 dL_law_918 rfl ?_
  refine lv_topl (fun l28 _ => ?_)
  refine lv_bipush (v := 32) C.1 C.2.1 dL_law_919 (by decide) ?_
  refine lv_lshl C.1 C.2.1 dL_law_921 rfl ?_
  refine lv_topl (fun l29 _ => ?_)
  refine lv_aload_n C.1 C.2.1 dL_law_922 rfl (lv_at hl 1 rfl) ?_
  refine lv_iload C.1 C.2.1 dL_law_923 (lv_at hl 0 rfl) ?_
  refine lv_iconst (v := 2) C.1 C.2.1 dL_law_925 (by decide) ?_
  refine n_iadd C (Y := 2) dL_law_926 rfl rfl (by omega) (by omega) (fun v30 ev30 => ?_)
  refine s_ld C M hX hbl hgb ev30 (by omega) (by omega) dL_law_927 ?_
  refine lv_i2l C.1 C.2.1 dL_law_928 rfl ?_
  refine lv_topl (fun l31 _ => ?_)
  refine lv_ldc2 (v := 4294967295) C.1 C.2.1 C.2.2.2.1 (C.2.2.2.2 _ cn_L_119) dL_law_929 ?_
  refine lv_land C.1 C.2.1 dL_law_932 ?_
  refine lv_topl (fun l32 _ => ?_)
  refine lv_lor C.1 C.2.1 dL_law_933 ?_
  refine lv_topl (fun l33 _ => ?_)
  refine lv_aload_n C.1 C.2.1 dL_law_934 rfl (lv_at hl 1 rfl) ?_
  refine lv_iload C.1 C.2.1 dL_law_935 (lv_at hl 0 rfl) ?_
  refine lv_iconst (v := 3) C.1 C.2.1 dL_law_937 (by decide) ?_
  refine n_iadd C (Y := 3) dL_law_938 rfl rfl (by omega) (by omega) (fun v34 ev34 => ?_)
  refine s_ld C M hX hbl hgb ev34 (by omega) (by omega) dL_law_939 ?_
  refine lv_i2l C.1 C.2.1 dL_law_940 rfl ?_
  refine lv_topl (fun l35 _ => ?_)
  refine lv_bipush (v := 32) C.1 C.2.1 dL_law_941 (by decide) ?_
  refine lv_lshl C.1 C.2.1 dL_law_943 rfl ?_
  refine lv_topl (fun l36 _ => ?_)
  refine lv_aload_n C.1 C.2.1 dL_law_944 rfl (lv_at hl 1 rfl) ?_
  refine lv_iload C.1 C.2.1 dL_law_945 (lv_at hl 0 rfl) ?_
  refine lv_iconst (v := 4) C.1 C.2.1 dL_law_947 (by decide) ?_
  refine n_iadd C (Y := 4) dL_law_948 rfl rfl (by omega) (by omega) (fun v37 ev37 => ?_)
  refine s_ld C M hX hbl hgb ev37 (by omega) (by omega) dL_law_949 ?_
  refine lv_i2l C.1 C.2.1 dL_law_950 rfl ?_
  refine lv_topl (fun l38 _ => ?_)
  refine lv_ldc2 (v := 4294967295) C.1 C.2.1 C.2.2.2.1 (C.2.2.2.2 _ cn_L_119) dL_law_951 ?_
  refine lv_land C.1 C.2.1 dL_law_954 ?_
  refine lv_topl (fun l39 _ => ?_)
  refine lv_lor C.1 C.2.1 dL_law_955 ?_
  refine lv_topl (fun l40 _ => ?_)
  refine lv_aload_n C.1 C.2.1 dL_law_956 rfl (lv_at hl 1 rfl) ?_
  refine lv_iload C.1 C.2.1 dL_law_957 (lv_at hl 0 rfl) ?_
  refine lv_iconst (v := 5) C.1 C.2.1 dL_law_959 (by decide) ?_
  refine n_iadd C (Y := 5) dL_law_960 rfl rfl (by omega) (by omega) (fun v41 ev41 => ?_)
  refine s_ld C M hX hbl hgb ev41 (by omega) (by omega) dL_law_961 ?_
  refine lv_i2l C.1 C.2.1 dL_law_962 rfl ?_
  refine lv_topl (fun l42 _ => ?_)
  refine lv_bipush (v := 32) C.1 C.2.1 dL_law_963 (by decide) ?_
  refine lv_lshl C.1 C.2.1 dL_law_965 rfl ?_
  refine lv_topl (fun l43 _ => ?_)
  refine lv_aload_n C.1 C.2.1 dL_law_966 rfl (lv_at hl 1 rfl) ?_
  refine lv_iload C.1 C.2.1 dL_law_967 (lv_at hl 0 rfl) ?_
  refine lv_bipush (v := 6) C.1 C.2.1 dL_law_969 (by decide) ?_
  refine n_iadd C (Y := 6) dL_law_971 rfl rfl (by omega) (by omega) (fun v44 ev44 => ?_)
  refine s_ld C M hX hbl hgb ev44 (by omega) (by omega) dL_law_972 ?_
  refine lv_i2l C.1 C.2.1 dL_law_973 rfl ?_
  refine lv_topl (fun l45 _ => ?_)
  refine lv_ldc2 (v := 4294967295) C.1 C.2.1 C.2.2.2.1 (C.2.2.2.2 _ cn_L_119) dL_law_974 ?_
  refine lv_land C.1 C.2.1 dL_law_977 ?_
  refine lv_topl (fun l46 _ => ?_)
  refine lv_lor C.1 C.2.1 dL_law_978 ?_
  refine lv_topl (fun l47 _ => ?_)
  refine k_PM C M hm (by decide) rfl (ct_X11_feed l g I23 J am l33 l40 l47 hm) (cw_up (cw_L_125 (D := 60) C.2.2.2.2 (by decide)) (Nat.le_of_ble_eq_true rfl) (Nat.le_of_ble_eq_true rfl)) rfl hl.1 rfl (Nat.le_of_ble_eq_true rfl) dL_law_979 hcs (fun r48 I49 J50 H locs F51 hp52 M => ?_)
  obtain ⟨ej, hp52⟩ := hp52
  have ej := ej.symm
  subst ej
  have hLw : Lw g am I49 J := ⟨(rh_fr hw M.2.2.2.2.2.2.2 F51 (by decide) hLw.1), hLw.2.1, (jm_fr hS F51 (by decide) hLw.2.2.1), (im_fr hw hm F51 (by decide) hLw.2.2.2)⟩
  refine lv_pop C.1 C.2.1 dL_law_982 rfl ?_
  refine lv_goto (tgt := 1239) C.1 C.2.1 dL_law_983 (by decide) ?_
  refine W.widen (k := 200 + kk + 1) (n := 12000 + 6 * kk + 6) (Nat.le_succ _) (Nat.le_add_right _ _) ?_
  exact K I49 J _ _ _ hLw M hl

set_option maxHeartbeats 4000000 in
set_option maxRecDepth 100000 in
theorem lc_22 {p : Program} {l : Launch} {e : Env} {s : State} {m : MethodId} {below : List Frame} {meth : Method} {c : Code} {g : Gs} {b L ax am ao kk : Nat} {xs : Nat → Int32} (C : CallFix p m c cL_law 7 s #[Value.ref b] TB RL) (hX : va_X b L xs s s.heap) (hbl : b < s.heap.size) (hgb : gb g = s.heap.size) (hx : Is g ax 8) (hm : Is g am 9) (ho : Is g ao 43) (hls : l.stackTraces = false) {y4 : Int32} (hk : kk ≤ 512) (hy0 : 0 ≤ y4.toInt) (hy1 : y4.toInt + 7 ≤ L) (hL : L ≤ 3584)
    (K : ∀ (I : Ms) (J : Js) (H : Heap) (locs : List Loc) (ls : Array Slot), Lw g am I J → Mm g s I J H locs → lv_has ls 7 [(4, .int y4), (0, .ref b), (1, .ref ax), (2, .ref am), (3, .ref ao)] → W p l e room_1 s m #[Value.ref b] below meth c H locs (200 + kk + 1) (12000 + 6 * kk + 6) (lw_Z below #[Value.ref b] s) (F0 m 1239 ls []))
    {I : Ms} {J : Js} {H : Heap} {locs : List Loc} {ls : Array Slot} (hLw : Lw g am I J) (M : Mm g s I J H locs) (hl : lv_has ls 7 [(4, .int y4), (0, .ref b), (1, .ref ax), (2, .ref am), (3, .ref ao)]) : W p l e room_1 s m #[Value.ref b] below meth c H locs (200 + kk) (12000 + 6 * kk) (lw_Z below #[Value.ref b] s) (F0 m 986 ls []) := by
  have hS := is_ref M hm 0 28 rfl rfl
  have hcs : 200 + kk ≤ room_1.cells ∧ 12000 + 6 * kk ≤ room_1.slots := ⟨by show 200 + kk ≤ 601024; omega, by show 12000 + 6 * kk ≤ 7293034; omega⟩
  have hcs2 : 200 + kk + 1 ≤ room_1.cells ∧ 12000 + 6 * kk + 6 ≤ room_1.slots := ⟨by show 200 + kk + 1 ≤ 601024; omega, by show 12000 + 6 * kk + 6 ≤ 7293034; omega⟩
  have hw : Wf g := M.2.2.2.2.2.1
  refine lv_aload_n C.1 C.2.1 dL_law_986 rfl (lv_at hl 2 rfl) ?_
  refine lv_aload_n C.1 C.2.1 dL_law_987 rfl (lv_at hl 1 rfl) ?_
  refine lv_iload C.1 C.2.1 dL_law_988 (lv_at hl 0 rfl) ?_
  refine lv_iconst (v := 1) C.1 C.2.1 dL_law_990 (by decide) ?_
  refine n_iadd C (Y := 1) dL_law_991 rfl rfl (by omega) (by omega) (fun v1 ev1 => ?_)
  refine s_ld C M hX hbl hgb ev1 (by omega) (by omega) dL_law_992 ?_
  refine k_PM C M hx (by decide) rfl (ct_X10_end l g I J ax (xs (y4.toInt + 1).toNat) hx) (cw_up (cw_L_126 (D := 60) C.2.2.2.2 (by decide)) (Nat.le_of_ble_eq_true rfl) (Nat.le_of_ble_eq_true rfl)) rfl hl.1 rfl (Nat.le_of_ble_eq_true rfl) dL_law_993 hcs (fun r2 I3 J4 H locs F5 hp6 M => ?_)
  obtain ⟨ej, hp6⟩ := hp6
  have ej := ej.symm
  subst ej
  have hLw : Lw g am I3 J := ⟨(rh_fr hw M.2.2.2.2.2.2.2 F5 (by decide) hLw.1), hLw.2.1, (jm_fr hS F5 (by decide) hLw.2.2.1), (im_fr hw hm F5 (by decide) hLw.2.2.2)⟩
  refine lv_pop C.1 C.2.1 dL_law_996 rfl ?_
  refine lv_aload_n C.1 C.2.1 dL_law_997 rfl (lv_at hl 3 rfl) ?_
  refine lv_aload_n C.1 C.2.1 dL_law_998 rfl (lv_at hl 1 rfl) ?_
  refine lv_iload C.1 C.2.1 dL_law_999 (lv_at hl 0 rfl) ?_
  refine lv_iconst (v := 1) C.1 C.2.1 dL_law_1001 (by decide) ?_
  refine n_iadd C (Y := 1) dL_law_1002 rfl rfl (by omega) (by omega) (fun v7 ev7 => ?_)
  refine s_ld C M hX hbl hgb ev7 (by omega) (by omega) dL_law_1003 ?_
  refine k_PM C M hm (by decide) rfl (ct_X11_end l g I3 J am (xs (y4.toInt + 1).toNat) hm) (cw_up (cw_L_129 (D := 60) C.2.2.2.2 (by decide)) (Nat.le_of_ble_eq_true rfl) (Nat.le_of_ble_eq_true rfl)) rfl hl.1 rfl (Nat.le_of_ble_eq_true rfl) dL_law_1004 hcs (fun r8 I9 J10 H locs F11 hp12 M => ?_)
  obtain ⟨ej, hp12⟩ := hp12
  have ej := ej.symm
  subst ej
  have hLw : Lw g am I9 J := ⟨(rh_fr hw M.2.2.2.2.2.2.2 F11 (by decide) hLw.1), hLw.2.1, (jm_fr hS F11 (by decide) hLw.2.2.1), (im_fr hw hm F11 (by decide) hLw.2.2.2)⟩
  refine lv_pop C.1 C.2.1 dL_law_1007 rfl ?_
  refine lv_goto (tgt := 1239) C.1 C.2.1 dL_law_1008 (by decide) ?_
  refine W.widen (k := 200 + kk + 1) (n := 12000 + 6 * kk + 6) (Nat.le_succ _) (Nat.le_add_right _ _) ?_
  exact K I9 J _ _ _ hLw M hl

set_option maxHeartbeats 4000000 in
set_option maxRecDepth 100000 in
theorem lc_23 {p : Program} {l : Launch} {e : Env} {s : State} {m : MethodId} {below : List Frame} {meth : Method} {c : Code} {g : Gs} {b L ax am ao kk : Nat} {xs : Nat → Int32} (C : CallFix p m c cL_law 7 s #[Value.ref b] TB RL) (hX : va_X b L xs s s.heap) (hbl : b < s.heap.size) (hgb : gb g = s.heap.size) (hx : Is g ax 8) (hm : Is g am 9) (ho : Is g ao 43) (hls : l.stackTraces = false) {y4 : Int32} (hk : kk ≤ 512) (hy0 : 0 ≤ y4.toInt) (hy1 : y4.toInt + 7 ≤ L) (hL : L ≤ 3584)
    (K : ∀ (I : Ms) (J : Js) (H : Heap) (locs : List Loc) (ls : Array Slot), Lw g am I J → Mm g s I J H locs → lv_has ls 7 [(4, .int y4), (0, .ref b), (1, .ref ax), (2, .ref am), (3, .ref ao)] → W p l e room_1 s m #[Value.ref b] below meth c H locs (200 + kk + 1) (12000 + 6 * kk + 6) (lw_Z below #[Value.ref b] s) (F0 m 1239 ls []))
    {I : Ms} {J : Js} {H : Heap} {locs : List Loc} {ls : Array Slot} (hLw : Lw g am I J) (M : Mm g s I J H locs) (hl : lv_has ls 7 [(4, .int y4), (0, .ref b), (1, .ref ax), (2, .ref am), (3, .ref ao)]) : W p l e room_1 s m #[Value.ref b] below meth c H locs (200 + kk) (12000 + 6 * kk) (lw_Z below #[Value.ref b] s) (F0 m 1011 ls []) := by
  have hS := is_ref M hm 0 28 rfl rfl
  have hcs : 200 + kk ≤ room_1.cells ∧ 12000 + 6 * kk ≤ room_1.slots := ⟨by show 200 + kk ≤ 601024; omega, by show 12000 + 6 * kk ≤ 7293034; omega⟩
  have hcs2 : 200 + kk + 1 ≤ room_1.cells ∧ 12000 + 6 * kk + 6 ≤ room_1.slots := ⟨by show 200 + kk + 1 ≤ 601024; omega, by show 12000 + 6 * kk + 6 ≤ 7293034; omega⟩
  have hw : Wf g := M.2.2.2.2.2.1
  refine lv_aload_n C.1 C.2.1 dL_law_1011 rfl (lv_at hl 2 rfl) ?_
  refine k_PM C M hx (by decide) rfl (ct_X10_script l g I J ax hx hLw.2.1 hLw.1) (cw_up (cw_L_130 (D := 60) C.2.2.2.2 (by decide)) (Nat.le_of_ble_eq_true rfl) (Nat.le_of_ble_eq_true rfl)) rfl hl.1 rfl (Nat.le_of_ble_eq_true rfl) dL_law_1012 hcs (fun r1 I2 J3 H locs F4 hp5 M => ?_)
  obtain ⟨ej, hp5⟩ := hp5
  have hLw : Lw g am I2 J3 := ⟨hp5.2, ej, (jm_fr hS F4 (by decide) hLw.2.2.1), (im_fr hw hm F4 (by decide) hLw.2.2.2)⟩
  refine lv_pop C.1 C.2.1 dL_law_1015 rfl ?_
  refine lv_aload_n C.1 C.2.1 dL_law_1016 rfl (lv_at hl 3 rfl) ?_
  refine k_PM C M hm (by decide) rfl (ct_X11_script l g I2 J3 am hm hLw.2.2.1 hLw.2.2.2) (cw_up (cw_L_133 (D := 60) C.2.2.2.2 (by decide)) (Nat.le_of_ble_eq_true rfl) (Nat.le_of_ble_eq_true rfl)) rfl hl.1 rfl (Nat.le_of_ble_eq_true rfl) dL_law_1017 hcs (fun r6 I7 J8 H locs F9 hp10 M => ?_)
  obtain ⟨ej, hp10⟩ := hp10
  have hLw : Lw g am I7 J8 := ⟨(rh_fr hw M.2.2.2.2.2.2.2 F9 (by decide) (rh_j ej.1 hLw.1)), (dr_eq ej.2 hLw.2.1), hp10.1, hp10.2⟩
  refine lv_pop C.1 C.2.1 dL_law_1020 rfl ?_
  refine lv_goto (tgt := 1239) C.1 C.2.1 dL_law_1021 (by decide) ?_
  refine W.widen (k := 200 + kk + 1) (n := 12000 + 6 * kk + 6) (Nat.le_succ _) (Nat.le_add_right _ _) ?_
  exact K I7 J8 _ _ _ hLw M hl

set_option maxHeartbeats 4000000 in
set_option maxRecDepth 100000 in
theorem lc_24 {p : Program} {l : Launch} {e : Env} {s : State} {m : MethodId} {below : List Frame} {meth : Method} {c : Code} {g : Gs} {b L ax am ao kk : Nat} {xs : Nat → Int32} (C : CallFix p m c cL_law 7 s #[Value.ref b] TB RL) (hX : va_X b L xs s s.heap) (hbl : b < s.heap.size) (hgb : gb g = s.heap.size) (hx : Is g ax 8) (hm : Is g am 9) (ho : Is g ao 43) (hls : l.stackTraces = false) {y4 : Int32} (hk : kk ≤ 512) (hy0 : 0 ≤ y4.toInt) (hy1 : y4.toInt + 7 ≤ L) (hL : L ≤ 3584)
    (K : ∀ (I : Ms) (J : Js) (H : Heap) (locs : List Loc) (ls : Array Slot), Lw g am I J → Mm g s I J H locs → lv_has ls 7 [(4, .int y4), (0, .ref b), (1, .ref ax), (2, .ref am), (3, .ref ao)] → W p l e room_1 s m #[Value.ref b] below meth c H locs (200 + kk + 1) (12000 + 6 * kk + 6) (lw_Z below #[Value.ref b] s) (F0 m 1239 ls []))
    {I : Ms} {J : Js} {H : Heap} {locs : List Loc} {ls : Array Slot} (hLw : Lw g am I J) (M : Mm g s I J H locs) (hl : lv_has ls 7 [(4, .int y4), (0, .ref b), (1, .ref ax), (2, .ref am), (3, .ref ao)]) : W p l e room_1 s m #[Value.ref b] below meth c H locs (200 + kk) (12000 + 6 * kk) (lw_Z below #[Value.ref b] s) (F0 m 1024 ls []) := by
  have hS := is_ref M hm 0 28 rfl rfl
  have hcs : 200 + kk ≤ room_1.cells ∧ 12000 + 6 * kk ≤ room_1.slots := ⟨by show 200 + kk ≤ 601024; omega, by show 12000 + 6 * kk ≤ 7293034; omega⟩
  have hcs2 : 200 + kk + 1 ≤ room_1.cells ∧ 12000 + 6 * kk + 6 ≤ room_1.slots := ⟨by show 200 + kk + 1 ≤ 601024; omega, by show 12000 + 6 * kk + 6 ≤ 7293034; omega⟩
  have hw : Wf g := M.2.2.2.2.2.1
  refine lv_aload_n C.1 C.2.1 dL_law_1024 rfl (lv_at hl 2 rfl) ?_
  refine lv_aload_n C.1 C.2.1 dL_law_1025 rfl (lv_at hl 1 rfl) ?_
  refine lv_iload C.1 C.2.1 dL_law_1026 (lv_at hl 0 rfl) ?_
  refine lv_iconst (v := 1) C.1 C.2.1 dL_law_1028 (by decide) ?_
  refine n_iadd C (Y := 1) dL_law_1029 rfl rfl (by omega) (by omega) (fun v1 ev1 => ?_)
  refine s_ld C M hX hbl hgb ev1 (by omega) (by omega) dL_law_1030 ?_
  refine k_PI C M hx (by decide) rfl (ct_X10_laid l g I J ax (xs (y4.toInt + 1).toNat) hx) (cw_up (cw_L_134 (D := 60) C.2.2.2.2 (by decide)) (Nat.le_of_ble_eq_true rfl) (Nat.le_of_ble_eq_true rfl)) rfl hl.1 rfl (Nat.le_of_ble_eq_true rfl) dL_law_1031 hcs (fun r2 H locs _ M => ?_)
  refine lv_pop C.1 C.2.1 dL_law_1034 rfl ?_
  refine lv_aload_n C.1 C.2.1 dL_law_1035 rfl (lv_at hl 3 rfl) ?_
  refine lv_aload_n C.1 C.2.1 dL_law_1036 rfl (lv_at hl 1 rfl) ?_
  refine lv_iload C.1 C.2.1 dL_law_1037 (lv_at hl 0 rfl) ?_
  refine lv_iconst (v := 1) C.1 C.2.1 dL_law_1039 (by decide) ?_
  refine n_iadd C (Y := 1) dL_law_1040 rfl rfl (by omega) (by omega) (fun v3 ev3 => ?_)
  refine s_ld C M hX hbl hgb ev3 (by omega) (by omega) dL_law_1041 ?_
  refine k_PM C M hm (by decide) rfl (ct_X11_laid l g I J am (xs (y4.toInt + 1).toNat) hm) (cw_up (cw_L_137 (D := 60) C.2.2.2.2 (by decide)) (Nat.le_of_ble_eq_true rfl) (Nat.le_of_ble_eq_true rfl)) rfl hl.1 rfl (Nat.le_of_ble_eq_true rfl) dL_law_1042 hcs (fun r4 I5 J6 H locs F7 hp8 M => ?_)
  obtain ⟨ej, hp8⟩ := hp8
  have ej := ej.symm
  subst ej
  have hLw : Lw g am I5 J := ⟨(rh_fr hw M.2.2.2.2.2.2.2 F7 (by decide) hLw.1), hLw.2.1, (jm_fr hS F7 (by decide) hLw.2.2.1), (im_fr hw hm F7 (by decide) hLw.2.2.2)⟩
  refine lv_pop C.1 C.2.1 dL_law_1045 rfl ?_
  refine lv_goto (tgt := 1239) C.1 C.2.1 dL_law_1046 (by decide) ?_
  refine W.widen (k := 200 + kk + 1) (n := 12000 + 6 * kk + 6) (Nat.le_succ _) (Nat.le_add_right _ _) ?_
  exact K I5 J _ _ _ hLw M hl

set_option maxHeartbeats 4000000 in
set_option maxRecDepth 100000 in
theorem lc_25 {p : Program} {l : Launch} {e : Env} {s : State} {m : MethodId} {below : List Frame} {meth : Method} {c : Code} {g : Gs} {b L ax am ao kk : Nat} {xs : Nat → Int32} (C : CallFix p m c cL_law 7 s #[Value.ref b] TB RL) (hX : va_X b L xs s s.heap) (hbl : b < s.heap.size) (hgb : gb g = s.heap.size) (hx : Is g ax 8) (hm : Is g am 9) (ho : Is g ao 43) (hls : l.stackTraces = false) {y4 : Int32} (hk : kk ≤ 512) (hy0 : 0 ≤ y4.toInt) (hy1 : y4.toInt + 7 ≤ L) (hL : L ≤ 3584)
    (K : ∀ (I : Ms) (J : Js) (H : Heap) (locs : List Loc) (ls : Array Slot), Lw g am I J → Mm g s I J H locs → lv_has ls 7 [(4, .int y4), (0, .ref b), (1, .ref ax), (2, .ref am), (3, .ref ao)] → W p l e room_1 s m #[Value.ref b] below meth c H locs (200 + kk + 1) (12000 + 6 * kk + 6) (lw_Z below #[Value.ref b] s) (F0 m 1239 ls []))
    {I : Ms} {J : Js} {H : Heap} {locs : List Loc} {ls : Array Slot} (hLw : Lw g am I J) (M : Mm g s I J H locs) (hl : lv_has ls 7 [(4, .int y4), (0, .ref b), (1, .ref ax), (2, .ref am), (3, .ref ao)]) : W p l e room_1 s m #[Value.ref b] below meth c H locs (200 + kk) (12000 + 6 * kk) (lw_Z below #[Value.ref b] s) (F0 m 1049 ls []) := by
  have hS := is_ref M hm 0 28 rfl rfl
  have hcs : 200 + kk ≤ room_1.cells ∧ 12000 + 6 * kk ≤ room_1.slots := ⟨by show 200 + kk ≤ 601024; omega, by show 12000 + 6 * kk ≤ 7293034; omega⟩
  have hcs2 : 200 + kk + 1 ≤ room_1.cells ∧ 12000 + 6 * kk + 6 ≤ room_1.slots := ⟨by show 200 + kk + 1 ≤ 601024; omega, by show 12000 + 6 * kk + 6 ≤ 7293034; omega⟩
  have hw : Wf g := M.2.2.2.2.2.1
  refine lv_aload_n C.1 C.2.1 dL_law_1049 rfl (lv_at hl 2 rfl) ?_
  refine lv_aload_n C.1 C.2.1 dL_law_1050 rfl (lv_at hl 1 rfl) ?_
  refine lv_iload C.1 C.2.1 dL_law_1051 (lv_at hl 0 rfl) ?_
  refine lv_iconst (v := 1) C.1 C.2.1 dL_law_1053 (by decide) ?_
  refine n_iadd C (Y := 1) dL_law_1054 rfl rfl (by omega) (by omega) (fun v1 ev1 => ?_)
  refine s_ld C M hX hbl hgb ev1 (by omega) (by omega) dL_law_1055 ?_
  refine lv_aload_n C.1 C.2.1 dL_law_1056 rfl (lv_at hl 1 rfl) ?_
  refine lv_iload C.1 C.2.1 dL_law_1057 (lv_at hl 0 rfl) ?_
  refine lv_iconst (v := 2) C.1 C.2.1 dL_law_1059 (by decide) ?_
  refine n_iadd C (Y := 2) dL_law_1060 rfl rfl (by omega) (by omega) (fun v2 ev2 => ?_)
  refine s_ld C M hX hbl hgb ev2 (by omega) (by omega) dL_law_1061 ?_
  refine k_PI C M hx (by decide) rfl (ct_X10_of l g I J ax (xs (y4.toInt + 1).toNat) (xs (y4.toInt + 2).toNat) hx) (cw_up (cw_L_138 (D := 60) C.2.2.2.2 (by decide)) (Nat.le_of_ble_eq_true rfl) (Nat.le_of_ble_eq_true rfl)) rfl hl.1 rfl (Nat.le_of_ble_eq_true rfl) dL_law_1062 hcs (fun r3 H locs _ M => ?_)
  refine lv_pop C.1 C.2.1 dL_law_1065 rfl ?_
  refine lv_aload_n C.1 C.2.1 dL_law_1066 rfl (lv_at hl 3 rfl) ?_
  refine lv_aload_n C.1 C.2.1 dL_law_1067 rfl (lv_at hl 1 rfl) ?_
  refine lv_iload C.1 C.2.1 dL_law_1068 (lv_at hl 0 rfl) ?_
  refine lv_iconst (v := 1) C.1 C.2.1 dL_law_1070 (by decide) ?_
  refine n_iadd C (Y := 1) dL_law_1071 rfl rfl (by omega) (by omega) (fun v4 ev4 => ?_)
  refine s_ld C M hX hbl hgb ev4 (by omega) (by omega) dL_law_1072 ?_
  refine lv_aload_n C.1 C.2.1 dL_law_1073 rfl (lv_at hl 1 rfl) ?_
  refine lv_iload C.1 C.2.1 dL_law_1074 (lv_at hl 0 rfl) ?_
  refine lv_iconst (v := 2) C.1 C.2.1 dL_law_1076 (by decide) ?_
  refine n_iadd C (Y := 2) dL_law_1077 rfl rfl (by omega) (by omega) (fun v5 ev5 => ?_)
  refine s_ld C M hX hbl hgb ev5 (by omega) (by omega) dL_law_1078 ?_
  refine k_PM C M hm (by decide) rfl (ct_X11_of l g I J am (xs (y4.toInt + 1).toNat) (xs (y4.toInt + 2).toNat) hm hLw.2.2.1) (cw_up (cw_L_141 (D := 60) C.2.2.2.2 (by decide)) (Nat.le_of_ble_eq_true rfl) (Nat.le_of_ble_eq_true rfl)) rfl hl.1 rfl (Nat.le_of_ble_eq_true rfl) dL_law_1079 hcs (fun r6 I7 J8 H locs F9 hp10 M => ?_)
  obtain ⟨ej, hp10⟩ := hp10
  have ej := ej.symm
  subst ej
  have hLw : Lw g am I7 J := ⟨(rh_fr hw M.2.2.2.2.2.2.2 F9 (by decide) hLw.1), hLw.2.1, (jm_fr hS F9 (by decide) hLw.2.2.1), (im_fr hw hm F9 (by decide) hLw.2.2.2)⟩
  refine lv_pop C.1 C.2.1 dL_law_1082 rfl ?_
  refine lv_goto (tgt := 1239) C.1 C.2.1 dL_law_1083 (by decide) ?_
  refine W.widen (k := 200 + kk + 1) (n := 12000 + 6 * kk + 6) (Nat.le_succ _) (Nat.le_add_right _ _) ?_
  exact K I7 J _ _ _ hLw M hl

set_option maxHeartbeats 4000000 in
set_option maxRecDepth 100000 in
theorem lc_26 {p : Program} {l : Launch} {e : Env} {s : State} {m : MethodId} {below : List Frame} {meth : Method} {c : Code} {g : Gs} {b L ax am ao kk : Nat} {xs : Nat → Int32} (C : CallFix p m c cL_law 7 s #[Value.ref b] TB RL) (hX : va_X b L xs s s.heap) (hbl : b < s.heap.size) (hgb : gb g = s.heap.size) (hx : Is g ax 8) (hm : Is g am 9) (ho : Is g ao 43) (hls : l.stackTraces = false) {y4 : Int32} (hk : kk ≤ 512) (hy0 : 0 ≤ y4.toInt) (hy1 : y4.toInt + 7 ≤ L) (hL : L ≤ 3584)
    (K : ∀ (I : Ms) (J : Js) (H : Heap) (locs : List Loc) (ls : Array Slot), Lw g am I J → Mm g s I J H locs → lv_has ls 7 [(4, .int y4), (0, .ref b), (1, .ref ax), (2, .ref am), (3, .ref ao)] → W p l e room_1 s m #[Value.ref b] below meth c H locs (200 + kk + 1) (12000 + 6 * kk + 6) (lw_Z below #[Value.ref b] s) (F0 m 1239 ls []))
    {I : Ms} {J : Js} {H : Heap} {locs : List Loc} {ls : Array Slot} (hLw : Lw g am I J) (M : Mm g s I J H locs) (hl : lv_has ls 7 [(4, .int y4), (0, .ref b), (1, .ref ax), (2, .ref am), (3, .ref ao)]) : W p l e room_1 s m #[Value.ref b] below meth c H locs (200 + kk) (12000 + 6 * kk) (lw_Z below #[Value.ref b] s) (F0 m 1086 ls []) := by
  have hS := is_ref M hm 0 28 rfl rfl
  have hcs : 200 + kk ≤ room_1.cells ∧ 12000 + 6 * kk ≤ room_1.slots := ⟨by show 200 + kk ≤ 601024; omega, by show 12000 + 6 * kk ≤ 7293034; omega⟩
  have hcs2 : 200 + kk + 1 ≤ room_1.cells ∧ 12000 + 6 * kk + 6 ≤ room_1.slots := ⟨by show 200 + kk + 1 ≤ 601024; omega, by show 12000 + 6 * kk + 6 ≤ 7293034; omega⟩
  have hw : Wf g := M.2.2.2.2.2.1
  refine lv_aload_n C.1 C.2.1 dL_law_1086 rfl (lv_at hl 2 rfl) ?_
  refine lv_aload_n C.1 C.2.1 dL_law_1087 rfl (lv_at hl 1 rfl) ?_
  refine lv_iload C.1 C.2.1 dL_law_1088 (lv_at hl 0 rfl) ?_
  refine lv_iconst (v := 1) C.1 C.2.1 dL_law_1090 (by decide) ?_
  refine n_iadd C (Y := 1) dL_law_1091 rfl rfl (by omega) (by omega) (fun v1 ev1 => ?_)
  refine s_ld C M hX hbl hgb ev1 (by omega) (by omega) dL_law_1092 ?_
  refine lv_aload_n C.1 C.2.1 dL_law_1093 rfl (lv_at hl 1 rfl) ?_
  refine lv_iload C.1 C.2.1 dL_law_1094 (lv_at hl 0 rfl) ?_
  refine lv_iconst (v := 2) C.1 C.2.1 dL_law_1096 (by decide) ?_
  refine n_iadd C (Y := 2) dL_law_1097 rfl rfl (by omega) (by omega) (fun v2 ev2 => ?_)
  refine s_ld C M hX hbl hgb ev2 (by omega) (by omega) dL_law_1098 ?_
  refine lv_aload_n C.1 C.2.1 dL_law_1099 rfl (lv_at hl 4 rfl) ?_
  refine m_callH (n := 4) C M (ch_L_word l hls g I J ax (xs (y4.toInt + 1).toNat) (xs (y4.toInt + 2).toNat) ao hx ho) mh_word sh_word ini_L ch_word (by decide) ⟨(Nat.le_of_ble_eq_true rfl), (Nat.le_of_ble_eq_true rfl)⟩ rfl hl.1 rfl (Nat.le_of_ble_eq_true rfl) dL_law_1100 hcs2 (fun r3 I4 H locs F5 M => ?_)
  have hLw : Lw g am I4 J := ⟨rh_fr hw M.2.2.2.2.2.2.2 F5 (by decide) hLw.1, hLw.2.1, jm_fr hS F5 (by decide) hLw.2.2.1, im_fr hw hm F5 (by decide) hLw.2.2.2⟩
  refine lv_istore (lv' := [(5, .int r3), (4, .int y4), (0, .ref b), (1, .ref ax), (2, .ref am), (3, .ref ao)]) C.1 C.2.1 dL_law_1103 hl (by decide) rfl (fun ls hl => ?_)
  refine lv_aload_n C.1 C.2.1 dL_law_1105 rfl (lv_at hl 4 rfl) ?_
  refine lv_aload_n C.1 C.2.1 dL_law_1106 rfl (lv_at hl 2 rfl) ?_
  refine lv_iload C.1 C.2.1 dL_law_1107 (lv_at hl 1 rfl) ?_
  refine lv_iconst (v := 1) C.1 C.2.1 dL_law_1109 (by decide) ?_
  refine n_iadd C (Y := 1) dL_law_1110 rfl rfl (by omega) (by omega) (fun v6 ev6 => ?_)
  refine s_ld C M hX hbl hgb ev6 (by omega) (by omega) dL_law_1111 ?_
  refine lv_aload_n C.1 C.2.1 dL_law_1112 rfl (lv_at hl 2 rfl) ?_
  refine lv_iload C.1 C.2.1 dL_law_1113 (lv_at hl 1 rfl) ?_
  refine lv_iconst (v := 2) C.1 C.2.1 dL_law_1115 (by decide) ?_
  refine n_iadd C (Y := 2) dL_law_1116 rfl rfl (by omega) (by omega) (fun v7 ev7 => ?_)
  refine s_ld C M hX hbl hgb ev7 (by omega) (by omega) dL_law_1117 ?_
  refine k_PM C M hm (by decide) rfl (ct_X11_word l g I4 J am (xs (y4.toInt + 1).toNat) (xs (y4.toInt + 2).toNat) hm) (cw_up (cw_L_144 (D := 60) C.2.2.2.2 (by decide)) (Nat.le_of_ble_eq_true rfl) (Nat.le_of_ble_eq_true rfl)) rfl hl.1 rfl (Nat.le_of_ble_eq_true rfl) dL_law_1118 hcs2 (fun r8 I9 J10 H locs F11 hp12 M => ?_)
  obtain ⟨ej, hp12⟩ := hp12
  have ej := ej.symm
  subst ej
  have hLw : Lw g am I9 J := ⟨(rh_fr hw M.2.2.2.2.2.2.2 F11 (by decide) hLw.1), hLw.2.1, (jm_fr hS F11 (by decide) hLw.2.2.1), (im_fr hw hm F11 (by decide) hLw.2.2.2)⟩
  refine lv_istore (lv' := [(6, .int r8), (5, .int r3), (4, .int y4), (0, .ref b), (1, .ref ax), (2, .ref am), (3, .ref ao)]) C.1 C.2.1 dL_law_1121 hl (by decide) rfl (fun ls hl => ?_)
  refine lv_goto (tgt := 1239) C.1 C.2.1 dL_law_1123 (by decide) ?_
  exact K I9 J _ _ _ hLw M (lv_sub hl [2, 3, 4, 5, 6] rfl)

set_option maxHeartbeats 4000000 in
set_option maxRecDepth 100000 in
theorem lc_27 {p : Program} {l : Launch} {e : Env} {s : State} {m : MethodId} {below : List Frame} {meth : Method} {c : Code} {g : Gs} {b L ax am ao kk : Nat} {xs : Nat → Int32} (C : CallFix p m c cL_law 7 s #[Value.ref b] TB RL) (hX : va_X b L xs s s.heap) (hbl : b < s.heap.size) (hgb : gb g = s.heap.size) (hx : Is g ax 8) (hm : Is g am 9) (ho : Is g ao 43) (hls : l.stackTraces = false) {y4 : Int32} (hk : kk ≤ 512) (hy0 : 0 ≤ y4.toInt) (hy1 : y4.toInt + 7 ≤ L) (hL : L ≤ 3584)
    (K : ∀ (I : Ms) (J : Js) (H : Heap) (locs : List Loc) (ls : Array Slot), Lw g am I J → Mm g s I J H locs → lv_has ls 7 [(4, .int y4), (0, .ref b), (1, .ref ax), (2, .ref am), (3, .ref ao)] → W p l e room_1 s m #[Value.ref b] below meth c H locs (200 + kk + 1) (12000 + 6 * kk + 6) (lw_Z below #[Value.ref b] s) (F0 m 1239 ls []))
    {I : Ms} {J : Js} {H : Heap} {locs : List Loc} {ls : Array Slot} (hLw : Lw g am I J) (M : Mm g s I J H locs) (hl : lv_has ls 7 [(4, .int y4), (0, .ref b), (1, .ref ax), (2, .ref am), (3, .ref ao)]) : W p l e room_1 s m #[Value.ref b] below meth c H locs (200 + kk) (12000 + 6 * kk) (lw_Z below #[Value.ref b] s) (F0 m 1126 ls []) := by
  have hS := is_ref M hm 0 28 rfl rfl
  have hcs : 200 + kk ≤ room_1.cells ∧ 12000 + 6 * kk ≤ room_1.slots := ⟨by show 200 + kk ≤ 601024; omega, by show 12000 + 6 * kk ≤ 7293034; omega⟩
  have hcs2 : 200 + kk + 1 ≤ room_1.cells ∧ 12000 + 6 * kk + 6 ≤ room_1.slots := ⟨by show 200 + kk + 1 ≤ 601024; omega, by show 12000 + 6 * kk + 6 ≤ 7293034; omega⟩
  have hw : Wf g := M.2.2.2.2.2.1
  refine lv_aload_n C.1 C.2.1 dL_law_1126 rfl (lv_at hl 2 rfl) ?_
  refine lv_aload_n C.1 C.2.1 dL_law_1127 rfl (lv_at hl 1 rfl) ?_
  refine lv_iload C.1 C.2.1 dL_law_1128 (lv_at hl 0 rfl) ?_
  refine lv_iconst (v := 1) C.1 C.2.1 dL_law_1130 (by decide) ?_
  refine n_iadd C (Y := 1) dL_law_1131 rfl rfl (by omega) (by omega) (fun v1 ev1 => ?_)
  refine s_ld C M hX hbl hgb ev1 (by omega) (by omega) dL_law_1132 ?_
  refine k_PI C M hx (by decide) rfl (ct_X10_badAt l g I J ax (xs (y4.toInt + 1).toNat) hx) (cw_up (cw_L_145 (D := 60) C.2.2.2.2 (by decide)) (Nat.le_of_ble_eq_true rfl) (Nat.le_of_ble_eq_true rfl)) rfl hl.1 rfl (Nat.le_of_ble_eq_true rfl) dL_law_1133 hcs (fun r2 H locs _ M => ?_)
  refine lv_pop C.1 C.2.1 dL_law_1136 rfl ?_
  refine lv_aload_n C.1 C.2.1 dL_law_1137 rfl (lv_at hl 3 rfl) ?_
  refine lv_aload_n C.1 C.2.1 dL_law_1138 rfl (lv_at hl 1 rfl) ?_
  refine lv_iload C.1 C.2.1 dL_law_1139 (lv_at hl 0 rfl) ?_
  refine lv_iconst (v := 1) C.1 C.2.1 dL_law_1141 (by decide) ?_
  refine n_iadd C (Y := 1) dL_law_1142 rfl rfl (by omega) (by omega) (fun v3 ev3 => ?_)
  refine s_ld C M hX hbl hgb ev3 (by omega) (by omega) dL_law_1143 ?_
  refine k_PM C M hm (by decide) rfl (ct_X11_badAt l g I J am (xs (y4.toInt + 1).toNat) hm) (cw_up (cw_L_148 (D := 60) C.2.2.2.2 (by decide)) (Nat.le_of_ble_eq_true rfl) (Nat.le_of_ble_eq_true rfl)) rfl hl.1 rfl (Nat.le_of_ble_eq_true rfl) dL_law_1144 hcs (fun r4 I5 J6 H locs F7 hp8 M => ?_)
  obtain ⟨ej, hp8⟩ := hp8
  have ej := ej.symm
  subst ej
  have hLw : Lw g am I5 J := ⟨(rh_fr hw M.2.2.2.2.2.2.2 F7 (by decide) hLw.1), hLw.2.1, (jm_fr hS F7 (by decide) hLw.2.2.1), (im_fr hw hm F7 (by decide) hLw.2.2.2)⟩
  refine lv_pop C.1 C.2.1 dL_law_1147 rfl ?_
  refine lv_goto (tgt := 1239) C.1 C.2.1 dL_law_1148 (by decide) ?_
  refine W.widen (k := 200 + kk + 1) (n := 12000 + 6 * kk + 6) (Nat.le_succ _) (Nat.le_add_right _ _) ?_
  exact K I5 J _ _ _ hLw M hl

set_option maxHeartbeats 4000000 in
set_option maxRecDepth 100000 in
theorem lc_28 {p : Program} {l : Launch} {e : Env} {s : State} {m : MethodId} {below : List Frame} {meth : Method} {c : Code} {g : Gs} {b L ax am ao kk : Nat} {xs : Nat → Int32} (C : CallFix p m c cL_law 7 s #[Value.ref b] TB RL) (hX : va_X b L xs s s.heap) (hbl : b < s.heap.size) (hgb : gb g = s.heap.size) (hx : Is g ax 8) (hm : Is g am 9) (ho : Is g ao 43) (hls : l.stackTraces = false) {y4 : Int32} (hk : kk ≤ 512) (hy0 : 0 ≤ y4.toInt) (hy1 : y4.toInt + 7 ≤ L) (hL : L ≤ 3584)
    (K : ∀ (I : Ms) (J : Js) (H : Heap) (locs : List Loc) (ls : Array Slot), Lw g am I J → Mm g s I J H locs → lv_has ls 7 [(4, .int y4), (0, .ref b), (1, .ref ax), (2, .ref am), (3, .ref ao)] → W p l e room_1 s m #[Value.ref b] below meth c H locs (200 + kk + 1) (12000 + 6 * kk + 6) (lw_Z below #[Value.ref b] s) (F0 m 1239 ls []))
    {I : Ms} {J : Js} {H : Heap} {locs : List Loc} {ls : Array Slot} (hLw : Lw g am I J) (M : Mm g s I J H locs) (hl : lv_has ls 7 [(4, .int y4), (0, .ref b), (1, .ref ax), (2, .ref am), (3, .ref ao)]) : W p l e room_1 s m #[Value.ref b] below meth c H locs (200 + kk) (12000 + 6 * kk) (lw_Z below #[Value.ref b] s) (F0 m 1151 ls []) := by
  have hS := is_ref M hm 0 28 rfl rfl
  have hcs : 200 + kk ≤ room_1.cells ∧ 12000 + 6 * kk ≤ room_1.slots := ⟨by show 200 + kk ≤ 601024; omega, by show 12000 + 6 * kk ≤ 7293034; omega⟩
  have hcs2 : 200 + kk + 1 ≤ room_1.cells ∧ 12000 + 6 * kk + 6 ≤ room_1.slots := ⟨by show 200 + kk + 1 ≤ 601024; omega, by show 12000 + 6 * kk + 6 ≤ 7293034; omega⟩
  have hw : Wf g := M.2.2.2.2.2.1
  refine lv_aload_n C.1 C.2.1 dL_law_1151 rfl (lv_at hl 2 rfl) ?_
  refine k_PM C M hx (by decide) rfl (ct_X10_spoilt l g I J ax hx hLw.1) (cw_up (cw_L_149 (D := 60) C.2.2.2.2 (by decide)) (Nat.le_of_ble_eq_true rfl) (Nat.le_of_ble_eq_true rfl)) rfl hl.1 rfl (Nat.le_of_ble_eq_true rfl) dL_law_1152 hcs (fun r1 I2 J3 H locs F4 hp5 M => ?_)
  obtain ⟨ej, hp5⟩ := hp5
  have hLw : Lw g am I2 J3 := ⟨hp5.2, (dr_eq (congrArg Prod.fst ej) hLw.2.1), (jm_fr hS F4 (by decide) hLw.2.2.1), (im_fr hw hm F4 (by decide) hLw.2.2.2)⟩
  refine lv_pop C.1 C.2.1 dL_law_1155 rfl ?_
  refine lv_aload_n C.1 C.2.1 dL_law_1156 rfl (lv_at hl 3 rfl) ?_
  refine k_PM C M hm (by decide) rfl (ct_X11_spoilt l g I2 J3 am hm hLw.2.2.1) (cw_up (cw_L_152 (D := 60) C.2.2.2.2 (by decide)) (Nat.le_of_ble_eq_true rfl) (Nat.le_of_ble_eq_true rfl)) rfl hl.1 rfl (Nat.le_of_ble_eq_true rfl) dL_law_1157 hcs (fun r6 I7 J8 H locs F9 hp10 M => ?_)
  obtain ⟨ej, hp10⟩ := hp10
  have ej := ej.symm
  subst ej
  have hLw : Lw g am I7 J3 := ⟨(rh_fr hw M.2.2.2.2.2.2.2 F9 (by decide) hLw.1), hLw.2.1, hp10, (im_fr hw hm F9 (by decide) hLw.2.2.2)⟩
  refine lv_pop C.1 C.2.1 dL_law_1160 rfl ?_
  refine lv_goto (tgt := 1239) C.1 C.2.1 dL_law_1161 (by decide) ?_
  refine W.widen (k := 200 + kk + 1) (n := 12000 + 6 * kk + 6) (Nat.le_succ _) (Nat.le_add_right _ _) ?_
  exact K I7 J3 _ _ _ hLw M hl

set_option maxHeartbeats 4000000 in
set_option maxRecDepth 100000 in
theorem lc_29 {p : Program} {l : Launch} {e : Env} {s : State} {m : MethodId} {below : List Frame} {meth : Method} {c : Code} {g : Gs} {b L ax am ao kk : Nat} {xs : Nat → Int32} (C : CallFix p m c cL_law 7 s #[Value.ref b] TB RL) (hX : va_X b L xs s s.heap) (hbl : b < s.heap.size) (hgb : gb g = s.heap.size) (hx : Is g ax 8) (hm : Is g am 9) (ho : Is g ao 43) (hls : l.stackTraces = false) {y4 : Int32} (hk : kk ≤ 512) (hy0 : 0 ≤ y4.toInt) (hy1 : y4.toInt + 7 ≤ L) (hL : L ≤ 3584)
    (K : ∀ (I : Ms) (J : Js) (H : Heap) (locs : List Loc) (ls : Array Slot), Lw g am I J → Mm g s I J H locs → lv_has ls 7 [(4, .int y4), (0, .ref b), (1, .ref ax), (2, .ref am), (3, .ref ao)] → W p l e room_1 s m #[Value.ref b] below meth c H locs (200 + kk + 1) (12000 + 6 * kk + 6) (lw_Z below #[Value.ref b] s) (F0 m 1239 ls []))
    {I : Ms} {J : Js} {H : Heap} {locs : List Loc} {ls : Array Slot} (hLw : Lw g am I J) (M : Mm g s I J H locs) (hl : lv_has ls 7 [(4, .int y4), (0, .ref b), (1, .ref ax), (2, .ref am), (3, .ref ao)]) : W p l e room_1 s m #[Value.ref b] below meth c H locs (200 + kk) (12000 + 6 * kk) (lw_Z below #[Value.ref b] s) (F0 m 1164 ls []) := by
  have hS := is_ref M hm 0 28 rfl rfl
  have hcs : 200 + kk ≤ room_1.cells ∧ 12000 + 6 * kk ≤ room_1.slots := ⟨by show 200 + kk ≤ 601024; omega, by show 12000 + 6 * kk ≤ 7293034; omega⟩
  have hcs2 : 200 + kk + 1 ≤ room_1.cells ∧ 12000 + 6 * kk + 6 ≤ room_1.slots := ⟨by show 200 + kk + 1 ≤ 601024; omega, by show 12000 + 6 * kk + 6 ≤ 7293034; omega⟩
  have hw : Wf g := M.2.2.2.2.2.1
  refine lv_aload_n C.1 C.2.1 dL_law_1164 rfl (lv_at hl 2 rfl) ?_
  refine lv_aload_n C.1 C.2.1 dL_law_1165 rfl (lv_at hl 1 rfl) ?_
  refine lv_iload C.1 C.2.1 dL_law_1166 (lv_at hl 0 rfl) ?_
  refine lv_iconst (v := 1) C.1 C.2.1 dL_law_1168 (by decide) ?_
  refine n_iadd C (Y := 1) dL_law_1169 rfl rfl (by omega) (by omega) (fun v1 ev1 => ?_)
  refine s_ld C M hX hbl hgb ev1 (by omega) (by omega) dL_law_1170 ?_
  refine k_PM C M hx (by decide) rfl (ct_X10_exposed l g I J ax (xs (y4.toInt + 1).toNat) hx hLw.1) (cw_up (cw_L_153 (D := 60) C.2.2.2.2 (by decide)) (Nat.le_of_ble_eq_true rfl) (Nat.le_of_ble_eq_true rfl)) rfl hl.1 rfl (Nat.le_of_ble_eq_true rfl) dL_law_1171 hcs (fun r2 I3 J4 H locs F5 hp6 M => ?_)
  obtain ⟨ej, hp6⟩ := hp6
  have hLw : Lw g am I3 J4 := ⟨hp6.2, (dr_eq (congrArg Prod.fst ej) hLw.2.1), (jm_fr hS F5 (by decide) hLw.2.2.1), (im_fr hw hm F5 (by decide) hLw.2.2.2)⟩
  refine lv_pop C.1 C.2.1 dL_law_1174 rfl ?_
  refine lv_aload_n C.1 C.2.1 dL_law_1175 rfl (lv_at hl 3 rfl) ?_
  refine lv_aload_n C.1 C.2.1 dL_law_1176 rfl (lv_at hl 1 rfl) ?_
  refine lv_iload C.1 C.2.1 dL_law_1177 (lv_at hl 0 rfl) ?_
  refine lv_iconst (v := 1) C.1 C.2.1 dL_law_1179 (by decide) ?_
  refine n_iadd C (Y := 1) dL_law_1180 rfl rfl (by omega) (by omega) (fun v7 ev7 => ?_)
  refine s_ld C M hX hbl hgb ev7 (by omega) (by omega) dL_law_1181 ?_
  refine k_PM C M hm (by decide) rfl (ct_X11_exposed l g I3 J4 am (xs (y4.toInt + 1).toNat) hm hLw.2.2.1) (cw_up (cw_L_156 (D := 60) C.2.2.2.2 (by decide)) (Nat.le_of_ble_eq_true rfl) (Nat.le_of_ble_eq_true rfl)) rfl hl.1 rfl (Nat.le_of_ble_eq_true rfl) dL_law_1182 hcs (fun r8 I9 J10 H locs F11 hp12 M => ?_)
  obtain ⟨ej, hp12⟩ := hp12
  have ej := ej.symm
  subst ej
  have hLw : Lw g am I9 J4 := ⟨(rh_fr hw M.2.2.2.2.2.2.2 F11 (by decide) hLw.1), hLw.2.1, (jm_eq (hp12.2 717 (by decide) (by decide)) (hp12.2 715 (by decide) (by decide)) (hp12.2 716 (by decide) (by decide)) (hp12.2 722 (by decide) (by decide)) (hp12.2 718 (by decide) (by decide)) (hp12.2 719 (by decide) (by decide)) hLw.2.2.1), (im_fr hw hm F11 (by decide) hLw.2.2.2)⟩
  refine lv_pop C.1 C.2.1 dL_law_1185 rfl ?_
  refine lv_goto (tgt := 1239) C.1 C.2.1 dL_law_1186 (by decide) ?_
  refine W.widen (k := 200 + kk + 1) (n := 12000 + 6 * kk + 6) (Nat.le_succ _) (Nat.le_add_right _ _) ?_
  exact K I9 J4 _ _ _ hLw M hl

set_option maxHeartbeats 4000000 in
set_option maxRecDepth 100000 in
theorem lc_30 {p : Program} {l : Launch} {e : Env} {s : State} {m : MethodId} {below : List Frame} {meth : Method} {c : Code} {g : Gs} {b L ax am ao kk : Nat} {xs : Nat → Int32} (C : CallFix p m c cL_law 7 s #[Value.ref b] TB RL) (hX : va_X b L xs s s.heap) (hbl : b < s.heap.size) (hgb : gb g = s.heap.size) (hx : Is g ax 8) (hm : Is g am 9) (ho : Is g ao 43) (hls : l.stackTraces = false) {y4 : Int32} (hk : kk ≤ 512) (hy0 : 0 ≤ y4.toInt) (hy1 : y4.toInt + 7 ≤ L) (hL : L ≤ 3584)
    (K : ∀ (I : Ms) (J : Js) (H : Heap) (locs : List Loc) (ls : Array Slot), Lw g am I J → Mm g s I J H locs → lv_has ls 7 [(4, .int y4), (0, .ref b), (1, .ref ax), (2, .ref am), (3, .ref ao)] → W p l e room_1 s m #[Value.ref b] below meth c H locs (200 + kk + 1) (12000 + 6 * kk + 6) (lw_Z below #[Value.ref b] s) (F0 m 1239 ls []))
    {I : Ms} {J : Js} {H : Heap} {locs : List Loc} {ls : Array Slot} (hLw : Lw g am I J) (M : Mm g s I J H locs) (hl : lv_has ls 7 [(4, .int y4), (0, .ref b), (1, .ref ax), (2, .ref am), (3, .ref ao)]) : W p l e room_1 s m #[Value.ref b] below meth c H locs (200 + kk) (12000 + 6 * kk) (lw_Z below #[Value.ref b] s) (F0 m 1189 ls []) := by
  have hS := is_ref M hm 0 28 rfl rfl
  have hcs : 200 + kk ≤ room_1.cells ∧ 12000 + 6 * kk ≤ room_1.slots := ⟨by show 200 + kk ≤ 601024; omega, by show 12000 + 6 * kk ≤ 7293034; omega⟩
  have hcs2 : 200 + kk + 1 ≤ room_1.cells ∧ 12000 + 6 * kk + 6 ≤ room_1.slots := ⟨by show 200 + kk + 1 ≤ 601024; omega, by show 12000 + 6 * kk + 6 ≤ 7293034; omega⟩
  have hw : Wf g := M.2.2.2.2.2.1
  refine lv_aload_n C.1 C.2.1 dL_law_1189 rfl (lv_at hl 2 rfl) ?_
  refine lv_aload_n C.1 C.2.1 dL_law_1190 rfl (lv_at hl 1 rfl) ?_
  refine lv_iload C.1 C.2.1 dL_law_1191 (lv_at hl 0 rfl) ?_
  refine lv_iconst (v := 1) C.1 C.2.1 dL_law_1193 (by decide) ?_
  refine n_iadd C (Y := 1) dL_law_1194 rfl rfl (by omega) (by omega) (fun v1 ev1 => ?_)
  refine s_ld C M hX hbl hgb ev1 (by omega) (by omega) dL_law_1195 ?_
  refine k_PM C M hx (by decide) rfl (ct_X10_batch l g I J ax (xs (y4.toInt + 1).toNat) hx) (cw_up (cw_L_157 (D := 60) C.2.2.2.2 (by decide)) (Nat.le_of_ble_eq_true rfl) (Nat.le_of_ble_eq_true rfl)) rfl hl.1 rfl (Nat.le_of_ble_eq_true rfl) dL_law_1196 hcs (fun r2 I3 J4 H locs F5 hp6 M => ?_)
  obtain ⟨ej, hp6⟩ := hp6
  have ej := ej.symm
  subst ej
  have hLw : Lw g am I3 J := ⟨(rh_fr hw M.2.2.2.2.2.2.2 F5 (by decide) hLw.1), hLw.2.1, (jm_fr hS F5 (by decide) hLw.2.2.1), (im_fr hw hm F5 (by decide) hLw.2.2.2)⟩
  refine lv_pop C.1 C.2.1 dL_law_1199 rfl ?_
  refine lv_aload_n C.1 C.2.1 dL_law_1200 rfl (lv_at hl 3 rfl) ?_
  refine lv_aload_n C.1 C.2.1 dL_law_1201 rfl (lv_at hl 1 rfl) ?_
  refine lv_iload C.1 C.2.1 dL_law_1202 (lv_at hl 0 rfl) ?_
  refine lv_iconst (v := 1) C.1 C.2.1 dL_law_1204 (by decide) ?_
  refine n_iadd C (Y := 1) dL_law_1205 rfl rfl (by omega) (by omega) (fun v7 ev7 => ?_)
  refine s_ld C M hX hbl hgb ev7 (by omega) (by omega) dL_law_1206 ?_
  refine k_PM C M hm (by decide) rfl (ct_X11_batch l g I3 J am (xs (y4.toInt + 1).toNat) hm hLw.2.2.1) (cw_up (cw_L_160 (D := 60) C.2.2.2.2 (by decide)) (Nat.le_of_ble_eq_true rfl) (Nat.le_of_ble_eq_true rfl)) rfl hl.1 rfl (Nat.le_of_ble_eq_true rfl) dL_law_1207 hcs (fun r8 I9 J10 H locs F11 hp12 M => ?_)
  obtain ⟨ej, hp12⟩ := hp12
  have ej := ej.symm
  subst ej
  have hLw : Lw g am I9 J := ⟨(rh_fr hw M.2.2.2.2.2.2.2 F11 (by decide) hLw.1), hLw.2.1, (jm_fr hS F11 (by decide) hLw.2.2.1), (im_fr hw hm F11 (by decide) hLw.2.2.2)⟩
  refine lv_pop C.1 C.2.1 dL_law_1210 rfl ?_
  refine lv_goto (tgt := 1239) C.1 C.2.1 dL_law_1211 (by decide) ?_
  refine W.widen (k := 200 + kk + 1) (n := 12000 + 6 * kk + 6) (Nat.le_succ _) (Nat.le_add_right _ _) ?_
  exact K I9 J _ _ _ hLw M hl

set_option maxHeartbeats 4000000 in
set_option maxRecDepth 100000 in
theorem lc_31 {p : Program} {l : Launch} {e : Env} {s : State} {m : MethodId} {below : List Frame} {meth : Method} {c : Code} {g : Gs} {b L ax am ao kk : Nat} {xs : Nat → Int32} (C : CallFix p m c cL_law 7 s #[Value.ref b] TB RL) (hX : va_X b L xs s s.heap) (hbl : b < s.heap.size) (hgb : gb g = s.heap.size) (hx : Is g ax 8) (hm : Is g am 9) (ho : Is g ao 43) (hls : l.stackTraces = false) {y4 : Int32} (hk : kk ≤ 512) (hy0 : 0 ≤ y4.toInt) (hy1 : y4.toInt + 7 ≤ L) (hL : L ≤ 3584)
    (K : ∀ (I : Ms) (J : Js) (H : Heap) (locs : List Loc) (ls : Array Slot), Lw g am I J → Mm g s I J H locs → lv_has ls 7 [(4, .int y4), (0, .ref b), (1, .ref ax), (2, .ref am), (3, .ref ao)] → W p l e room_1 s m #[Value.ref b] below meth c H locs (200 + kk + 1) (12000 + 6 * kk + 6) (lw_Z below #[Value.ref b] s) (F0 m 1239 ls []))
    {I : Ms} {J : Js} {H : Heap} {locs : List Loc} {ls : Array Slot} (hLw : Lw g am I J) (M : Mm g s I J H locs) (hl : lv_has ls 7 [(4, .int y4), (0, .ref b), (1, .ref ax), (2, .ref am), (3, .ref ao)]) : W p l e room_1 s m #[Value.ref b] below meth c H locs (200 + kk) (12000 + 6 * kk) (lw_Z below #[Value.ref b] s) (F0 m 1214 ls []) := by
  have hS := is_ref M hm 0 28 rfl rfl
  have hcs : 200 + kk ≤ room_1.cells ∧ 12000 + 6 * kk ≤ room_1.slots := ⟨by show 200 + kk ≤ 601024; omega, by show 12000 + 6 * kk ≤ 7293034; omega⟩
  have hcs2 : 200 + kk + 1 ≤ room_1.cells ∧ 12000 + 6 * kk + 6 ≤ room_1.slots := ⟨by show 200 + kk + 1 ≤ 601024; omega, by show 12000 + 6 * kk + 6 ≤ 7293034; omega⟩
  have hw : Wf g := M.2.2.2.2.2.1
  refine lv_aload_n C.1 C.2.1 dL_law_1214 rfl (lv_at hl 2 rfl) ?_
  refine lv_aload_n C.1 C.2.1 dL_law_1215 rfl (lv_at hl 1 rfl) ?_
  refine lv_iload C.1 C.2.1 dL_law_1216 (lv_at hl 0 rfl) ?_
  refine lv_iconst (v := 1) C.1 C.2.1 dL_law_1218 (by decide) ?_
  refine n_iadd C (Y := 1) dL_law_1219 rfl rfl (by omega) (by omega) (fun v1 ev1 => ?_)
  refine s_ld C M hX hbl hgb ev1 (by omega) (by omega) dL_law_1220 ?_
  refine k_PI C M hx (by decide) rfl (ct_X10_count l g I J ax (xs (y4.toInt + 1).toNat) hx) (cw_up (cw_L_161 (D := 60) C.2.2.2.2 (by decide)) (Nat.le_of_ble_eq_true rfl) (Nat.le_of_ble_eq_true rfl)) rfl hl.1 rfl (Nat.le_of_ble_eq_true rfl) dL_law_1221 hcs (fun r2 H locs _ M => ?_)
  refine lv_pop C.1 C.2.1 dL_law_1224 rfl ?_
  refine lv_aload_n C.1 C.2.1 dL_law_1225 rfl (lv_at hl 3 rfl) ?_
  refine lv_aload_n C.1 C.2.1 dL_law_1226 rfl (lv_at hl 1 rfl) ?_
  refine lv_iload C.1 C.2.1 dL_law_1227 (lv_at hl 0 rfl) ?_
  refine lv_iconst (v := 1) C.1 C.2.1 dL_law_1229 (by decide) ?_
  refine n_iadd C (Y := 1) dL_law_1230 rfl rfl (by omega) (by omega) (fun v3 ev3 => ?_)
  refine s_ld C M hX hbl hgb ev3 (by omega) (by omega) dL_law_1231 ?_
  refine k_PM C M hm (by decide) rfl (ct_X11_count l g I J am (xs (y4.toInt + 1).toNat) hm hLw.2.2.1) (cw_up (cw_L_164 (D := 60) C.2.2.2.2 (by decide)) (Nat.le_of_ble_eq_true rfl) (Nat.le_of_ble_eq_true rfl)) rfl hl.1 rfl (Nat.le_of_ble_eq_true rfl) dL_law_1232 hcs (fun r4 I5 J6 H locs F7 hp8 M => ?_)
  obtain ⟨ej, hp8⟩ := hp8
  have ej := ej.symm
  subst ej
  have hLw : Lw g am I5 J := ⟨(rh_fr hw M.2.2.2.2.2.2.2 F7 (by decide) hLw.1), hLw.2.1, (jm_fr hS F7 (by decide) hLw.2.2.1), (im_fr hw hm F7 (by decide) hLw.2.2.2)⟩
  refine lv_pop C.1 C.2.1 dL_law_1235 rfl ?_
  refine lv_goto (tgt := 1239) C.1 C.2.1 dL_law_1236 (by decide) ?_
  refine W.widen (k := 200 + kk + 1) (n := 12000 + 6 * kk + 6) (Nat.le_succ _) (Nat.le_add_right _ _) ?_
  exact K I5 J _ _ _ hLw M hl
