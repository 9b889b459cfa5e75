set_option maxHeartbeats 4000000 in
set_option maxRecDepth 100000 in
theorem law_loop {p : Program} {l : Launch} {e : Env} {s : State} {m : MethodId} {below : List Frame} {meth : Method} {c : Code} {g : Gs} {b L ax am ao : Nat} {xs : Nat → Int32} (C : CallFix p m c cL_law 7 s #[Value.ref b] TB RL) (hX : va_X b L xs s s.heap) (hbl : b < s.heap.size) (hgb : gb g = s.heap.size) (hx : Is g ax 8) (hm : Is g am 9) (ho : Is g ao 43) (hls : l.stackTraces = false) (hL : L ≤ 3584) (hr : meth.sig.returnType = ret) (hlk : meth.locks = false) :
    ∀ (n kk : Nat) (y4 : Int32) (I : Ms) (J : Js) (H : Heap) (locs : List Loc) (ls : Array Slot), 7 * (kk : Int) = y4.toInt → y4.toInt ≤ 3584 → 3584 - y4.toInt < (n : Int) → Lw g am I J → Mm g s I J H locs → lv_has ls 7 [(4, .int y4), (0, .ref b), (1, .ref ax), (2, .ref am), (3, .ref ao)] → W p l e room_1 s m #[Value.ref b] below meth c H locs (200 + kk) (12000 + 6 * kk) (lw_Z below #[Value.ref b] s) (F0 m 23 ls []) := by
  have hNL : (Int32.ofNat L).toInt = (L : Int) := Int32.toInt_ofNat_of_lt (by omega)
  intro n
  induction n with
  | zero =>
    intro kk y4 I J H locs ls f1 f2 f3 hLw M hl
    exact absurd f3 (by omega)
  | succ n ih =>
    intro kk y4 I J H locs ls f1 f2 f3 hLw M hl
    have hk : kk ≤ 512 := by omega
    have hy0 : 0 ≤ y4.toInt := by omega
    refine lv_iload C.1 C.2.1 dL_law_23 (lv_at hl 0 rfl) ?_
    refine lv_aload_n C.1 C.2.1 dL_law_25 rfl (lv_at hl 1 rfl) ?_
    refine va_slen C.1 C.2.1 hX hbl (fun h : gb g ≤ b => absurd h (by omega)) M.2.2.2.2.1 dL_law_26 ?_
    refine lv_bipush (v := 7) C.1 C.2.1 dL_law_27 (by decide) ?_
    refine n_isub C (X := (L : Int)) (Y := 7) dL_law_29 hNL rfl (by omega) (by omega) (fun v1 e1 => ?_)
    refine n_icmp_gt C (tgt := 1245) dL_law_30 (by decide) rfl rfl (fun q => ?_) (fun q => ?_)
    · refine lv_iconst (v := 1) C.1 C.2.1 dL_law_1245 (by decide) ?_
      refine va_forget (fun q hq => by have := M.2.2.2.2.1.2.2 q hq; show s.heap.size ≤ q.base; rw [← hgb]; exact this) ?_
      refine W.widen (k := 601024) (n := 7293034) (by omega) (by omega) ?_
      exact lw_ret C.1 C.2.1 hr hlk dL_law_1246
    · have hy1 : y4.toInt + 7 ≤ L := by omega
      have K : ∀ (I : Ms) (J : Js) (H : Heap) (locs : List Loc) (ls : Array Slot), Lw g am I J → Mm g s I J H locs → lv_has ls 7 [(4, .int y4), (0, .ref b), (1, .ref ax), (2, .ref am), (3, .ref ao)] → W p l e room_1 s m #[Value.ref b] below meth c H locs (200 + kk + 1) (12000 + 6 * kk + 6) (lw_Z below #[Value.ref b] s) (F0 m 1239 ls []) := by
        intro I J H locs ls hLw M hl
        refine n_iinc C (k := 0) (N := 7) (lv' := fun v => [(4, .int v), (0, .ref b), (1, .ref ax), (2, .ref am), (3, .ref ao)]) dL_law_1239 hl rfl (by decide) rfl rfl (by omega) (by omega) (fun _ => rfl) (fun v9 ls e9 hl => ?_)
        refine lv_goto (tgt := 23) C.1 C.2.1 dL_law_1242 (by decide) ?_
        have h9 := ih (kk + 1) v9 I J H locs ls (by omega) (by omega) (by omega) hLw M hl
        have e2 : 12000 + 6 * (kk + 1) = 12000 + 6 * kk + 6 := by omega
        rw [e2] at h9
        exact h9
      refine lv_aload_n C.1 C.2.1 dL_law_33 rfl (lv_at hl 1 rfl) ?_
      refine lv_iload C.1 C.2.1 dL_law_34 (lv_at hl 0 rfl) ?_
      refine s_ld C M hX hbl hgb rfl hy0 (by omega) dL_law_36 ?_
      refine lv_bipush (v := 31) C.1 C.2.1 dL_law_37 (by decide) ?_
      refine n_iandU C dL_law_39 (fun v2 => ?_)
      by_cases q0 : v2.toInt = 0
      · refine n_tabk (off := 144) (tgt := 184) C 0 dL_law_40 q0 (by decide) (by decide) (by decide) (by decide) ?_
        exact lc_0 C hX hbl hgb hx hm ho hls hk hy0 hy1 hL K hLw M hl
      by_cases q1 : v2.toInt = 1
      · refine n_tabk (off := 181) (tgt := 221) C 1 dL_law_40 q1 (by decide) (by decide) (by decide) (by decide) ?_
        exact lc_1 C hX hbl hgb hx hm ho hls hk hy0 hy1 hL K hLw M hl
      by_cases q2 : v2.toInt = 2
      · refine n_tabk (off := 218) (tgt := 258) C 2 dL_law_40 q2 (by decide) (by decide) (by decide) (by decide) ?_
        exact lc_2 C hX hbl hgb hx hm ho hls hk hy0 hy1 hL K hLw M hl
      by_cases q3 : v2.toInt = 3
      · refine n_tabk (off := 231) (tgt := 271) C 3 dL_law_40 q3 (by decide) (by decide) (by decide) (by decide) ?_
        exact lc_3 C hX hbl hgb hx hm ho hls hk hy0 hy1 hL K hLw M hl
      by_cases q4 : v2.toInt = 4
      · refine n_tabk (off := 256) (tgt := 296) C 4 dL_law_40 q4 (by decide) (by decide) (by decide) (by decide) ?_
        exact lc_4 C hX hbl hgb hx hm ho hls hk hy0 hy1 hL K hLw M hl
      by_cases q5 : v2.toInt = 5
      · refine n_tabk (off := 269) (tgt := 309) C 5 dL_law_40 q5 (by decide) (by decide) (by decide) (by decide) ?_
        exact lc_5 C hX hbl hgb hx hm ho hls hk hy0 hy1 hL K hLw M hl
      by_cases q6 : v2.toInt = 6
      · refine n_tabk (off := 297) (tgt := 337) C 6 dL_law_40 q6 (by decide) (by decide) (by decide) (by decide) ?_
        exact lc_6 C hX hbl hgb hx hm ho hls hk hy0 hy1 hL K hLw M hl
      by_cases q7 : v2.toInt = 7
      · refine n_tabk (off := 334) (tgt := 374) C 7 dL_law_40 q7 (by decide) (by decide) (by decide) (by decide) ?_
        exact lc_7 C hX hbl hgb hx hm ho hls hk hy0 hy1 hL K hLw M hl
      by_cases q8 : v2.toInt = 8
      · refine n_tabk (off := 383) (tgt := 423) C 8 dL_law_40 q8 (by decide) (by decide) (by decide) (by decide) ?_
        exact lc_8 C hX hbl hgb hx hm ho hls hk hy0 hy1 hL K hLw M hl
      by_cases q9 : v2.toInt = 9
      · refine n_tabk (off := 408) (tgt := 448) C 9 dL_law_40 q9 (by decide) (by decide) (by decide) (by decide) ?_
        exact lc_9 C hX hbl hgb hx hm ho hls hk hy0 hy1 hL K hLw M hl
      by_cases q10 : v2.toInt = 10
      · refine n_tabk (off := 421) (tgt := 461) C 10 dL_law_40 q10 (by decide) (by decide) (by decide) (by decide) ?_
        exact lc_10 C hX hbl hgb hx hm ho hls hk hy0 hy1 hL K hLw M hl
      by_cases q11 : v2.toInt = 11
      · refine n_tabk (off := 458) (tgt := 498) C 11 dL_law_40 q11 (by decide) (by decide) (by decide) (by decide) ?_
        exact lc_11 C hX hbl hgb hx hm ho hls hk hy0 hy1 hL K hLw M hl
      by_cases q12 : v2.toInt = 12
      · refine n_tabk (off := 535) (tgt := 575) C 12 dL_law_40 q12 (by decide) (by decide) (by decide) (by decide) ?_
        exact lc_12 C hX hbl hgb hx hm ho hls hk hy0 hy1 hL K hLw M hl
      by_cases q13 : v2.toInt = 13
      · refine n_tabk (off := 560) (tgt := 600) C 13 dL_law_40 q13 (by decide) (by decide) (by decide) (by decide) ?_
        exact lc_13 C hX hbl hgb hx hm ho hls hk hy0 hy1 hL K hLw M hl
      by_cases q14 : v2.toInt = 14
      · refine n_tabk (off := 600) (tgt := 640) C 14 dL_law_40 q14 (by decide) (by decide) (by decide) (by decide) ?_
        exact lc_14 C hX hbl hgb hx hm ho hls hk hy0 hy1 hL K hLw M hl
      by_cases q15 : v2.toInt = 15
      · refine n_tabk (off := 637) (tgt := 677) C 15 dL_law_40 q15 (by decide) (by decide) (by decide) (by decide) ?_
        exact lc_15 C hX hbl hgb hx hm ho hls hk hy0 hy1 hL K hLw M hl
      by_cases q16 : v2.toInt = 16
      · refine n_tabk (off := 686) (tgt := 726) C 16 dL_law_40 q16 (by decide) (by decide) (by decide) (by decide) ?_
        exact lc_16 C hX hbl hgb hx hm ho hls hk hy0 hy1 hL K hLw M hl
      by_cases q17 : v2.toInt = 17
      · refine n_tabk (off := 711) (tgt := 751) C 17 dL_law_40 q17 (by decide) (by decide) (by decide) (by decide) ?_
        exact lc_17 C hX hbl hgb hx hm ho hls hk hy0 hy1 hL K hLw M hl
      by_cases q18 : v2.toInt = 18
      · refine n_tabk (off := 724) (tgt := 764) C 18 dL_law_40 q18 (by decide) (by decide) (by decide) (by decide) ?_
        exact lc_18 C hX hbl hgb hx hm ho hls hk hy0 hy1 hL K hLw M hl
      by_cases q19 : v2.toInt = 19
      · refine n_tabk (off := 749) (tgt := 789) C 19 dL_law_40 q19 (by decide) (by decide) (by decide) (by decide) ?_
        exact lc_19 C hX hbl hgb hx hm ho hls hk hy0 hy1 hL K hLw M hl
      by_cases q20 : v2.toInt = 20
      · refine n_tabk (off := 774) (tgt := 814) C 20 dL_law_40 q20 (by decide) (by decide) (by decide) (by decide) ?_
        exact lc_20 C hX hbl hgb hx hm ho hls hk hy0 hy1 hL K hLw M hl
      by_cases q21 : v2.toInt = 21
      · refine n_tabk (off := 799) (tgt := 839) C 21 dL_law_40 q21 (by decide) (by decide) (by decide) (by decide) ?_
        exact lc_21 C hX hbl hgb hx hm ho hls hk hy0 hy1 hL K hLw M hl
      by_cases q22 : v2.toInt = 22
      · refine n_tabk (off := 946) (tgt := 986) C 22 dL_law_40 q22 (by decide) (by decide) (by decide) (by decide) ?_
        exact lc_22 C hX hbl hgb hx hm ho hls hk hy0 hy1 hL K hLw M hl
      by_cases q23 : v2.toInt = 23
      · refine n_tabk (off := 971) (tgt := 1011) C 23 dL_law_40 q23 (by decide) (by decide) (by decide) (by decide) ?_
        exact lc_23 C hX hbl hgb hx hm ho hls hk hy0 hy1 hL K hLw M hl
      by_cases q24 : v2.toInt = 24
      · refine n_tabk (off := 984) (tgt := 1024) C 24 dL_law_40 q24 (by decide) (by decide) (by decide) (by decide) ?_
        exact lc_24 C hX hbl hgb hx hm ho hls hk hy0 hy1 hL K hLw M hl
      by_cases q25 : v2.toInt = 25
      · refine n_tabk (off := 1009) (tgt := 1049) C 25 dL_law_40 q25 (by decide) (by decide) (by decide) (by decide) ?_
        exact lc_25 C hX hbl hgb hx hm ho hls hk hy0 hy1 hL K hLw M hl
      by_cases q26 : v2.toInt = 26
      · refine n_tabk (off := 1046) (tgt := 1086) C 26 dL_law_40 q26 (by decide) (by decide) (by decide) (by decide) ?_
        exact lc_26 C hX hbl hgb hx hm ho hls hk hy0 hy1 hL K hLw M hl
      by_cases q27 : v2.toInt = 27
      · refine n_tabk (off := 1086) (tgt := 1126) C 27 dL_law_40 q27 (by decide) (by decide) (by decide) (by decide) ?_
        exact lc_27 C hX hbl hgb hx hm ho hls hk hy0 hy1 hL K hLw M hl
      by_cases q28 : v2.toInt = 28
      · refine n_tabk (off := 1111) (tgt := 1151) C 28 dL_law_40 q28 (by decide) (by decide) (by decide) (by decide) ?_
        exact lc_28 C hX hbl hgb hx hm ho hls hk hy0 hy1 hL K hLw M hl
      by_cases q29 : v2.toInt = 29
      · refine n_tabk (off := 1124) (tgt := 1164) C 29 dL_law_40 q29 (by decide) (by decide) (by decide) (by decide) ?_
        exact lc_29 C hX hbl hgb hx hm ho hls hk hy0 hy1 hL K hLw M hl
      by_cases q30 : v2.toInt = 30
      · refine n_tabk (off := 1149) (tgt := 1189) C 30 dL_law_40 q30 (by decide) (by decide) (by decide) (by decide) ?_
        exact lc_30 C hX hbl hgb hx hm ho hls hk hy0 hy1 hL K hLw M hl
      by_cases q31 : v2.toInt = 31
      · refine n_tabk (off := 1174) (tgt := 1214) C 31 dL_law_40 q31 (by decide) (by decide) (by decide) (by decide) ?_
        exact lc_31 C hX hbl hgb hx hm ho hls hk hy0 hy1 hL K hLw M hl
      refine n_tabo (tgt := 1239) C dL_law_40 rfl (by omega) (by decide) ?_
      refine W.widen (k := 200 + kk + 1) (n := 12000 + 6 * kk + 6) (Nat.le_succ _) (Nat.le_add_right _ _) ?_
      exact K I J H locs ls hLw M hl
