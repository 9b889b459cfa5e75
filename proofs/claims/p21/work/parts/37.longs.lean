section LONGS
variable {p : Program} {l : Launch} {e : Env} {R : Room} {s : State} {m : MethodId} {args : Array Value} {below : List Frame} {meth : Method} {c : Code} {H : Heap} {locs : List Loc} {cells slots : Nat} {Q : State → Prop} {cc : ByteArray} {nL pc : Nat} {ls : Array Slot} {st : List Value} {own : String} {g : Gs} {I : Ms} {J : Js} {a : Nat}
def upl (J : Js) (a : Nat) (v : Int64) : Js := (J.1, J.2.1, fun b => if b = a then v else J.2.2 b)
theorem fls_setl {v : Int64} : (fls g I J a 9).set 18 (.long v) = fls g I (upl J a v) a 9 := by
  apply List.ext_getElem?
  intro j
  by_cases hj : 18 = j
  · subst hj
    have hl : 18 < (fls g I J a 9).length := (List.getElem?_eq_some_iff.mp (fls_get (g := g) (I := I) (J := J) (a := a) (t := 9) (k := 18) (q := 3) rfl)).1
    rw [List.getElem?_set_self hl, fls_get (t := 9) (k := 18) (q := 3) rfl]
    simp [vl, upl]
  · rw [List.getElem?_set_ne hj]
    unfold fls
    rw [List.getElem?_mapIdx, List.getElem?_mapIdx]
    cases h9 : (cds 9)[j]? with
    | none => rfl
    | some q =>
      simp only [Option.map_some]
      match q with
      | 0 => rfl
      | 1 => rfl
      | 2 => rfl
      | n + 3 =>
        exfalso
        have h24 : j < 24 := (List.getElem?_eq_some_iff.mp h9).1
        have : ∀ j, j < 24 → j ≠ 18 → ∀ n, (cds 9)[j]? ≠ some (n + 3) := by
          intro j hj hn n
          have h1 : (cds 9)[j]? = some 0 ∨ (cds 9)[j]? = some 1 := by
            have : ∀ j, j < 24 → j ≠ 18 → ((cds 9)[j]? = some 0 ∨ (cds 9)[j]? = some 1) := by decide
            exact this j hj hn
          rcases h1 with h | h <;> rw [h] <;> simp
        exact this j h24 (fun q => hj q.symm) n h9
theorem ct_upl {v : Int64} (h : Is g a 9) : va_up (ct g I J) a (.inr (9, (fls g I J a 9).set 18 (.long v))) = ct g I (upl J a v) := by
  funext x
  by_cases hb : x = a
  · subst hb
    rw [va_up_self, ct_obj h (by decide), fls_setl]
  · rw [va_up_ne _ _ hb]
    have e2 : ∀ j q, vl g I (upl J a v) x j q = vl g I J x j q := by
      intro j q
      match q with
      | 0 => rfl
      | 1 => rfl
      | 2 => rfl
      | n + 3 => show Value.long _ = Value.long _; rw [show (upl J a v).2.2 x = J.2.2 x from if_neg hb]
    unfold ct fls
    simp only [e2]
    rfl
theorem m_putl (C : CallFix p m c cc nL s args TB RX11) (M : Mm g s I J H locs) (h : Is g a 9) {v : Int64} (hd : decode cc pc = .ok (.putfield 213, 3))
    (kk : ∀ (H1 : Heap) (locs1 : List Loc) (J1 : Js), J1.1 = J.1 ∧ J1.2.1 = J.2.1 → Mm g s I J1 H1 locs1 → W p l e R s m args below meth c H1 locs1 cells slots Q (F0 m (pc + 3) ls st)) : W p l e R s m args below meth c H locs cells slots Q (F0 m pc ls (.long v :: .ref a :: st)) := by
  obtain ⟨k0, hk0⟩ := m_place M h
  have hk1 := hk0
  rw [ct_obj h (by decide)] at hk0
  have hlen : 18 < (fls g I J a 9).length := (List.getElem?_eq_some_iff.mp (fls_get (g := g) (I := I) (J := J) (a := a) (t := 9) (k := 18) (q := 3) rfl)).1
  refine va_put (D := g.1) (ci := 9) (C := RX11) (T := TX11) (N := 24) (v := .long v) C.1 C.2.1 C.2.2.2.2 uw_X11 tyX11 tyX11_ok nmX11 C.2.2.2.1 M.2.1 M.2.2.1 M.2.2.2.1 M.2.2.2.2.1 k0 hk0 rfl 18 (by decide) (C.2.2.2.2 _ fl_X11_213) (fun _ h9 => h9) rfl (tyX11_ok 18 (by decide)) rfl rfl hlen hd (fun H1 locs1 hP hD hS => ?_)
  have ee := va_pl_set (X := []) (f := ct g I J) (e := .inr (9, (fls g I J a 9).set 18 (.long v))) M.2.2.2.1 h.1 hk1
  rw [List.nil_append, List.nil_append, ct_upl h] at ee
  rw [ee] at hP hD
  exact kk H1 locs1 (upl J a v) ⟨rfl, rfl⟩ ⟨M.1, M.2.1, hP, hD, hS, M.2.2.2.2.2.1, M.2.2.2.2.2.2.1, M.2.2.2.2.2.2.2⟩
end LONGS
theorem cl_X11_223 : Cond.constantLong RX11 223 256 ∈ TB := tb_mem 1402 (by decide +kernel) rfl
theorem cl_X11_228 : Cond.constant RX11 228 100000 ∈ TB := tb_mem 1406 (by decide +kernel) rfl
