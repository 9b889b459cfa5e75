theorem i_dle {x y Q : Int} (hx : 0 ≤ x) (hy : 0 < y) (h : x < (Q + 1) * y) : x / y ≤ Q := by
  have := (Int.ediv_lt_iff_lt_mul hy).mpr h
  omega
section JDK
variable {p : Program} {l : Launch} {e : Env} {s : State} {m : MethodId} {args : Array Value} {below : List Frame} {meth : Method} {c : Code} {H : Heap} {locs : List Loc} {Q : State → Prop} {cc : ByteArray} {nL pc D : Nat} {ls : Array Slot} {st : List Value} {own : String} {g : Gs} {I : Ms} {J : Js} {a : Nat}
theorem n_mmin {index : Nat} (C : CallFix p m c cc nL s args TB own) (hd : decode cc pc = .ok (.invokestatic index, 3)) (hsz : ls.size = nL) (hlk : Cond.methodLink own index Lib.Math.min.name ∈ TB) {x y : Int32} {X Y : Int} (hx : x.toInt = X) (hy : y.toInt = Y) (hW : (st.map fun v => v.category).sum ≤ 8) (kk : ∀ v : Int32, (v.toInt = X ∧ X ≤ Y ∨ v.toInt = Y ∧ Y ≤ X) → W p l e (rmL (D + 1)) s m args below meth c H locs 0 0 Q (F0 m (pc + 3) ls (.int v :: st))) : W p l e (rmL (D + 1)) s m args below meth c H locs 0 0 Q (F0 m pc ls (.int y :: .int x :: st)) := by
  have hts := C.2.2.2.2
  refine va_mmin C.1 C.2.1 (C.2.2.1.trans hsz.symm) C.2.2.2.1 (hts _ hlk) (hts _ sc_J9_min_7cf53) (hts _ ini_J9) (hts _ cd_J9_min_7cf53) (Nat.succ_le_succ (Nat.zero_le D)) ?_ (Nat.le_refl _) (Nat.le_refl _) hd (kk _ ?_)
  · show _ ≤ 100 * (D + 1)
    omega
  · subst hx; subst hy
    by_cases q : y < x
    · rw [if_pos q]; exact Or.inr ⟨rfl, Int.le_of_lt (i_ltT q)⟩
    · rw [if_neg q]; exact Or.inl ⟨rfl, i_ltF q⟩
theorem n_mmax {index : Nat} (C : CallFix p m c cc nL s args TB own) (hd : decode cc pc = .ok (.invokestatic index, 3)) (hsz : ls.size = nL) (hlk : Cond.methodLink own index Lib.Math.max.name ∈ TB) {x y : Int32} {X Y : Int} (hx : x.toInt = X) (hy : y.toInt = Y) (hW : (st.map fun v => v.category).sum ≤ 8) (kk : ∀ v : Int32, (v.toInt = X ∧ Y ≤ X ∨ v.toInt = Y ∧ X ≤ Y) → W p l e (rmL (D + 1)) s m args below meth c H locs 0 0 Q (F0 m (pc + 3) ls (.int v :: st))) : W p l e (rmL (D + 1)) s m args below meth c H locs 0 0 Q (F0 m pc ls (.int y :: .int x :: st)) := by
  have hts := C.2.2.2.2
  refine va_mmax C.1 C.2.1 (C.2.2.1.trans hsz.symm) C.2.2.2.1 (hts _ hlk) (hts _ sc_J9_max_7cf53) (hts _ ini_J9) (hts _ cd_J9_max_7cf53) (Nat.succ_le_succ (Nat.zero_le D)) ?_ (Nat.le_refl _) (Nat.le_refl _) hd (kk _ ?_)
  · show _ ≤ 100 * (D + 1)
    omega
  · subst hx; subst hy
    split <;> rename_i q
    · first | exact Or.inl ⟨rfl, i_leT q⟩ | exact Or.inl ⟨rfl, Int.le_of_lt (i_ltT q)⟩ | exact Or.inr ⟨rfl, i_leT q⟩ | exact Or.inr ⟨rfl, Int.le_of_lt (i_ltT q)⟩
    · first | exact Or.inl ⟨rfl, i_ltF q⟩ | exact Or.inl ⟨rfl, Int.le_of_lt (i_leF q)⟩ | exact Or.inr ⟨rfl, i_ltF q⟩ | exact Or.inr ⟨rfl, Int.le_of_lt (i_leF q)⟩
def rowTo (I : Ms) (a : Nat) (f : Nat → Int32) : Ms := fun b => if b = a then f else I b
theorem ct_row {t : Nat} {f : Nat → Int32} (h : Is g a t) (h1 : ¬ t < 16) (h2 : t < 40) : va_up (ct g I J) a (.inl (gA g (aty t), aln t, .inl f)) = ct g (rowTo I a f) J := by
  funext b
  by_cases hb : b = a
  · subst hb
    rw [va_up_self, ct_arr h h1 h2]
    unfold rowTo
    rw [if_pos rfl]
  · rw [va_up_ne _ _ hb]
    have e : rowTo I a f b = I b := if_neg hb
    unfold ct fls
    rw [e]
    have e2 : ∀ j q, vl g (rowTo I a f) J b j q = vl g I J b j q := by
      intro j q
      match q with
      | 0 => simp [vl, e]
      | 1 => rfl
      | 2 => rfl
      | n + 3 => rfl
    simp only [e2]
theorem fr_row {u : Nat} {f : Nat → Int32} (h : Is g a u) : Fr g [(u, 0)] I (rowTo I a f) := by
  intro b t j hb h1 h2
  have : b ≠ a := by
    intro q
    subst q
    exact h1 (by rw [← hb.2, ← h.2]; exact List.mem_cons_self)
  exact congrFun (if_neg this) j
theorem a_cp {index : Nat} {t u n0 n1 a0 : Nat} (C : CallFix p m c cc nL s args TB own) (M : Mm g s I J H locs) (h0 : Is g a0 t) (h : Is g a u) (ht : isA t = true) (hu : isA u = true) (hn0 : aln t = n0) (hn1 : aln u = n1) (hr : ∀ j, rng u j = (-2147483648, 2147483647)) (hsz : ls.size = nL) (hlk : Cond.methodLink own index arraycopyName ∈ TB) (hnat : Cond.native arraycopyName ∈ TB) (hst : Cond.static arraycopyName ∈ TB) (hini : Cond.initialized "java/lang/System" ∈ TB) {sp dp n : Int32} {SP DP N : Int} (e1 : sp.toInt = SP) (e2 : dp.toInt = DP) (e3 : n.toInt = N) (h1 : 0 ≤ SP) (h2 : 0 ≤ DP) (h3 : 0 ≤ N) (h4 : SP + N ≤ n0) (h5 : DP + N ≤ n1) (hW : (st.map fun v => v.category).sum ≤ 8) (hd : decode cc pc = .ok (.invokestatic index, 3))
    (kk : ∀ (H1 : Heap) (locs1 : List Loc) (I1 : Ms), I1 = rowTo I a (va_cpy (I a0) (I a) SP.toNat DP.toNat N.toNat) → Fr g [(u, 0)] I I1 → Mm g s I1 J H1 locs1 → W p l e (rmL (D + 1)) s m args below meth c H1 locs1 0 0 Q (F0 m (pc + 3) ls st)) : W p l e (rmL (D + 1)) s m args below meth c H locs 0 0 Q (F0 m pc ls (.int n :: .int dp :: .ref a :: .int sp :: .ref a0 :: st)) := by
  subst e1; subst e2; subst e3; subst hn0; subst hn1
  simp only [isA, Bool.and_eq_true, decide_eq_true_eq, beq_iff_eq] at ht hu
  obtain ⟨k0, hk0⟩ := m_place M h0
  obtain ⟨k1, hk1⟩ := m_place M h
  have hk1' := hk1
  rw [ct_arr h0 (by omega) (by omega), ht.2] at hk0
  rw [ct_arr h (by omega) (by omega), hu.2] at hk1
  have hts := C.2.2.2.2
  refine va_copyi (D := g.1) C.1 C.2.1 (C.2.2.1.trans hsz.symm) C.2.2.2.1 (hts _ hlk) (hts _ hnat) (hts _ hst) (hts _ hini) M.2.1 M.2.2.1 M.2.2.2.1 M.2.2.2.2.1 k0 k1 0 0 hk0 hk1 rfl rfl rfl (fun q => by have := i_ltT q; rw [show (0 : Int32).toInt = 0 from rfl] at this; omega) (fun q => by have := i_ltT q; rw [show (0 : Int32).toInt = 0 from rfl] at this; omega) (fun q => by have := i_ltT q; rw [show (0 : Int32).toInt = 0 from rfl] at this; omega) ?_ ?_ (fun _ _ => rfl) (Nat.succ_le_succ (Nat.zero_le D)) ?_ hd (fun H1 locs1 hP hD hS => ?_)
  · show sp.toInt.toNat + n.toInt.toNat ≤ aln t
    omega
  · show dp.toInt.toNat + n.toInt.toNat ≤ aln u
    omega
  · show _ ≤ 100 * (D + 1)
    have : nativeFrameWords "java/lang/System" "arraycopy" 5 + 11 ≤ 60 := by decide +kernel
    omega
  · have ee := va_pl_set (X := []) (f := ct g I J) (e := .inl (gA g (aty u), aln u, .inl (va_cpy (I a0) (I a) sp.toNatClampNeg dp.toNatClampNeg n.toNatClampNeg))) M.2.2.2.1 h.1 hk1'
    rw [List.nil_append, List.nil_append, ct_row h (by omega) (by omega), hu.2] at ee
    rw [ee] at hP hD
    refine kk H1 locs1 _ rfl (fr_row h) ⟨M.1, M.2.1, hP, hD, hS, M.2.2.2.2.2.1, ?_, M.2.2.2.2.2.2.2⟩
    intro b hb j
    by_cases q : b = a
    · subst q
      rw [h.2, hr j]
      exact ⟨i_lo _, Int.lt_add_one_iff.mp (i_hi _)⟩
    · rw [show rowTo I a (va_cpy (I a0) (I a) sp.toInt.toNat dp.toInt.toNat n.toInt.toNat) b = I b from if_neg q]
      exact M.2.2.2.2.2.2.1 b hb j
end JDK
