/-! the reference's row s while it is made anew: some of its places may hold anything -/
def TiE (g : Gs) (x : Nat) (E : List Nat) (I : Ms) : Prop := ∀ a, a ∈ gL g → ∀ j, (a = x → j ∉ E) → (rng (gK g a) j).1 ≤ (I a j).toInt ∧ (I a j).toInt ≤ (rng (gK g a) j).2
def Mx (g : Gs) (s : State) (x : Nat) (E : List Nat) (I : Ms) (J : Js) (H : Heap) (locs : List Loc) : Prop :=
  (gb g ≤ s.heap.size ∧ Sts g s) ∧ va_K g.1 vwCl (tysG g) s ∧ va_P g.1 vwCl (va_pl (gL g) (ct g I J)) H ∧ va_D (fun q => gb g ≤ q) (va_pl (gL g) (ct g I J)) ∧ va_S (fun q => gb g ≤ q) s.heap H locs ∧ Wf g ∧ TiE g x E I ∧ Tq g J
theorem rng28_0a : ∀ j, j < 729 → j ∉ [715, 716, 722, 724] → (rng 28 j).1 ≤ 0 ∧ 0 ≤ (rng 28 j).2 := by decide +kernel
section WK
variable {p : Program} {l : Launch} {e : Env} {R : Room} {s : State} {m : MethodId} {args : Array Value} {below : List Frame} {meth : Method} {c : Code} {H : Heap} {locs : List Loc} {cells slots : Nat} {Q : State → Prop} {cc : ByteArray} {nL pc : Nat} {ls : Array Slot} {st : List Value} {own : String} {g : Gs} {I : Ms} {J : Js} {a x : Nat} {E : List Nat}
theorem mx_of (M : Mm g s I J H locs) : Mx g s x E I J H locs := ⟨M.1, M.2.1, M.2.2.1, M.2.2.2.1, M.2.2.2.2.1, M.2.2.2.2.2.1, fun a ha j _ => M.2.2.2.2.2.2.1 a ha j, M.2.2.2.2.2.2.2⟩
theorem mm_of (M : Mx g s x [] I J H locs) : Mm g s I J H locs := ⟨M.1, M.2.1, M.2.2.1, M.2.2.2.1, M.2.2.2.2.1, M.2.2.2.2.2.1, fun a ha j => M.2.2.2.2.2.2.1 a ha j (fun _ => List.not_mem_nil), M.2.2.2.2.2.2.2⟩
theorem x_gets (C : CallFix p m c cc nL s args TB RX11) (M : Mx g s x E I J H locs) (h : Is g a 9) (hd : decode cc pc = .ok (.getfield 7, 3)) (kk : Is g (gr g a 0) 28 → W p l e R s m args below meth c H locs cells slots Q (F0 m (pc + 3) ls (.ref (gr g a 0) :: st))) : W p l e R s m args below meth c H locs cells slots Q (F0 m pc ls (.ref a :: st)) := by
  obtain ⟨k0, hk0⟩ := va_pl_get (X := []) (f := ct g I J) h.1
  rw [ct_obj h (by decide)] at hk0
  exact va_get (D := g.1) (ci := 9) (C := RX11) (T := TX11) (N := 24) C.1 C.2.1 C.2.2.2.2 uw_X11 C.2.2.2.1 M.2.1 M.2.2.1 k0 hk0 rfl 0 (by decide) (C.2.2.2.2 _ fl_X11_7) (fun _ h9 => h9) (fls_get (q := 1) rfl) hd (kk (M.2.2.2.2.2.1 a 9 0 h rfl))
theorem x_st {E' : List Nat} (C : CallFix p m c cc nL s args TB own) (M : Mx g s a E I J H locs) (h : Is g a 28) {i : Int32} {X : Int} (hx : i.toInt = X) (i1 : 0 ≤ X) (i2 : X < 729) {j : Nat} (hj : X.toNat = j) {v : Int32} (hv : j ∈ E' ∨ (rng 28 j).1 ≤ v.toInt ∧ v.toInt ≤ (rng 28 j).2) (hE : ∀ q, q ∈ E → q ∈ E' ∨ q = j) (hd : decode cc pc = .ok (.iastore, 1)) (kk : ∀ (H1 : Heap) (locs1 : List Loc) (I1 : Ms), I1 a j = v → (∀ b k, (b ≠ a ∨ k ≠ j) → I1 b k = I b k) → Mx g s a E' I1 J H1 locs1 → W p l e R s m args below meth c H1 locs1 cells slots Q (F0 m (pc + 1) ls st)) : W p l e R s m args below meth c H locs cells slots Q (F0 m pc ls (.int v :: .int i :: .ref a :: st)) := by
  subst hj; subst hx
  obtain ⟨k0, hk0⟩ := va_pl_get (X := []) (f := ct g I J) h.1
  have hk1 := hk0
  rw [ct_arr h (by decide) (by decide)] at hk0
  refine va_iast (D := g.1) C.1 C.2.1 M.2.1 M.2.2.1 M.2.2.2.1 M.2.2.2.2.1 k0 0 hk0 rfl (i_in i1 i2) hd (fun H1 locs1 hP hD hS => ?_)
  have ee := va_pl_set (X := []) (f := ct g I J) (e := .inl (gA g (aty 28), aln 28, .inl (upd (I a) i.toNatClampNeg v))) M.2.2.2.1 h.1 hk1
  rw [List.nil_append, List.nil_append, ct_upA h (by decide) (by decide) v] at ee
  have hP2 : va_P g.1 vwCl (va_pl (gL g) (ct g (up2 I a i.toNatClampNeg v) J)) H1 := by rw [← ee]; exact hP
  have hD2 : va_D (fun q => gb g ≤ q) (va_pl (gL g) (ct g (up2 I a i.toNatClampNeg v) J)) := by rw [← ee]; exact hD
  refine kk H1 locs1 _ (up2_s _ _ _ _) (fun b k q => if_neg (fun w => q.elim (fun q => q w.1) (fun q => q w.2))) ⟨M.1, M.2.1, hP2, hD2, hS, M.2.2.2.2.2.1, ?_, M.2.2.2.2.2.2.2⟩
  intro b hb k hk
  by_cases w : b = a ∧ k = i.toInt.toNat
  · obtain ⟨rfl, rfl⟩ := w
    rw [show up2 I b i.toInt.toNat v b i.toInt.toNat = v from up2_s _ _ _ _, h.2]
    rcases hv with q | q
    · exact absurd q (hk rfl)
    · exact q
  · rw [show up2 I a i.toInt.toNat v b k = I b k from if_neg w]
    refine M.2.2.2.2.2.2.1 b hb k (fun hba hq => ?_)
    rcases hE k hq with z | z
    · exact hk hba z
    · exact w ⟨hba, z⟩
end WK
theorem x_zero {j : Nat} (h : j < 729) : j ∈ [715, 716, 722, 724] ∨ (rng 28 j).1 ≤ (0 : Int32).toInt ∧ (0 : Int32).toInt ≤ (rng 28 j).2 := by
  by_cases q : j ∈ [715, 716, 722, 724]
  · exact Or.inl q
  · exact Or.inr (rng28_0a j h q)
theorem x_hz {I I1 : Ms} {a k j : Nat} (hk : (I1 a j).toInt = 0) (f : ∀ b k, (b ≠ a ∨ k ≠ j) → I1 b k = I b k) (h : k ≠ j → (I a k).toInt = 0) : (I1 a k).toInt = 0 := by
  by_cases w : k = j
  · rw [w]; exact hk
  · rw [f a k (Or.inr w)]; exact h w
