section MORE2
variable {p : Program} {l : Launch} {e : Env} {R : Room} {s : State} {m : MethodId} {args : Array Value} {below : List Frame} {meth : Method} {c : Code} {H : Heap} {locs : List Loc} {cells slots : Nat} {Q : State → Prop} {cc : ByteArray} {nL pc : Nat} {ls : Array Slot} {st : List Value} {own : String} {g : Gs} {I : Ms} {J : Js} {a : Nat}
theorem a_lnr (C : CallFix p m c cc nL s args TB own) (M : Mm g s I J H locs) {t : Nat} (h : Is g a t) (ht : t = 40 ∨ t = 41) {v : Int32} (hv : Int32.ofNat (aln t) = v) (hd : decode cc pc = .ok (.arraylength, 1)) (kk : W p l e R s m args below meth c H locs cells slots Q (F0 m (pc + 1) ls (.int v :: st))) : W p l e R s m args below meth c H locs cells slots Q (F0 m pc ls (.ref a :: st)) := by
  obtain ⟨k0, hk0⟩ := m_place M h
  rw [ct_rarr h (by omega) (by omega)] at hk0
  rcases ht with rfl | rfl
  · exact va_alen (D := g.1) C.1 C.2.1 M.2.1 M.2.2.1 k0 3 hk0 rfl hv hd kk
  · exact va_alen (D := g.1) C.1 C.2.1 M.2.1 M.2.2.1 k0 4 hk0 rfl hv hd kk
end MORE2
