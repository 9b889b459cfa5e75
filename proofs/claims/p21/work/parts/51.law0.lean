/-! THE CLAIM OUT OF ONE WALK OF THE LAW'S BODY. Your part is whole_start (and what it stands on); all else here is the same for every law, but numbers. -/
def R_law : String := "GrowHouseLaw"
def lw_P (b : Addr) (xs : List Int32) (args : Array Value) (s : State) : Prop := args = #[.ref b] ∧ s.IntsAt b xs ∧ xs.length ≤ 3584 ∧ (Jvm.Cond.and given_1 narrow_1).before args s = true
def lw_Q (_ : Array Value) (s : State) (o : Outcome) (t : State) : Prop := o = .returned (some (.int 1)) ∧ Framed s o t [] 601024 7293034
def lw_Z (below : List Frame) (a : Array Value) (s : State) : State → Prop := fun t => ∃ o, t.status = .running ∧ Ended t below o ∧ lw_Q a s o t
/-- the law's own end, with 1 on the stack, nothing written that was there before, its room as the claim has it -/
theorem lw_ret {p : Program} {l : Launch} {e : Env} {s : State} {m : MethodId} {below : List Frame} {meth : Method} {c : Code} {b : Nat} (hx : p.tables.exec = Jvm.exec) (hb : c.code = code) (hr : meth.sig.returnType = ret) (hlocks : meth.locks = false) {pc : Nat} {H : Heap} {ls : Array Slot} (hdg : decode code pc = .ok (.ireturn, 1)) : W p l e room_1 s m #[Value.ref b] below meth c H [] 601024 7293034 (lw_Z below #[Value.ref b] s) (F0 m pc ls [.int 1]) := by
  intro T hT X
  obtain ⟨fs, hret, hrun, hended, hW, hframe⟩ := X.leave (v := some (.int 1)) (hlocks := hlocks) (fun h => by rw [hr] at h; cases h)
  have hmeth' : T.vm.method? m = some meth := X.method'
  refine ⟨T.setFrames fs, ?_, .returned (some (.int 1)), hrun, hended, rfl, ⟨_, rfl⟩, hW, hframe⟩
  jvm_step X.here [X.here.top, hx, hb, hdg, hmeth', hr, ret, narrow_b1]
  (try refine ⟨rfl, ?_⟩); (try refine ⟨rfl, ?_⟩)
  first | (intro acts; rw [hret _ acts rfl rfl rfl]) | rw [hret _ _ rfl rfl rfl]
  exact Steps.refl _
/-- what holds at the law's entry: the machine, the code, the tables' words (any of lw_tbl by 'hts w (by decide +kernel)'), the script of L ints xs at the cell b, what the Statement gives of the start (any of its parts by flat_of_before) -/
def lw_At (p : Program) (s : State) (m : MethodId) (meth : Method) (c : Code) (b L : Nat) (xs : Nat → Int32) : Prop :=
  p.tables.exec = Jvm.exec ∧ c.code = code ∧ meth.sig.returnType = ret ∧ c.maxLocals = 7 ∧ s.vm.findClass R_law = some m.cls ∧ (∀ w ∈ lw_tbl, w.before #[Value.ref b] s = true) ∧ va_X b L xs s s.heap ∧ b < s.heap.size ∧ meth.locks = false ∧ (Jvm.Cond.and given_1 narrow_1).before #[Value.ref b] s = true
def Lw (g : Gs) (am : Nat) (I : Ms) (J : Js) : Prop := RHs g I J ∧ DR g J ∧ jm (I (gr g am 0) 717).toInt (I (gr g am 0) 715).toInt (I (gr g am 0) 716).toInt (I (gr g am 0) 722).toInt (I (gr g am 0) 718).toInt (I (gr g am 0) 719).toInt ∧ IM g I am
theorem jm_eq {I I1 : Ms} {x : Nat} (e1 : I1 x 717 = I x 717) (e2 : I1 x 715 = I x 715) (e3 : I1 x 716 = I x 716) (e4 : I1 x 722 = I x 722) (e5 : I1 x 718 = I x 718) (e6 : I1 x 719 = I x 719) (h : jm (I x 717).toInt (I x 715).toInt (I x 716).toInt (I x 722).toInt (I x 718).toInt (I x 719).toInt) : jm (I1 x 717).toInt (I1 x 715).toInt (I1 x 716).toInt (I1 x 722).toInt (I1 x 718).toInt (I1 x 719).toInt := by
  rw [e1, e2, e3, e4, e5, e6]; exact h
theorem jm_fr {g : Gs} {I I1 : Ms} {x : Nat} {md : List (Nat × Nat)} (hS : Is g x 28) (F : Fr g md I I1) (hm : md.all (fun q => q.1 != 28) = true) (h : jm (I x 717).toInt (I x 715).toInt (I x 716).toInt (I x 722).toInt (I x 718).toInt (I x 719).toInt) : jm (I1 x 717).toInt (I1 x 715).toInt (I1 x 716).toInt (I1 x 722).toInt (I1 x 718).toInt (I1 x 719).toInt := by
  have key : ∀ k, I1 x k = I x k := fun k => F x 28 k hS (fun q => by have := List.all_eq_true.mp hm _ q; simp at this) (fun q => by have := List.all_eq_true.mp hm _ q; simp at this)
  exact jm_eq (key _) (key _) (key _) (key _) (key _) (key _) h
section LG
variable {p : Program} {l : Launch} {e : Env} {R : Room} {s : State} {m : MethodId} {args : Array Value} {below : List Frame} {meth : Method} {c : Code} {H : Heap} {locs : List Loc} {cells slots : Nat} {Q : State → Prop} {cc : ByteArray} {nL pc : Nat} {ls : Array Slot} {st : List Value} {own : String} {g : Gs} {I : Ms} {J : Js} {a : Nat}
theorem s_ld (C : CallFix p m c cc nL s args TB own) (M : Mm g s I J H locs) {b L : Nat} {xs : Nat → Int32} (hX : va_X b L xs s s.heap) (hbl : b < s.heap.size) (hgb : gb g = s.heap.size) {i : Int32} {X : Int} (hx : i.toInt = X) (h0 : 0 ≤ X) (h1 : X < L) (hd : decode cc pc = .ok (.iaload, 1)) (kk : W p l e R s m args below meth c H locs cells slots Q (F0 m (pc + 1) ls (.int (xs X.toNat) :: st))) : W p l e R s m args below meth c H locs cells slots Q (F0 m pc ls (.int i :: .ref b :: st)) := by
  subst hx
  exact va_sld C.1 C.2.1 hX hbl (fun h : gb g ≤ b => absurd h (by omega)) M.2.2.2.2.1 (i_in h0 h1) hd kk
theorem m_after2 {y : MethodName} {gg : JFrame} {rest : List Value} {a0 : Array Value} {mc ms : Nat} {Post : Option Value → Ms → Js → Prop} (M : Mm g s I J H locs) (hr : va_Run p l e R s m args below meth c H locs cells slots mc ms gg rest (QC g Post a0) (fun q => gb g ≤ q))
    (kk : ∀ (v : Option Value) (I1 : Ms) (J1 : Js) (H1 : Heap) (locs1 : List Loc), Post v I1 J1 → Mm g s I1 J1 H1 locs1 → W p l e R s m args below meth c H1 locs1 (cells + mc) (slots + ms) Q { gg with pc := gg.pc + 3, stack := v.toList ++ rest }) : W p l e R s m args below meth c H locs cells slots Q gg := by
  intro T hT X
  obtain ⟨v, st0, t, T', L, e1, X', hL, e2, e3, ⟨⟨v1, I1, J1, hv, hp, w0, wK, wP, wD, wW, wI, wQ⟩, hF⟩, hG⟩ := hr T hT X
  cases hv
  have hS1 : va_S (fun q => gb g ≤ q) s.heap t.heap (locs ++ L) := by
    refine ⟨Nat.le_trans M.2.2.2.2.1.1 (by rw [← e1]; exact hF.1), fun q hq hn => ?_, fun x hx => ?_⟩
    · rw [hF.2 q (by rw [e1]; exact Nat.lt_of_lt_of_le hq M.2.2.2.2.1.1) hn, e1]
      exact M.2.2.2.2.1.2.1 q hq hn
    · rcases List.mem_append.mp hx with h1 | h1
      · exact M.2.2.2.2.1.2.2 x h1
      · exact hL x h1
  obtain ⟨tt, a1, b1⟩ := kk v I1 J1 t.heap (locs ++ L) hp ⟨M.1, M.2.1, wP, wD, hS1, wW, wI, wQ⟩ T' e2 X'
  exact ⟨tt, hG tt a1, b1⟩
theorem m_callH {y : MethodName} {bytes : ByteArray} {maxL n index : Nat} {hh : List (Nat × Nat × Nat × Nat)} {As rest : List Value} (C : CallFix p m c cc nL s args TB own) (M : Mm g s I J H locs) (hM : CtH l y bytes maxL hh g As I J) (h1 : Cond.methodLink own index y ∈ TB) (h2 : Cond.static y ∈ TB) (h4 : Cond.initialized y.cls ∈ TB) (h5 : Cond.codeWith y bytes maxL (Option.some Jvm.ClassFile.FieldType.int) hh ∈ TB) (hd0 : y.cls ≠ "java/lang/invoke/MethodHandle" ∧ y.cls ≠ "java/lang/invoke/VarHandle" ∧ (parseMethodDescriptor y.desc).map (fun d => d.parameters.length) = some n) (hR : 20 + 1 ≤ R.frames ∧ 8 + (maxL + 11) + 100 * 20 ≤ R.locals)
    (hn : As.length = n) (hsize : ls.size = nL) {st0 : List Value} (hst : st0 = As.reverse ++ rest) (hW : (rest.map fun v => v.category).sum ≤ 8) (hd : decode cc pc = .ok (.invokestatic index, 3)) (hcs : cells + 1 ≤ R.cells ∧ slots + 6 ≤ R.slots)
    (kk : ∀ (r : Int32) (I1 : Ms) (H1 : Heap) (locs1 : List Loc), Fr g [(43, 0)] I I1 → Mm g s I1 J H1 locs1 → W p l e R s m args below meth c H1 locs1 (cells + 1) (slots + 6) Q (F0 m (pc + 3) ls (.int r :: rest))) : W p l e R s m args below meth c H locs cells slots Q (F0 m pc ls st0) := by
  have hG : GoodIn TB (va_wsS own index y (.codeWith y bytes maxL (Option.some Jvm.ClassFile.FieldType.int) hh :: TB)) := fun w hw => by
    unfold va_wsS at hw
    rcases List.mem_append.mp hw with hw | hw
    · simp only [List.mem_cons, List.not_mem_nil, or_false] at hw
      rcases hw with rfl | rfl | rfl
      · exact ⟨h1, tb_good h1⟩
      · exact ⟨h2, tb_good h2⟩
      · exact ⟨h4, tb_good h4⟩
    · rcases List.mem_cons.mp hw with rfl | hw
      · exact ⟨h5, tb_good h5⟩
      · exact ⟨hw, tb_good hw⟩
  refine m_after2 (y := y) M (vx_runSW (g := F0 m pc ls st0) (As := As) (rest := rest) C hM (vx_cwSW n C.2.2.2.2 hG rfl rfl rfl hd0 hR) ⟨m_blind, fun U hU hWW => ⟨rfl, m_wm M hU hWW⟩⟩ rfl hn hsize hst (lv_room hW) hd hcs) (fun v I1 J1 H1 locs1 hp M1 => ?_)
  obtain ⟨r, rfl, hF, rfl⟩ := hp
  exact kk r I1 H1 locs1 hF M1
end LG
