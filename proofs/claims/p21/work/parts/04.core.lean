/-! THE MEMORY: one map of ints, one of references that change, for all objects and rows; kinds of addresses; ranges of what the places hold -/
def TB : List Cond := lw_tbl.filter goodWord
theorem tb_mem {w : Cond} (i : Nat) (h : lw_tbl[i]? = some w) (hg : goodWord w = true) : w ∈ TB := List.mem_filter.mpr ⟨List.mem_of_getElem? h, hg⟩
theorem tb_good {w : Cond} (h : w ∈ TB) : (w.onTables && w.keeps) = true ∨ ∃ ty, w = .arrayClass ty := good_of_word (List.mem_filter.mp h).2
theorem tb_in {w : Cond} (h : w ∈ TB) : w ∈ lw_tbl := (List.mem_filter.mp h).1
abbrev Gs : Type := va_G × (Nat → ClassId) × List Nat × (Nat → Nat) × (Nat → Nat → Nat) × Nat × (Nat → Nat) × (Nat → Nat) × (Nat → Nat) × Nat × Nat
abbrev Js : Type := (Nat → Nat → Nat) × (Nat → Nat → Option Nat) × (Nat → Int64)
abbrev Ms : Type := Nat → Nat → Int32
abbrev gA (g : Gs) : Nat → ClassId := g.2.1
abbrev gL (g : Gs) : List Nat := g.2.2.1
abbrev gK (g : Gs) : Nat → Nat := g.2.2.2.1
abbrev gr (g : Gs) : Nat → Nat → Nat := g.2.2.2.2.1
abbrev gb (g : Gs) : Nat := g.2.2.2.2.2.1
/-- the constants: addresses of the deeds, of the strings, of their bytes, of the row DEEDS, of the switch's row -/
abbrev gDd (g : Gs) : Nat → Nat := g.2.2.2.2.2.2.1
abbrev gSk (g : Gs) : Nat → Nat := g.2.2.2.2.2.2.2.1
abbrev gSv (g : Gs) : Nat → Nat := g.2.2.2.2.2.2.2.2.1
abbrev gDA (g : Gs) : Nat := g.2.2.2.2.2.2.2.2.2.1
abbrev gSM (g : Gs) : Nat := g.2.2.2.2.2.2.2.2.2.2
def Is (g : Gs) (a t : Nat) : Prop := a ∈ gL g ∧ gK g a = t
/-- fields by class: 0 an int, 1 a reference that stays, 2 a reference that changes, 3 a long -/
def cds : Nat → List Nat
  | 0 => [0, 0, 0, 0, 0, 0, 0]
  | 1 => [1, 1, 1, 0, 0, 0]
  | 2 => [1, 1, 1, 1, 1, 1, 2, 2, 0, 0, 0, 0, 0, 0, 0, 0, 0]
  | 3 => [0, 0]
  | 4 => [1, 0, 0]
  | 5 => [1, 1, 1, 1, 1, 0, 0, 0, 0, 0]
  | 6 => [1, 0, 0]
  | 7 => [1, 0]
  | 8 => [1, 1, 1, 1, 1, 1, 1, 1]
  | 9 => [1, 1, 1, 1, 1, 0, 0, 1, 0, 0, 0, 0, 1, 1, 0, 0, 0, 0, 3, 0, 0, 0, 0, 0]
  | _ => []
/-- rows of ints by kind: how long, of what (0 int, 1 byte, 2 boolean) -/
def aln : Nat → Nat
  | 16 => 280 | 17 => 280 | 18 => 7 | 19 => 100 | 20 => 120 | 21 => 24 | 22 => 720 | 23 => 240 | 24 => 240 | 25 => 3 | 26 => 264 | 27 => 2
  | 28 => 729 | 29 => 729 | 30 => 1458 | 31 => 2 | 32 => 120 | 33 => 264 | 34 => 240 | 35 => 240
  | 40 => 8 | 41 => 2 | 42 => 240 | 43 => 1
  | _ => 0
def aty : Nat → Nat
  | 26 => 1 | 27 => 2 | 31 => 2 | 35 => 2
  | _ => 0
def tyc : Nat → FieldType
  | 1 => .byte | 2 => .boolean | _ => .int
def vl (g : Gs) (I : Ms) (J : Js) (a k : Nat) : Nat → Value
  | 0 => .int (I a k) | 1 => .ref (gr g a k) | 2 => .ref (J.1 a k) | _ => .long (J.2.2 a)
def fls (g : Gs) (I : Ms) (J : Js) (a t : Nat) : List Value := (cds t).mapIdx (fun k q => vl g I J a k q)
def ct (g : Gs) (I : Ms) (J : Js) (a : Nat) : va_E :=
  if gK g a < 16 then .inr (gK g a, fls g I J a (gK g a))
  else if gK g a < 40 then .inl (gA g (aty (gK g a)), aln (gK g a), .inl (I a))
  else if gK g a < 42 then .inl (gA g (gK g a), aln (gK g a), .inr (.inr (.inr (.inr (fun j => some (gr g a j))))))
  else if gK g a < 43 then .inl (gA g 42, aln 42, .inr (.inr (.inr (.inr (J.2.1 a)))))
  else .inl (gA g 43, aln 43, .inr (.inl (fun j => (I a j).toInt64)))
def tysG (g : Gs) : List (ClassId × FieldType) := [(gA g 0, .int), (gA g 1, .byte), (gA g 2, .boolean), (gA g 40, .object "GrowHouse$Layout"), (gA g 41, .object "GrowHouse$House"), (gA g 42, .object "GrowHouse$Deed"), (gA g 43, .long)]
/-- the least and the most that a place of a kind holds -/
def rng : Nat → Nat → Int × Int
  | 0, 0 => (0, 2000) | 0, 1 => (0, 4) | 0, 2 => (0, 28) | 0, 3 => (-2000, 300) | 0, 4 => (-4000, 4000) | 0, 5 => (-4000, 4000) | 0, 6 => (0, 1)
  | 1, 3 => (3, 7) | 1, 4 => (4, 40) | 1, 5 => (-1, 6)
  | 2, 8 => (0, 1) | 2, 9 => (0, 200) | 2, 10 => (1, 4) | 2, 12 => (0, 1) | 2, 13 => (0, 20) | 2, 14 => (1, 60)
  | 3, 0 => (3, 8) | 3, 1 => (2, 7)
  | 4, 1 => (0, 20)
  | 5, 5 => (0, 3) | 5, 6 => (0, 240) | 5, 7 => (0, 1000)
  | 6, 1 => (0, 30) | 6, 2 => (0, 29)
  | 7, 1 => (0, 264)
  | 23, _ => (0, 239) | 25, _ => (0, 239)
  | 26, _ => (-128, 127) | 27, _ => (0, 1) | 31, _ => (0, 1) | 35, _ => (0, 1)
  | 9, 5 => (0, 30) | 9, 6 => (0, 1) | 9, 8 => (0, 264) | 9, 14 => (0, 264) | 9, 15 => (0, 1000) | 9, 16 => (0, 1000) | 9, 21 => (0, 1) | 9, 22 => (0, 1)
  | 28, 715 => (3, 7) | 28, 716 => (4, 40) | 28, 717 => (0, 1) | 28, 718 => (0, 200) | 28, 719 => (0, 200) | 28, 720 => (0, 1) | 28, 721 => (-1, 6) | 28, 722 => (1, 4) | 28, 723 => (0, 20) | 28, 724 => (1, 60) | 28, 725 => (0, 20)
  | 28, j => if 608 ≤ j ∧ j < 708 ∧ j % 5 = 4 then (0, 300) else (-2147483648, 2147483647)
  | 33, _ => (0, 255)
  | _, _ => (-2147483648, 2147483647)
/-- of what kind the reference in a place is that stays -/
def rt : Nat → Nat → Nat
  | 1, 0 => 16 | 1, 1 => 17 | 1, 2 => 18
  | 2, 0 => 1 | 2, 1 => 4 | 2, 2 => 40 | 2, 3 => 21 | 2, 4 => 0 | 2, 5 => 0
  | 4, 0 => 19
  | 5, 0 => 42 | 5, 1 => 22 | 5, 2 => 23 | 5, 3 => 24 | 5, 4 => 25
  | 6, 0 => 20
  | 7, 0 => 26
  | 8, 0 => 2 | 8, 1 => 2 | 8, 2 => 41 | 8, 3 => 27 | 8, 4 => 6 | 8, 5 => 6 | 8, 6 => 7 | 8, 7 => 5
  | 9, 0 => 28 | 9, 1 => 29 | 9, 2 => 30 | 9, 3 => 31 | 9, 4 => 32 | 9, 7 => 33 | 9, 12 => 34 | 9, 13 => 35
  | 40, _ => 3 | 41, _ => 2
  | _, _ => 99
def isR (t k : Nat) : Bool := (decide (t < 16) && ((cds t)[k]? == some 1)) || ((t == 40 || t == 41) && decide (k < aln t))
def Wf (g : Gs) : Prop := ∀ a t k, Is g a t → isR t k = true → Is g (gr g a k) (rt t k)
def Ti (g : Gs) (I : Ms) : Prop := ∀ a, a ∈ gL g → ∀ j, (rng (gK g a) j).1 ≤ (I a j).toInt ∧ (I a j).toInt ≤ (rng (gK g a) j).2
def Tq (g : Gs) (J : Js) : Prop := ∀ a, Is g a 2 → Is g (J.1 a 6) 3 ∧ Is g (J.1 a 7) 3
/-! THE CONSTANTS of the start that the walk reads: enum constants, strings, two static rows, single statics -/
def nmD : List String := ["GROW", "CRASH", "REPLACE", "REPAIR", "STEPS", "TICK", "LOSE", "WRITE", "FILL", "BAD", "IMAGE", "BACK", "AGAIN", "CLOSE"]
def fD : List (String × String × String × List Int32) := [("java/lang/Enum", "ordinal", "I", [0, 1, 2, 3, 4, 5, 6, 7, 8, 9, 10, 11, 12, 13]), ("GrowHouse$Deed", "numbers", "I", [0, 0, 0, 0, 1, 1, 1, 2, 3, 2, 1, 1, 1, 0])]
def txD : List String := ["grow", "crash", "replace", "repair", "steps", "tick", "lose", "write", "fill", "bad", "image", "back", "again", "]"]
def ixM : List Nat := [248, 254, 256, 258, 260, 262, 264, 266, 268, 270, 272, 274, 301]
def lenD : List Nat := [4, 5, 7, 6, 5, 4, 4, 5, 4, 3, 5, 4, 5, 1]
def bytD : List (List Int32) := [[103, 114, 111, 119], [99, 114, 97, 115, 104], [114, 101, 112, 108, 97, 99, 101], [114, 101, 112, 97, 105, 114], [115, 116, 101, 112, 115], [116, 105, 99, 107], [108, 111, 115, 101], [119, 114, 105, 116, 101], [102, 105, 108, 108], [98, 97, 100], [105, 109, 97, 103, 101], [98, 97, 99, 107], [97, 103, 97, 105, 110], [93]]
def smD : List Int32 := [1, 2, 3, 4, 5, 6, 7, 8, 9, 10, 11, 12, 0, 0]
def sOne (k v : Nat) (n : Nat) (bs : List Int32) (A : Nat → Prop) (U : State) (H : Heap) : Prop :=
  va_O "java/lang/String" k A U H ∧ va_OF "java/lang/String" "coder" "B" (.int 0) k A U H ∧ va_OF "java/lang/String" "value" "[B" (.ref v) k A U H ∧ va_T .byte v n (fun j => .int (bs.getD j 0)) A U H
def Sth (g : Gs) (A : Nat → Prop) (U : State) (H : Heap) : Prop :=
  va_En "GrowHouse$Deed" "LGrowHouse$Deed;" nmD fD (gDd g) A U H
  ∧ (∀ i, i < 14 → va_OF "GrowHouse$Deed" "spelling" "Ljava/lang/String;" (.ref (gSk g i)) (gDd g i) A U H)
  ∧ (∀ i, i < 14 → sOne (gSk g i) (gSv g i) (lenD.getD i 0) (bytD.getD i []) A U H)
  ∧ (va_Z "GrowHouse" "DEEDS" "[LGrowHouse$Deed;" (.ref (gDA g)) A U H ∧ va_T (.object "GrowHouse$Deed") (gDA g) 14 (fun j => .ref (gDd g j)) A U H)
  ∧ (va_Z "GrowHouse$1" "$SwitchMap$GrowHouse$Deed" "[I" (.ref (gSM g)) A U H ∧ va_T .int (gSM g) 14 (fun j => .int (smD.getD j 0)) A U H)
  ∧ va_Z "java/lang/String" "COMPACT_STRINGS" "Z" (.int 1) A U H
  ∧ va_Zq "jdk/internal/util/Preconditions" "SIOOBE_FORMATTER" "Ljava/util/function/BiFunction;" A U H
  ∧ vx_Zq Bundle.tN "UNASSIGNED_STACK" Bundle.steD A U H ∧ vx_Zq Bundle.tN "SUPPRESSED_SENTINEL" Bundle.listD A U H
/-- words of the tables that aren't good ones: carried -/
def nwK : Cond → Bool
  | .fieldLinkNest .. => true | .methodLinkNest .. => true | .declares .. => true | .castable .. => true
  | _ => false
theorem nw_warm {w : Cond} (hk : nwK w = true) {s U : State} (hW : s.WarmedH U.vm) (h : va_Nw w s) : va_Nw w U := by
  cases w <;> first | exact va_Nw.warmF hW h | exact va_Nw.warmM hW h | exact va_Nw.warmD hW h | exact va_Nw.warmC hW h | exact absurd hk Bool.false_ne_true
theorem nw_tab {w : Cond} (hk : nwK w = true) : w.onTables = true := by
  cases w <;> first | exact absurd hk Bool.false_ne_true | rfl
def Stv (g : Gs) (U : State) : Prop := (∀ i, i < 13 → vk_R "GrowHouseModel" (ixM.getD i 0) (txD.getD i "") (gSk g i) U) ∧ ∀ w ∈ lw_tbl, nwK w = true → va_Nw w U
def Sts (g : Gs) (U : State) : Prop := Sth g (fun q => gb g ≤ q) U U.heap ∧ Stv g U
theorem sOne.mv {k v n : Nat} {bs : List Int32} {A : Nat → Prop} {u U : State} {H H1 : Heap} (hvm : u.vm.Alike U.vm) (hq : ∀ a : Nat, a < H.size → ¬ A a → H1[a]? = H[a]?) (h : sOne k v n bs A u H) : sOne k v n bs A U H1 :=
  ⟨(va_O.moved hvm h.1).kept hq, (va_OF.moved hvm h.2.1).kept hq, (va_OF.moved hvm h.2.2.1).kept hq, (va_T.moved hvm h.2.2.2).kept hq⟩
theorem Sth.mv {g : Gs} {A : Nat → Prop} {u U : State} {H H1 : Heap} (hvm : u.vm.Alike U.vm) (hq : ∀ a : Nat, a < H.size → ¬ A a → H1[a]? = H[a]?) (h : Sth g A u H) : Sth g A U H1 := by
  obtain ⟨h1, h2, h3, ⟨h4, h5⟩, ⟨h6, h7⟩, h8, h9, h10, h11⟩ := h
  exact ⟨(va_En.moved hvm h1).kept hq, fun i hi => (va_OF.moved hvm (h2 i hi)).kept hq, fun i hi => (h3 i hi).mv hvm hq, ⟨(va_Z.moved hvm h4).kept hq, (va_T.moved hvm h5).kept hq⟩, ⟨(va_Z.moved hvm h6).kept hq, (va_T.moved hvm h7).kept hq⟩, (va_Z.moved hvm h8).kept hq, (va_Zq.moved hvm h9).kept hq, (vx_Zq.moved hvm h10).kept hq, (vx_Zq.moved hvm h11).kept hq⟩
theorem Sts.warm {g : Gs} {s t : State} {locs : List Loc} (hW : s.WarmedH t.vm) (hS : va_S (fun q => gb g ≤ q) s.heap t.heap locs) (h : Sts g s) : Sts g t :=
  ⟨h.1.mv hW.alike hS.2.1, fun i hi => (h.2.1 i hi).warm hW, fun w hw hk => nw_warm hk hW (h.2.2 w hw hk)⟩
theorem Sts.call {g : Gs} {U : State} {gg : JFrame} {mk : MethodId} {a : Array Value} (h : Sts g U) : Sts g (U.calling gg mk a) :=
  ⟨h.1.mv (U := U.calling gg mk a) (Vm.Alike.refl U.vm) (fun _ _ _ => rfl), fun i hi => vk_R.same (u := U) rfl (h.2.1 i hi), fun w hw hk => va_Nw.same (nw_tab hk) (u := U) rfl (h.2.2 w hw hk)⟩
def Wm (g : Gs) (I : Ms) (J : Js) (U : State) : Prop :=
  (gb g ≤ U.heap.size ∧ Sts g U) ∧ va_K g.1 vwCl (tysG g) U ∧ va_P g.1 vwCl (va_pl (gL g) (ct g I J)) U.heap ∧ va_D (fun q => gb g ≤ q) (va_pl (gL g) (ct g I J)) ∧ Wf g ∧ Ti g I ∧ Tq g J
def Mm (g : Gs) (s : State) (I : Ms) (J : Js) (H : Heap) (locs : List Loc) : Prop :=
  (gb g ≤ s.heap.size ∧ Sts g s) ∧ va_K g.1 vwCl (tysG g) s ∧ va_P g.1 vwCl (va_pl (gL g) (ct g I J)) H ∧ va_D (fun q => gb g ≤ q) (va_pl (gL g) (ct g I J)) ∧ va_S (fun q => gb g ≤ q) s.heap H locs ∧ Wf g ∧ Ti g I ∧ Tq g J
def up2 (I : Ms) (a k : Nat) (v : Int32) : Ms := fun b j => if b = a ∧ j = k then v else I b j
theorem up2_s (I : Ms) (a k : Nat) (v : Int32) : up2 I a k v a k = v := if_pos ⟨rfl, rfl⟩
theorem up2_k (I : Ms) (a b : Nat) {k j : Nat} (v : Int32) (h : j ≠ k) : up2 I a k v b j = I b j := if_neg fun q => h q.2
theorem up2_a (I : Ms) {a b : Nat} (k j : Nat) (v : Int32) (h : b ≠ a) : up2 I a k v b j = I b j := if_neg fun q => h q.1
theorem is_ne {g : Gs} {a b t u : Nat} (ha : Is g a t) (hb : Is g b u) (h : u ≠ t) : b ≠ a := fun q => h (by rw [← hb.2, ← ha.2, q])
theorem is_ref {g : Gs} {s : State} {I : Ms} {J : Js} {H : Heap} {locs : List Loc} (M : Mm g s I J H locs) {a t : Nat} (h : Is g a t) (k u : Nat) (hr : isR t k = true) (hu : rt t k = u) : Is g (gr g a k) u := hu ▸ M.2.2.2.2.2.1 a t k h hr
theorem is_old {g : Gs} {s : State} {I : Ms} {J : Js} {H : Heap} {locs : List Loc} (M : Mm g s I J H locs) {a : Nat} (h : Is g a 2) : Is g (J.1 a 6) 3 := (M.2.2.2.2.2.2.2 a h).1
theorem is_next {g : Gs} {s : State} {I : Ms} {J : Js} {H : Heap} {locs : List Loc} (M : Mm g s I J H locs) {a : Nat} (h : Is g a 2) : Is g (J.1 a 7) 3 := (M.2.2.2.2.2.2.2 a h).2
theorem m_rng {g : Gs} {s : State} {I : Ms} {J : Js} {H : Heap} {locs : List Loc} (M : Mm g s I J H locs) {a t : Nat} (h : Is g a t) (k : Nat) {v : Int32} (hv : I a k = v) {lo hi : Int} (hr : rng t k = (lo, hi)) : lo ≤ v.toInt ∧ v.toInt ≤ hi := by
  have := M.2.2.2.2.2.2.1 a h.1 k
  rw [h.2, hr, hv] at this
  exact this
theorem ti_up {g : Gs} {I : Ms} (h : Ti g I) {a t k : Nat} (ha : Is g a t) {v : Int32} (h1 : (rng t k).1 ≤ v.toInt) (h2 : v.toInt ≤ (rng t k).2) : Ti g (up2 I a k v) := by
  intro b hb j
  by_cases q : b = a ∧ j = k
  · obtain ⟨rfl, rfl⟩ := q
    rw [up2_s, ha.2]
    exact ⟨h1, h2⟩
  · have : up2 I a k v b j = I b j := if_neg q
    rw [this]
    exact h b hb j
theorem ct_obj {g : Gs} {I : Ms} {J : Js} {a t : Nat} (h : Is g a t) (ht : t < 16) : ct g I J a = .inr (t, fls g I J a t) := by
  unfold ct
  rw [h.2, if_pos ht]
theorem ct_arr {g : Gs} {I : Ms} {J : Js} {a t : Nat} (h : Is g a t) (h1 : ¬ t < 16) (h2 : t < 40) : ct g I J a = .inl (gA g (aty t), aln t, .inl (I a)) := by
  unfold ct
  rw [h.2, if_neg h1, if_pos h2]
theorem ct_rarr {g : Gs} {I : Ms} {J : Js} {a t : Nat} (h : Is g a t) (h1 : ¬ t < 40) (h2 : t < 42) : ct g I J a = .inl (gA g t, aln t, .inr (.inr (.inr (.inr (fun j => some (gr g a j)))))) := by
  unfold ct
  rw [h.2, if_neg (by omega), if_neg h1, if_pos h2]
theorem fls_get {g : Gs} {I : Ms} {J : Js} {a t k q : Nat} (h : (cds t)[k]? = some q) : (fls g I J a t)[k]? = some (vl g I J a k q) := by
  unfold fls
  rw [List.getElem?_mapIdx, h]
  rfl
theorem fls_set {g : Gs} {I : Ms} {J : Js} {a t k : Nat} (h : (cds t)[k]? = some 0) (v : Int32) : (fls g I J a t).set k (.int v) = fls g (up2 I a k v) J a t := by
  apply List.ext_getElem?
  intro j
  by_cases hj : k = j
  · subst hj
    have hl : k < (fls g I J a t).length := (List.getElem?_eq_some_iff.mp (fls_get h)).1
    rw [List.getElem?_set_self hl, fls_get h]
    simp [vl, up2_s]
  · rw [List.getElem?_set_ne hj]
    unfold fls
    rw [List.getElem?_mapIdx, List.getElem?_mapIdx]
    cases h9 : (cds t)[j]? with
    | none => rfl
    | some q =>
      simp only [Option.map_some]
      have : up2 I a k v a j = I a j := up2_k I a a v (fun e => hj e.symm)
      match q with
      | 0 => simp [vl, this]
      | 1 => rfl
      | 2 => rfl
      | n + 3 => rfl
theorem ct_up {g : Gs} {I : Ms} {J : Js} {a t k : Nat} (h : Is g a t) (ht : t < 16) (hk : (cds t)[k]? = some 0) (v : Int32) : va_up (ct g I J) a (.inr (t, (fls g I J a t).set k (.int v))) = ct g (up2 I a k v) J := by
  funext b
  by_cases hb : b = a
  · subst hb
    rw [va_up_self, ct_obj h ht, fls_set hk]
  · rw [va_up_ne _ _ hb]
    have e : up2 I a k v b = I b := funext fun j => up2_a I k j v hb
    unfold ct fls
    rw [e]
    have e2 : ∀ j q, vl g (up2 I a k v) J b j q = vl g I J b j q := by
      intro j q
      match q with
      | 0 => simp [vl, e]
      | 1 => rfl
      | 2 => rfl
      | n + 3 => rfl
    simp only [e2]
theorem ct_upA {g : Gs} {I : Ms} {J : Js} {a t k : Nat} (h : Is g a t) (h1 : ¬ t < 16) (h2 : t < 40) (v : Int32) : va_up (ct g I J) a (.inl (gA g (aty t), aln t, .inl (upd (I a) k v))) = ct g (up2 I a k v) J := by
  funext b
  by_cases hb : b = a
  · subst hb
    rw [va_up_self, ct_arr h h1 h2]
    have : upd (I b) k v = up2 I b k v b := by
      funext j
      unfold upd up2
      by_cases hj : j = k
      · rw [if_pos hj, if_pos ⟨rfl, hj⟩]
      · rw [if_neg hj, if_neg fun q => hj q.2]
    rw [this]
  · rw [va_up_ne _ _ hb]
    have e : up2 I a k v b = I b := funext fun j => up2_a I k j v hb
    unfold ct fls
    rw [e]
    have e2 : ∀ j q, vl g (up2 I a k v) J b j q = vl g I J b j q := by
      intro j q
      match q with
      | 0 => simp [vl, e]
      | 1 => rfl
      | 2 => rfl
      | n + 3 => rfl
    simp only [e2]
