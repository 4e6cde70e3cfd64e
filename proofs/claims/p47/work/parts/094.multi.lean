/-! new int[4][5]: four rows of five zeros in a row of rows. The road is the library's own for this instruction (make, one round a row), gone at these two lengths -/
def mrI (comp : ClassId) : Cell := { cls := comp, slots := Array.replicate 5 (.int 0), vm := .none }
def mrO (c : ClassId) (h : Nat) : Nat → Cell
  | 0 => { cls := c, slots := Array.replicate 4 .null, vm := .none }
  | i + 1 => (mrO c h i).setSlot i (.ref (h + 1 + i))
/-- the state when i rows are made -/
def mrS (s : State) (c comp : ClassId) : Nat → State
  | 0 => s.pushCell (mrO c s.heap.size 0)
  | i + 1 => ((mrS s c comp i).pushCell (mrI comp)).setCell s.heap.size (mrO c s.heap.size (i + 1))
theorem mrO_facts (c : ClassId) (h : Nat) : ∀ i, (mrO c h i).cls = c ∧ (mrO c h i).vm = .none ∧ (mrO c h i).slots.size = 4
  | 0 => ⟨rfl, rfl, by simp [mrO]⟩
  | i + 1 => by
    obtain ⟨a, b, d⟩ := mrO_facts c h i
    exact ⟨by simp [mrO, Cell.setSlot, a], by simp [mrO, Cell.setSlot, b], by simp [mrO, Cell.setSlot, d]⟩
theorem mrO_4 (c : ClassId) (h : Nat) : mrO c h 4 = arrV c 4 (fun j => .ref (h + 1 + j)) := by
  have hs : (mrO c h 4).slots = (arrV c 4 (fun j => .ref (h + 1 + j))).slots := by
    apply Array.ext_getElem?
    intro j
    rcases Nat.lt_or_ge j 4 with hj | hj
    · obtain rfl | rfl | rfl | rfl : j = 0 ∨ j = 1 ∨ j = 2 ∨ j = 3 := by omega
      all_goals simp [mrO, Cell.setSlot, arrV]
    · rw [Array.getElem?_eq_none (by rw [(mrO_facts c h 4).2.2]; exact hj), Array.getElem?_eq_none (by simp [arrV]; omega)]
  show ({ (mrO c h 4) with slots := (mrO c h 4).slots } : Cell) = _
  rw [hs]
  simp [mrO, Cell.setSlot, arrV]
theorem mrI_arr (comp : ClassId) : mrI comp = arrV comp 5 (fun _ => .int 0) := by
  have hs : (mrI comp).slots = (arrV comp 5 (fun _ => .int 0)).slots := by
    apply Array.ext_getElem?
    intro j
    rcases Nat.lt_or_ge j 5 with hj | hj
    · obtain rfl | rfl | rfl | rfl | rfl : j = 0 ∨ j = 1 ∨ j = 2 ∨ j = 3 ∨ j = 4 := by omega
      all_goals simp [mrI, arrV]
    · rw [Array.getElem?_eq_none (by simp [mrI]; omega), Array.getElem?_eq_none (by simp [arrV]; omega)]
  show ({ (mrI comp) with slots := (mrI comp).slots } : Cell) = _
  rw [hs]
  simp [mrI, arrV]
theorem mrS_facts (s : State) (c comp : ClassId) : ∀ i, (mrS s c comp i).heap.size = s.heap.size + 1 + i ∧ (mrS s c comp i).heap[s.heap.size]? = some (mrO c s.heap.size i) ∧ (mrS s c comp i).vm = s.vm ∧ (mrS s c comp i).slotsUsed = s.slotsUsed + 4 + i * 5
  | 0 => ⟨by simp [mrS], by simp [mrS], rfl, by simp [mrS, mrO]⟩
  | i + 1 => by
    obtain ⟨a, b, d, u⟩ := mrS_facts s c comp i
    have hlt : s.heap.size < (mrS s c comp i).heap.size := by omega
    have hb' : ((mrS s c comp i).pushCell (mrI comp)).heap[s.heap.size]? = some (mrO c s.heap.size i) := by rw [State.heap_pushCell_of_lt (h := hlt)]; exact b
    refine ⟨?_, State.heap_setCell_self hb', by simp [mrS, d], ?_⟩
    · simp [mrS, State.setCell, a]; omega
    · simp [mrS, u, mrI]; omega
theorem mrS_top (s : State) (f : JFrame) (c comp : ClassId) : ∀ i, mrS (s.setTop f) c comp i = (mrS s c comp i).setTop f
  | 0 => rfl
  | i + 1 => by simp only [mrS, mrS_top s f c comp i, State.heap_setTop, State.pushCell_setTop, State.setCell_setTop]
theorem mrS_old (s : State) (c comp : ClassId) {a : Addr} (ha : a < s.heap.size) : ∀ i, (mrS s c comp i).heap[a]? = s.heap[a]?
  | 0 => State.heap_pushCell_of_lt _ _ ha
  | i + 1 => by
    have f1 := (mrS_facts s c comp i).1
    have hlt : a < (mrS s c comp i).heap.size := Nat.lt_of_lt_of_le ha (by rw [f1]; omega)
    show (((mrS s c comp i).pushCell (mrI comp)).setCell s.heap.size _).heap[a]? = _
    rw [State.heap_setCell_other (Nat.ne_of_gt ha), State.heap_pushCell_of_lt (h := hlt)]
    exact mrS_old s c comp ha i
theorem mrS_row (s : State) (c comp : ClassId) : ∀ i j, j < i → (mrS s c comp i).heap[s.heap.size + 1 + j]? = some (mrI comp)
  | 0, _, h => absurd h (Nat.not_lt_zero _)
  | i + 1, j, h => by
    have f1 := (mrS_facts s c comp i).1
    show (((mrS s c comp i).pushCell (mrI comp)).setCell s.heap.size _).heap[s.heap.size + 1 + j]? = _
    rw [State.heap_setCell_other (show s.heap.size ≠ s.heap.size + 1 + j by omega)]
    rcases Nat.lt_or_ge j i with hj | hj
    · have hlt : s.heap.size + 1 + j < (mrS s c comp i).heap.size := by rw [f1]; omega
      rw [State.heap_pushCell_of_lt (h := hlt)]
      exact mrS_row s c comp i j hj
    · obtain rfl : j = i := by omega
      rw [← f1]
      exact State.heap_pushCell_size _ _
section
variable {E : CtlPost} {e : Env} {d : Bool} {acts : List Action} {s : State}

theorem mr_new {c comp : ClassId} {k : Class} {type : FieldType} {len : Nat} {init : Value} (hk : s.vm.classes[c]? = some k) (hkind : k.kind = .array comp type)
    (h1 : ¬ len > e.platform.arrayLengthLimit) (h2 : ¬ len * componentBytes type > e.platform.maxHeapBytes) (hfit : fits type init = true) (hdef : init.isDefault = true) {Q : Addr → Pre}
    (h3 : s.heap.size < e.platform.maxCells) (h4 : s.slotsUsed + len ≤ e.platform.maxSlots) (hq : Q s.heap.size d acts (s.pushCell { cls := c, slots := Array.replicate len init, vm := .none })) :
    wp (Jvm.newArray c len init) Q E e d acts s := by
  have hfits : ∀ i v, (Array.replicate len init)[i]? = some v → s.fitsSlot c .none i v = true := by
    intro i v hv
    simp only [Array.getElem?_replicate] at hv
    split at hv
    · cases hv; simp [State.fitsSlot, State.slotType?, hk, hkind, hfit]
    · cases hv
  have hda : allocActs (Array.replicate len init) s.heap.size acts = acts := by
    have hall : ((Array.replicate len init).all (·.isDefault)) = true := by
      rw [Array.all_replicate]; split <;> simp [hdef]
    unfold allocActs; rw [if_pos hall]
  simp only [Jvm.newArray, Jvm.arrayFits, wp_bind', W.ask, W.ite, h1, if_false, wp_pure', W.theClass, hk, hkind, h2, W.alloc, W.stop, Option.some.injEq, exists_eq_left', Array.size_replicate, hda]
  rw [if_neg (by omega)]
  exact ⟨h3, h4, hfits, hq⟩
end
section
variable {E : CtlPost} {e : Env} {d : Bool} {acts : List Action} {s : State}
theorem mr_row {comp cc : ClassId} {kc : Class} (hkc : s.vm.classes[comp]? = some kc) (hkindc : kc.kind = .array cc .int)
    (h1 : ¬ 5 > e.platform.arrayLengthLimit) (h2 : ¬ 5 * componentBytes .int > e.platform.maxHeapBytes) (h3 : s.heap.size < e.platform.maxCells) (h4 : s.slotsUsed + 5 ≤ e.platform.maxSlots)
    {Q : Addr → Pre} (hq : Q s.heap.size d acts (s.pushCell (mrI comp))) : wp (multianewarray.make comp [5]) Q E e d acts s := by
  rw [multianewarray.make]
  simp only [wp_bind', W.ite, show ¬ (5 : Int32) < 0 by decide, if_false, wp_pure', W.theClass, hkc, hkindc, Option.some.injEq, exists_eq_left']
  exact mr_new (len := 5) hkc hkindc h1 h2 rfl rfl h3 h4 hq
theorem mr_all {c comp cc : ClassId} {k kc : Class} (hk : s.vm.classes[c]? = some k) (hkind : k.kind = .array comp (.array .int)) (hkc : s.vm.classes[comp]? = some kc) (hkindc : kc.kind = .array cc .int)
    (h1 : ¬ 5 > e.platform.arrayLengthLimit) (h2 : ¬ 5 * componentBytes .int > e.platform.maxHeapBytes) (h0 : ¬ 4 * componentBytes (.array .int) > e.platform.maxHeapBytes)
    (hc : s.heap.size + 5 ≤ e.platform.maxCells) (hs : s.slotsUsed + 24 ≤ e.platform.maxSlots)
    {Q : Addr → Pre} (hq : ∀ d' acts', Q s.heap.size d' acts' (mrS s c comp 4)) : wp (multianewarray.make c [4, 5]) Q E e d acts s := by
  rw [multianewarray.make]
  simp only [wp_bind', W.ite, show ¬ (4 : Int32) < 0 by decide, if_false, wp_pure', W.theClass, hk, hkind, Option.some.injEq, exists_eq_left']
  refine mr_new (len := 4) (init := .null) hk hkind (by omega) h0 rfl rfl (by omega) (by omega) ?_
  simp only [show ([(5 : Int32)].find? (· < 0)) = none by decide]
  rw [ite_self, wp_bind', Std.Legacy.Range.forIn_eq_forIn_range']
  show wp (forIn (List.range' 0 4 1) PUnit.unit _) _ E e d acts _
  refine wp_forIn_inv (fun rest s' => ∃ i, i ≤ 4 ∧ rest = List.range' i (4 - i) ∧ s' = mrS s c comp i) _ _ ⟨0, Nat.zero_le _, rfl, rfl⟩ ?_ ?_
  · rintro x rest s' d' acts' Q' ⟨i, hi, hl, rfl⟩ hnext
    have hlt : i < 4 := by
      rcases Nat.lt_or_ge i 4 with h | h
      · exact h
      · rw [show 4 - i = 0 by omega] at hl; simp at hl
    obtain ⟨rfl, hrest⟩ : x = i ∧ rest = List.range' (i + 1) (4 - (i + 1)) := by
      rw [show 4 - i = (4 - (i + 1)) + 1 by omega, List.range'_succ] at hl
      exact ⟨(List.cons.inj hl).1, (List.cons.inj hl).2⟩
    obtain ⟨f1, f2, f3, f4⟩ := mrS_facts s c comp x
    obtain ⟨o1, o2, o3⟩ := mrO_facts c s.heap.size x
    simp only [wp_bind']
    refine mr_row (by rw [f3]; exact hkc) hkindc h1 h2 (by rw [f1]; omega) (by rw [f4]; omega) ?_
    have hlt0 : s.heap.size < (mrS s c comp x).heap.size := by rw [f1]; omega
    simp only [wp_bind', W.writeLoc, wp_pure']
    refine ⟨mrO c s.heap.size x, by rw [State.heap_pushCell_of_lt (h := hlt0)]; exact f2, by rw [o2]; simp, by rw [o3]; exact hlt, ?_, hnext _ _ _ ⟨x + 1, hlt, hrest, ?_⟩⟩
    · rw [o1, o2]
      simp [State.fitsSlot, State.slotType?, f3, hk, hkind]
      rfl
    · rw [f1]; rfl
  · rintro s' d' acts' ⟨i, hi, hl, rfl⟩
    have hiN : i = 4 := by
      rcases Nat.lt_or_ge i 4 with h | h
      · rw [show 4 - i = (4 - (i + 1)) + 1 by omega, List.range'_succ] at hl; cases hl
      · omega
    subst hiN
    simp only [wp_pure']
    exact hq _ _
end
section
variable {p : Program} {l : Launch} {e : Env} {R : Room} {s : State} {m : MethodId} {args : Array Value} {below : List Frame} {meth : Method} {c : Code} {T : State} {H : Heap} {locs : List Loc} {cells slots : Nat} {Q : State → Prop}
theorem mr_stand (X : Stand p l e R s m args below meth c T locs cells slots) (cA comp : ClassId) :
    ∀ i, Stand p l e R s m args below meth c (mrS T cA comp i) (locs ++ (List.range i).map fun j => ⟨T.heap.size, j⟩) (cells + 1 + i) (slots + 4 + i * 5)
  | 0 => by
    have h := X.pushed (mrO cA T.heap.size 0)
    rw [(mrO_facts cA T.heap.size 0).2.2] at h
    simpa [mrS] using h
  | i + 1 => by
    have Xi := mr_stand X cA comp i
    obtain ⟨f1, f2, f3, f4⟩ := mrS_facts T cA comp i
    have hlt0 : T.heap.size < (mrS T cA comp i).heap.size := by rw [f1]; omega
    have hcell : ((mrS T cA comp i).pushCell (mrI comp)).heap[T.heap.size]? = some (mrO cA T.heap.size i) := by rw [State.heap_pushCell_of_lt (h := hlt0)]; exact f2
    have h := (Xi.pushed (mrI comp)).stored hcell i (.ref (T.heap.size + 1 + i))
    have e1 : (mrI comp).slots.size = 5 := by simp [mrI]
    rw [e1] at h
    have e2 : (locs ++ (List.range (i + 1)).map fun j => (⟨T.heap.size, j⟩ : Loc)) = (locs ++ (List.range i).map fun j => (⟨T.heap.size, j⟩ : Loc)) ++ [⟨T.heap.size, i⟩] := by simp [List.range_succ, List.append_assoc]
    have e3 : slots + 4 + (i + 1) * 5 = slots + 4 + i * 5 + 5 := by omega
    rw [e2, e3]
    exact h
theorem W.newM {cc : ByteArray} (hexec : p.tables.exec = Jvm.exec) (hb : c.code = cc) {own : String} {index : Nat} (hown : s.vm.findClass own = some m.cls) (hclink : (Cond.classLink own index "[[I").before args s = true)
    (hover : va_AA s) (harr : (Cond.arrayClass .int).before args s = true) {g : JFrame} (hg : g.method = m) (hdg : decode cc g.pc = .ok (.multianewarray index 2, 4)) {rest : List Value} (hstack : g.stack = .int 5 :: .int 4 :: rest)
    (hcells : cells + 5 ≤ R.cells) (hslots : slots + 24 ≤ R.slots)
    (kk : ∀ (H1 : Heap) (cA comp : ClassId), s.vm.findClass "[[I" = some cA → s.vm.findClass "[I" = some comp → H1.size = H.size + 5 → H1[H.size]? = some (arrV cA 4 (fun j => .ref (H.size + 1 + j))) → (∀ j, j < 4 → H1[H.size + 1 + j]? = some (arrV comp 5 (fun _ => .int 0))) → (∀ q, q < H.size → H1[q]? = H[q]?) →
      W p l e R s m args below meth c H1 (locs ++ (List.range 4).map fun j => ⟨H.size, j⟩) (cells + 5) (slots + 24) Q { g with pc := g.pc + 4, stack := .ref H.size :: rest }) : W p l e R s m args below meth c H locs cells slots Q g := by
  intro T hT X
  subst hT
  subst hb
  subst hg
  have hpl : e.platform.magicAccessors = ({} : Platform).magicAccessors := by rw [X.admits.platform]
  obtain ⟨comp, cA, kA, hcomp, -, hkA, hkindA, hnameA⟩ := AA_spec hover
  obtain ⟨comp', kC, cc, hcomp', hkC, hkindC⟩ := Cond.arrayClass_spec harr
  have ecomp : comp' = comp := Option.some.inj (hcomp'.symm.trans hcomp)
  subst ecomp
  obtain ⟨c0, hfc0, hcl⟩ := Cond.classLink_spec hown hclink e.platform hpl
  cases (show s.vm.findClass "[[I" = some cA from hnameA).symm.trans hfc0
  obtain ⟨hg₁, hwarm₁, hready₁⟩ := State.classEntry (e := e) X.warmed hcl
  generalize T.vm.noted g.method.cls index (.cls cA) = vm₁ at hg₁ hwarm₁ hready₁
  have hal : s.vm.Alike vm₁ := hwarm₁.alike
  obtain ⟨kA₁, hkA₁, heA⟩ := hal.2.2 _ _ hkA
  obtain ⟨kC₁, hkC₁, heC⟩ := hal.2.2 _ _ hkC
  have hkindA₁ : kA₁.kind = .array comp' (.array .int) := by rw [heA]; exact hkindA
  have hkindC₁ : kC₁.kind = .array cc .int := by rw [heC]; exact hkindC
  have X₁ := X.noted hwarm₁
  obtain ⟨hr1, hr2⟩ := X.roomAbove hcells hslots
  have XF := mr_stand X₁ cA comp' 4
  obtain ⟨f1, f2, f3, f4⟩ := mrS_facts (T.setVm vm₁) cA comp' 4
  obtain ⟨t, a1, b1⟩ := kk (mrS (T.setVm vm₁) cA comp' 4).heap cA comp' hnameA hcomp f1 (by have := f2; rw [mrO_4] at this; exact this)
    (fun j hj => by have := mrS_row (T.setVm vm₁) cA comp' 4 j hj; rw [mrI_arr] at this; exact this) (fun q hq => mrS_old (T.setVm vm₁) cA comp' hq 4) _ rfl XF
  refine ⟨t, ?_, b1⟩
  jvm_step X.here [hexec, hdg]
  simp only [multianewarray.sem, wp_bind', W.resolveClassAt_links (State.method?_setTop g X.here.top) hg₁]
  rw [W.popN, if_neg (by decide)]
  refine ⟨g, State.topJava?_setTop' (s := T.setVm vm₁) g X.here.top, [.int 4, .int 5], rest, rfl, hstack, ?_⟩
  simp only [List.mapM_cons, List.mapM_nil, wp_bind', wp_pure']
  refine mr_all (k := kA₁) (kc := kC₁) (comp := comp') (cc := cc) hkA₁ hkindA₁ hkC₁ hkindC₁ (by rw [Launch.admits_arrayLengthLimit X.admits]; omega) (by rw [Launch.admits_maxHeapBytes X.admits]; decide) (by rw [Launch.admits_maxHeapBytes X.admits]; decide) (by show T.heap.size + 5 ≤ _; omega) (by show T.slotsUsed + 24 ≤ _; omega) (fun d' acts' => ?_)
  have eS : ((T.setTop g).setVm vm₁).setTop { g with stack := rest } = (T.setVm vm₁).setTop { g with stack := rest } := by
    show ((T.setVm vm₁).setTop g).setTop _ = _
    rw [State.setTop_setTop]
  rw [eS, mrS_top]
  simp only [wp_bind', W.mark, W.pushRef, State.topJava?_setTop' _ XF.here.top, Option.some.injEq, exists_eq_left', State.setTop_setTop, State.heap_setTop]
  intro acts
  simp [jvm, XF.here.top]
  exact a1
end
section
variable {G : Gx} {K : Cx} {nL cells slots pc : Nat} {lv : List (Option Value)} {st : List Value} {ws : va_W} {cc : ByteArray} {own : String} {Ts : List Cond} {rm : Room}
/-- four rows of five zeros: the row of rows at q, the rows behind it -/
theorem V.newM (hC : Cok G K cc nL own Ts rm) {index : Nat} (hcl : Cond.classLink own index "[[I" ∈ Ts) (harr : Cond.arrayClass .int ∈ Ts) (hover : va_AA (ks K)) (hcells : cells + 5 ≤ rm.cells) (hslots : slots + 24 ≤ rm.slots) (hdg : decode cc pc = .ok (.multianewarray index 2, 4))
    (h : ∀ q : Nat, V G K nL (cells + 5) (slots + 24) (pc + 4) lv (.ref q :: st) (ws ++ [(q, .inl (gII G, 4, .inr (.inr (.inr (.inr (fun k => some (q + 1 + k))))))), (q + 1 + 0, .inl (gI G, 5, .inl (fun _ => 0))), (q + 1 + 1, .inl (gI G, 5, .inl (fun _ => 0))), (q + 1 + 2, .inl (gI G, 5, .inl (fun _ => 0))), (q + 1 + 3, .inl (gI G, 5, .inl (fun _ => 0)))])) : V G K nL cells slots pc lv (.int 5 :: .int 4 :: st) ws := by
  intro H locs ls hP hD hS hl
  have hR := hC.2.2.2.2.2.1
  have hK := hC.2.2.2.2.2.2.1
  refine W.newM hC.1 hC.2.1 hC.2.2.2.1 (hC.2.2.2.2.1 _ hcl) hover (hC.2.2.2.2.1 _ harr) rfl hdg rfl (by rw [hR]; exact hcells) (by rw [hR]; exact hslots) fun H1 cA comp n1 n2 z1 e1 e2 o1 => ?_
  have hcA : cA = gII G := Option.some.inj (n1.symm.trans (RA_prim (hK.2 5 (gII G, .array .int) rfl).2 (fun C z => by cases z)))
  have hcI : comp = gI G := Option.some.inj (n2.symm.trans (RA_prim (hK.2 0 (gI G, .int) rfl).2 (fun C z => by cases z)))
  subst hcA
  subst hcI
  have hk : ∀ (k : Nat) (x : Nat × va_E), ws[k]? = some x → H1[x.1]? = H[x.1]? := fun k x hx => o1 x.1 ((hP k x hx).lt)
  have hA : ∀ j, kA K (H.size + j) := fun j => hC.2.2.2.2.2.2.2.1 _ (Nat.le_trans hS.1 (Nat.le_add_right _ _))
  have new : ∀ (k : Nat) (x : Nat × va_E), ([(H.size, .inl (gII G, 4, .inr (.inr (.inr (.inr (fun k => some (H.size + 1 + k))))))), (H.size + 1 + 0, .inl (gI G, 5, .inl (fun _ => 0))), (H.size + 1 + 1, .inl (gI G, 5, .inl (fun _ => 0))), (H.size + 1 + 2, .inl (gI G, 5, .inl (fun _ => 0))), (H.size + 1 + 3, .inl (gI G, 5, .inl (fun _ => 0)))] : va_W)[k]? = some x → x.1 = H.size + k ∧ va_at G.1 vwCl x H1 := by
    intro k x hx
    have hz : k < 5 := (List.getElem?_eq_some_iff.mp hx).1
    obtain rfl | rfl | rfl | rfl | rfl : k = 0 ∨ k = 1 ∨ k = 2 ∨ k = 3 ∨ k = 4 := by omega
    · cases hx; exact ⟨rfl, e1⟩
    · cases hx; exact ⟨rfl, e2 0 (by omega)⟩
    · cases hx; exact ⟨rfl, e2 1 (by omega)⟩
    · cases hx; exact ⟨rfl, e2 2 (by omega)⟩
    · cases hx; exact ⟨rfl, e2 3 (by omega)⟩
  refine h H.size H1 _ ls ((hP.kept hk).app (fun k x hx => (new k x hx).2)) ⟨fun i j x y hi hj hxy => ?_, fun k x hx => ?_⟩ ⟨Nat.le_trans hS.1 (by omega), fun x h1 h2 => (o1 x (Nat.lt_of_lt_of_le h1 hS.1)).trans (hS.2.1 x h1 h2), fun z hz => ?_⟩ hl
  · rcases Nat.lt_or_ge i ws.length with h1 | h1 <;> rcases Nat.lt_or_ge j ws.length with h2 | h2
    · rw [List.getElem?_append_left h1] at hi
      rw [List.getElem?_append_left h2] at hj
      exact hD.1 i j x y hi hj hxy
    · rw [List.getElem?_append_left h1] at hi
      rw [List.getElem?_append_right h2] at hj
      have a := (hP i x hi).lt
      have b := (new _ y hj).1
      omega
    · rw [List.getElem?_append_right h1] at hi
      rw [List.getElem?_append_left h2] at hj
      have a := (hP j y hj).lt
      have b := (new _ x hi).1
      omega
    · rw [List.getElem?_append_right h1] at hi
      rw [List.getElem?_append_right h2] at hj
      have a := (new _ x hi).1
      have b := (new _ y hj).1
      omega
  · rcases Nat.lt_or_ge k ws.length with h1 | h1
    · rw [List.getElem?_append_left h1] at hx
      exact hD.2 k x hx
    · rw [List.getElem?_append_right h1] at hx
      rw [(new _ x hx).1]
      exact hA _
  · rcases List.mem_append.mp hz with h1 | h1
    · exact hS.2.2 z h1
    · obtain ⟨j, -, rfl⟩ := List.mem_map.mp h1
      exact hA 0
end
