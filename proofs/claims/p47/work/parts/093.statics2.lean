/-! what the statics hold, more of it: what a throw needs, nest mates' constructors, classes of rows, digits, the document's words -/
def tmsg : List (Nat × String) := [(127, "no bird has this rank"), (147, "no secret has this position"), (167, "the bird does not hold a share of it"), (211, "the number is out of range"), (228, "there are no birds"), (231, "there are no secrets"), (255, "the text is not a program"), (270, "a command failed"), (276, "no error position was stored"), (278, "no failed command was stored"), (293, "the line has no such index"), (305, "no state was saved"), (350, "an argument is out of range"), (352, "there is no such bird"), (354, "there is no such secret"), (356, "the state does not allow the call"), (358, "there are fewer holders than the threshold"), (366, "the nest is out of range"), (371, "the number of known shares is out of range")]
def exN : List String := ["java/lang/IllegalArgumentException", "java/lang/IndexOutOfBoundsException", "java/util/NoSuchElementException", "java/lang/IllegalStateException", "java/lang/UnsupportedOperationException", "java/lang/ArithmeticException"]
def exH : List String := ["java/lang/IllegalArgumentException", "java/lang/IndexOutOfBoundsException", "java/util/NoSuchElementException", "java/lang/IllegalStateException", "java/lang/UnsupportedOperationException"]
def nsL : List (String × Nat × MethodName) := [(RX11, 21, yX10_init), (RX1, 20, yX8_init), (RX8, 11, yX5_init), (RX8, 20, yX3_init), (RX12, 50, yX7_init), (RX12, 9, yX1_init)]
def adT (G : Gx) : Nat := G.2 170
def adU (G : Gx) : Nat := G.2 171
/-- the law's own texts: / space : (none) [ ] -/
def sIx : List Nat := [175, 191, 193, 241, 243, 245]
def sTx : List String := ["/", " ", ":", "", "[", "]"]
def sCh : List (List Nat) := [[47], [32], [58], [], [91], [93]]
def sLen : List Nat := sCh.map List.length
def sByt : List (List Int32) := sCh.map (fun l => l.map nI)
def adS (G : Gx) (i : Nat) : Nat := G.2 (180 + i)
def adB (G : Gx) (i : Nat) : Nat := G.2 (190 + i)
/-- the class of rows of rows of numbers -/
def va_AA (U : State) : Prop := (Cond.arrayOver (.array .int)).before #[] U = true
theorem AA_spec {args : Array Value} {first s : State} {o : Option Outcome} {idx : List Nat} {t : FieldType} (h : (Cond.arrayOver (.array t)).holds args first o s idx = true) :
    ∃ comp c k, s.vm.findClass (FieldType.array t).toString = some comp ∧ (s.vm.classes.findIdx? fun x => match x.kind with | .array component _ => component == comp | _ => false) = some c ∧ s.vm.classes[c]? = some k ∧ k.kind = .array comp (.array t) ∧ s.vm.findClass ("[" ++ (FieldType.array t).toString) = some c := by
  simp only [Cond.holds, Cond.value, beq_iff_eq] at h
  cases hc : s.vm.findClass (FieldType.array t).toString with
  | none => simp [hc] at h
  | some comp =>
    simp only [hc, Option.bind_some, Option.bind_eq_some_iff, Option.map_eq_some_iff] at h
    obtain ⟨c, hi, k, hk, hb⟩ := h
    obtain ⟨hlt, hp, -⟩ := Array.findIdx?_eq_some_iff_getElem.mp hi
    have hkk : s.vm.classes[c] = k := (Array.getElem?_eq_some_iff.mp hk).2
    rw [hkk] at hp
    cases hkind : k.kind with
    | array component ty =>
      rw [hkind] at hb hp
      simp at hb hp
      exact ⟨comp, c, k, rfl, hi, hk, by rw [hkind, hp, hb.1], hb.2⟩
    | _ => rw [hkind] at hb; simp at hb
theorem AA_idx (vm : Vm) (comp : ClassId) : (vm.bare.classes.findIdx? fun (x : Class) => match x.kind with | .array component _ => component == comp | _ => false) = (vm.classes.findIdx? fun (x : Class) => match x.kind with | .array component _ => component == comp | _ => false) := by
  simp only [Vm.bare, Array.findIdx?_map]
  rfl
theorem va_AA.moved {u U : State} (hvm : u.vm.Alike U.vm) (h : va_AA u) : va_AA U := by
  obtain ⟨comp, c, k, h1, h2, h3, h4, h5⟩ := AA_spec h
  obtain ⟨k', hk', he⟩ := hvm.2.2 _ _ h3
  have hi : (U.vm.classes.findIdx? fun (x : Class) => match x.kind with | .array component _ => component == comp | _ => false) = some c := by
    rw [← AA_idx]
    first | rw [hvm.bare_eq] | rw [← hvm.bare_eq]
    rw [AA_idx]
    exact h2
  have hkind : k'.kind = .array comp (.array .int) := by rw [he]; exact h4
  have f1 : U.vm.findClass (FieldType.array .int).toString = some comp := by rw [hvm.findClass]; exact h1
  have f2 : U.vm.findClass ("[" ++ (FieldType.array .int).toString) = some c := by rw [hvm.findClass]; exact h5
  unfold va_AA Cond.before Cond.holds
  simp only [Cond.value]
  rw [f1, Option.bind_some]
  refine (congrArg (fun o : Option Nat => (o.bind (fun c => (U.vm.classes[c]?).map fun (k : Class) => match k.kind with | .array _ ty => decide (ty = FieldType.array .int) && decide (U.vm.findClass ("[" ++ (FieldType.array .int).toString) = some c) | _ => false) == some true)) hi).trans ?_
  simp [hk', hkind, f2]
/-- what stands in the tables alone -/
def SFv (U : State) : Prop := (∀ q ∈ tmsg, ∃ a, vk_R RX12 q.1 q.2 a U) ∧ (∀ E ∈ exN, va_Nw (.castable E E) U ∧ ∀ F ∈ exH, ¬ E = F → va_Nc E F U) ∧ va_AO RX10 U ∧ va_AO RX11 U ∧ va_AA U ∧ (∀ q ∈ nsL, va_Nw (.methodLinkNest q.1 q.2.1 q.2.2 "FeatherShares") U) ∧ ∀ x ∈ dcL, va_Nw (.declares x) U
theorem SFv.warm {s U : State} (hW : s.WarmedH U.vm) (h : SFv s) : SFv U := by
  obtain ⟨h1, h2, h3, h4, h5, h6, h7⟩ := h
  refine ⟨fun q hq => ?_, fun E hE => ⟨va_Nw.warmC hW (h2 E hE).1, fun F hF hne => va_Nc.moved hW.alike ((h2 E hE).2 F hF hne)⟩, va_AO.moved hW.alike h3, va_AO.moved hW.alike h4, va_AA.moved hW.alike h5, fun q hq => va_Nw.warmM hW (h6 q hq), fun x hx => va_Nw.warmD hW (h7 x hx)⟩
  obtain ⟨a, ha⟩ := h1 q hq
  exact ⟨a, vk_R.warm hW ha⟩
theorem SFv.same {u U : State} (hv : U.vm = u.vm) (h : SFv u) : SFv U := by
  obtain ⟨h1, h2, h3, h4, h5, h6, h7⟩ := h
  have hal : u.vm.Alike U.vm := by rw [hv]; exact Vm.Alike.refl _
  refine ⟨fun q hq => ?_, fun E hE => ⟨va_Nw.same rfl hv.symm (h2 E hE).1, fun F hF hne => va_Nc.moved hal ((h2 E hE).2 F hF hne)⟩, va_AO.moved hal h3, va_AO.moved hal h4, va_AA.moved hal h5, fun q hq => va_Nw.same rfl hv.symm (h6 q hq), fun x hx => va_Nw.same rfl hv.symm (h7 x hx)⟩
  obtain ⟨a, ha⟩ := h1 q hq
  exact ⟨a, vk_R.same hv ha⟩
/-- what stands in the heap besides -/
def SFh (G : Gx) (A : Nat → Prop) (U : State) (H : Heap) : Prop := vx_Zq Bundle.tN "UNASSIGNED_STACK" Bundle.steD A U H ∧ vx_Zq Bundle.tN "SUPPRESSED_SENTINEL" Bundle.listD A U H ∧
  va_Z "java/lang/Integer" "DigitTens" "[B" (.ref (adT G)) A U H ∧ va_T .byte (adT G) 100 (fun j => .int (nI (48 + j / 10))) A U H ∧ va_Z "java/lang/Integer" "DigitOnes" "[B" (.ref (adU G)) A U H ∧ va_T .byte (adU G) 100 (fun j => .int (nI (48 + j % 10))) A U H ∧
  vk_S 6 sLen sByt (adS G) (adB G) A U H
def SFt (G : Gx) (A : Nat → Prop) (U : State) (H : Heap) : Prop := SFx G A U H ∧ SFh G A U H ∧ SFv U ∧ (∀ i, i < 6 → vk_R RL (sIx.getD i 0) (sTx.getD i "") (adS G i) U) ∧ va_Nw (.castable "[B" "java/lang/Cloneable") U
theorem SFt.k (G : Gx) : SFk (SFt G) := by
  refine ⟨fun A s U H hW h => ⟨(SFx.k G).1 A s U H hW h.1, ?_, SFv.warm hW h.2.2.1, fun i hi => vk_R.warm hW (h.2.2.2.1 i hi), va_Nw.warmC hW h.2.2.2.2⟩, fun A u U H hv h => ⟨(SFx.k G).2.1 A u U H hv h.1, ?_, SFv.same hv h.2.2.1, fun i hi => vk_R.same hv (h.2.2.2.1 i hi), va_Nw.same rfl hv.symm h.2.2.2.2⟩, fun A B U H hB h => ⟨(SFx.k G).2.2.1 A B U H hB h.1, ?_, h.2.2⟩, fun A U H H1 hq h => ⟨(SFx.k G).2.2.2 A U H H1 hq h.1, ?_, h.2.2⟩⟩
  · obtain ⟨h1, h2, h3, h4, h5, h6, h7⟩ := h.2.1
    have hvm := hW.alike
    exact ⟨vx_Zq.moved hvm h1, vx_Zq.moved hvm h2, va_Z.moved hvm h3, va_T.moved hvm h4, va_Z.moved hvm h5, va_T.moved hvm h6, vk_S.moved hvm h7⟩
  · obtain ⟨h1, h2, h3, h4, h5, h6, h7⟩ := h.2.1
    have hvm : u.vm.Alike U.vm := by rw [hv]; exact Vm.Alike.refl _
    exact ⟨vx_Zq.moved hvm h1, vx_Zq.moved hvm h2, va_Z.moved hvm h3, va_T.moved hvm h4, va_Z.moved hvm h5, va_T.moved hvm h6, vk_S.moved hvm h7⟩
  · obtain ⟨h1, h2, h3, h4, h5, h6, h7⟩ := h.2.1
    exact ⟨vx_Zq.narrow h1 hB, vx_Zq.narrow h2 hB, va_Z.narrow h3 hB, va_T.narrow h4 hB, va_Z.narrow h5 hB, va_T.narrow h6 hB, vk_S.narrow h7 hB⟩
  · obtain ⟨h1, h2, h3, h4, h5, h6, h7⟩ := h.2.1
    exact ⟨vx_Zq.kept h1 hq, vx_Zq.kept h2 hq, va_Z.kept h3 hq, va_T.kept h4 hq, va_Z.kept h5 hq, va_T.kept h6 hq, vk_S.kept h7 hq⟩
theorem SFgo.x {G : Gx} {K : Cx} (h : SFgo K (SFt G)) : SFgo K (SFx G) := fun H locs U B a b c d => (h H locs U B a b c d).1
theorem SFt.msg {G : Gx} {A : Nat → Prop} {U : State} {H : Heap} (h : SFt G A U H) (q : Nat × String) (hq : q ∈ tmsg) : ∃ sa, vk_R RX12 q.1 q.2 sa U := h.2.2.1.1 q hq
theorem SFt.ca {G : Gx} {A : Nat → Prop} {U : State} {H : Heap} (h : SFt G A U H) (E : String) (hE : E ∈ exN) : va_Nw (.castable E E) U := (h.2.2.1.2.1 E hE).1
theorem SFt.nc {G : Gx} {A : Nat → Prop} {U : State} {H : Heap} (h : SFt G A U H) (E F : String) (hE : E ∈ exN) (hF : F ∈ exH) (hne : ¬ E = F) : va_Nc E F U := (h.2.2.1.2.1 E hE).2 F hF hne
theorem SFt.ns {G : Gx} {A : Nat → Prop} {U : State} {H : Heap} (h : SFt G A U H) (q : String × Nat × MethodName) (hq : q ∈ nsL) : va_Nw (.methodLinkNest q.1 q.2.1 q.2.2 "FeatherShares") U := h.2.2.1.2.2.2.2.2.1 q hq
theorem SFt.de {G : Gx} {A : Nat → Prop} {U : State} {H : Heap} (h : SFt G A U H) : ∀ x ∈ dcL, va_Nw (.declares x) U := h.2.2.1.2.2.2.2.2.2
