/-! contracts over wider worlds, by places; worlds said in another order -/
theorem va_A_mono {w0 w0' : va_W} {sz : Nat} {is : List Nat} (h : is.map (fun i => w0'[i]?) = w0.map some) : ∀ q, va_A w0 sz q → va_A w0' sz q := by
  intro q hq
  rcases hq with ⟨k, e, hk⟩ | hq
  · have h1 : (is.map (fun i => w0'[i]?))[k]? = some (some (q, e)) := by rw [h, List.getElem?_map, hk]; rfl
    rw [List.getElem?_map] at h1
    cases hi : is[k]? with
    | none => rw [hi] at h1; cases h1
    | some i => rw [hi] at h1; exact Or.inl ⟨i, e, Option.some.inj h1⟩
  · exact Or.inr hq
section CTAT
variable {α S X : Type} {l : Launch} {G : Gx} {SF : (Nat → Prop) → State → Heap → Prop} {y : MethodName} {Ts : List Cond} {rm : Room} {av : List Value} {w0 : va_W} {mk : α → Option Value} {Po : α → S → Prop} {w1 : S → va_W} {Px : String → X → Prop} {wx : X → va_W} {mc ms : Nat}
theorem CP.at (hk : SFk SF) {w0' : va_W} {sz : Nat} {U : State} (isC : List Nat) (hC : isC.map (fun i => w0'[i]?) = w0.map some) (hnC : va_nd isC = true) (h : CP G SF w0' sz U) : CP G SF w0 sz U := by
  obtain ⟨h1, h2, h3, h4, h5⟩ := h
  have e : ∀ (k : Nat) (q : Nat × va_E), w0[k]? = some q → ∃ i, isC[k]? = some i ∧ w0'[i]? = some q := by
    intro k q hq
    have h1 : (isC.map (fun i => w0'[i]?))[k]? = some (some q) := by rw [hC, List.getElem?_map, hq]; rfl
    rw [List.getElem?_map] at h1
    cases hi : isC[k]? with
    | none => rw [hi] at h1; cases h1
    | some i => rw [hi] at h1; exact ⟨i, rfl, Option.some.inj h1⟩
  refine ⟨h1, fun k q hq => ?_, h3, h4.sub isC hnC hC, hk.2.2.1 _ _ _ _ (va_A_mono hC) h5⟩
  obtain ⟨i, -, hi⟩ := e k q hq
  exact h2 i q hi
/-- the same method over a wider world: the rest stays, the callee's cells come behind it -/
theorem Ct.at (h : Ct l G SF y Ts rm av w0 mk Po w1 mc ms) (hk : SFk SF) {w0' wr : va_W} (isC isR : List Nat) (hC : isC.map (fun i => w0'[i]?) = w0.map some) (hnC : va_nd isC = true) (hR : isR.map (fun i => w0'[i]?) = wr.map some) (hnd : va_nd isR = true) (hdis : ∀ i ∈ isR, i ∉ isC) :
    Ct l G SF y Ts rm av w0' mk Po (fun u => wr ++ w1 u) mc ms := by
  intro sz
  refine MetFree.mono (h sz) (fun a s hp => ⟨hp.1, CP.at hk isC hC hnC hp.2⟩) (fun _ _ _ _ _ z => z) (fun a s o t hP hQ => ?_)
  obtain ⟨⟨⟨r, u, ho, hpo, hb1, hb2⟩, hF⟩, L, hL1, hL2⟩ := hQ
  obtain ⟨-, hsz, hP2, -, hD, -⟩ := hP
  have hA := va_A_mono (sz := sz) hC
  have hD' : va_D (va_A w0' sz) w0' := ⟨hD.1, fun k q hq => Or.inl ⟨k, q.2, hq⟩⟩
  subst hsz
  have hj := va_join hP2 hD' isC isR hC hR hnd hdis (fun q h1 h2 => hF.2 q h1 h2) hA hb1 hb2
  exact ⟨⟨⟨r, u, ho, hpo, hj.1, hj.2⟩, hF.1, fun q h1 h2 => hF.2 q h1 (fun z => h2 (hA q z))⟩, L, hL1, fun q hq => hA _ (hL2 q hq)⟩
theorem CtX.at (h : CtX l G SF y Ts rm av w0 mk Po w1 Px wx mc ms) (hk : SFk SF) {w0' wr : va_W} (isC isR : List Nat) (hC : isC.map (fun i => w0'[i]?) = w0.map some) (hnC : va_nd isC = true) (hR : isR.map (fun i => w0'[i]?) = wr.map some) (hnd : va_nd isR = true) (hdis : ∀ i ∈ isR, i ∉ isC) :
    CtX l G SF y Ts rm av w0' mk Po (fun u => wr ++ w1 u) Px (fun u => wr ++ wx u) mc ms := by
  intro sz
  have hA := va_A_mono (sz := sz) hC
  refine MetFree.mono (h sz) (fun a s hp => ⟨hp.1, CP.at hk isC hC hnC hp.2⟩) (fun _ _ _ _ _ z => z) (fun a s o t hP hQ => ?_)
  obtain ⟨-, hsz, hP2, -, hD, -⟩ := hP
  have hD' : va_D (va_A w0' sz) w0' := ⟨hD.1, fun k q hq => Or.inl ⟨k, q.2, hq⟩⟩
  subst hsz
  rcases hQ with ⟨⟨⟨r, u, ho, hpo, hb1, hb2⟩, hF⟩, L, hL1, hL2⟩ | ⟨q, ho, E, ce, L, ⟨u, hpo, ⟨hb1, hb2⟩, hF⟩, e1, e2, e3, e4, e5, e6⟩
  · have hj := va_join hP2 hD' isC isR hC hR hnd hdis (fun q h1 h2 => hF.2 q h1 h2) hA hb1 hb2
    exact Or.inl ⟨⟨⟨r, u, ho, hpo, hj.1, hj.2⟩, hF.1, fun q h1 h2 => hF.2 q h1 (fun z => h2 (hA q z))⟩, L, hL1, fun q hq => hA _ (hL2 q hq)⟩
  · have hj := va_join hP2 hD' isC isR hC hR hnd hdis (fun q h1 h2 => hF.2 q h1 h2) hA hb1 hb2
    exact Or.inr ⟨q, ho, E, ce, L, ⟨u, hpo, ⟨hj.1, hj.2⟩, hF.1, fun q h1 h2 => hF.2 q h1 (fun z => h2 (hA q z))⟩, e1, e2, e3, e4, e5, fun q hq => hA _ (e6 q hq)⟩
theorem CB.sub {S' : Type} {w1 : S → va_W} {w1' : S' → va_W} {A : Nat → Prop} {u : S} {u' : S'} {t : State} (is : List Nat) (hs : is.map (fun i => (w1 u)[i]?) = (w1' u').map some) (hn : va_nd is = true) (h : CB G w1 A u t) : CB G w1' A u' t := by
  refine ⟨fun k q hq => ?_, h.2.sub is hn hs⟩
  have h1 : (is.map (fun i => (w1 u)[i]?))[k]? = some (some q) := by rw [hs, List.getElem?_map, hq]; rfl
  rw [List.getElem?_map] at h1
  cases hi : is[k]? with
  | none => rw [hi] at h1; cases h1
  | some i => rw [hi] at h1; exact h.1 i q (Option.some.inj h1)
/-- the world behind in another order, or some of it -/
theorem Ct.out {S' : Type} {Po' : α → S' → Prop} {w1' : S' → va_W} (h : Ct l G SF y Ts rm av w0 mk Po w1 mc ms) (hp : ∀ r u, Po r u → ∃ u' is, Po' r u' ∧ List.map (fun i => (w1 u)[i]?) is = (w1' u').map some ∧ va_nd is = true) : Ct l G SF y Ts rm av w0 mk Po' w1' mc ms := by
  intro sz
  refine MetFree.mono (h sz) (fun _ _ z => z) (fun _ _ _ _ _ z => z) (fun a s o t hP hQ => ?_)
  obtain ⟨⟨⟨r, u, ho, hpo, hb⟩, hF⟩, L⟩ := hQ
  obtain ⟨u', is, hp', hs, hn⟩ := hp r u hpo
  exact ⟨⟨⟨r, u', ho, hp', hb.sub is hs hn⟩, hF⟩, L⟩
theorem CtX.out {S' X' : Type} {Po' : α → S' → Prop} {w1' : S' → va_W} {Px' : String → X' → Prop} {wx' : X' → va_W} (h : CtX l G SF y Ts rm av w0 mk Po w1 Px wx mc ms) (hp : ∀ r u, Po r u → ∃ u' is, Po' r u' ∧ List.map (fun i => (w1 u)[i]?) is = (w1' u').map some ∧ va_nd is = true) (hx : ∀ E u, Px E u → ∃ u' is, Px' E u' ∧ List.map (fun i => (wx u)[i]?) is = (wx' u').map some ∧ va_nd is = true) : CtX l G SF y Ts rm av w0 mk Po' w1' Px' wx' mc ms := by
  intro sz
  refine MetFree.mono (h sz) (fun _ _ z => z) (fun _ _ _ _ _ z => z) (fun a s o t hP hQ => ?_)
  rcases hQ with ⟨⟨⟨r, u, ho, hpo, hb⟩, hF⟩, L⟩ | ⟨q, ho, E, ce, L, ⟨u, hpo, hb, hF⟩, e⟩
  · obtain ⟨u', is, hp', hs, hn⟩ := hp r u hpo
    exact Or.inl ⟨⟨⟨r, u', ho, hp', hb.sub is hs hn⟩, hF⟩, L⟩
  · obtain ⟨u', is, hp', hs, hn⟩ := hx E u hpo
    exact Or.inr ⟨q, ho, E, ce, L, ⟨u', hp', hb.sub is hs hn, hF⟩, e⟩
theorem CtX.mono {S' X' : Type} {Po' : α → S' → Prop} {w1' : S' → va_W} {Px' : String → X' → Prop} {wx' : X' → va_W} (h : CtX l G SF y Ts rm av w0 mk Po w1 Px wx mc ms) (hp : ∀ r u, Po r u → ∃ u', Po' r u' ∧ w1' u' = w1 u) (hx : ∀ E u, Px E u → ∃ u', Px' E u' ∧ wx' u' = wx u) : CtX l G SF y Ts rm av w0 mk Po' w1' Px' wx' mc ms := by
  intro sz
  refine MetFree.mono (h sz) (fun _ _ z => z) (fun _ _ _ _ _ z => z) (fun a s o t hP hQ => ?_)
  rcases hQ with ⟨⟨⟨r, u, ho, hpo, hb⟩, hF⟩, L⟩ | ⟨q, ho, E, ce, L, ⟨u, hpo, hb, hF⟩, e⟩
  · obtain ⟨u', hp', hw⟩ := hp r u hpo
    exact Or.inl ⟨⟨⟨r, u', ho, hp', by rw [CB, hw]; exact hb⟩, hF⟩, L⟩
  · obtain ⟨u', hp', hw⟩ := hx E u hpo
    exact Or.inr ⟨q, ho, E, ce, L, ⟨u', hp', by rw [CB, hw]; exact hb, hF⟩, e⟩
end CTAT
/-- places of an append -/
theorem range_l (a b : va_W) : (List.range a.length).map (fun i => (a ++ b)[i]?) = a.map some := by
  apply List.ext_getElem?
  intro k
  rw [List.getElem?_map, List.getElem?_map]
  rcases Nat.lt_or_ge k a.length with h | h
  · rw [List.getElem?_range h, Option.map_some, List.getElem?_append_left h, List.getElem?_eq_getElem h]
    rfl
  · rw [List.getElem?_eq_none (by simpa using h), List.getElem?_eq_none h]
    rfl
theorem range_r (a b : va_W) : ((List.range b.length).map (fun i => a.length + i)).map (fun i => (a ++ b)[i]?) = b.map some := by
  apply List.ext_getElem?
  intro k
  rw [List.map_map, List.getElem?_map, List.getElem?_map]
  rcases Nat.lt_or_ge k b.length with h | h
  · rw [List.getElem?_range h, Option.map_some, Function.comp, List.getElem?_append_right (by omega), show a.length + k - a.length = k by omega, List.getElem?_eq_getElem h]
    rfl
  · rw [List.getElem?_eq_none (by simpa using h), List.getElem?_eq_none h]
    rfl
theorem nd_map (f : Nat → Nat) (hf : ∀ x y, f x = f y → x = y) : ∀ l : List Nat, va_nd l = true → va_nd (l.map f) = true
  | [], _ => rfl
  | a :: l, h => by
    simp only [va_nd, List.map_cons, Bool.and_eq_true, decide_eq_true_eq] at h ⊢
    refine ⟨fun hx => ?_, nd_map f hf l h.2⟩
    obtain ⟨x, hx1, hx2⟩ := List.mem_map.mp hx
    exact h.1 (by rw [← hf x a hx2]; exact hx1)
theorem nd_app : ∀ (l m : List Nat), va_nd l = true → va_nd m = true → (∀ a ∈ l, a ∉ m) → va_nd (l ++ m) = true
  | [], m, _, h, _ => h
  | a :: l, m, h, h2, h3 => by
    simp only [va_nd, List.cons_append, Bool.and_eq_true, decide_eq_true_eq] at h ⊢
    refine ⟨fun hx => ?_, nd_app l m h.2 h2 (fun b hb => h3 b (List.mem_cons_of_mem _ hb))⟩
    rcases List.mem_append.mp hx with hx | hx
    · exact h.1 hx
    · exact h3 a List.mem_cons_self hx
theorem nd_range : ∀ n : Nat, va_nd (List.range n) = true
  | 0 => rfl
  | n + 1 => by
    rw [List.range_succ]
    refine nd_app _ _ (nd_range n) rfl (fun a ha hb => ?_)
    have h1 := List.mem_range.mp ha
    have h2 := List.mem_singleton.mp hb
    omega
theorem nd_shift (a n : Nat) : va_nd ((List.range n).map (fun i => a + i)) = true := nd_map _ (fun x y h => by omega) _ (nd_range n)
theorem nd_dis (a n : Nat) : ∀ i ∈ (List.range n).map (fun i => a + i), i ∉ List.range a := by
  intro i hi hj
  obtain ⟨k, -, rfl⟩ := List.mem_map.mp hi
  have := List.mem_range.mp hj
  omega
section CTFR
variable {α S X : Type} {l : Launch} {G : Gx} {SF : (Nat → Prop) → State → Heap → Prop} {y : MethodName} {Ts : List Cond} {rm : Room} {av : List Value} {w0 : va_W} {mk : α → Option Value} {Po : α → S → Prop} {w1 : S → va_W} {Px : String → X → Prop} {wx : X → va_W} {mc ms : Nat}
/-- a frame behind -/
theorem Ct.frame (h : Ct l G SF y Ts rm av w0 mk Po w1 mc ms) (hk : SFk SF) (fr : va_W) : Ct l G SF y Ts rm av (w0 ++ fr) mk Po (fun u => w1 u ++ fr) mc ms := by
  have h1 := Ct.at h hk (w0' := w0 ++ fr) (wr := fr) (List.range w0.length) ((List.range fr.length).map (fun i => w0.length + i)) (range_l w0 fr) (nd_range _) (range_r w0 fr) (nd_shift _ _) (nd_dis _ _)
  refine Ct.out h1 (fun r u hp => ⟨u, (List.range (w1 u).length).map (fun i => fr.length + i) ++ List.range fr.length, hp, ?_, ?_⟩)
  · rw [List.map_append, range_r fr (w1 u), range_l fr (w1 u), List.map_append]
  · exact nd_app _ _ (nd_shift _ _) (nd_range _) (nd_dis _ _)
theorem CtX.frame (h : CtX l G SF y Ts rm av w0 mk Po w1 Px wx mc ms) (hk : SFk SF) (fr : va_W) : CtX l G SF y Ts rm av (w0 ++ fr) mk Po (fun u => w1 u ++ fr) Px (fun u => wx u ++ fr) mc ms := by
  have h1 := CtX.at h hk (w0' := w0 ++ fr) (wr := fr) (List.range w0.length) ((List.range fr.length).map (fun i => w0.length + i)) (range_l w0 fr) (nd_range _) (range_r w0 fr) (nd_shift _ _) (nd_dis _ _)
  have key : ∀ w : va_W, List.map (fun i => (fr ++ w)[i]?) ((List.range w.length).map (fun i => fr.length + i) ++ List.range fr.length) = (w ++ fr).map some ∧ va_nd ((List.range w.length).map (fun i => fr.length + i) ++ List.range fr.length) = true := by
    intro w
    constructor
    · rw [List.map_append, range_r fr w, range_l fr w, List.map_append]
    · exact nd_app _ _ (nd_shift _ _) (nd_range _) (nd_dis _ _)
  exact CtX.out h1 (fun r u hp => ⟨u, _, hp, (key (w1 u)).1, (key (w1 u)).2⟩) (fun E u hp => ⟨u, _, hp, (key (wx u)).1, (key (wx u)).2⟩)
end CTFR
