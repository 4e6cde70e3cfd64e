/-! contracts over worlds, the ends of a walk, calls -/
/-- the cells is of ws, replaced by those of w -/
def rj : va_W → List Nat → va_W → va_W
  | ws, i :: is, q :: w => rj (ws.set i q) is w
  | ws, _, _ => ws
theorem rj_len : ∀ (is : List Nat) (ws w : va_W), (rj ws is w).length = ws.length
  | [], ws, w => by simp [rj]
  | i :: is, ws, [] => by simp [rj]
  | i :: is, ws, q :: w => by rw [rj, rj_len is (ws.set i q) w]; simp
theorem rj_out : ∀ (is : List Nat) (ws w : va_W) (k : Nat), k ∉ is → (rj ws is w)[k]? = ws[k]?
  | [], ws, w, k, _ => by simp [rj]
  | i :: is, ws, [], k, _ => by simp [rj]
  | i :: is, ws, q :: w, k, h => by
    have h1 : i ≠ k := fun z => h (by rw [z]; exact List.mem_cons_self)
    rw [rj, rj_out is (ws.set i q) w k (fun z => h (List.mem_cons_of_mem _ z)), List.getElem?_set_ne h1]
theorem rj_in : ∀ (is : List Nat) (ws w : va_W) (j k : Nat), va_nd is = true → is.length = w.length → is[j]? = some k → k < ws.length → (rj ws is w)[k]? = w[j]?
  | [], ws, w, j, k, _, _, h, _ => by simp at h
  | i :: is, ws, [], j, k, _, hl, _, _ => by simp at hl
  | i :: is, ws, q :: w, j, k, hn, hl, hj, hk => by
    simp only [va_nd, Bool.and_eq_true, decide_eq_true_eq] at hn
    cases j with
    | zero =>
      rw [List.getElem?_cons_zero] at hj
      cases hj
      rw [rj, rj_out is _ w _ hn.1, List.getElem?_set_self hk]
      rfl
    | succ j =>
      rw [List.getElem?_cons_succ] at hj ⊢
      rw [rj]
      exact rj_in is (ws.set i q) w j k hn.2 (by simpa using hl) hj (by simpa using hk)
theorem rj_ok {A0 : Nat → Prop} {D : va_G} {cl : List vw_C} {ws wc w1 : va_W} {H H1 : Heap} {is : List Nat} (hP : va_P D cl ws H) (hD : va_D A0 ws) (hs : is.map (fun i => ws[i]?) = wc.map some) (hn : va_nd is = true) (ha : w1.map Prod.fst = wc.map Prod.fst)
    (hk : ∀ q : Nat, q < H.size → ¬ va_A wc H.size q → H1[q]? = H[q]?) (hP1 : va_P D cl w1 H1) : va_P D cl (rj ws is w1) H1 ∧ va_D A0 (rj ws is w1) := by
  have hlen : is.length = w1.length := by
    have h1 := congrArg List.length hs
    have h2 := congrArg List.length ha
    simp at h1 h2
    omega
  have key : ∀ (k : Nat) (q : Nat × va_E), (rj ws is w1)[k]? = some q → (∃ j : Nat, is[j]? = some k ∧ w1[j]? = some q) ∨ (k ∉ is ∧ ws[k]? = some q) := by
    intro k q hq
    by_cases h : k ∈ is
    · obtain ⟨j, hj⟩ := List.getElem?_of_mem h
      have hkl : k < ws.length := by
        have := (List.getElem?_eq_some_iff.mp hq).1
        rw [rj_len] at this
        exact this
      rw [rj_in is ws w1 j k hn hlen hj hkl] at hq
      exact Or.inl ⟨j, hj, hq⟩
    · rw [rj_out is ws w1 k h] at hq
      exact Or.inr ⟨h, hq⟩
  have at1 : ∀ (j k : Nat), is[j]? = some k → ∃ q, ws[k]? = some q ∧ wc[j]? = some q := by
    intro j k hj
    have h1 : (is.map (fun i => ws[i]?))[j]? = some (ws[k]?) := by rw [List.getElem?_map, hj]; rfl
    rw [hs, List.getElem?_map] at h1
    cases hc : wc[j]? with
    | none => rw [hc] at h1; cases h1
    | some q => rw [hc] at h1; exact ⟨q, (Option.some.inj h1).symm, rfl⟩
  have adr : ∀ (k : Nat) (q : Nat × va_E), (rj ws is w1)[k]? = some q → ∃ q0, ws[k]? = some q0 ∧ q0.1 = q.1 := by
    intro k q hq
    rcases key k q hq with ⟨j, h1, h2⟩ | ⟨-, h2⟩
    · obtain ⟨q0, e1, e2⟩ := at1 j k h1
      refine ⟨q0, e1, ?_⟩
      have h3 : (w1.map Prod.fst)[j]? = some q.1 := by rw [List.getElem?_map, h2]; rfl
      rw [ha, List.getElem?_map, e2] at h3
      exact Option.some.inj h3
    · exact ⟨q, h2, rfl⟩
  refine ⟨fun k q hq => ?_, fun i j x y hi hj hxy => ?_, fun k q hq => ?_⟩
  · rcases key k q hq with ⟨j, -, h2⟩ | ⟨h1, h2⟩
    · exact hP1 j q h2
    · have hl := (hP k q h2).lt
      refine (hP k q h2).kept (hk q.1 hl (fun hz => ?_))
      rcases hz with ⟨j2, e, hj2⟩ | hz
      · have h3 : (is.map (fun i => ws[i]?))[j2]? = some (some (q.1, e)) := by rw [hs, List.getElem?_map, hj2]; rfl
        rw [List.getElem?_map] at h3
        cases hi : is[j2]? with
        | none => rw [hi] at h3; cases h3
        | some i =>
          rw [hi] at h3
          have h4 : ws[i]? = some (q.1, e) := Option.some.inj h3
          have := hD.1 k i q (q.1, e) h2 h4 rfl
          subst this
          exact h1 (List.mem_of_getElem? hi)
      · omega
  · obtain ⟨x0, h1, h2⟩ := adr i x hi
    obtain ⟨y0, h3, h4⟩ := adr j y hj
    exact hD.1 i j x0 y0 h1 h3 (h2.trans (hxy.trans h4.symm))
  · obtain ⟨q0, h1, h2⟩ := adr k q hq
    rw [← h2]
    exact hD.2 k q0 h1
theorem rj_self {ws wc : va_W} {is : List Nat} (hn : va_nd is = true) (hs : is.map (fun i => ws[i]?) = wc.map some) : rj ws is wc = ws := by
  apply List.ext_getElem?
  intro k
  by_cases h : k ∈ is
  · obtain ⟨j, hj⟩ := List.getElem?_of_mem h
    have hlen : is.length = wc.length := by
      have h1 := congrArg List.length hs
      simpa using h1
    have h1 : (is.map (fun i => ws[i]?))[j]? = some (ws[k]?) := by rw [List.getElem?_map, hj]; rfl
    rw [hs, List.getElem?_map] at h1
    cases hc : wc[j]? with
    | none => rw [hc] at h1; cases h1
    | some q =>
      rw [hc] at h1
      have e1 : ws[k]? = some q := (Option.some.inj h1).symm
      rw [rj_in is ws wc j k hn hlen hj (List.getElem?_eq_some_iff.mp e1).1, hc, e1]
  · rw [rj_out is ws wc k h]
/-- what a method is given of the statics, and how it travels -/
def SFk (SF : (Nat → Prop) → State → Heap → Prop) : Prop :=
  (∀ (A : Nat → Prop) (s U : State) (H : Heap), s.WarmedH U.vm → SF A s H → SF A U H) ∧ (∀ (A : Nat → Prop) (u U : State) (H : Heap), U.vm = u.vm → SF A u H → SF A U H) ∧ (∀ (A B : Nat → Prop) (U : State) (H : Heap), (∀ q, B q → A q) → SF A U H → SF B U H) ∧ (∀ (A : Nat → Prop) (U : State) (H H1 : Heap), (∀ a : Nat, a < H.size → ¬ A a → H1[a]? = H[a]?) → SF A U H → SF A U H1)
def SF0 : (Nat → Prop) → State → Heap → Prop := fun _ _ _ => True
theorem SFk0 : SFk SF0 := ⟨fun _ _ _ _ _ _ => trivial, fun _ _ _ _ _ _ => trivial, fun _ _ _ _ _ _ => trivial, fun _ _ _ _ _ _ => trivial⟩
def SFgo (K : Cx) (SF : (Nat → Prop) → State → Heap → Prop) : Prop := ∀ (H : Heap) (locs : List Loc) (U : State) (B : Nat → Prop), va_S (kA K) (ks K).heap H locs → U.heap = H → (ks K).WarmedH U.vm → (∀ q, B q → kA K q) → SF B U U.heap
theorem SFgo0 {K : Cx} : SFgo K SF0 := fun _ _ _ _ _ _ _ _ => trivial
theorem SFgoS {K : Cx} {SF : (Nat → Prop) → State → Heap → Prop} (hk : SFk SF) (h : SF (kA K) (ks K) (ks K).heap) : SFgo K SF := by
  intro H locs U B hS hU hW hB
  rw [hU]
  exact hk.1 _ _ _ _ hW (hk.2.2.1 _ _ _ _ hB (hk.2.2.2 _ _ _ _ hS.2.1 h))
def Qg {α S : Type} (mk : α → Option Value) (Po : α → S → Prop) (B : S → State → Prop) (A : Nat → Prop) : Array Value → State → Outcome → State → Prop := fun _ st oc t => (∃ (r : α) (u : S), oc = .returned (mk r) ∧ Po r u ∧ B u t) ∧ va_F A st t
def CB {S : Type} (G : Gx) (w1 : S → va_W) (A : Nat → Prop) (u : S) (t : State) : Prop := va_P G.1 vwCl (w1 u) t.heap ∧ va_D A (w1 u)
def CP (G : Gx) (SF : (Nat → Prop) → State → Heap → Prop) (w0 : va_W) (sz : Nat) (U : State) : Prop := U.heap.size = sz ∧ va_P G.1 vwCl w0 U.heap ∧ va_K G.1 vwCl (TY G) U ∧ va_D (fun _ => True) w0 ∧ SF (va_A w0 sz) U U.heap
/-- A CONTRACT: with arguments av over the world w0 the method returns mk r, behind it stands the world w1 u, Po r u holds; mc cells of ms slots are new -/
def Ct {α S : Type} (l : Launch) (G : Gx) (SF : (Nat → Prop) → State → Heap → Prop) (y : MethodName) (Ts : List Cond) (rm : Room) (av : List Value) (w0 : va_W) (mk : α → Option Value) (Po : α → S → Prop) (w1 : S → va_W) (mc ms : Nat) : Prop :=
  ∀ sz : Nat, Met l y Ts rm (va_Pc av (CP G SF w0 sz)) (Qg mk Po (CB G w1 (va_A w0 sz)) (va_A w0 sz)) mc ms (va_A w0 sz)
abbrev mkI : Int32 → Option Value := fun v => some (.int v)
abbrev mkL : Int64 → Option Value := fun v => some (.long v)
abbrev mkF : UInt32 → Option Value := fun v => some (.float v)
abbrev mkD : UInt64 → Option Value := fun v => some (.double v)
abbrev mkV : Unit → Option Value := fun _ => none
abbrev mkA : Option Nat → Option Value := fun r => some (va_rf r)
theorem ct_blind {G : Gx} {SF : (Nat → Prop) → State → Heap → Prop} {w0 : va_W} {sz : Nat} {av : List Value} (hk : SFk SF) : FrameBlind (va_Pc av (CP G SF w0 sz)) := by
  intro a U g mk q
  obtain ⟨q0, q1, qP, qK, qD, qS⟩ := q
  exact ⟨q0, q1, qP, va_K.moved (u := U) (U := U.calling g mk a) (Vm.Alike.refl U.vm) qK, qD, hk.2.1 _ U (U.calling g mk a) _ rfl qS⟩
/-- the locals at a method's entry -/
theorem lv_args_in : ∀ (av : List Value) (i j : Nat) (w : Value), (∀ v ∈ av, v.category = 1) → av[j]? = some w → (i + j, w) ∈ lv_args i av
  | [], i, j, w, _, h => by simp at h
  | v :: t, i, j, w, hc, h => by
    have hv : ¬ v.category = 2 := by
      have := hc v List.mem_cons_self
      omega
    rw [lv_args, if_neg hv]
    cases j with
    | zero =>
      rw [List.getElem?_cons_zero] at h
      cases h
      exact List.mem_cons_self
    | succ j =>
      rw [List.getElem?_cons_succ] at h
      have := lv_args_in t (i + 1) j w (fun u hu => hc u (List.mem_cons_of_mem _ hu)) h
      rw [show i + (j + 1) = i + 1 + j by omega]
      exact List.mem_cons_of_mem _ this
theorem lg_sl_len : ∀ (av : List Value), (∀ v ∈ av, v.category = 1) → (lg_sl av).length = av.length
  | [], _ => rfl
  | v :: t, hc => by
    have hv : ¬ v.category = 2 := by
      have := hc v List.mem_cons_self
      omega
    have := lg_sl_len t (fun u hu => hc u (List.mem_cons_of_mem _ hu))
    simp only [lg_sl, List.flatMap_cons, if_neg hv] at this ⊢
    simp [this]
def avOk (av : List Value) (n : Nat) : Prop := (∀ v ∈ av, v.category = 1) ∧ av.length ≤ n
theorem Lh_entry {av : List Value} {n : Nat} (h : avOk av n) : Lh ((lg_sl av ++ List.replicate (n - (lg_sl av).length) Slot.unset).toArray) n (av.map some ++ List.replicate (n - av.length) none) := by
  have h0 := lv_entry av (n := n) (by rw [lg_sl_len av h.1]; exact h.2)
  have hm : ∀ (j : Nat) (w : Value), (av.map some ++ List.replicate (n - av.length) none)[j]? = some (some w) → av[j]? = some w := by
    intro j w hj
    by_cases hl : j < av.length
    · rw [List.getElem?_append_left (by simpa using hl), List.getElem?_map] at hj
      cases ha : av[j]? with
      | none => rw [ha] at hj; cases hj
      | some x => rw [ha] at hj; cases hj; rfl
    · rw [List.getElem?_append_right (by simpa using hl)] at hj
      have := List.eq_of_mem_replicate (List.mem_of_getElem? hj)
      cases this
  refine ⟨⟨h0.1, h0.2.1, fun q hq => ?_⟩, fun v hv => ?_⟩
  · obtain ⟨j, w⟩ := q
    have hj := ((lvp_mem _ 0 j w).mp hq).2
    rw [Nat.sub_zero] at hj
    have := lv_args_in av 0 j w h.1 (hm j w hj)
    rw [Nat.zero_add] at this
    exact h0.2.2 _ this
  · obtain ⟨j, hj⟩ := List.getElem?_of_mem hv
    exact h.1 v (List.mem_of_getElem? (hm j v hj))
section CTOF
variable {S : Type} {l : Launch} {G : Gx} {SF : (Nat → Prop) → State → Heap → Prop} {y : MethodName} {Ty ws' : List Cond} {rm : Room} {av : List Value} {w0 : va_W} {w1 : S → va_W} {mc ms maxL : Nat} {cc : ByteArray}
abbrev lv0 (av : List Value) (n : Nat) : List (Option Value) := av.map some ++ List.replicate (n - av.length) none
theorem Ct.ofI {Po : Int32 → S → Prop} {ty : FieldType} (hy : plainName y.cls = true) (hw : Ty = Cond.code y cc maxL (some ty) :: ws') (hav : avOk av maxL)
    (body : ∀ K : Cx, kl K = l → Cok G K cc maxL y.cls Ty rm → SF (kA K) (ks K) (ks K).heap → (kt K).name = y.name → (∀ (pc : Nat) (lv : List (Option Value)) (v : Int32) (u : S), decode cc pc = .ok (.ireturn, 1) → narrow ty (.int v) = .int v → Po v u → V G K maxL mc ms pc lv [.int v] (w1 u)) → V G K maxL 0 0 0 (lv0 av maxL) [] w0) : Ct l G SF y Ty rm av w0 mkI Po w1 mc ms := by
  intro sz
  refine Met.ofW (cc := cc) (maxL := maxL) (ret := some ty) hy hw ?_
  intro p e s m args below meth c s₁ B hml hv
  obtain ⟨rfl, hsz, hP, hK, hD0, hSF⟩ := hv
  subst hsz
  have hb := body (p, l, e, (headSpec Ty rm).room, s, m, av.toArray, below, meth, c, va_A w0 s.heap.size, MQ below (Qg mkI Po (CB G w1 (va_A w0 s.heap.size)) (va_A w0 s.heap.size)) av.toArray s mc ms (va_A w0 s.heap.size)) rfl ⟨B.exec, B.bytes, hml, findClass_of_methodNamed B.named, atoms_spec (ws := Ty) B.pre, rfl, hK, fun q h => Or.inr h, B.notSynchronized⟩ hSF (name_of_methodNamed B.named B.method).1
    (fun pc lv v u hd hn hp H locs ls hP hD hS hl => W.zret (v := v) B.exec B.bytes B.returns hn (fun t ht hW => ⟨⟨v, u, rfl, hp, by rw [ht]; exact hP, hD⟩, hS.F ht⟩) hS.2.2 hd B.notSynchronized)
  rw [lg_entry_eq]
  exact hb s.heap [] _ hP hD0.self va_S.rf (Lh_entry hav)
theorem Ct.ofV {Po : Unit → S → Prop} (hy : plainName y.cls = true) (hw : Ty = Cond.code y cc maxL none :: ws') (hav : avOk av maxL)
    (body : ∀ K : Cx, kl K = l → Cok G K cc maxL y.cls Ty rm → SF (kA K) (ks K) (ks K).heap → (kt K).name = y.name → (∀ (pc : Nat) (lv : List (Option Value)) (u : S), decode cc pc = .ok (.return_, 1) → Po () u → V G K maxL mc ms pc lv [] (w1 u)) → V G K maxL 0 0 0 (lv0 av maxL) [] w0) : Ct l G SF y Ty rm av w0 mkV Po w1 mc ms := by
  intro sz
  refine Met.ofW (cc := cc) (maxL := maxL) (ret := none) hy hw ?_
  intro p e s m args below meth c s₁ B hml hv
  obtain ⟨rfl, hsz, hP, hK, hD0, hSF⟩ := hv
  subst hsz
  have hb := body (p, l, e, (headSpec Ty rm).room, s, m, av.toArray, below, meth, c, va_A w0 s.heap.size, MQ below (Qg mkV Po (CB G w1 (va_A w0 s.heap.size)) (va_A w0 s.heap.size)) av.toArray s mc ms (va_A w0 s.heap.size)) rfl ⟨B.exec, B.bytes, hml, findClass_of_methodNamed B.named, atoms_spec (ws := Ty) B.pre, rfl, hK, fun q h => Or.inr h, B.notSynchronized⟩ hSF (name_of_methodNamed B.named B.method).1
    (fun pc lv u hd hp H locs ls hP hD hS hl => W.vret B.exec B.bytes B.returns (fun t ht hW => ⟨⟨(), u, rfl, hp, by rw [ht]; exact hP, hD⟩, hS.F ht⟩) hS.2.2 hd B.notSynchronized)
  rw [lg_entry_eq]
  exact hb s.heap [] _ hP hD0.self va_S.rf (Lh_entry hav)
theorem Ct.ofA {α : Type} {mk : α → Value} {Po : α → S → Prop} {rt : FieldType} (hmk : ∀ r, mk r = .null ∨ ∃ a, mk r = .ref a) (hrt : (∃ n, rt = .object n) ∨ ∃ t, rt = .array t) (hy : plainName y.cls = true) (hw : Ty = Cond.code y cc maxL (some rt) :: ws') (hav : avOk av maxL)
    (body : ∀ K : Cx, kl K = l → Cok G K cc maxL y.cls Ty rm → SF (kA K) (ks K) (ks K).heap → (kt K).name = y.name → (∀ (pc : Nat) (lv : List (Option Value)) (r : α) (u : S), decode cc pc = .ok (.areturn, 1) → Po r u → V G K maxL mc ms pc lv [mk r] (w1 u)) → V G K maxL 0 0 0 (lv0 av maxL) [] w0) : Ct l G SF y Ty rm av w0 (fun r => some (mk r)) Po w1 mc ms := by
  intro sz
  refine Met.ofW (cc := cc) (maxL := maxL) (ret := some rt) hy hw ?_
  intro p e s m args below meth c s₁ B hml hv
  obtain ⟨rfl, hsz, hP, hK, hD0, hSF⟩ := hv
  subst hsz
  have hb := body (p, l, e, (headSpec Ty rm).room, s, m, av.toArray, below, meth, c, va_A w0 s.heap.size, MQ below (Qg (fun r => some (mk r)) Po (CB G w1 (va_A w0 s.heap.size)) (va_A w0 s.heap.size)) av.toArray s mc ms (va_A w0 s.heap.size)) rfl ⟨B.exec, B.bytes, hml, findClass_of_methodNamed B.named, atoms_spec (ws := Ty) B.pre, rfl, hK, fun q h => Or.inr h, B.notSynchronized⟩ hSF (name_of_methodNamed B.named B.method).1
    (fun pc lv r u hd hp H locs ls hP hD hS hl => W.aret (v := mk r) B.exec B.bytes B.returns hrt (hmk r) (fun t ht hW => ⟨⟨r, u, rfl, hp, by rw [ht]; exact hP, hD⟩, hS.F ht⟩) hS.2.2 hd B.notSynchronized)
  rw [lg_entry_eq]
  exact hb s.heap [] _ hP hD0.self va_S.rf (Lh_entry hav)
theorem Ct.ofL {Po : Int64 → S → Prop} (hy : plainName y.cls = true) (hw : Ty = Cond.code y cc maxL (some .long) :: ws') (hav : avOk av maxL)
    (body : ∀ K : Cx, kl K = l → Cok G K cc maxL y.cls Ty rm → SF (kA K) (ks K) (ks K).heap → (kt K).name = y.name → (∀ (pc : Nat) (lv : List (Option Value)) (v : Int64) (u : S), decode cc pc = .ok (.lreturn, 1) → Po v u → V G K maxL mc ms pc lv [.long v] (w1 u)) → V G K maxL 0 0 0 (lv0 av maxL) [] w0) : Ct l G SF y Ty rm av w0 mkL Po w1 mc ms := by
  intro sz
  refine Met.ofW (cc := cc) (maxL := maxL) (ret := some .long) hy hw ?_
  intro p e s m args below meth c s₁ B hml hv
  obtain ⟨rfl, hsz, hP, hK, hD0, hSF⟩ := hv
  subst hsz
  have hb := body (p, l, e, (headSpec Ty rm).room, s, m, av.toArray, below, meth, c, va_A w0 s.heap.size, MQ below (Qg mkL Po (CB G w1 (va_A w0 s.heap.size)) (va_A w0 s.heap.size)) av.toArray s mc ms (va_A w0 s.heap.size)) rfl ⟨B.exec, B.bytes, hml, findClass_of_methodNamed B.named, atoms_spec (ws := Ty) B.pre, rfl, hK, fun q h => Or.inr h, B.notSynchronized⟩ hSF (name_of_methodNamed B.named B.method).1
    (fun pc lv v u hd hp H locs ls hP hD hS hl => W.lret (v := v) B.exec B.bytes B.returns (fun t ht hW => ⟨⟨v, u, rfl, hp, by rw [ht]; exact hP, hD⟩, hS.F ht⟩) hS.2.2 hd B.notSynchronized)
  rw [lg_entry_eq]
  exact hb s.heap [] _ hP hD0.self va_S.rf (Lh_entry hav)
theorem Ct.ofF {Po : UInt32 → S → Prop} (hy : plainName y.cls = true) (hw : Ty = Cond.code y cc maxL (some .float) :: ws') (hav : avOk av maxL)
    (body : ∀ K : Cx, kl K = l → Cok G K cc maxL y.cls Ty rm → SF (kA K) (ks K) (ks K).heap → (kt K).name = y.name → (∀ (pc : Nat) (lv : List (Option Value)) (v : UInt32) (u : S), decode cc pc = .ok (.freturn, 1) → Po v u → V G K maxL mc ms pc lv [.float v] (w1 u)) → V G K maxL 0 0 0 (lv0 av maxL) [] w0) : Ct l G SF y Ty rm av w0 mkF Po w1 mc ms := by
  intro sz
  refine Met.ofW (cc := cc) (maxL := maxL) (ret := some .float) hy hw ?_
  intro p e s m args below meth c s₁ B hml hv
  obtain ⟨rfl, hsz, hP, hK, hD0, hSF⟩ := hv
  subst hsz
  have hb := body (p, l, e, (headSpec Ty rm).room, s, m, av.toArray, below, meth, c, va_A w0 s.heap.size, MQ below (Qg mkF Po (CB G w1 (va_A w0 s.heap.size)) (va_A w0 s.heap.size)) av.toArray s mc ms (va_A w0 s.heap.size)) rfl ⟨B.exec, B.bytes, hml, findClass_of_methodNamed B.named, atoms_spec (ws := Ty) B.pre, rfl, hK, fun q h => Or.inr h, B.notSynchronized⟩ hSF (name_of_methodNamed B.named B.method).1
    (fun pc lv v u hd hp H locs ls hP hD hS hl => W.fret (v := v) B.exec B.bytes B.returns (fun t ht hW => ⟨⟨v, u, rfl, hp, by rw [ht]; exact hP, hD⟩, hS.F ht⟩) hS.2.2 hd B.notSynchronized)
  rw [lg_entry_eq]
  exact hb s.heap [] _ hP hD0.self va_S.rf (Lh_entry hav)
theorem Ct.ofD {Po : UInt64 → S → Prop} (hy : plainName y.cls = true) (hw : Ty = Cond.code y cc maxL (some .double) :: ws') (hav : avOk av maxL)
    (body : ∀ K : Cx, kl K = l → Cok G K cc maxL y.cls Ty rm → SF (kA K) (ks K) (ks K).heap → (kt K).name = y.name → (∀ (pc : Nat) (lv : List (Option Value)) (v : UInt64) (u : S), decode cc pc = .ok (.dreturn, 1) → Po v u → V G K maxL mc ms pc lv [.double v] (w1 u)) → V G K maxL 0 0 0 (lv0 av maxL) [] w0) : Ct l G SF y Ty rm av w0 mkD Po w1 mc ms := by
  intro sz
  refine Met.ofW (cc := cc) (maxL := maxL) (ret := some .double) hy hw ?_
  intro p e s m args below meth c s₁ B hml hv
  obtain ⟨rfl, hsz, hP, hK, hD0, hSF⟩ := hv
  subst hsz
  have hb := body (p, l, e, (headSpec Ty rm).room, s, m, av.toArray, below, meth, c, va_A w0 s.heap.size, MQ below (Qg mkD Po (CB G w1 (va_A w0 s.heap.size)) (va_A w0 s.heap.size)) av.toArray s mc ms (va_A w0 s.heap.size)) rfl ⟨B.exec, B.bytes, hml, findClass_of_methodNamed B.named, atoms_spec (ws := Ty) B.pre, rfl, hK, fun q h => Or.inr h, B.notSynchronized⟩ hSF (name_of_methodNamed B.named B.method).1
    (fun pc lv v u hd hp H locs ls hP hD hS hl => W.dret (v := v) B.exec B.bytes B.returns (fun t ht hW => ⟨⟨v, u, rfl, hp, by rw [ht]; exact hP, hD⟩, hS.F ht⟩) hS.2.2 hd B.notSynchronized)
  rw [lg_entry_eq]
  exact hb s.heap [] _ hP hD0.self va_S.rf (Lh_entry hav)
end CTOF
section VCALL
variable {α S : Type} {G : Gx} {K : Cx} {nL cells slots pc : Nat} {lv : List (Option Value)} {st rest As : List Value} {ws wc : va_W} {cc bytes : ByteArray} {own C : String} {Ts Ty ws2 : List Cond} {rm rmy : Room} {SFc : (Nat → Prop) → State → Heap → Prop} {y : MethodName} {mk : α → Option Value} {Po : α → S → Prop} {w1 : S → va_W} {mc ms maxL index n b : Nat} {ret : Option FieldType}
/-- behind a call: the caller's world with the callee's cells in their places -/
theorem V.run {a : Array Value} (isC : List Nat) (hsub : isC.map (fun i => ws[i]?) = wc.map some) (hnd : va_nd isC = true) (hadr : ∀ u, (w1 u).map Prod.fst = wc.map Prod.fst)
    (hA : ∀ q, (ks K).heap.size ≤ q → kA K q)
    (hrun : ∀ (H : Heap) (locs : List Loc) (ls : Array Slot), va_P G.1 vwCl ws H → va_D (kA K) ws → va_S (kA K) (ks K).heap H locs → Lh ls nL lv → va_Run (kp K) (kl K) (ke K) (kR K) (ks K) (km K) (ka K) (kb K) (kt K) (kc K) H locs cells slots mc ms (F0 (km K) pc ls st) rest (Qg mk Po (CB G w1 (va_A wc H.size)) (va_A wc H.size) a) (va_A wc H.size))
    (kk : ∀ (r : α) (u : S), Po r u → V G K nL (cells + mc) (slots + ms) (pc + 3) lv ((mk r).toList ++ rest) (rj ws isC (w1 u))) : V G K nL cells slots pc lv st ws := by
  intro H locs ls hP hD hS hl T hT X
  obtain ⟨v, st₀, t, T', L, h0, X', hL, e1, e2, ⟨⟨r, u, hv, hp, hb⟩, hz, hk⟩, stp⟩ := hrun H locs ls hP hD hS hl T hT X
  have hF := va_free hD hS hA isC hsub
  rw [h0] at hz hk
  have hv' : v = mk r := by cases hv; rfl
  subst hv'
  obtain ⟨hP1, hD1⟩ := hb
  rw [← e1] at hP1
  have hj := rj_ok hP hD hsub hnd (hadr u) (fun q h1 h2 => by rw [e1]; exact hk q h1 h2) hP1
  obtain ⟨t2, a1, b1⟩ := kk r u hp T'.heap (locs ++ L) ls hj.1 hj.2
    ⟨Nat.le_trans hS.1 (by rw [e1]; exact hz), fun q h1 h2 => by rw [e1, hk q (Nat.lt_of_lt_of_le h1 hS.1) (fun z => h2 (hF q z))]; exact hS.2.1 q h1 h2, fun q hq => by
      rcases List.mem_append.mp hq with h | h
      · exact hS.2.2 q h
      · exact hF _ (hL q h)⟩ hl T' rfl X'
  exact ⟨t2, stp t2 a1, b1⟩
theorem ct_pre {l : Launch} {H : Heap} {locs : List Loc} {isC : List Nat} (hC : Cok G K cc nL own Ts rm) (hgo : SFgo K SFc) (hP : va_P G.1 vwCl ws H) (hD : va_D (kA K) ws) (hS : va_S (kA K) (ks K).heap H locs) (hsub : isC.map (fun i => ws[i]?) = wc.map some) (hnd : va_nd isC = true) :
    ∀ U : State, U.heap = H → (ks K).WarmedH U.vm → va_Pc As (CP G SFc wc H.size) As.toArray U := by
  intro U hU hW
  have hPc : va_P G.1 vwCl wc H := hP.by (fun k => (isC[k]?).getD 0) (fun k q hk => by
    have h1 : (isC.map (fun i => ws[i]?))[k]? = some (some q) := by rw [hsub, List.getElem?_map, hk]; rfl
    rw [List.getElem?_map] at h1
    cases hi : isC[k]? with
    | none => rw [hi] at h1; cases h1
    | some i => rw [hi] at h1; exact Option.some.inj h1)
  refine ⟨rfl, by rw [hU], by rw [hU]; exact hPc, va_K.moved hW.alike hC.2.2.2.2.2.2.1, (hD.sub isC hnd hsub).weaken (fun _ _ _ _ => trivial), ?_⟩
  have := hgo H locs U (va_A wc H.size) hS hU hW (va_free hD hS hC.2.2.2.2.2.2.2.1 isC hsub)
  exact this
/-- obj.m(..) -/
theorem V.callV (hC : Cok G K cc nL own Ts rm) (hM : Ct (kl K) G SFc y Ty rmy (.ref b :: As) wc mk Po w1 mc ms) (hk : SFk SFc) (hgo : SFgo K SFc) (hT : GoodIn Ts (wsV own index C y Ty)) (hw : Ty = Cond.code y bytes maxL ret :: ws2) (hrm : rmy.cells = mc ∧ rmy.slots = ms)
    (hd : y.cls = C ∧ y.cls ≠ "java/lang/invoke/MethodHandle" ∧ y.cls ≠ "java/lang/invoke/VarHandle" ∧ (parseMethodDescriptor y.desc).map (fun d => d.parameters.length) = some n) (hR : rmy.frames + 1 ≤ rm.frames ∧ 8 + (maxL + 11) + rmy.locals ≤ rm.locals ∧ cells + mc ≤ rm.cells ∧ slots + ms ≤ rm.slots)
    (isC : List Nat) (hsub : isC.map (fun i => ws[i]?) = wc.map some) (hnd : va_nd isC = true) (hadr : ∀ u, (w1 u).map Prod.fst = wc.map Prod.fst) {ci N : Nat} {fs : List Value} {T : u_T} (hb : wc[0]? = some (b, .inr (ci, fs))) (hci : vwCl[ci]? = some (C, T, N))
    (hst : st = As.reverse ++ .ref b :: rest) (hn : As.length = n) (hsm : (rest.map fun v => v.category).sum ≤ 8) (hdg : decode cc pc = .ok (.invokevirtual index, 3))
    (kk : ∀ (r : α) (u : S), Po r u → V G K nL (cells + mc) (slots + ms) (pc + 3) lv ((mk r).toList ++ rest) (rj ws isC (w1 u))) : V G K nL cells slots pc lv st ws := by
  refine V.run (a := (Value.ref b :: As).toArray) isC hsub hnd hadr hC.2.2.2.2.2.2.2.1 (fun H locs ls hP hD hS hl => ?_) kk
  have hRR := hC.2.2.2.2.2.1
  have hPc : va_P G.1 vwCl wc H := (ct_pre (l := kl K) (As := Value.ref b :: As) hC hgo hP hD hS hsub hnd ({ (ks K) with heap := H }) rfl (State.WarmedH.refl _)).2.2.1
  have hrecv := va_recv (s := ks K) hC.2.2.2.2.2.2.1 hPc hci hb
  exact va_runV (C := C) (As := As) (rest := rest) (Ts := Ts) (own := own) (nL := nL) (n := n) (b := b) (bytes := bytes) (maxL := maxL) (ret := ret) ⟨hC.1, hC.2.1, hC.2.2.1, hC.2.2.2.1, hC.2.2.2.2.1⟩ (hM H.size) (cwV n hC.2.2.2.2.1 hT hw hrm.1 hrm.2 hd (by rw [hRR]; exact ⟨hR.1, hR.2.1⟩)) ⟨ct_blind hk, hrecv, ct_pre (l := kl K) hC hgo hP hD hS hsub hnd⟩ rfl hn hl.1.1 hst (lv_room hsm) hdg (by rw [hRR]; exact hR.2.2)
/-- T.m(..) -/
theorem V.callS (hC : Cok G K cc nL own Ts rm) (hM : Ct (kl K) G SFc y Ty rmy As wc mk Po w1 mc ms) (hk : SFk SFc) (hgo : SFgo K SFc) (hT : GoodIn Ts (va_wsS own index y Ty)) (hw : Ty = Cond.code y bytes maxL ret :: ws2) (hrm : rmy.cells = mc ∧ rmy.slots = ms)
    (hd : y.cls ≠ "java/lang/invoke/MethodHandle" ∧ y.cls ≠ "java/lang/invoke/VarHandle" ∧ (parseMethodDescriptor y.desc).map (fun d => d.parameters.length) = some n) (hR : rmy.frames + 1 ≤ rm.frames ∧ 8 + (maxL + 11) + rmy.locals ≤ rm.locals ∧ cells + mc ≤ rm.cells ∧ slots + ms ≤ rm.slots)
    (isC : List Nat) (hsub : isC.map (fun i => ws[i]?) = wc.map some) (hnd : va_nd isC = true) (hadr : ∀ u, (w1 u).map Prod.fst = wc.map Prod.fst)
    (hst : st = As.reverse ++ rest) (hn : As.length = n) (hsm : (rest.map fun v => v.category).sum ≤ 8) (hdg : decode cc pc = .ok (.invokestatic index, 3))
    (kk : ∀ (r : α) (u : S), Po r u → V G K nL (cells + mc) (slots + ms) (pc + 3) lv ((mk r).toList ++ rest) (rj ws isC (w1 u))) : V G K nL cells slots pc lv st ws := by
  refine V.run (a := As.toArray) isC hsub hnd hadr hC.2.2.2.2.2.2.2.1 (fun H locs ls hP hD hS hl => ?_) kk
  have hRR := hC.2.2.2.2.2.1
  exact va_runS (As := As) (rest := rest) (Ts := Ts) (own := own) (nL := nL) (n := n) (bytes := bytes) (maxL := maxL) (ret := ret) ⟨hC.1, hC.2.1, hC.2.2.1, hC.2.2.2.1, hC.2.2.2.2.1⟩ (hM H.size) (va_cwS n hC.2.2.2.2.1 hT hw hrm.1 hrm.2 hd (by rw [hRR]; exact ⟨hR.1, hR.2.1⟩)) ⟨ct_blind hk, ct_pre (l := kl K) hC hgo hP hD hS hsub hnd⟩ rfl hn hl.1.1 hst (lv_room hsm) hdg (by rw [hRR]; exact hR.2.2)
end VCALL
