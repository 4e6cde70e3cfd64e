/-! rows for the law: static calls, constructors and new cells over worlds by blocks; contracts over wider worlds; the script -/
theorem flt_cons (a : va_W) (L : List va_W) : flt (a :: L) = a ++ flt L := by
  rw [flt_eq, flt_eq, List.flatten_cons]
section R47
variable {α S X : Type} {G : Gx} {K : Cx} {nL cells slots pc : Nat} {lv : List (Option Value)} {st rest As : List Value} {ws wc : va_W} {cc bytes : ByteArray} {own C : String} {Ts Ty ws2 : List Cond} {rm rmy : Room} {SFc : (Nat → Prop) → State → Heap → Prop} {y : MethodName} {mk : α → Option Value} {Po : α → S → Prop} {w1 : S → va_W} {Px : String → X → Prop} {wx : X → va_W} {N mc ms maxL index n b : Nat} {ret : Option FieldType}
theorem V.callSBN (hC : Cok G K cc nL own Ts rm) (hM : Ct (kl K) G SFc y Ty rmy As wc mk Po w1 mc ms) (hk : SFk SFc) (hgo : SFgo K SFc) (hT : GoodIn Ts (va_wsS own index y Ty)) (hw : Ty = Cond.code y bytes maxL ret :: ws2) (hrm : rmy.cells = mc ∧ rmy.slots = ms)
    (hd : y.cls ≠ "java/lang/invoke/MethodHandle" ∧ y.cls ≠ "java/lang/invoke/VarHandle" ∧ (parseMethodDescriptor y.desc).map (fun d => d.parameters.length) = some n) (hR : rmy.frames + 1 ≤ rm.frames ∧ 8 + (maxL + 11) + rmy.locals ≤ rm.locals ∧ cells + mc ≤ rm.cells ∧ slots + ms ≤ rm.slots)
    {L : List va_W} (hN : L.length = N) (is js : List Nat) (hlo : lo_ N (is ++ js) = true) (hwc : flt (is.map (fun i => L.getD i [])) = wc) (ys : S → List va_W) (hys : ∀ u, flt (ys u) = w1 u)
    (hst : st = As.reverse ++ rest) (hn : As.length = n) (hsm : (rest.map fun v => v.category).sum ≤ 8) (hdg : decode cc pc = .ok (.invokestatic index, 3))
    (kk : ∀ (r : α) (u : S), Po r u → V G K nL (cells + mc) (slots + ms) (pc + 3) lv ((mk r).toList ++ rest) (flt (ys u ++ js.map (fun i => L.getD i [])))) : V G K nL cells slots pc lv st (flt L) := by
  subst hN
  refine V.cut is js hlo hwc ?_
  obtain ⟨wr, hwr⟩ : ∃ wr, wr = flt (js.map (fun i => L.getD i [])) := ⟨_, rfl⟩
  rw [← hwr]
  refine V.callSG hC hM hk hgo hT hw hrm hd hR (List.range wc.length) ((List.range wr.length).map (fun i => wc.length + i)) (range_l wc wr) (nd_range _) (range_r wc wr) (nd_shift _ _) (nd_dis _ _) hst hn hsm hdg (fun r u hp => V.swap _ _ ?_)
  have := kk r u hp
  rw [flt_app, hys u, ← hwr] at this
  exact this
theorem V.callSBXN (hC : Cok G K cc nL own Ts rm) (hM : CtX (kl K) G SFc y Ty rmy As wc mk Po w1 Px wx mc ms) (hk : SFk SFc) (hgo : SFgo K SFc) (hT : GoodIn Ts (va_wsS own index y Ty)) (hw : Ty = Cond.code y bytes maxL ret :: ws2) (hrm : rmy.cells = mc ∧ rmy.slots = ms)
    (hd : y.cls ≠ "java/lang/invoke/MethodHandle" ∧ y.cls ≠ "java/lang/invoke/VarHandle" ∧ (parseMethodDescriptor y.desc).map (fun d => d.parameters.length) = some n) (hR : rmy.frames + 1 ≤ rm.frames ∧ 8 + (maxL + 11) + rmy.locals ≤ rm.locals ∧ cells + mc ≤ rm.cells ∧ slots + ms ≤ rm.slots)
    {L : List va_W} (hN : L.length = N) (is js : List Nat) (hlo : lo_ N (is ++ js) = true) (hwc : flt (is.map (fun i => L.getD i [])) = wc) (ys : S → List va_W) (hys : ∀ u, flt (ys u) = w1 u) (yx : X → List va_W) (hyx : ∀ u, flt (yx u) = wx u)
    (hst : st = As.reverse ++ rest) (hn : As.length = n) (hsm : (rest.map fun v => v.category).sum ≤ 8) (hdg : decode cc pc = .ok (.invokestatic index, 3))
    (kx : ∀ (E : String) (u : X), Px E u → VX G K nL (cells + mc) (slots + ms) pc lv rest (flt (yx u ++ js.map (fun i => L.getD i []))) E)
    (kk : ∀ (r : α) (u : S), Po r u → V G K nL (cells + mc) (slots + ms) (pc + 3) lv ((mk r).toList ++ rest) (flt (ys u ++ js.map (fun i => L.getD i [])))) : V G K nL cells slots pc lv st (flt L) := by
  subst hN
  refine V.cut is js hlo hwc ?_
  obtain ⟨wr, hwr⟩ : ∃ wr, wr = flt (js.map (fun i => L.getD i [])) := ⟨_, rfl⟩
  rw [← hwr]
  refine V.callSGX hC hM hk hgo hT hw hrm hd hR (List.range wc.length) ((List.range wr.length).map (fun i => wc.length + i)) (range_l wc wr) (nd_range _) (range_r wc wr) (nd_shift _ _) (nd_dis _ _) hst hn hsm hdg (fun E u hp => VX.swap _ _ ?_) (fun r u hp => V.swap _ _ ?_)
  · have := kx E u hp
    rw [flt_app, hyx u, ← hwr] at this
    exact this
  · have := kk r u hp
    rw [flt_app, hys u, ← hwr] at this
    exact this
/-- x.<init>(..) over blocks -/
theorem V.callIBN (hC : Cok G K cc nL own Ts rm) (hM : Ct (kl K) G SFc y Ty rmy (.ref b :: As) wc mk Po w1 mc ms) (hk : SFk SFc) (hgo : SFgo K SFc) (hT : GoodIn Ts Ty) (hw : Ty = Cond.code y bytes maxL none :: ws2) (hrm : rmy.cells = mc ∧ rmy.slots = ms)
    (hini : Cond.initialized y.cls ∈ Ts) (hl0 : Cond.methodLink own index y ∈ Ts) (hin : Cond.instanceMethod y ∈ Ts) (hy1 : y.name = "<init>")
    (hd : y.cls ≠ "java/lang/invoke/MethodHandle" ∧ y.cls ≠ "java/lang/invoke/VarHandle" ∧ (parseMethodDescriptor y.desc).map (fun d => d.parameters.length) = some n) (hR : rmy.frames + 1 ≤ rm.frames ∧ 8 + (maxL + 11) + rmy.locals ≤ rm.locals ∧ cells + mc ≤ rm.cells ∧ slots + ms ≤ rm.slots)
    {L : List va_W} (hN : L.length = N) (is js : List Nat) (hlo : lo_ N (is ++ js) = true) (hwc : flt (is.map (fun i => L.getD i [])) = wc) (ys : S → List va_W) (hys : ∀ u, flt (ys u) = w1 u)
    (hst : st = As.reverse ++ .ref b :: rest) (hn : As.length = n) (hsm : (rest.map fun v => v.category).sum ≤ 8) (hdg : decode cc pc = .ok (.invokespecial index, 3))
    (kk : ∀ (r : α) (u : S), Po r u → V G K nL (cells + mc) (slots + ms) (pc + 3) lv ((mk r).toList ++ rest) (flt (ys u ++ js.map (fun i => L.getD i [])))) : V G K nL cells slots pc lv st (flt L) := by
  subst hN
  refine V.cut is js hlo hwc ?_
  obtain ⟨wr, hwr⟩ : ∃ wr, wr = flt (js.map (fun i => L.getD i [])) := ⟨_, rfl⟩
  rw [← hwr]
  have kk2 : ∀ (r : α) (u : S), Po r u → V G K nL (cells + mc) (slots + ms) (pc + 3) lv ((mk r).toList ++ rest) (wr ++ w1 u) := fun r u hp => V.swap _ _ (by
    have := kk r u hp
    rw [flt_app, hys u, ← hwr] at this
    exact this)
  refine V.runG (a := (Value.ref b :: As).toArray) (List.range wc.length) ((List.range wr.length).map (fun i => wc.length + i)) (range_l wc wr) (range_r wc wr) (nd_shift _ _) (nd_dis _ _) hC.2.2.2.2.2.2.2.1 (fun H locs ls hP hD hS hl => ?_) kk2
  have hRR := hC.2.2.2.2.2.1
  exact va_runI (As := As) (rest := rest) (Ts := Ts) (own := own) (nL := nL) (n := n) (b := b) (bytes := bytes) (maxL := maxL) ⟨hC.1, hC.2.1, hC.2.2.1, hC.2.2.2.1, hC.2.2.2.2.1⟩ (hM H.size) (cwI n hC.2.2.2.2.1 hT hw hrm.1 hrm.2 (hC.2.2.2.2.1 _ hini) (hC.2.2.2.2.1 _ hl0) (hC.2.2.2.2.1 _ hin) hy1 hd (by rw [hRR]; exact ⟨hR.1, hR.2.1⟩)) ⟨ct_blind hk, ct_pre (l := kl K) hC hgo hP hD hS (range_l wc wr) (nd_range _)⟩ rfl hn hl.1.1 hst (lv_room hsm) hdg (by rw [hRR]; exact hR.2.2)
theorem V.newAB (hC : Cok G K cc nL own Ts rm) {atype : ArrayType} (t0 : Nat) {cA : ClassId} (harr : Cond.arrayClass (newarray.typeOf atype) ∈ Ts) (ht : (TY G)[t0]? = some (cA, newarray.typeOf atype)) {k : Int32} (M : Nat) (a0 : vp_A) (ha : ∀ c : ClassId, vp_cell c a0 = arrV c M (fun _ => defaultValue (newarray.typeOf atype))) (hk : k = nI M) (hM : M < 100000) (hcells : cells + 1 ≤ rm.cells) (hslots : slots + M ≤ rm.slots) (hdg : decode cc pc = .ok (.newarray atype, 2)) {L : List va_W}
    (h : ∀ q : Nat, V G K nL (cells + 1) (slots + M) (pc + 2) lv (.ref q :: st) (flt ([(q, .inl (cA, a0))] :: L))) : V G K nL cells slots pc lv (.int k :: st) (flt L) :=
  V.newA hC t0 harr ht M a0 ha hk hM hcells hslots hdg (fun q => V.swap _ _ (by have := h q; rw [flt_cons] at this; exact this))
theorem V.newOB (hC : Cok G K cc nL own Ts rm) {C : String} {T : u_T} {N ci index : Nat} (hin : ∀ w ∈ u_ws C T N, w ∈ Ts) (ty0 : Nat → FieldType) (hty : ∀ k, k < N → parseFieldDescriptor (T k).2.2.1 = some (ty0 k)) (hcl : Cond.classLink own index C ∈ Ts) (hinst : Cond.instantiable C N ∈ Ts) (hini : Cond.initialized C ∈ Ts) (hc : vwCl[ci]? = some (C, T, N)) {fs : List Value} (hfs : ∀ j, j < N → defaultValue (ty0 j) = vp_V fs j) (hcells : cells + 1 ≤ rm.cells) (hslots : slots + N ≤ rm.slots) (hdg : decode cc pc = .ok (.new index, 3)) {L : List va_W}
    (h : ∀ q : Nat, V G K nL (cells + 1) (slots + N) (pc + 3) lv (.ref q :: st) (flt ([(q, .inr (ci, fs))] :: L))) : V G K nL cells slots pc lv st (flt L) :=
  V.newO hC hin ty0 hty hcl hinst hini hc hfs hcells hslots hdg (fun q => V.swap _ _ (by have := h q; rw [flt_cons] at this; exact this))
theorem V.cloneB (hC : Cok G K cc nL own Ts rm) {index : Nat} (hcl : va_Nw (.castable "[B" "java/lang/Cloneable") (ks K)) (h1 : Cond.methodLink own index ⟨"[B", "clone", "()Ljava/lang/Object;"⟩ ∈ Ts) (h2 : Cond.sameMethod "[B" "java/lang/Object" "clone" "()Ljava/lang/Object;" ∈ Ts) (h3 : Cond.native ⟨"java/lang/Object", "clone", "()Ljava/lang/Object;"⟩ ∈ Ts) (h4 : Cond.instanceMethod ⟨"java/lang/Object", "clone", "()Ljava/lang/Object;"⟩ ∈ Ts) (h5 : Cond.selects "[B" ⟨"[B", "clone", "()Ljava/lang/Object;"⟩ ⟨"java/lang/Object", "clone", "()Ljava/lang/Object;"⟩ ∈ Ts)
    (q0 : Nat) {a M : Nat} {f : Nat → Nat} (ha : ws[q0]? = some (a, .inl (gB G, M, .inl (fun j => nI (f j))))) (hf : ∀ j, f j < 128) (hr : 1 ≤ rm.frames ∧ (st.map fun v => v.category).sum + 14 ≤ rm.locals) (hcells : cells + 1 ≤ rm.cells) (hslots : slots + M ≤ rm.slots) (hdg : decode cc pc = .ok (.invokevirtual index, 3))
    (h : ∀ q : Nat, V G K nL (cells + 1) (slots + M) (pc + 3) lv (.ref q :: st) (ws ++ [(q, .inl (gB G, M, .inl (fun j => nI (f j))))])) : V G K nL cells slots pc lv (.ref a :: st) ws := by
  intro H locs ls hP hD hS hl
  have hR := hC.2.2.2.2.2.1
  have hK := hC.2.2.2.2.2.2.1
  exact va_clone (D := G.1) (tys := TY G) hC.1 hC.2.1 (hC.2.2.1.trans hl.1.1.symm) hC.2.2.2.1 (hC.2.2.2.2.1 _ h1) (hC.2.2.2.2.1 _ h2) (hC.2.2.2.2.1 _ h3) (hC.2.2.2.2.1 _ h4) (hC.2.2.2.2.1 _ h5) hcl hK hP hD hS hC.2.2.2.2.2.2.2.1 q0 6 ha (ty := .byte) rfl (va_nm_byte (hK.2 6 _ rfl).2)
    (va_fit (F := fun j => .int (nI (f j))) (fun i _ => bfit _ (hf i))) (by rw [hR]; exact hr.1) (by rw [hR]; exact hr.2) (by rw [hR]; exact hcells) (by rw [hR]; exact hslots) hdg (fun q H1 _ hP1 hD1 hS1 => h q H1 locs ls hP1 hD1 hS1 hl)
theorem V.castB (hC : Cok G K cc nL own Ts rm) {index : Nat} (h1 : Cond.classLink own index "[B" ∈ Ts) (q0 : Nat) {a M : Nat} {f : Nat → Nat} (ha : ws[q0]? = some (a, .inl (gB G, M, .inl (fun j => nI (f j))))) (hdg : decode cc pc = .ok (.checkcast index, 3))
    (h : V G K nL cells slots (pc + 3) lv (.ref a :: st) ws) : V G K nL cells slots pc lv (.ref a :: st) ws := by
  intro H locs ls hP hD hS hl
  have hK := hC.2.2.2.2.2.2.1
  exact va_castA (D := G.1) hC.1 hC.2.1 hC.2.2.2.1 (hC.2.2.2.2.1 _ h1) hP q0 ha (va_nm_byte (hK.2 6 _ rfl).2) hdg (h H locs ls hP hD hS hl)
end R47
theorem nd_dis2 : ∀ (a b : List Nat), va_nd (a ++ b) = true → ∀ i ∈ b, i ∉ a
  | [], _, _, _, _ => List.not_mem_nil
  | x :: a, b, h, i, hi => by
    simp only [va_nd, List.cons_append, Bool.and_eq_true, decide_eq_true_eq] at h
    intro hm
    rcases List.mem_cons.mp hm with e | hm
    · exact h.1 (by rw [← e]; exact List.mem_append.mpr (Or.inr hi))
    · exact nd_dis2 a b h.2 i hi hm
theorem nd_l : ∀ (a b : List Nat), va_nd (a ++ b) = true → va_nd a = true
  | [], _, _ => rfl
  | x :: a, b, h => by
    simp only [va_nd, List.cons_append, Bool.and_eq_true, decide_eq_true_eq] at h ⊢
    exact ⟨fun z => h.1 (List.mem_append.mpr (Or.inl z)), nd_l a b h.2⟩
theorem nd_r : ∀ (a b : List Nat), va_nd (a ++ b) = true → va_nd b = true
  | [], _, h => h
  | x :: a, b, h => by
    simp only [va_nd, List.cons_append, Bool.and_eq_true, decide_eq_true_eq] at h
    exact nd_r a b h.2
theorem bpos_app (L : List va_W) (a b : List Nat) : bpos L (a ++ b) = bpos L a ++ bpos L b := by
  unfold bpos
  rw [List.flatMap_append]
section LIFT
variable {α S X S' X' : Type} {l : Launch} {G : Gx} {SF : (Nat → Prop) → State → Heap → Prop} {y : MethodName} {Ts : List Cond} {rm : Room} {av : List Value} {w0 : va_W} {mk : α → Option Value} {Po : α → S → Prop} {w1 : S → va_W} {Px : String → X → Prop} {wx : X → va_W} {mc ms N : Nat}
/-- a contract over some blocks of a world -/
theorem Ct.lift (h : Ct l G SF y Ts rm av w0 mk Po w1 mc ms) (hk : SFk SF) {L : List va_W} (hN : L.length = N) (is js : List Nat) (hlo : lo_ N (is ++ js) = true) (hwc : flt (is.map (fun i => L.getD i [])) = w0) (Po' : α → S' → Prop) (w1' : S' → List va_W)
    (hp : ∀ r u, Po r u → ∃ (u' : S') (ys : List va_W) (ks : List Nat), Po' r u' ∧ flt ys = w1 u ∧ js.length + ys.length = N ∧ lo_ N ks = true ∧ ks.map (fun k => (js.map (fun i => L.getD i []) ++ ys).getD k []) = w1' u') : Ct l G SF y Ts rm av (flt L) mk Po' (fun u => flt (w1' u)) mc ms := by
  subst hN
  obtain ⟨h1, h2⟩ := lo_nd hlo
  have hb := bpos_nd L (is ++ js) h1 h2
  rw [bpos_app] at hb
  have m1 := bpos_map L is (fun k hk => h2 k (List.mem_append.mpr (Or.inl hk)))
  have m2 := bpos_map L js (fun k hk => h2 k (List.mem_append.mpr (Or.inr hk)))
  rw [← flt_eq, ← flt_eq, hwc] at m1
  rw [← flt_eq, ← flt_eq] at m2
  have a := Ct.at h hk (w0' := flt L) (wr := flt (js.map (fun i => L.getD i []))) (bpos L is) (bpos L js) m1 (nd_l _ _ hb) m2 (nd_r _ _ hb) (nd_dis2 _ _ hb)
  refine Ct.out a (fun r u hpo => ?_)
  obtain ⟨u', ys, ks, p1, p2, p3, p5, p4⟩ := hp r u hpo
  have p3' : lo_ (js.map (fun i => L.getD i []) ++ ys).length ks = true := by rw [List.length_append, List.length_map, p3]; exact p5
  obtain ⟨n1, n2⟩ := lo_nd p3'
  refine ⟨u', bpos (js.map (fun i => L.getD i []) ++ ys) ks, p1, ?_, bpos_nd _ _ n1 n2⟩
  have := bpos_map (js.map (fun i => L.getD i []) ++ ys) ks n2
  rw [p4, ← flt_eq, ← flt_eq, flt_app, p2] at this
  exact this
theorem CtX.lift (h : CtX l G SF y Ts rm av w0 mk Po w1 Px wx mc ms) (hk : SFk SF) {L : List va_W} (hN : L.length = N) (is js : List Nat) (hlo : lo_ N (is ++ js) = true) (hwc : flt (is.map (fun i => L.getD i [])) = w0) (Po' : α → S' → Prop) (w1' : S' → List va_W) (Px' : String → X' → Prop) (wx' : X' → List va_W)
    (hp : ∀ r u, Po r u → ∃ (u' : S') (ys : List va_W) (ks : List Nat), Po' r u' ∧ flt ys = w1 u ∧ js.length + ys.length = N ∧ lo_ N ks = true ∧ ks.map (fun k => (js.map (fun i => L.getD i []) ++ ys).getD k []) = w1' u')
    (hx : ∀ E u, Px E u → ∃ (u' : X') (ys : List va_W) (ks : List Nat), Px' E u' ∧ flt ys = wx u ∧ js.length + ys.length = N ∧ lo_ N ks = true ∧ ks.map (fun k => (js.map (fun i => L.getD i []) ++ ys).getD k []) = wx' u') : CtX l G SF y Ts rm av (flt L) mk Po' (fun u => flt (w1' u)) Px' (fun u => flt (wx' u)) mc ms := by
  subst hN
  obtain ⟨h1, h2⟩ := lo_nd hlo
  have hb := bpos_nd L (is ++ js) h1 h2
  rw [bpos_app] at hb
  have m1 := bpos_map L is (fun k hk => h2 k (List.mem_append.mpr (Or.inl hk)))
  have m2 := bpos_map L js (fun k hk => h2 k (List.mem_append.mpr (Or.inr hk)))
  rw [← flt_eq, ← flt_eq, hwc] at m1
  rw [← flt_eq, ← flt_eq] at m2
  have a := CtX.at h hk (w0' := flt L) (wr := flt (js.map (fun i => L.getD i []))) (bpos L is) (bpos L js) m1 (nd_l _ _ hb) m2 (nd_r _ _ hb) (nd_dis2 _ _ hb)
  refine CtX.out a (fun r u hpo => ?_) (fun E u hpo => ?_)
  · obtain ⟨u', ys, ks, p1, p2, p3, p5, p4⟩ := hp r u hpo
    have p3' : lo_ (js.map (fun i => L.getD i []) ++ ys).length ks = true := by rw [List.length_append, List.length_map, p3]; exact p5
    obtain ⟨n1, n2⟩ := lo_nd p3'
    refine ⟨u', bpos (js.map (fun i => L.getD i []) ++ ys) ks, p1, ?_, bpos_nd _ _ n1 n2⟩
    have := bpos_map (js.map (fun i => L.getD i []) ++ ys) ks n2
    rw [p4, ← flt_eq, ← flt_eq, flt_app, p2] at this
    exact this
  · obtain ⟨u', ys, ks, p1, p2, p3, p5, p4⟩ := hx E u hpo
    have p3' : lo_ (js.map (fun i => L.getD i []) ++ ys).length ks = true := by rw [List.length_append, List.length_map, p3]; exact p5
    obtain ⟨n1, n2⟩ := lo_nd p3'
    refine ⟨u', bpos (js.map (fun i => L.getD i []) ++ ys) ks, p1, ?_, bpos_nd _ _ n1 n2⟩
    have := bpos_map (js.map (fun i => L.getD i []) ++ ys) ks n2
    rw [p4, ← flt_eq, ← flt_eq, flt_app, p2] at this
    exact this
end LIFT
/-- the statics and the law's script -/
def SFs (G : Gx) (sc len : Nat) (xs : Nat → Int32) (A : Nat → Prop) (U : State) (H : Heap) : Prop := SFt G A U H ∧ va_X sc len xs U H ∧ sc < H.size ∧ ¬ A sc
theorem SFs.k (G : Gx) (sc len : Nat) (xs : Nat → Int32) : SFk (SFs G sc len xs) := by
  refine ⟨fun A s U H hW h => ⟨(SFt.k G).1 A s U H hW h.1, va_X.moved hW.alike h.2.1, h.2.2⟩, fun A u U H hv h => ⟨(SFt.k G).2.1 A u U H hv h.1, va_X.moved (by rw [hv]; exact Vm.Alike.refl _) h.2.1, h.2.2⟩, fun A B U H hB h => ⟨(SFt.k G).2.2.1 A B U H hB h.1, h.2.1, h.2.2.1, fun z => h.2.2.2 (hB _ z)⟩, fun A U H H1 hq h => ?_⟩
  have e := hq sc h.2.2.1 h.2.2.2
  have hx := va_X.kept h.2.1 e
  exact ⟨(SFt.k G).2.2.2 A U H H1 hq h.1, hx, (Array.getElem?_eq_some_iff.mp hx.choose_spec.1).1, h.2.2.2⟩
theorem SFgo.s {G : Gx} {K : Cx} {sc len : Nat} {xs : Nat → Int32} (h : SFgo K (SFs G sc len xs)) : SFgo K (SFt G) := fun H locs U B a b c d => (h H locs U B a b c d).1
section ROWS47B
variable {G : Gx} {K : Cx} {nL cells slots pc : Nat} {lv : List (Option Value)} {st : List Value} {ws : va_W} {cc : ByteArray} {own : String} {Ts : List Cond} {rm : Room}
theorem V.ldcS (hC : Cok G K cc nL own Ts rm) {tx : String} {index q : Nat} (hZ : vk_R own index tx q (ks K)) (hdg : decode cc pc = .ok (.ldc index, 2)) (h : V G K nL cells slots (pc + 2) lv (.ref q :: st) ws) : V G K nL cells slots pc lv st ws :=
  fun H locs ls hP hD hS hl => va_ldcS hC.1 hC.2.1 hC.2.2.2.1 hZ hdg (h H locs ls hP hD hS hl)
/-- bytes copied to a place -/
theorem V.copyBo (hC : Cok G K cc nL own Ts rm) {index : Nat} (h1 : Cond.methodLink own index arraycopyName ∈ Ts) (h2 : Cond.native arraycopyName ∈ Ts) (h3 : Cond.static arraycopyName ∈ Ts) (h4 : Cond.initialized "java/lang/System" ∈ Ts) (q0 q1 : Nat) {a a0 N0 N1 : Nat} {f g : Nat → Nat} (hf : ∀ j, f j < 128) (ha0 : ws[q0]? = some (a0, .inl (gB G, N0, .inl (fun j => nI (f j))))) (ha1 : ws[q1]? = some (a, .inl (gB G, N1, .inl (fun j => nI (g j))))) {n dp : Int32} (N D : Nat) (hn : n = nI N) (hdp : dp = nI D) (hN : N < 2 ^ 31) (hD2 : D < 2 ^ 31) (hN0 : N ≤ N0) (hN1 : D + N ≤ N1) (hr : 1 ≤ rm.frames ∧ (st.map fun v => v.category).sum + 18 ≤ rm.locals) (hdg : decode cc pc = .ok (.invokestatic index, 3)) (ws' : va_W) (e : ws.set q1 (a, .inl (gB G, N1, .inl (fun j => nI (if D ≤ j ∧ j < D + N then f (j - D) else g j)))) = ws') (h : V G K nL cells slots (pc + 3) lv st ws') : V G K nL cells slots pc lv (.int n :: .int dp :: .ref a :: .int 0 :: .ref a0 :: st) ws := by
  intro H locs ls hP hD hS hl
  subst hn
  subst hdp
  have hR := hC.2.2.2.2.2.1
  have hcl : (nI N).toNatClampNeg = N := nI_clamp hN
  have hcd : (nI D).toNatClampNeg = D := nI_clamp hD2
  refine va_copyi (D := G.1) (tys := TY G) hC.1 hC.2.1 (hC.2.2.1.trans hl.1.1.symm) hC.2.2.2.1 (hC.2.2.2.2.1 _ h1) (hC.2.2.2.2.1 _ h2) (hC.2.2.2.2.1 _ h3) (hC.2.2.2.2.1 _ h4) hC.2.2.2.2.2.2.1 hP hD hS q0 q1 6 6 ha0 ha1 rfl rfl rfl (by decide) (nI_pos hD2) (nI_pos hN) (by rw [hcl]; show 0 + N ≤ N0; omega) (by rw [hcl, hcd]; omega) (fun i _ => bfit _ (hf _)) (by rw [hR]; exact hr.1) (by rw [hR]; exact hr.2) hdg (fun H1 locs1 hP1 hD1 hS1 => ?_)
  have hl1 : q1 < ws.length := (List.getElem?_eq_some_iff.mp ha1).1
  refine V.ext (K := K) (ws := ws.set q1 (a, .inl (gB G, N1, .inl (va_cpy (fun j => nI (f j)) (fun j => nI (g j)) (0 : Int32).toNatClampNeg (nI D).toNatClampNeg (nI N).toNatClampNeg)))) (g := fun j => nI (if D ≤ j ∧ j < D + N then f (j - D) else g j)) q1 (List.getElem?_set_self hl1) (fun k hk => ?_) ?_ h H1 locs1 ls hP1 hD1 hS1 hl
  · have h0 : (0 : Int32).toNatClampNeg = 0 := rfl
    rw [hcl, hcd, h0, va_cpy]
    by_cases hkN : D ≤ k ∧ k < D + N
    · rw [if_pos hkN, if_pos hkN]
      simp
    · rw [if_neg hkN, if_neg hkN]
  · rw [List.set_set]
    exact e
/-- the sign at a place of a text of the law's own -/
def chS (i j : Nat) : Nat := (sCh.getD i []).getD j 0
theorem chS_lt : ∀ i j, chS i j < 128 := by
  intro i j
  unfold chS
  have : ∀ l ∈ ([[47], [32], [58], [], [91], [93]] : List (List Nat)), ∀ x ∈ l, x < 128 := by decide
  rw [List.getD_eq_getElem?_getD]
  cases h : (sCh.getD i [])[j]? with
  | none => exact (by decide : (0 : Nat) < 128)
  | some x =>
    have hx := List.mem_of_getElem? h
    rw [List.getD_eq_getElem?_getD] at hx
    cases h2 : sCh[i]? with
    | none => rw [h2] at hx; cases hx
    | some l => rw [h2] at hx; exact this l (List.mem_of_getElem? h2) x hx
theorem chS_byt : ∀ i, i < 6 → ∀ j, j < sLen.getD i 0 → (sByt.getD i []).getD j 0 = nI (chS i j) := by decide
theorem sLen_le : ∀ i, i < 6 → sLen.getD i 0 ≤ 1 := by decide
/-- a text of the law's own copied to a place -/
theorem V.copyT (hC : Cok G K cc nL own Ts rm) {index : Nat} (h1 : Cond.methodLink own index arraycopyName ∈ Ts) (h2 : Cond.native arraycopyName ∈ Ts) (h3 : Cond.static arraycopyName ∈ Ts) (h4 : Cond.initialized "java/lang/System" ∈ Ts) (i : Nat) (hi : i < 6) {b0 : Nat} (hT : va_T .byte b0 (sLen.getD i 0) (fun j => .int ((sByt.getD i []).getD j 0)) (kA K) (ks K) (ks K).heap) (q1 : Nat) {a N1 : Nat} {g : Nat → Nat} (ha1 : ws[q1]? = some (a, .inl (gB G, N1, .inl (fun j => nI (g j))))) {n dp : Int32} (D : Nat) (hn : n = nI (sLen.getD i 0)) (hdp : dp = nI D) (hD2 : D < 2 ^ 31) (hN1 : D + sLen.getD i 0 ≤ N1) (hr : 1 ≤ rm.frames ∧ (st.map fun v => v.category).sum + 18 ≤ rm.locals) (hdg : decode cc pc = .ok (.invokestatic index, 3)) (ws' : va_W) (e : ws.set q1 (a, .inl (gB G, N1, .inl (fun j => nI (if D ≤ j ∧ j < D + sLen.getD i 0 then chS i (j - D) else g j)))) = ws') (h : V G K nL cells slots (pc + 3) lv st ws') : V G K nL cells slots pc lv (.int n :: .int dp :: .ref a :: .int 0 :: .ref b0 :: st) ws := by
  intro H locs ls hP hD hS hl
  subst hn
  subst hdp
  have hR := hC.2.2.2.2.2.1
  have hle := sLen_le i hi
  have hcl : (nI (sLen.getD i 0)).toNatClampNeg = sLen.getD i 0 := nI_clamp (by omega)
  have hcd : (nI D).toNatClampNeg = D := nI_clamp hD2
  have h0 : (0 : Int32).toNatClampNeg = 0 := rfl
  refine vk_copyt (D := G.1) (tys := TY G) hC.1 hC.2.1 (hC.2.2.1.trans hl.1.1.symm) hC.2.2.2.1 (hC.2.2.2.2.1 _ h1) (hC.2.2.2.2.1 _ h2) (hC.2.2.2.2.1 _ h3) (hC.2.2.2.2.1 _ h4) hC.2.2.2.2.2.2.1 hP hD hS hT q1 6 ha1 rfl (by decide) (nI_pos hD2) (nI_pos (by omega)) (by rw [hcl]; show 0 + _ ≤ _; omega) (by rw [hcl, hcd]; omega) (fun k hk => ?_) (by rw [hR]; exact hr.1) (by rw [hR]; exact hr.2) hdg (fun H1 locs1 hP1 hD1 hS1 => ?_)
  · rw [hcl] at hk
    rw [h0, Nat.zero_add, chS_byt i hi k hk]
    exact bfit _ (chS_lt i k)
  have hl1 : q1 < ws.length := (List.getElem?_eq_some_iff.mp ha1).1
  refine V.ext (K := K) (ws := ws.set q1 (a, .inl (gB G, N1, .inl (va_cpy (fun j => (sByt.getD i []).getD j 0) (fun j => nI (g j)) (0 : Int32).toNatClampNeg (nI D).toNatClampNeg (nI (sLen.getD i 0)).toNatClampNeg)))) (g := fun j => nI (if D ≤ j ∧ j < D + sLen.getD i 0 then chS i (j - D) else g j)) q1 (List.getElem?_set_self hl1) (fun k hk => ?_) ?_ h H1 locs1 ls hP1 hD1 hS1 hl
  · rw [hcl, hcd, h0, va_cpy]
    by_cases hkN : D ≤ k ∧ k < D + sLen.getD i 0
    · rw [if_pos hkN, if_pos hkN, Nat.zero_add]
      exact chS_byt i hi (k - D) (by omega)
    · rw [if_neg hkN, if_neg hkN]
  · rw [List.set_set]
    exact e
theorem V.l2i (hC : Cok G K cc nL own Ts rm) {x : Int64} (hdg : decode cc pc = .ok (.l2i, 1)) (h : V G K nL cells slots (pc + 1) lv (.int x.toInt32 :: st) ws) : V G K nL cells slots pc lv (.long x :: st) ws :=
  fun H locs ls hP hD hS hl => lv_l2i hC.1 hC.2.1 hdg rfl (h H locs ls hP hD hS hl)
theorem V.fcmp (hC : Cok G K cc nL own Ts rm) {x y : UInt32} {op : CmpOp} (hdg : decode cc pc = .ok (.fcmp op, 1)) (h : V G K nL cells slots (pc + 1) lv (.int (Op.cmpValue (FP.fcmp x y) op) :: st) ws) : V G K nL cells slots pc lv (.float y :: .float x :: st) ws :=
  fun H locs ls hP hD hS hl => lv_fcmp hC.1 hC.2.1 hdg (h H locs ls hP hD hS hl)
end ROWS47B
section CALLIG
variable {α S : Type} {G : Gx} {K : Cx} {nL cells slots pc : Nat} {lv : List (Option Value)} {st rest As : List Value} {wc : va_W} {cc bytes : ByteArray} {own : String} {Ts Ty ws2 : List Cond} {rm rmy : Room} {SFc : (Nat → Prop) → State → Heap → Prop} {y : MethodName} {mk : α → Option Value} {Po : α → S → Prop} {w1 : S → va_W} {mc ms maxL index n b : Nat}
/-- x.<init>(..), the world that it hands back behind the rest -/
theorem V.callIG (hC : Cok G K cc nL own Ts rm) (hM : Ct (kl K) G SFc y Ty rmy (.ref b :: As) wc mk Po w1 mc ms) (hk : SFk SFc) (hgo : SFgo K SFc) (hT : GoodIn Ts Ty) (hw : Ty = Cond.code y bytes maxL none :: ws2) (hrm : rmy.cells = mc ∧ rmy.slots = ms)
    (hini : Cond.initialized y.cls ∈ Ts) (hl0 : Cond.methodLink own index y ∈ Ts) (hin : Cond.instanceMethod y ∈ Ts) (hy1 : y.name = "<init>")
    (hd : y.cls ≠ "java/lang/invoke/MethodHandle" ∧ y.cls ≠ "java/lang/invoke/VarHandle" ∧ (parseMethodDescriptor y.desc).map (fun d => d.parameters.length) = some n) (hR : rmy.frames + 1 ≤ rm.frames ∧ 8 + (maxL + 11) + rmy.locals ≤ rm.locals ∧ cells + mc ≤ rm.cells ∧ slots + ms ≤ rm.slots)
    (wr : va_W) (hst : st = As.reverse ++ .ref b :: rest) (hn : As.length = n) (hsm : (rest.map fun v => v.category).sum ≤ 8) (hdg : decode cc pc = .ok (.invokespecial index, 3))
    (kk : ∀ (r : α) (u : S), Po r u → V G K nL (cells + mc) (slots + ms) (pc + 3) lv ((mk r).toList ++ rest) (wr ++ w1 u)) : V G K nL cells slots pc lv st (wc ++ wr) := by
  refine V.runG (a := (Value.ref b :: As).toArray) (List.range wc.length) ((List.range wr.length).map (fun i => wc.length + i)) (range_l wc wr) (range_r wc wr) (nd_shift _ _) (nd_dis _ _) hC.2.2.2.2.2.2.2.1 (fun H locs ls hP hD hS hl => ?_) kk
  have hRR := hC.2.2.2.2.2.1
  exact va_runI (As := As) (rest := rest) (Ts := Ts) (own := own) (nL := nL) (n := n) (b := b) (bytes := bytes) (maxL := maxL) ⟨hC.1, hC.2.1, hC.2.2.1, hC.2.2.2.1, hC.2.2.2.2.1⟩ (hM H.size) (cwI n hC.2.2.2.2.1 hT hw hrm.1 hrm.2 (hC.2.2.2.2.1 _ hini) (hC.2.2.2.2.1 _ hl0) (hC.2.2.2.2.1 _ hin) hy1 hd (by rw [hRR]; exact ⟨hR.1, hR.2.1⟩)) ⟨ct_blind hk, ct_pre (l := kl K) hC hgo hP hD hS (range_l wc wr) (nd_range _)⟩ rfl hn hl.1.1 hst (lv_room hsm) hdg (by rw [hRR]; exact hR.2.2)
end CALLIG
section OVR
variable {α S : Type} {G : Gx} {K : Cx} {nL cells slots pc : Nat} {lv lv' : List (Option Value)} {st rest As : List Value} {ws ws' wc wr : va_W} {cc bytes : ByteArray} {own C owner : String} {Ts Ty ws2 : List Cond} {rm rmy : Room} {SFc : (Nat → Prop) → State → Heap → Prop} {x y : MethodName} {mk : α → Option Value} {Po : α → S → Prop} {w1 : S → va_W} {mc ms maxL index n b : Nat} {ret : Option FieldType}
theorem V.callOG (hC : Cok G K cc nL own Ts rm) (hM : Ct (kl K) G SFc y Ty rmy (.ref b :: As) wc mk Po w1 mc ms) (hk : SFk SFc) (hgo : SFgo K SFc) (hT : GoodIn Ts (va_wsO own index C owner x y Ty)) (hw : Ty = Cond.code y bytes maxL ret :: ws2) (hrm : rmy.cells = mc ∧ rmy.slots = ms)
    {b0 : ByteArray} {m0 : Nat} {r0 : Option FieldType} (h0 : Cond.code ⟨owner, x.name, x.desc⟩ b0 m0 r0 ∈ Ts) (hd : owner ≠ "java/lang/invoke/MethodHandle" ∧ owner ≠ "java/lang/invoke/VarHandle" ∧ (parseMethodDescriptor x.desc).map (fun d => d.parameters.length) = some n) (hR : rmy.frames + 1 ≤ rm.frames ∧ 8 + (maxL + 11) + rmy.locals ≤ rm.locals ∧ cells + mc ≤ rm.cells ∧ slots + ms ≤ rm.slots)
    (isC isR : List Nat) (hsub : isC.map (fun i => ws[i]?) = wc.map some) (hndC : va_nd isC = true) (hRr : isR.map (fun i => ws[i]?) = wr.map some) (hnd : va_nd isR = true) (hdis : ∀ i ∈ isR, i ∉ isC) {ci N : Nat} {fs : List Value} {T : u_T} (hb : wc[0]? = some (b, .inr (ci, fs))) (hci : vwCl[ci]? = some (C, T, N))
    (hst : st = As.reverse ++ .ref b :: rest) (hn : As.length = n) (hsm : (rest.map fun v => v.category).sum ≤ 8) (hdg : decode cc pc = .ok (.invokevirtual index, 3))
    (kk : ∀ (r : α) (u : S), Po r u → V G K nL (cells + mc) (slots + ms) (pc + 3) lv ((mk r).toList ++ rest) (wr ++ w1 u)) : V G K nL cells slots pc lv st ws := by
  refine V.runG (a := (Value.ref b :: As).toArray) isC isR hsub hRr hnd hdis hC.2.2.2.2.2.2.2.1 (fun H locs ls hP hD hS hl => ?_) kk
  have hRR := hC.2.2.2.2.2.1
  have hPc : va_P G.1 vwCl wc H := (ct_pre (l := kl K) (As := Value.ref b :: As) hC hgo hP hD hS hsub hndC ({ (ks K) with heap := H }) rfl (State.WarmedH.refl _)).2.2.1
  have hrecv := va_recv (s := ks K) hC.2.2.2.2.2.2.1 hPc hci hb
  exact va_runU (C := C) (As := As) (rest := rest) (Ts := Ts) (own := own) (nL := nL) (n := n) (b := b) (bytes := bytes) (maxL := maxL) (ret := ret) ⟨hC.1, hC.2.1, hC.2.2.1, hC.2.2.2.1, hC.2.2.2.2.1⟩ (hM H.size) (va_cwO n hC.2.2.2.2.1 hT hw hrm.1 hrm.2 h0 hd (by rw [hRR]; exact ⟨hR.1, hR.2.1⟩)) ⟨ct_blind hk, hrecv, ct_pre (l := kl K) hC hgo hP hD hS hsub hndC⟩ rfl hn hl.1.1 hst (lv_room hsm) hdg (by rw [hRR]; exact hR.2.2)
end OVR
