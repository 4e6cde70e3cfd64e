/-! worlds by blocks; rows for the law (printed by gen/s88.py) -/
/-- blocks, one behind another -/
def flt : List va_W → va_W
  | [] => []
  | [a] => a
  | a :: b :: t => a ++ flt (b :: t)
theorem flt_eq : ∀ L : List va_W, flt L = L.flatten
  | [] => rfl
  | [a] => (List.append_nil a).symm
  | a :: b :: t => by
    show a ++ flt (b :: t) = a ++ (b :: t).flatten
    rw [flt_eq (b :: t)]
theorem flt_app (xs ys : List va_W) : flt (xs ++ ys) = flt xs ++ flt ys := by rw [flt_eq, flt_eq, flt_eq, List.flatten_append]
/-- where block k begins -/
def off : List va_W → Nat → Nat
  | _, 0 => 0
  | [], _ + 1 => 0
  | a :: t, k + 1 => a.length + off t k
theorem blk_get : ∀ (L : List va_W) (k i : Nat), k < L.length → i < (L.getD k []).length → L.flatten[off L k + i]? = (L.getD k [])[i]?
  | [], k, i, h, _ => absurd h (Nat.not_lt_zero _)
  | a :: t, 0, i, _, hi => by
    have hi' : i < a.length := hi
    show (a ++ t.flatten)[0 + i]? = a[i]?
    rw [Nat.zero_add, List.getElem?_append_left hi']
  | a :: t, k + 1, i, h, hi => by
    have ih := blk_get t k i (Nat.lt_of_succ_lt_succ h) hi
    show (a ++ t.flatten)[a.length + off t k + i]? = (t.getD k [])[i]?
    rw [← ih, List.getElem?_append_right (by omega), show a.length + off t k + i - a.length = off t k + i by omega]
theorem off_lt : ∀ (L : List va_W) (j k : Nat), j < k → k < L.length → off L j + (L.getD j []).length ≤ off L k
  | [], j, k, _, h => absurd h (Nat.not_lt_zero _)
  | a :: t, 0, k + 1, _, _ => by
    show 0 + a.length ≤ a.length + off t k
    omega
  | a :: t, j + 1, k + 1, h, h2 => by
    have ih := off_lt t j k (Nat.lt_of_succ_lt_succ h) (Nat.lt_of_succ_lt_succ h2)
    show a.length + off t j + (t.getD j []).length ≤ a.length + off t k
    omega
/-- the places of some blocks -/
def bpos (L : List va_W) (ks : List Nat) : List Nat := ks.flatMap (fun k => (List.range (L.getD k []).length).map (fun i => off L k + i))
theorem blk_map (L : List va_W) (k : Nat) (hk : k < L.length) : ((List.range (L.getD k []).length).map (fun i => off L k + i)).map (fun i => L.flatten[i]?) = (L.getD k []).map some := by
  apply List.ext_getElem?
  intro j
  rw [List.map_map, List.getElem?_map, List.getElem?_map]
  rcases Nat.lt_or_ge j (L.getD k []).length with h | h
  · rw [List.getElem?_range h, Option.map_some, Function.comp, blk_get L k j hk h, List.getElem?_eq_getElem h]
    rfl
  · rw [List.getElem?_eq_none (by simpa using h), List.getElem?_eq_none h]
    rfl
theorem bpos_map (L : List va_W) : ∀ ks : List Nat, (∀ k ∈ ks, k < L.length) → (bpos L ks).map (fun i => L.flatten[i]?) = ((ks.map (fun k => L.getD k [])).flatten).map some
  | [], _ => rfl
  | k :: ks, h => by
    show ((List.range (L.getD k []).length).map (fun i => off L k + i) ++ bpos L ks).map (fun i => L.flatten[i]?) = (L.getD k [] ++ (ks.map (fun k => L.getD k [])).flatten).map some
    rw [List.map_append, List.map_append, blk_map L k (h k List.mem_cons_self), bpos_map L ks (fun j hj => h j (List.mem_cons_of_mem _ hj))]
theorem bpos_mem {L : List va_W} {ks : List Nat} {x : Nat} (h : x ∈ bpos L ks) : ∃ k, k ∈ ks ∧ off L k ≤ x ∧ x < off L k + (L.getD k []).length := by
  obtain ⟨k, hk, hx⟩ := List.mem_flatMap.mp h
  obtain ⟨i, hi, rfl⟩ := List.mem_map.mp hx
  have := List.mem_range.mp hi
  exact ⟨k, hk, by omega, by omega⟩
theorem bpos_nd (L : List va_W) : ∀ ks : List Nat, va_nd ks = true → (∀ k ∈ ks, k < L.length) → va_nd (bpos L ks) = true
  | [], _, _ => rfl
  | k :: ks, hn, h => by
    simp only [va_nd, Bool.and_eq_true, decide_eq_true_eq] at hn
    show va_nd ((List.range (L.getD k []).length).map (fun i => off L k + i) ++ bpos L ks) = true
    refine nd_app _ _ (nd_shift _ _) (bpos_nd L ks hn.2 (fun j hj => h j (List.mem_cons_of_mem _ hj))) (fun x hx hy => ?_)
    obtain ⟨i, hi, rfl⟩ := List.mem_map.mp hx
    have hi2 := List.mem_range.mp hi
    obtain ⟨j, hj, h1, h2⟩ := bpos_mem hy
    have hkj : k ≠ j := fun e => hn.1 (by rw [e]; exact hj)
    rcases Nat.lt_or_ge k j with q | q
    · have := off_lt L k j q (h j (List.mem_cons_of_mem _ hj))
      omega
    · have := off_lt L j k (by omega) (h k List.mem_cons_self)
      omega
def lo_ (n : Nat) (ks : List Nat) : Bool := va_nd ks && ks.all (fun k => decide (k < n))
theorem lo_nd {n : Nat} {ks : List Nat} (h : lo_ n ks = true) : va_nd ks = true ∧ ∀ k ∈ ks, k < n := by
  simp only [lo_, Bool.and_eq_true, List.all_eq_true, decide_eq_true_eq] at h
  exact h
section VBLK
variable {α S X : Type} {G : Gx} {K : Cx} {nL cells slots pc : Nat} {lv : List (Option Value)} {st rest As : List Value} {ws wc : va_W} {cc bytes : ByteArray} {own C : String} {Ts Ty ws2 : List Cond} {rm rmy : Room} {SFc : (Nat → Prop) → State → Heap → Prop} {y : MethodName} {mk : α → Option Value} {Po : α → S → Prop} {w1 : S → va_W} {Px : String → X → Prop} {wx : X → va_W} {mc ms maxL index n b : Nat} {ret : Option FieldType}
/-- the blocks in another order, or some of them -/
theorem V.re {L : List va_W} (ks : List Nat) (L' : List va_W) (hk : lo_ L.length ks = true) (e : ks.map (fun k => L.getD k []) = L') (h : V G K nL cells slots pc lv st (flt L')) : V G K nL cells slots pc lv st (flt L) := by
  subst e
  obtain ⟨h1, h2⟩ := lo_nd hk
  rw [flt_eq] at h ⊢
  exact V.perm (bpos L ks) (bpos_map L ks h2) (bpos_nd L ks h1 h2) h
theorem VX.re {L : List va_W} {E : String} (ks : List Nat) (L' : List va_W) (hk : lo_ L.length ks = true) (e : ks.map (fun k => L.getD k []) = L') (h : VX G K nL cells slots pc lv rest (flt L') E) : VX G K nL cells slots pc lv rest (flt L) E := by
  subst e
  obtain ⟨h1, h2⟩ := lo_nd hk
  rw [flt_eq] at h ⊢
  intro H locs ls ce q hP hD hS hl hq hv hcl
  refine h H locs ls ce q (hP.by (fun k => ((bpos L ks)[k]?).getD 0) (fun k q hk => ?_)) (hD.sub _ (bpos_nd L ks h1 h2) (bpos_map L ks h2)) hS hl hq hv hcl
  have h3 : ((bpos L ks).map (fun i => L.flatten[i]?))[k]? = some (some q) := by rw [bpos_map L ks h2, List.getElem?_map, hk]; rfl
  rw [List.getElem?_map] at h3
  cases hi : (bpos L ks)[k]? with
  | none => rw [hi] at h3; cases h3
  | some i => rw [hi] at h3; exact Option.some.inj h3
theorem swap_m (wr w : va_W) : List.map (fun i => (wr ++ w)[i]?) ((List.range w.length).map (fun i => wr.length + i) ++ List.range wr.length) = (w ++ wr).map some := by rw [List.map_append, range_r wr w, range_l wr w, List.map_append]
theorem swap_n (wr w : va_W) : va_nd ((List.range w.length).map (fun i => wr.length + i) ++ List.range wr.length) = true := nd_app _ _ (nd_shift _ _) (nd_range _) (nd_dis _ _)
theorem V.swap (wr w : va_W) (h : V G K nL cells slots pc lv st (w ++ wr)) : V G K nL cells slots pc lv st (wr ++ w) := V.perm _ (swap_m wr w) (swap_n wr w) h
theorem VX.swap (wr w : va_W) {E : String} (h : VX G K nL cells slots pc lv rest (w ++ wr) E) : VX G K nL cells slots pc lv rest (wr ++ w) E := by
  intro H locs ls ce q hP hD hS hl hq hv hcl
  refine h H locs ls ce q (hP.by (fun k => (((List.range w.length).map (fun i => wr.length + i) ++ List.range wr.length)[k]?).getD 0) (fun k q hk => ?_)) (hD.sub _ (swap_n wr w) (swap_m wr w)) hS hl hq hv hcl
  have h3 : (List.map (fun i => (wr ++ w)[i]?) ((List.range w.length).map (fun i => wr.length + i) ++ List.range wr.length))[k]? = some (some q) := by rw [swap_m, List.getElem?_map, hk]; rfl
  rw [List.getElem?_map] at h3
  cases hi : ((List.range w.length).map (fun i => wr.length + i) ++ List.range wr.length)[k]? with
  | none => rw [hi] at h3; cases h3
  | some i => rw [hi] at h3; exact Option.some.inj h3
/-- the callee's blocks, the rest -/
theorem V.cut {L : List va_W} (is js : List Nat) (hk : lo_ L.length (is ++ js) = true) (hwc : flt (is.map (fun i => L.getD i [])) = wc) (h : V G K nL cells slots pc lv st (wc ++ flt (js.map (fun i => L.getD i [])))) : V G K nL cells slots pc lv st (flt L) := by
  refine V.re (is ++ js) _ hk rfl ?_
  rw [List.map_append, flt_app, hwc]
  exact h
/-- obj.m(..) over blocks -/
theorem V.callVB (hC : Cok G K cc nL own Ts rm) (hM : Ct (kl K) G SFc y Ty rmy (.ref b :: As) wc mk Po w1 mc ms) (hk : SFk SFc) (hgo : SFgo K SFc) (hT : GoodIn Ts (wsV own index C y Ty)) (hw : Ty = Cond.code y bytes maxL ret :: ws2) (hrm : rmy.cells = mc ∧ rmy.slots = ms)
    (hd : y.cls = C ∧ y.cls ≠ "java/lang/invoke/MethodHandle" ∧ y.cls ≠ "java/lang/invoke/VarHandle" ∧ (parseMethodDescriptor y.desc).map (fun d => d.parameters.length) = some n) (hR : rmy.frames + 1 ≤ rm.frames ∧ 8 + (maxL + 11) + rmy.locals ≤ rm.locals ∧ cells + mc ≤ rm.cells ∧ slots + ms ≤ rm.slots)
    {L : List va_W} (is js : List Nat) (hlo : lo_ L.length (is ++ js) = true) (hwc : flt (is.map (fun i => L.getD i [])) = wc) (ys : S → List va_W) (hys : ∀ u, flt (ys u) = w1 u) {ci N : Nat} {fs : List Value} {T : u_T} (hb : wc[0]? = some (b, .inr (ci, fs))) (hci : vwCl[ci]? = some (C, T, N))
    (hst : st = As.reverse ++ .ref b :: rest) (hn : As.length = n) (hsm : (rest.map fun v => v.category).sum ≤ 8) (hdg : decode cc pc = .ok (.invokevirtual index, 3))
    (kk : ∀ (r : α) (u : S), Po r u → V G K nL (cells + mc) (slots + ms) (pc + 3) lv ((mk r).toList ++ rest) (flt (ys u ++ js.map (fun i => L.getD i [])))) : V G K nL cells slots pc lv st (flt L) := by
  refine V.cut is js hlo hwc ?_
  obtain ⟨wr, hwr⟩ : ∃ wr, wr = flt (js.map (fun i => L.getD i [])) := ⟨_, rfl⟩
  rw [← hwr]
  refine V.callVG hC hM hk hgo hT hw hrm hd hR (List.range wc.length) ((List.range wr.length).map (fun i => wc.length + i)) (range_l wc wr) (nd_range _) (range_r wc wr) (nd_shift _ _) (nd_dis _ _) hb hci hst hn hsm hdg (fun r u hp => V.swap _ _ ?_)
  have := kk r u hp
  rw [flt_app, hys u, ← hwr] at this
  exact this
/-- T.m(..) over blocks; m has a table of its own -/
theorem V.callSBW {hh : List (Nat × Nat × Nat × Nat)} (hC : Cok G K cc nL own Ts rm) (hM : CtX (kl K) G SFc y Ty rmy As wc mk Po w1 (fun (_ : String) (_ : Unit) => False) (fun _ => wc) mc ms) (hk : SFk SFc) (hgo : SFgo K SFc) (hT : GoodIn Ts (va_wsS own index y Ty)) (hw : Ty = Cond.codeWith y bytes maxL ret hh :: ws2) (hrm : rmy.cells = mc ∧ rmy.slots = ms)
    (hd : y.cls ≠ "java/lang/invoke/MethodHandle" ∧ y.cls ≠ "java/lang/invoke/VarHandle" ∧ (parseMethodDescriptor y.desc).map (fun d => d.parameters.length) = some n) (hR : rmy.frames + 1 ≤ rm.frames ∧ 8 + (maxL + 11) + rmy.locals ≤ rm.locals ∧ cells + mc ≤ rm.cells ∧ slots + ms ≤ rm.slots)
    {L : List va_W} (is js : List Nat) (hlo : lo_ L.length (is ++ js) = true) (hwc : flt (is.map (fun i => L.getD i [])) = wc) (ys : S → List va_W) (hys : ∀ u, flt (ys u) = w1 u)
    (hst : st = As.reverse ++ rest) (hn : As.length = n) (hsm : (rest.map fun v => v.category).sum ≤ 8) (hdg : decode cc pc = .ok (.invokestatic index, 3))
    (kk : ∀ (r : α) (u : S), Po r u → V G K nL (cells + mc) (slots + ms) (pc + 3) lv ((mk r).toList ++ rest) (flt (ys u ++ js.map (fun i => L.getD i [])))) : V G K nL cells slots pc lv st (flt L) := by
  refine V.cut is js hlo hwc ?_
  obtain ⟨wr, hwr⟩ : ∃ wr, wr = flt (js.map (fun i => L.getD i [])) := ⟨_, rfl⟩
  rw [← hwr]
  refine V.callSGXW hC hM hk hgo hT hw hrm hd hR (List.range wc.length) ((List.range wr.length).map (fun i => wc.length + i)) (range_l wc wr) (nd_range _) (range_r wc wr) (nd_shift _ _) (nd_dis _ _) hst hn hsm hdg (fun _ _ hx => hx.elim) (fun r u hp => V.swap _ _ ?_)
  have := kk r u hp
  rw [flt_app, hys u, ← hwr] at this
  exact this
/-- obj.m(..) over blocks; m may throw -/
theorem V.callVBX (hC : Cok G K cc nL own Ts rm) (hM : CtX (kl K) G SFc y Ty rmy (.ref b :: As) wc mk Po w1 Px wx mc ms) (hk : SFk SFc) (hgo : SFgo K SFc) (hT : GoodIn Ts (wsV own index C y Ty)) (hw : Ty = Cond.code y bytes maxL ret :: ws2) (hrm : rmy.cells = mc ∧ rmy.slots = ms)
    (hd : y.cls = C ∧ y.cls ≠ "java/lang/invoke/MethodHandle" ∧ y.cls ≠ "java/lang/invoke/VarHandle" ∧ (parseMethodDescriptor y.desc).map (fun d => d.parameters.length) = some n) (hR : rmy.frames + 1 ≤ rm.frames ∧ 8 + (maxL + 11) + rmy.locals ≤ rm.locals ∧ cells + mc ≤ rm.cells ∧ slots + ms ≤ rm.slots)
    {L : List va_W} (is js : List Nat) (hlo : lo_ L.length (is ++ js) = true) (hwc : flt (is.map (fun i => L.getD i [])) = wc) (ys : S → List va_W) (hys : ∀ u, flt (ys u) = w1 u) (yx : X → List va_W) (hyx : ∀ u, flt (yx u) = wx u) {ci N : Nat} {fs : List Value} {T : u_T} (hb : wc[0]? = some (b, .inr (ci, fs))) (hci : vwCl[ci]? = some (C, T, N))
    (hst : st = As.reverse ++ .ref b :: rest) (hn : As.length = n) (hsm : (rest.map fun v => v.category).sum ≤ 8) (hdg : decode cc pc = .ok (.invokevirtual index, 3))
    (kx : ∀ (E : String) (u : X), Px E u → VX G K nL (cells + mc) (slots + ms) pc lv rest (flt (yx u ++ js.map (fun i => L.getD i []))) E)
    (kk : ∀ (r : α) (u : S), Po r u → V G K nL (cells + mc) (slots + ms) (pc + 3) lv ((mk r).toList ++ rest) (flt (ys u ++ js.map (fun i => L.getD i [])))) : V G K nL cells slots pc lv st (flt L) := by
  refine V.cut is js hlo hwc ?_
  obtain ⟨wr, hwr⟩ : ∃ wr, wr = flt (js.map (fun i => L.getD i [])) := ⟨_, rfl⟩
  rw [← hwr]
  refine V.callVGX hC hM hk hgo hT hw hrm hd hR (List.range wc.length) ((List.range wr.length).map (fun i => wc.length + i)) (range_l wc wr) (nd_range _) (range_r wc wr) (nd_shift _ _) (nd_dis _ _) hb hci hst hn hsm hdg (fun E u hp => VX.swap _ _ ?_) (fun r u hp => V.swap _ _ ?_)
  · have := kx E u hp
    rw [flt_app, hyx u, ← hwr] at this
    exact this
  · have := kk r u hp
    rw [flt_app, hys u, ← hwr] at this
    exact this
end VBLK