/-! what is made (objects, rows), constructors' calls; methods that return or throw, over worlds -/
section NEWROWS
variable {G : Gx} {K : Cx} {nL cells slots pc : Nat} {lv lv' : List (Option Value)} {st : List Value} {ws ws' : va_W} {cc : ByteArray} {own : String} {Ts : List Cond} {rm : Room}
theorem V.objInit (hC : Cok G K cc nL own Ts rm) {idx a : Nat} (h1 : Cond.methodLink own idx objectInit ∈ Ts) (h2 : Cond.instanceMethod objectInit ∈ Ts) (h3 : Cond.code objectInit ⟨#[0xb1]⟩ 1 none ∈ Ts) (hr : 1 ≤ rm.frames ∧ (st.map fun v => v.category).sum + 12 ≤ rm.locals) (hdg : decode cc pc = .ok (.invokespecial idx, 3)) (h : V G K nL cells slots (pc + 3) lv st ws) : V G K nL cells slots pc lv (.ref a :: st) ws := by
  intro H locs ls hP hD hS hl
  have hR := hC.2.2.2.2.2.1
  exact W.objInit hC.1 hC.2.1 hC.2.2.2.1 (hC.2.2.2.2.1 _ h1) (hC.2.2.2.2.1 _ h2) (hC.2.2.2.2.1 _ h3) rfl (hl.1.1.trans hC.2.2.1.symm) rfl hdg (by rw [hR]; exact hr.1) (by rw [hR]; have := hr.2; show 2 * 0 + _ + 12 ≤ _; omega) (h H locs ls hP hD hS hl)
theorem V.newO (hC : Cok G K cc nL own Ts rm) {C : String} {T : u_T} {N ci index : Nat} (hin : ∀ w ∈ u_ws C T N, w ∈ Ts) (ty0 : Nat → FieldType) (hty : ∀ k, k < N → parseFieldDescriptor (T k).2.2.1 = some (ty0 k)) (hcl : Cond.classLink own index C ∈ Ts) (hinst : Cond.instantiable C N ∈ Ts) (hini : Cond.initialized C ∈ Ts) (hc : vwCl[ci]? = some (C, T, N)) {fs : List Value} (hfs : ∀ j, j < N → defaultValue (ty0 j) = vp_V fs j) (hcells : cells + 1 ≤ rm.cells) (hslots : slots + N ≤ rm.slots) (hdg : decode cc pc = .ok (.new index, 3))
    (h : ∀ q : Nat, V G K nL (cells + 1) (slots + N) (pc + 3) lv (.ref q :: st) (ws ++ [(q, .inr (ci, fs))])) : V G K nL cells slots pc lv st ws := by
  intro H locs ls hP hD hS hl
  have hR := hC.2.2.2.2.2.1
  exact va_new (D := G.1) (tys := TY G) hC.1 hC.2.1 hC.2.2.2.2.1 hin ty0 hty hC.2.2.2.1 (hC.2.2.2.2.1 _ hcl) (hC.2.2.2.2.1 _ hinst) (hC.2.2.2.2.1 _ hini) hC.2.2.2.2.2.2.1 hP hD hS hC.2.2.2.2.2.2.2.1 hc hfs (by rw [hR]; exact hcells) (by rw [hR]; exact hslots) hdg (fun q H1 hP1 hD1 hS1 => h q H1 locs ls hP1 hD1 hS1 hl)
theorem RA_prim {U : State} {cA : ClassId} {ty : FieldType} (h : va_RA U cA ty) (hp : ∀ C, ty ≠ .object C) : U.vm.findClass ("[" ++ ty.toString) = some cA := by
  cases ty with
  | object C => exact absurd rfl (hp C)
  | _ => exact h
theorem nI_nn {b : Nat} (h : b < 2 ^ 31) : ¬ nI b < 0 := Int32.not_lt.mpr ((nI_leI (a := 0) (b := b) (by decide) h).mpr (Nat.zero_le b))
theorem V.newA (hC : Cok G K cc nL own Ts rm) {atype : ArrayType} (t0 : Nat) {cA : ClassId} (harr : Cond.arrayClass (newarray.typeOf atype) ∈ Ts) (ht : (TY G)[t0]? = some (cA, newarray.typeOf atype)) {n : Int32} (N : Nat) (a0 : vp_A) (ha : ∀ c : ClassId, vp_cell c a0 = arrV c N (fun _ => defaultValue (newarray.typeOf atype))) (hn : n = nI N) (hN : N < 100000) (hcells : cells + 1 ≤ rm.cells) (hslots : slots + N ≤ rm.slots) (hdg : decode cc pc = .ok (.newarray atype, 2))
    (h : ∀ q : Nat, V G K nL (cells + 1) (slots + N) (pc + 2) lv (.ref q :: st) (ws ++ [(q, .inl (cA, a0))])) : V G K nL cells slots pc lv (.int n :: st) ws := by
  intro H locs ls hP hD hS hl
  have hR := hC.2.2.2.2.2.1
  have hK := hC.2.2.2.2.2.2.1
  subst hn
  have hb : componentBytes (newarray.typeOf atype) ≤ 8 := by cases atype <;> decide
  have hpr : ∀ C, newarray.typeOf atype ≠ .object C := by intro C; cases atype <;> (intro z; cases z)
  refine va_newaK hC.1 hC.2.1 (hC.2.2.2.2.1 _ harr) rfl hdg rfl (N := N) (nI_nn (by omega)) (nI_clamp (by omega)) (Nat.le_trans (Nat.mul_le_mul (Nat.le_of_lt hN) hb) (by decide)) (by rw [hR]; exact hcells) (by rw [hR]; exact hslots) rfl fun H1 cA1 e1 z1 o1 hAr hNm => ?_
  have hcA : cA1 = cA := Option.some.inj (hNm.symm.trans (RA_prim (hK.2 t0 _ ht).2 hpr))
  subst hcA
  have hk : ∀ (k : Nat) (x : Nat × va_E), ws[k]? = some x → H1[x.1]? = H[x.1]? := fun k x hx => o1 x.1 ((hP k x hx).lt)
  refine h H.size H1 locs ls ((hP.kept hk).app (fun k x hx => ?_)) (hD.push hP rfl (hC.2.2.2.2.2.2.2.1 _ hS.1)) ⟨Nat.le_trans hS.1 (by omega), fun x h1 h2 => (o1 x (Nat.lt_of_lt_of_le h1 hS.1)).trans (hS.2.1 x h1 h2), hS.2.2⟩ hl
  have hz : k < 1 := (List.getElem?_eq_some_iff.mp hx).1
  rw [show k = 0 by omega] at hx
  cases hx
  show H1[H.size]? = some (vp_cell _ _)
  rw [ha]
  exact e1
theorem V.newQ (hC : Cok G K cc nL own Ts rm) {C : String} {index : Nat} (t0 : Nat) {cA : ClassId} (hcl : Cond.classLink own index C ∈ Ts) (hao : va_AO C (ks K)) (ht : (TY G)[t0]? = some (cA, .object C)) {n : Int32} (N : Nat) (hn : n = nI N) (hN : N < 100000) (hcells : cells + 1 ≤ rm.cells) (hslots : slots + N ≤ rm.slots) (hdg : decode cc pc = .ok (.anewarray index, 3))
    (h : ∀ q : Nat, V G K nL (cells + 1) (slots + N) (pc + 3) lv (.ref q :: st) (ws ++ [(q, .inl (cA, N, .inr (.inr (.inr (.inr (fun _ => none))))))])) : V G K nL cells slots pc lv (.int n :: st) ws := by
  intro H locs ls hP hD hS hl
  have hR := hC.2.2.2.2.2.1
  have hK := hC.2.2.2.2.2.2.1
  subst hn
  refine va_newq (D := G.1) (tys := TY G) hC.1 hC.2.1 hC.2.2.2.1 (hC.2.2.2.2.1 _ hcl) hao hK hP hD hS hC.2.2.2.2.2.2.2.1 (N' := N) (nI_nn (by omega)) (nI_clamp (by omega)) (Nat.le_trans (Nat.mul_le_mul_right 4 (Nat.le_of_lt hN)) (by decide)) (by rw [hR]; exact hcells) (by rw [hR]; exact hslots) hdg (fun q cA1 H1 hK1 hP1 hD1 hS1 => ?_)
  have hcA : cA1 = cA := by
    have e1 := (hK1.2 (TY G).length (cA1, .object C) (by rw [List.getElem?_append_right (Nat.le_refl _), Nat.sub_self]; rfl)).2
    have e2 := (hK.2 t0 _ ht).2
    obtain ⟨k1, c1, -, -, -, f1⟩ := e1
    obtain ⟨k2, c2, -, -, -, f2⟩ := e2
    exact Option.some.inj (f1.symm.trans f2)
  subst hcA
  exact h q H1 locs ls hP1 hD1 hS1 hl
end NEWROWS
/-- behind a call whose callee made cells of its own -/
theorem rj_okN {A0 : Nat → Prop} {D : va_G} {cl : List vw_C} {ws wc wa wb : va_W} {H H1 : Heap} {is : List Nat} (hP : va_P D cl ws H) (hD : va_D A0 ws) (hA0 : ∀ q, va_A wc H.size q → A0 q) (hs : is.map (fun i => ws[i]?) = wc.map some) (hn : va_nd is = true) (ha : wa.map Prod.fst = wc.map Prod.fst)
    (hk : ∀ q : Nat, q < H.size → ¬ va_A wc H.size q → H1[q]? = H[q]?) (hP1 : va_P D cl (wa ++ wb) H1) (hD1 : va_D (va_A wc H.size) (wa ++ wb)) : va_P D cl (rj ws is wa ++ wb) H1 ∧ va_D A0 (rj ws is wa ++ wb) := by
  have hPa : va_P D cl wa H1 := fun k q hq => hP1 k q (by rw [List.getElem?_append_left (List.getElem?_eq_some_iff.mp hq).1]; exact hq)
  have hj := rj_ok hP hD hs hn ha hk hPa
  have hlen : (rj ws is wa).length = ws.length := rj_len is ws wa
  have old : ∀ (k : Nat) (q : Nat × va_E), (rj ws is wa)[k]? = some q → q.1 < H.size := by
    intro k q hq
    have hadr : (rj ws is wa).map Prod.fst = ws.map Prod.fst := by
      apply List.ext_getElem?
      intro i
      by_cases hi : i ∈ is
      · obtain ⟨j, hj⟩ := List.getElem?_of_mem hi
        have h1 : (is.map (fun i => ws[i]?))[j]? = some (ws[i]?) := by rw [List.getElem?_map, hj]; rfl
        rw [hs, List.getElem?_map] at h1
        cases hc : wc[j]? with
        | none => rw [hc] at h1; cases h1
        | some x =>
          rw [hc] at h1
          have e1 : ws[i]? = some x := (Option.some.inj h1).symm
          have hl : is.length = wa.length := by
            have h2 := congrArg List.length hs
            have h3 := congrArg List.length ha
            simp at h2 h3
            omega
          rw [List.getElem?_map, List.getElem?_map, rj_in is ws wa j i hn hl hj (List.getElem?_eq_some_iff.mp e1).1, e1]
          have h4 : (wa.map Prod.fst)[j]? = (wc.map Prod.fst)[j]? := by rw [ha]
          rw [List.getElem?_map, List.getElem?_map, hc] at h4
          exact h4
      · rw [List.getElem?_map, List.getElem?_map, rj_out is ws wa i hi]
    have h5 : ((rj ws is wa).map Prod.fst)[k]? = some q.1 := by rw [List.getElem?_map, hq]; rfl
    rw [hadr, List.getElem?_map] at h5
    cases hw : ws[k]? with
    | none => rw [hw] at h5; cases h5
    | some x =>
      rw [hw] at h5
      rw [← Option.some.inj h5]
      exact (hP k x hw).lt
  have new : ∀ (k : Nat) (q : Nat × va_E), wb[k]? = some q → H.size ≤ q.1 := by
    intro k q hq
    have h1 : (wa ++ wb)[wa.length + k]? = some q := by rw [List.getElem?_append_right (by omega), show wa.length + k - wa.length = k by omega]; exact hq
    rcases hD1.2 _ _ h1 with ⟨j, e, hj2⟩ | hz
    · have h2 : (wc.map Prod.fst)[j]? = some q.1 := by rw [List.getElem?_map, hj2]; rfl
      rw [← ha, List.getElem?_map] at h2
      cases hw : wa[j]? with
      | none => rw [hw] at h2; cases h2
      | some x =>
        rw [hw] at h2
        have hjl := (List.getElem?_eq_some_iff.mp hw).1
        have h3 : (wa ++ wb)[j]? = some x := by rw [List.getElem?_append_left hjl]; exact hw
        have := hD1.1 j (wa.length + k) x q h3 h1 (Option.some.inj h2)
        omega
    · exact hz
  refine ⟨hj.1.app (fun k q hq => hP1 (wa.length + k) q (by rw [List.getElem?_append_right (by omega), show wa.length + k - wa.length = k by omega]; exact hq)), fun i j x y hi hjj hxy => ?_, fun k q hq => ?_⟩
  · rcases Nat.lt_or_ge i (rj ws is wa).length with h1 | h1 <;> rcases Nat.lt_or_ge j (rj ws is wa).length with h2 | h2
    · rw [List.getElem?_append_left h1] at hi
      rw [List.getElem?_append_left h2] at hjj
      exact hj.2.1 i j x y hi hjj hxy
    · rw [List.getElem?_append_left h1] at hi
      rw [List.getElem?_append_right h2] at hjj
      have a := old i x hi
      have b := new _ y hjj
      omega
    · rw [List.getElem?_append_right h1] at hi
      rw [List.getElem?_append_left h2] at hjj
      have a := old j y hjj
      have b := new _ x hi
      omega
    · rw [List.getElem?_append_right h1] at hi
      rw [List.getElem?_append_right h2] at hjj
      have e1 : (wa ++ wb)[wa.length + (i - (rj ws is wa).length)]? = some x := by rw [List.getElem?_append_right (by omega), show wa.length + (i - (rj ws is wa).length) - wa.length = i - (rj ws is wa).length by omega]; exact hi
      have e2 : (wa ++ wb)[wa.length + (j - (rj ws is wa).length)]? = some y := by rw [List.getElem?_append_right (by omega), show wa.length + (j - (rj ws is wa).length) - wa.length = j - (rj ws is wa).length by omega]; exact hjj
      have := hD1.1 _ _ x y e1 e2 hxy
      omega
  · rcases Nat.lt_or_ge k (rj ws is wa).length with h1 | h1
    · rw [List.getElem?_append_left h1] at hq
      exact hj.2.2 k q hq
    · rw [List.getElem?_append_right h1] at hq
      exact hA0 q.1 (Or.inr (new _ q hq))
section VCALLN
variable {α S : Type} {G : Gx} {K : Cx} {nL cells slots pc : Nat} {lv : List (Option Value)} {st rest As : List Value} {ws wc : va_W} {cc bytes : ByteArray} {own C host : String} {Ts Ty ws2 : List Cond} {rm rmy : Room} {SFc : (Nat → Prop) → State → Heap → Prop} {y : MethodName} {mk : α → Option Value} {Po : α → S → Prop} {w1 : S → va_W} {mc ms maxL index n b : Nat} {ret : Option FieldType}
/-- behind a call that makes cells: the caller's world with the callee's cells in their places, the new ones at the end -/
theorem V.runN {a : Array Value} (wa wb : S → va_W) (hsp : ∀ u, w1 u = wa u ++ wb u) (isC : List Nat) (hsub : isC.map (fun i => ws[i]?) = wc.map some) (hnd : va_nd isC = true) (hadr : ∀ u, (wa u).map Prod.fst = wc.map Prod.fst)
    (hA : ∀ q, (ks K).heap.size ≤ q → kA K q)
    (hrun : ∀ (H : Heap) (locs : List Loc) (ls : Array Slot), va_P G.1 vwCl ws H → va_D (kA K) ws → va_S (kA K) (ks K).heap H locs → Lh ls nL lv → va_Run (kp K) (kl K) (ke K) (kR K) (ks K) (km K) (ka K) (kb K) (kt K) (kc K) H locs cells slots mc ms (F0 (km K) pc ls st) rest (Qg mk Po (CB G w1 (va_A wc H.size)) (va_A wc H.size) a) (va_A wc H.size))
    (kk : ∀ (r : α) (u : S), Po r u → V G K nL (cells + mc) (slots + ms) (pc + 3) lv ((mk r).toList ++ rest) (rj ws isC (wa u) ++ wb u)) : V G K nL cells slots pc lv st ws := by
  intro H locs ls hP hD hS hl T hT X
  obtain ⟨v, st₀, t, T', L, h0, X', hL, e1, e2, ⟨⟨r, u, hv, hp, hb⟩, hz, hk⟩, stp⟩ := hrun H locs ls hP hD hS hl T hT X
  have hF := va_free hD hS hA isC hsub
  rw [h0] at hz hk
  have hv' : v = mk r := by cases hv; rfl
  subst hv'
  obtain ⟨hP1, hD1⟩ := hb
  rw [← e1, hsp u] at hP1
  rw [hsp u] at hD1
  have hj := rj_okN hP hD hF hsub hnd (hadr u) (fun q h1 h2 => by rw [e1]; exact hk q h1 h2) hP1 hD1
  obtain ⟨t2, a1, b1⟩ := kk r u hp T'.heap (locs ++ L) ls hj.1 hj.2
    ⟨Nat.le_trans hS.1 (by rw [e1]; exact hz), fun q h1 h2 => by rw [e1, hk q (Nat.lt_of_lt_of_le h1 hS.1) (fun z => h2 (hF q z))]; exact hS.2.1 q h1 h2, fun q hq => by
      rcases List.mem_append.mp hq with h | h
      · exact hS.2.2 q h
      · exact hF _ (hL q h)⟩ hl T' rfl X'
  exact ⟨t2, stp t2 a1, b1⟩
/-- x.<init>(..) -/
theorem V.callI (hC : Cok G K cc nL own Ts rm) (hM : Ct (kl K) G SFc y Ty rmy (.ref b :: As) wc mk Po w1 mc ms) (wa wb : S → va_W) (hsp : ∀ u, w1 u = wa u ++ wb u) (hk : SFk SFc) (hgo : SFgo K SFc) (hT : GoodIn Ts Ty) (hw : Ty = Cond.code y bytes maxL none :: ws2) (hrm : rmy.cells = mc ∧ rmy.slots = ms)
    (hini : Cond.initialized y.cls ∈ Ts) (hl0 : Cond.methodLink own index y ∈ Ts) (hin : Cond.instanceMethod y ∈ Ts) (hy1 : y.name = "<init>")
    (hd : y.cls ≠ "java/lang/invoke/MethodHandle" ∧ y.cls ≠ "java/lang/invoke/VarHandle" ∧ (parseMethodDescriptor y.desc).map (fun d => d.parameters.length) = some n) (hR : rmy.frames + 1 ≤ rm.frames ∧ 8 + (maxL + 11) + rmy.locals ≤ rm.locals ∧ cells + mc ≤ rm.cells ∧ slots + ms ≤ rm.slots)
    (isC : List Nat) (hsub : isC.map (fun i => ws[i]?) = wc.map some) (hnd : va_nd isC = true) (hadr : ∀ u, (wa u).map Prod.fst = wc.map Prod.fst)
    (hst : st = As.reverse ++ .ref b :: rest) (hn : As.length = n) (hsm : (rest.map fun v => v.category).sum ≤ 8) (hdg : decode cc pc = .ok (.invokespecial index, 3))
    (kk : ∀ (r : α) (u : S), Po r u → V G K nL (cells + mc) (slots + ms) (pc + 3) lv ((mk r).toList ++ rest) (rj ws isC (wa u) ++ wb u)) : V G K nL cells slots pc lv st ws := by
  refine V.runN (a := (Value.ref b :: As).toArray) wa wb hsp isC hsub hnd hadr hC.2.2.2.2.2.2.2.1 (fun H locs ls hP hD hS hl => ?_) kk
  have hRR := hC.2.2.2.2.2.1
  exact va_runI (As := As) (rest := rest) (Ts := Ts) (own := own) (nL := nL) (n := n) (b := b) (bytes := bytes) (maxL := maxL) ⟨hC.1, hC.2.1, hC.2.2.1, hC.2.2.2.1, hC.2.2.2.2.1⟩ (hM H.size) (cwI n hC.2.2.2.2.1 hT hw hrm.1 hrm.2 (hC.2.2.2.2.1 _ hini) (hC.2.2.2.2.1 _ hl0) (hC.2.2.2.2.1 _ hin) hy1 hd (by rw [hRR]; exact ⟨hR.1, hR.2.1⟩)) ⟨ct_blind hk, ct_pre (l := kl K) hC hgo hP hD hS hsub hnd⟩ rfl hn hl.1.1 hst (lv_room hsm) hdg (by rw [hRR]; exact hR.2.2)
/-- x.<init>(..), private to a nest mate -/
theorem V.callIN (hC : Cok G K cc nL own Ts rm) (hM : Ct (kl K) G SFc y Ty rmy (.ref b :: As) wc mk Po w1 mc ms) (wa wb : S → va_W) (hsp : ∀ u, w1 u = wa u ++ wb u) (hk : SFk SFc) (hgo : SFgo K SFc) (hT : GoodIn Ts Ty) (hw : Ty = Cond.code y bytes maxL none :: ws2) (hrm : rmy.cells = mc ∧ rmy.slots = ms)
    (hini : Cond.initialized y.cls ∈ Ts) (hl0 : va_Nw (.methodLinkNest own index y host) (ks K)) (hin : Cond.instanceMethod y ∈ Ts) (hy1 : y.name = "<init>")
    (hd : y.cls ≠ "java/lang/invoke/MethodHandle" ∧ y.cls ≠ "java/lang/invoke/VarHandle" ∧ (parseMethodDescriptor y.desc).map (fun d => d.parameters.length) = some n) (hR : rmy.frames + 1 ≤ rm.frames ∧ 8 + (maxL + 11) + rmy.locals ≤ rm.locals ∧ cells + mc ≤ rm.cells ∧ slots + ms ≤ rm.slots)
    (isC : List Nat) (hsub : isC.map (fun i => ws[i]?) = wc.map some) (hnd : va_nd isC = true) (hadr : ∀ u, (wa u).map Prod.fst = wc.map Prod.fst)
    (hst : st = As.reverse ++ .ref b :: rest) (hn : As.length = n) (hsm : (rest.map fun v => v.category).sum ≤ 8) (hdg : decode cc pc = .ok (.invokespecial index, 3))
    (kk : ∀ (r : α) (u : S), Po r u → V G K nL (cells + mc) (slots + ms) (pc + 3) lv ((mk r).toList ++ rest) (rj ws isC (wa u) ++ wb u)) : V G K nL cells slots pc lv st ws := by
  refine V.runN (a := (Value.ref b :: As).toArray) wa wb hsp isC hsub hnd hadr hC.2.2.2.2.2.2.2.1 (fun H locs ls hP hD hS hl => ?_) kk
  have hRR := hC.2.2.2.2.2.1
  exact va_runIN (As := As) (rest := rest) (Ts := Ts) (own := own) (nL := nL) (n := n) (b := b) (bytes := bytes) (maxL := maxL) ⟨hC.1, hC.2.1, hC.2.2.1, hC.2.2.2.1, hC.2.2.2.2.1⟩ (hM H.size) ⟨va_cnB n hC.2.2.2.2.1 hT hw hrm.1 hrm.2 hl0 (hC.2.2.2.2.1 _ hini) hd (by rw [hRR]; exact ⟨hR.1, hR.2.1⟩), hy1, hC.2.2.2.2.1 _ hin⟩ ⟨ct_blind hk, ct_pre (l := kl K) hC hgo hP hD hS hsub hnd⟩ rfl hn hl.1.1 hst (lv_room hsm) hdg (by rw [hRR]; exact hR.2.2)
end VCALLN
/-! ## methods that return or throw -/
def XCf {X : Type} (G : Gx) (Px : String → X → Prop) (wx : X → va_W) (A : Nat → Prop) : String → State → State → Prop := fun E st t => ∃ u : X, Px E u ∧ CB G wx A u t ∧ va_F A st t
def CtX {α S X : Type} (l : Launch) (G : Gx) (SF : (Nat → Prop) → State → Heap → Prop) (y : MethodName) (Ts : List Cond) (rm : Room) (av : List Value) (w0 : va_W) (mk : α → Option Value) (Po : α → S → Prop) (w1 : S → va_W) (Px : String → X → Prop) (wx : X → va_W) (mc ms : Nat) : Prop :=
  ∀ sz : Nat, vx_Met l y Ts rm (va_Pc av (CP G SF w0 sz)) (Qg mk Po (CB G w1 (va_A w0 sz)) (va_A w0 sz)) (XCf G Px wx (va_A w0 sz)) mc ms (va_A w0 sz)
/-- what a walk that may throw owes at its end -/
def XQ {X : Type} (G : Gx) (K : Cx) (Px : String → X → Prop) (wx : X → va_W) (mc ms : Nat) : Prop := (∃ Qc, kQ K = vx_MQ (kb K) Qc (XCf G Px wx (kA K)) (ka K) (ks K) mc ms (kA K)) ∧ ∀ x ∈ (kc K).exceptionTable.toList, False
/-- a frame with q thrown over it, q of the class E -/
def VX (G : Gx) (K : Cx) (nL cells slots pc : Nat) (lv : List (Option Value)) (rest : List Value) (ws : va_W) (E : String) : Prop :=
  ∀ (H : Heap) (locs : List Loc) (ls : Array Slot) (ce : Cell) (q : Nat), va_P G.1 vwCl ws H → va_D (kA K) ws → va_S (kA K) (ks K).heap H locs → Lh ls nL lv → H[q]? = some ce → ce.vm = .none → (ks K).vm.findClass E = some ce.cls → vx_W (kp K) (kl K) (ke K) (kR K) (ks K) (km K) (ka K) (kb K) (kt K) (kc K) H locs cells slots (kQ K) (F0 (km K) pc ls rest) q
section VXROWS
variable {α S X : Type} {G : Gx} {K : Cx} {nL cells slots pc : Nat} {lv : List (Option Value)} {st rest As : List Value} {ws wc w0 : va_W} {cc bytes : ByteArray} {own C : String} {Ts Ty ws2 ws' : List Cond} {rm rmy : Room} {SF SFc : (Nat → Prop) → State → Heap → Prop} {y : MethodName} {mk : α → Option Value} {Po : α → S → Prop} {w1 : S → va_W} {Px : String → X → Prop} {wx : X → va_W} {mc ms maxL index n b : Nat} {ret : Option FieldType} {l : Launch} {av : List Value}
theorem VX.out {Y : Type} {Py : String → Y → Prop} {wy : Y → va_W} (hC : Cok G K cc nL own Ts rm) (hQ : XQ G K Py wy mc ms) {E : String} (u : Y) (hu : Py E u) (hw : wy u = ws) (h1 : cells ≤ mc) (h2 : slots ≤ ms) : VX G K nL cells slots pc lv rest ws E := by
  intro H locs ls ce q hP hD hS hl hq hv hcl
  obtain ⟨⟨Qc, hQ⟩, ht⟩ := hQ
  rw [hQ]
  exact vx_out (E := E) (ce := ce) (fun x hx => (ht x hx).elim) hC.2.2.2.2.2.2.2.2 hq hv hcl (fun t hT hW => ⟨u, hu, ⟨by rw [hw, hT]; exact hP, by rw [hw]; exact hD⟩, hS.F hT⟩) hS.2.2 h1 h2
/-- behind a call that may throw -/
theorem V.runX {a : Array Value} (isC : List Nat) (hsub : isC.map (fun i => ws[i]?) = wc.map some) (hnd : va_nd isC = true) (hadr : ∀ u, (w1 u).map Prod.fst = wc.map Prod.fst) (hadx : ∀ u, (wx u).map Prod.fst = wc.map Prod.fst)
    (hA : ∀ q, (ks K).heap.size ≤ q → kA K q)
    (hrun : ∀ (H : Heap) (locs : List Loc) (ls : Array Slot), va_P G.1 vwCl ws H → va_D (kA K) ws → va_S (kA K) (ks K).heap H locs → Lh ls nL lv → vx_Run (kp K) (kl K) (ke K) (kR K) (ks K) (km K) (ka K) (kb K) (kt K) (kc K) H locs cells slots mc ms (F0 (km K) pc ls st) rest (Qg mk Po (CB G w1 (va_A wc H.size)) (va_A wc H.size) a) (XCf G Px wx (va_A wc H.size)) (va_A wc H.size))
    (kx : ∀ (E : String) (u : X), Px E u → VX G K nL (cells + mc) (slots + ms) pc lv rest (rj ws isC (wx u)) E)
    (kk : ∀ (r : α) (u : S), Po r u → V G K nL (cells + mc) (slots + ms) (pc + 3) lv ((mk r).toList ++ rest) (rj ws isC (w1 u))) : V G K nL cells slots pc lv st ws := by
  intro H locs ls hP hD hS hl T hT X
  have hF := va_free hD hS hA isC hsub
  rcases hrun H locs ls hP hD hS hl T hT X with ⟨v, st₀, t, T', L, h0, X', hL, e1, e2, ⟨⟨r, u, hv, hp, hb⟩, hz, hk⟩, stp⟩ | ⟨q, st₀, t, T', L, E, ce, h0, X', hL, e1, e2, ⟨u, hp, hb, hz, hk⟩, hce, hcv, hcl, stp⟩
  · rw [h0] at hz hk
    have hv' : v = mk r := by cases hv; rfl
    subst hv'
    obtain ⟨hP1, hD1⟩ := hb
    rw [← e1] at hP1
    have hj := rj_ok hP hD hsub hnd (hadr u) (fun q h1 h2 => by rw [e1]; exact hk q h1 h2) hP1
    obtain ⟨t2, a1, b1⟩ := kk r u hp T'.heap (locs ++ L) ls hj.1 hj.2
      ⟨Nat.le_trans hS.1 (by rw [e1]; exact hz), fun q h1 h2 => by rw [e1, hk q (Nat.lt_of_lt_of_le h1 hS.1) (fun z => h2 (hF q z))]; exact hS.2.1 q h1 h2, fun q hq => by
        rcases List.mem_append.mp hq with h | h
        · exact hS.2.2 q h
        · exact hF _ (hL q h)⟩ hl T' rfl X'
    exact ⟨t2, stp t2 a1, b1⟩
  · rw [h0] at hz hk
    obtain ⟨hP1, hD1⟩ := hb
    rw [← e1] at hP1
    have hj := rj_ok hP hD hsub hnd (hadx u) (fun q h1 h2 => by rw [e1]; exact hk q h1 h2) hP1
    obtain ⟨t2, a1, b1⟩ := kx E u hp T'.heap (locs ++ L) ls ce q hj.1 hj.2
      ⟨Nat.le_trans hS.1 (by rw [e1]; exact hz), fun q h1 h2 => by rw [e1, hk q (Nat.lt_of_lt_of_le h1 hS.1) (fun z => h2 (hF q z))]; exact hS.2.1 q h1 h2, fun q hq => by
        rcases List.mem_append.mp hq with h | h
        · exact hS.2.2 q h
        · exact hF _ (hL q h)⟩ hl (by rw [e1]; exact hce) hcv hcl T' rfl X'
    exact ⟨t2, stp.trans a1, b1⟩
/-- obj.m(..), m may throw -/
theorem V.callVX (hC : Cok G K cc nL own Ts rm) (hM : CtX (kl K) G SFc y Ty rmy (.ref b :: As) wc mk Po w1 Px wx mc ms) (hk : SFk SFc) (hgo : SFgo K SFc) (hT : GoodIn Ts (wsV own index C y Ty)) (hw : Ty = Cond.code y bytes maxL ret :: ws2) (hrm : rmy.cells = mc ∧ rmy.slots = ms)
    (hd : y.cls = C ∧ y.cls ≠ "java/lang/invoke/MethodHandle" ∧ y.cls ≠ "java/lang/invoke/VarHandle" ∧ (parseMethodDescriptor y.desc).map (fun d => d.parameters.length) = some n) (hR : rmy.frames + 1 ≤ rm.frames ∧ 8 + (maxL + 11) + rmy.locals ≤ rm.locals ∧ cells + mc ≤ rm.cells ∧ slots + ms ≤ rm.slots)
    (isC : List Nat) (hsub : isC.map (fun i => ws[i]?) = wc.map some) (hnd : va_nd isC = true) (hadr : ∀ u, (w1 u).map Prod.fst = wc.map Prod.fst) (hadx : ∀ u, (wx u).map Prod.fst = wc.map Prod.fst) {ci N : Nat} {fs : List Value} {T : u_T} (hb : wc[0]? = some (b, .inr (ci, fs))) (hci : vwCl[ci]? = some (C, T, N))
    (hst : st = As.reverse ++ .ref b :: rest) (hn : As.length = n) (hsm : (rest.map fun v => v.category).sum ≤ 8) (hdg : decode cc pc = .ok (.invokevirtual index, 3))
    (kx : ∀ (E : String) (u : X), Px E u → VX G K nL (cells + mc) (slots + ms) pc lv rest (rj ws isC (wx u)) E)
    (kk : ∀ (r : α) (u : S), Po r u → V G K nL (cells + mc) (slots + ms) (pc + 3) lv ((mk r).toList ++ rest) (rj ws isC (w1 u))) : V G K nL cells slots pc lv st ws := by
  refine V.runX (a := (Value.ref b :: As).toArray) isC hsub hnd hadr hadx hC.2.2.2.2.2.2.2.1 (fun H locs ls hP hD hS hl => ?_) kx kk
  have hRR := hC.2.2.2.2.2.1
  have hPc : va_P G.1 vwCl wc H := (ct_pre (l := kl K) (As := Value.ref b :: As) hC hgo hP hD hS hsub hnd ({ (ks K) with heap := H }) rfl (State.WarmedH.refl _)).2.2.1
  have hrecv := va_recv (s := ks K) hC.2.2.2.2.2.2.1 hPc hci hb
  exact vx_runV (C := C) (As := As) (rest := rest) (Ts := Ts) (own := own) (nL := nL) (n := n) (b := b) (bytes := bytes) (maxL := maxL) (ret := ret) ⟨hC.1, hC.2.1, hC.2.2.1, hC.2.2.2.1, hC.2.2.2.2.1⟩ (hM H.size) (cwV n hC.2.2.2.2.1 hT hw hrm.1 hrm.2 hd (by rw [hRR]; exact ⟨hR.1, hR.2.1⟩)) ⟨ct_blind hk, hrecv, ct_pre (l := kl K) hC hgo hP hD hS hsub hnd⟩ rfl hn hl.1.1 hst (lv_room hsm) hdg (by rw [hRR]; exact hR.2.2)
/-- T.m(..), m may throw -/
theorem V.callSX (hC : Cok G K cc nL own Ts rm) (hM : CtX (kl K) G SFc y Ty rmy As wc mk Po w1 Px wx mc ms) (hk : SFk SFc) (hgo : SFgo K SFc) (hT : GoodIn Ts (va_wsS own index y Ty)) (hw : Ty = Cond.code y bytes maxL ret :: ws2) (hrm : rmy.cells = mc ∧ rmy.slots = ms)
    (hd : y.cls ≠ "java/lang/invoke/MethodHandle" ∧ y.cls ≠ "java/lang/invoke/VarHandle" ∧ (parseMethodDescriptor y.desc).map (fun d => d.parameters.length) = some n) (hR : rmy.frames + 1 ≤ rm.frames ∧ 8 + (maxL + 11) + rmy.locals ≤ rm.locals ∧ cells + mc ≤ rm.cells ∧ slots + ms ≤ rm.slots)
    (isC : List Nat) (hsub : isC.map (fun i => ws[i]?) = wc.map some) (hnd : va_nd isC = true) (hadr : ∀ u, (w1 u).map Prod.fst = wc.map Prod.fst) (hadx : ∀ u, (wx u).map Prod.fst = wc.map Prod.fst)
    (hst : st = As.reverse ++ rest) (hn : As.length = n) (hsm : (rest.map fun v => v.category).sum ≤ 8) (hdg : decode cc pc = .ok (.invokestatic index, 3))
    (kx : ∀ (E : String) (u : X), Px E u → VX G K nL (cells + mc) (slots + ms) pc lv rest (rj ws isC (wx u)) E)
    (kk : ∀ (r : α) (u : S), Po r u → V G K nL (cells + mc) (slots + ms) (pc + 3) lv ((mk r).toList ++ rest) (rj ws isC (w1 u))) : V G K nL cells slots pc lv st ws := by
  refine V.runX (a := As.toArray) isC hsub hnd hadr hadx hC.2.2.2.2.2.2.2.1 (fun H locs ls hP hD hS hl => ?_) kx kk
  have hRR := hC.2.2.2.2.2.1
  exact vx_runS (As := As) (rest := rest) (Ts := Ts) (own := own) (nL := nL) (n := n) (bytes := bytes) (maxL := maxL) (ret := ret) ⟨hC.1, hC.2.1, hC.2.2.1, hC.2.2.2.1, hC.2.2.2.2.1⟩ (hM H.size) (va_cwS n hC.2.2.2.2.1 hT hw hrm.1 hrm.2 hd (by rw [hRR]; exact ⟨hR.1, hR.2.1⟩)) ⟨ct_blind hk, ct_pre (l := kl K) hC hgo hP hD hS hsub hnd⟩ rfl hn hl.1.1 hst (lv_room hsm) hdg (by rw [hRR]; exact hR.2.2)
/-- T.m(..), m has a table of its own -/
theorem V.callSXW {hh : List (Nat × Nat × Nat × Nat)} (hC : Cok G K cc nL own Ts rm) (hM : CtX (kl K) G SFc y Ty rmy As wc mk Po w1 Px wx mc ms) (hk : SFk SFc) (hgo : SFgo K SFc) (hT : GoodIn Ts (va_wsS own index y Ty)) (hw : Ty = Cond.codeWith y bytes maxL ret hh :: ws2) (hrm : rmy.cells = mc ∧ rmy.slots = ms)
    (hd : y.cls ≠ "java/lang/invoke/MethodHandle" ∧ y.cls ≠ "java/lang/invoke/VarHandle" ∧ (parseMethodDescriptor y.desc).map (fun d => d.parameters.length) = some n) (hR : rmy.frames + 1 ≤ rm.frames ∧ 8 + (maxL + 11) + rmy.locals ≤ rm.locals ∧ cells + mc ≤ rm.cells ∧ slots + ms ≤ rm.slots)
    (isC : List Nat) (hsub : isC.map (fun i => ws[i]?) = wc.map some) (hnd : va_nd isC = true) (hadr : ∀ u, (w1 u).map Prod.fst = wc.map Prod.fst) (hadx : ∀ u, (wx u).map Prod.fst = wc.map Prod.fst)
    (hst : st = As.reverse ++ rest) (hn : As.length = n) (hsm : (rest.map fun v => v.category).sum ≤ 8) (hdg : decode cc pc = .ok (.invokestatic index, 3))
    (kx : ∀ (E : String) (u : X), Px E u → VX G K nL (cells + mc) (slots + ms) pc lv rest (rj ws isC (wx u)) E)
    (kk : ∀ (r : α) (u : S), Po r u → V G K nL (cells + mc) (slots + ms) (pc + 3) lv ((mk r).toList ++ rest) (rj ws isC (w1 u))) : V G K nL cells slots pc lv st ws := by
  refine V.runX (a := As.toArray) isC hsub hnd hadr hadx hC.2.2.2.2.2.2.2.1 (fun H locs ls hP hD hS hl => ?_) kx kk
  have hRR := hC.2.2.2.2.2.1
  exact vx_runSX (As := As) (rest := rest) (Ts := Ts) (own := own) (nL := nL) (n := n) (bytes := bytes) (maxL := maxL) (ret := ret) (hh := hh) ⟨hC.1, hC.2.1, hC.2.2.1, hC.2.2.2.1, hC.2.2.2.2.1⟩ (hM H.size) (vx_cwSW n hC.2.2.2.2.1 hT hw hrm.1 hrm.2 hd (by rw [hRR]; exact ⟨hR.1, hR.2.1⟩)) ⟨ct_blind hk, ct_pre (l := kl K) hC hgo hP hD hS hsub hnd⟩ rfl hn hl.1.1 hst (lv_room hsm) hdg (by rw [hRR]; exact hR.2.2)
/-- caught here -/
theorem VX.catch (hC : Cok G K cc nL own Ts rm) {E name : String} (tab : List ExceptionTableEntry) (htab : (kc K).exceptionTable.toList = tab) (pre : List ExceptionTableEntry) (x : ExceptionTableEntry) (suf : List ExceptionTableEntry) (hsplit : tab = pre ++ x :: suf)
    (hpass : ∀ z ∈ pre, covers z pc = false ∨ (z.catchType ≠ 0 ∧ ∃ nm : String, Cond.classLink own z.catchType nm ∈ Ts ∧ va_Nc E nm (ks K))) (hx : covers x pc = true) (h0 : x.catchType ≠ 0)
    (hlink : Cond.classLink own x.catchType name ∈ Ts) (hcast : va_Nw (.castable E name) (ks K)) (kk : ∀ q : Nat, V G K nL cells slots x.handlerPc lv [.ref q] ws) : VX G K nL cells slots pc lv rest ws E := by
  intro H locs ls ce q hP hD hS hl hq hv hcl
  exact vx_catch (E := E) (name := name) (own := own) (ce := ce) hC.2.2.2.1 pre x suf (htab.trans hsplit) (fun z hz => (hpass z hz).imp id (fun ⟨a, nm, b, c⟩ => ⟨a, nm, hC.2.2.2.2.1 _ b, c⟩)) hx h0 (hC.2.2.2.2.1 _ hlink) (va_Nw.use rfl hcast) hq hv hcl (kk q H locs ls hP hD hS hl)
end VXROWS
section CTXOF
variable {S X : Type} {l : Launch} {G : Gx} {SF : (Nat → Prop) → State → Heap → Prop} {y : MethodName} {Ty ws' : List Cond} {rm : Room} {av : List Value} {w0 : va_W} {w1 : S → va_W} {Px : String → X → Prop} {wx : X → va_W} {mc ms maxL : Nat} {cc : ByteArray}
theorem CtX.ofI {Po : Int32 → S → Prop} {ty : FieldType} (hy : plainName y.cls = true) (hw : Ty = Cond.code y cc maxL (some ty) :: ws') (hav : avOk av maxL)
    (body : ∀ K : Cx, kl K = l → Cok G K cc maxL y.cls Ty rm → SF (kA K) (ks K) (ks K).heap → (kt K).name = y.name → XQ G K Px wx mc ms → (∀ (pc : Nat) (lv : List (Option Value)) (v : Int32) (u : S), decode cc pc = .ok (.ireturn, 1) → narrow ty (.int v) = .int v → Po v u → V G K maxL mc ms pc lv [.int v] (w1 u)) → V G K maxL 0 0 0 (lv0 av maxL) [] w0) : CtX l G SF y Ty rm av w0 mkI Po w1 Px wx mc ms := by
  intro sz
  refine vx_ofW (cc := cc) (maxL := maxL) (ret := some ty) hy hw ?_
  intro p e s m args below meth c s₁ B hml htab hv
  obtain ⟨rfl, hsz, hP, hK, hD0, hSF⟩ := hv
  subst hsz
  have hb := body (p, l, e, (headSpec Ty rm).room, s, m, av.toArray, below, meth, c, va_A w0 s.heap.size, vx_MQ below (Qg mkI Po (CB G w1 (va_A w0 s.heap.size)) (va_A w0 s.heap.size)) (XCf G Px wx (va_A w0 s.heap.size)) av.toArray s mc ms (va_A w0 s.heap.size)) rfl ⟨B.exec, B.bytes, hml, findClass_of_methodNamed B.named, atoms_spec (ws := Ty) B.pre, rfl, hK, fun q h => Or.inr h, B.notSynchronized⟩ hSF (name_of_methodNamed B.named B.method).1 ⟨⟨_, rfl⟩, htab⟩
    (fun pc lv v u hd hn hp H locs ls hP hD hS hl => vx_ret (W.zret (v := v) B.exec B.bytes B.returns hn (fun t ht hW => ⟨⟨v, u, rfl, hp, by rw [ht]; exact hP, hD⟩, hS.F ht⟩) hS.2.2 hd B.notSynchronized))
  rw [lg_entry_eq]
  exact hb s.heap [] _ hP hD0.self va_S.rf (Lh_entry hav)
theorem CtX.ofV {Po : Unit → S → Prop} (hy : plainName y.cls = true) (hw : Ty = Cond.code y cc maxL none :: ws') (hav : avOk av maxL)
    (body : ∀ K : Cx, kl K = l → Cok G K cc maxL y.cls Ty rm → SF (kA K) (ks K) (ks K).heap → (kt K).name = y.name → XQ G K Px wx mc ms → (∀ (pc : Nat) (lv : List (Option Value)) (u : S), decode cc pc = .ok (.return_, 1) → Po () u → V G K maxL mc ms pc lv [] (w1 u)) → V G K maxL 0 0 0 (lv0 av maxL) [] w0) : CtX l G SF y Ty rm av w0 mkV Po w1 Px wx mc ms := by
  intro sz
  refine vx_ofW (cc := cc) (maxL := maxL) (ret := none) hy hw ?_
  intro p e s m args below meth c s₁ B hml htab hv
  obtain ⟨rfl, hsz, hP, hK, hD0, hSF⟩ := hv
  subst hsz
  have hb := body (p, l, e, (headSpec Ty rm).room, s, m, av.toArray, below, meth, c, va_A w0 s.heap.size, vx_MQ below (Qg mkV Po (CB G w1 (va_A w0 s.heap.size)) (va_A w0 s.heap.size)) (XCf G Px wx (va_A w0 s.heap.size)) av.toArray s mc ms (va_A w0 s.heap.size)) rfl ⟨B.exec, B.bytes, hml, findClass_of_methodNamed B.named, atoms_spec (ws := Ty) B.pre, rfl, hK, fun q h => Or.inr h, B.notSynchronized⟩ hSF (name_of_methodNamed B.named B.method).1 ⟨⟨_, rfl⟩, htab⟩
    (fun pc lv u hd hp H locs ls hP hD hS hl => vx_ret (W.vret B.exec B.bytes B.returns (fun t ht hW => ⟨⟨(), u, rfl, hp, by rw [ht]; exact hP, hD⟩, hS.F ht⟩) hS.2.2 hd B.notSynchronized))
  rw [lg_entry_eq]
  exact hb s.heap [] _ hP hD0.self va_S.rf (Lh_entry hav)
theorem CtX.ofA {α : Type} {mk : α → Value} {Po : α → S → Prop} {rt : FieldType} (hmk : ∀ r, mk r = .null ∨ ∃ a, mk r = .ref a) (hrt : (∃ n, rt = .object n) ∨ ∃ t, rt = .array t) (hy : plainName y.cls = true) (hw : Ty = Cond.code y cc maxL (some rt) :: ws') (hav : avOk av maxL)
    (body : ∀ K : Cx, kl K = l → Cok G K cc maxL y.cls Ty rm → SF (kA K) (ks K) (ks K).heap → (kt K).name = y.name → XQ G K Px wx mc ms → (∀ (pc : Nat) (lv : List (Option Value)) (r : α) (u : S), decode cc pc = .ok (.areturn, 1) → Po r u → V G K maxL mc ms pc lv [mk r] (w1 u)) → V G K maxL 0 0 0 (lv0 av maxL) [] w0) : CtX l G SF y Ty rm av w0 (fun r => some (mk r)) Po w1 Px wx mc ms := by
  intro sz
  refine vx_ofW (cc := cc) (maxL := maxL) (ret := some rt) hy hw ?_
  intro p e s m args below meth c s₁ B hml htab hv
  obtain ⟨rfl, hsz, hP, hK, hD0, hSF⟩ := hv
  subst hsz
  have hb := body (p, l, e, (headSpec Ty rm).room, s, m, av.toArray, below, meth, c, va_A w0 s.heap.size, vx_MQ below (Qg (fun r => some (mk r)) Po (CB G w1 (va_A w0 s.heap.size)) (va_A w0 s.heap.size)) (XCf G Px wx (va_A w0 s.heap.size)) av.toArray s mc ms (va_A w0 s.heap.size)) rfl ⟨B.exec, B.bytes, hml, findClass_of_methodNamed B.named, atoms_spec (ws := Ty) B.pre, rfl, hK, fun q h => Or.inr h, B.notSynchronized⟩ hSF (name_of_methodNamed B.named B.method).1 ⟨⟨_, rfl⟩, htab⟩
    (fun pc lv r u hd hp H locs ls hP hD hS hl => vx_ret (W.aret (v := mk r) B.exec B.bytes B.returns hrt (hmk r) (fun t ht hW => ⟨⟨r, u, rfl, hp, by rw [ht]; exact hP, hD⟩, hS.F ht⟩) hS.2.2 hd B.notSynchronized))
  rw [lg_entry_eq]
  exact hb s.heap [] _ hP hD0.self va_S.rf (Lh_entry hav)
theorem CtX.ofD {Po : UInt64 → S → Prop} (hy : plainName y.cls = true) (hw : Ty = Cond.code y cc maxL (some .double) :: ws') (hav : avOk av maxL)
    (body : ∀ K : Cx, kl K = l → Cok G K cc maxL y.cls Ty rm → SF (kA K) (ks K) (ks K).heap → (kt K).name = y.name → XQ G K Px wx mc ms → (∀ (pc : Nat) (lv : List (Option Value)) (v : UInt64) (u : S), decode cc pc = .ok (.dreturn, 1) → Po v u → V G K maxL mc ms pc lv [.double v] (w1 u)) → V G K maxL 0 0 0 (lv0 av maxL) [] w0) : CtX l G SF y Ty rm av w0 mkD Po w1 Px wx mc ms := by
  intro sz
  refine vx_ofW (cc := cc) (maxL := maxL) (ret := some .double) hy hw ?_
  intro p e s m args below meth c s₁ B hml htab hv
  obtain ⟨rfl, hsz, hP, hK, hD0, hSF⟩ := hv
  subst hsz
  have hb := body (p, l, e, (headSpec Ty rm).room, s, m, av.toArray, below, meth, c, va_A w0 s.heap.size, vx_MQ below (Qg mkD Po (CB G w1 (va_A w0 s.heap.size)) (va_A w0 s.heap.size)) (XCf G Px wx (va_A w0 s.heap.size)) av.toArray s mc ms (va_A w0 s.heap.size)) rfl ⟨B.exec, B.bytes, hml, findClass_of_methodNamed B.named, atoms_spec (ws := Ty) B.pre, rfl, hK, fun q h => Or.inr h, B.notSynchronized⟩ hSF (name_of_methodNamed B.named B.method).1 ⟨⟨_, rfl⟩, htab⟩
    (fun pc lv v u hd hp H locs ls hP hD hS hl => vx_ret (W.dret (v := v) B.exec B.bytes B.returns (fun t ht hW => ⟨⟨v, u, rfl, hp, by rw [ht]; exact hP, hD⟩, hS.F ht⟩) hS.2.2 hd B.notSynchronized))
  rw [lg_entry_eq]
  exact hb s.heap [] _ hP hD0.self va_S.rf (Lh_entry hav)
theorem CtX.ofF {Po : UInt32 → S → Prop} (hy : plainName y.cls = true) (hw : Ty = Cond.code y cc maxL (some .float) :: ws') (hav : avOk av maxL)
    (body : ∀ K : Cx, kl K = l → Cok G K cc maxL y.cls Ty rm → SF (kA K) (ks K) (ks K).heap → (kt K).name = y.name → XQ G K Px wx mc ms → (∀ (pc : Nat) (lv : List (Option Value)) (v : UInt32) (u : S), decode cc pc = .ok (.freturn, 1) → Po v u → V G K maxL mc ms pc lv [.float v] (w1 u)) → V G K maxL 0 0 0 (lv0 av maxL) [] w0) : CtX l G SF y Ty rm av w0 mkF Po w1 Px wx mc ms := by
  intro sz
  refine vx_ofW (cc := cc) (maxL := maxL) (ret := some .float) hy hw ?_
  intro p e s m args below meth c s₁ B hml htab hv
  obtain ⟨rfl, hsz, hP, hK, hD0, hSF⟩ := hv
  subst hsz
  have hb := body (p, l, e, (headSpec Ty rm).room, s, m, av.toArray, below, meth, c, va_A w0 s.heap.size, vx_MQ below (Qg mkF Po (CB G w1 (va_A w0 s.heap.size)) (va_A w0 s.heap.size)) (XCf G Px wx (va_A w0 s.heap.size)) av.toArray s mc ms (va_A w0 s.heap.size)) rfl ⟨B.exec, B.bytes, hml, findClass_of_methodNamed B.named, atoms_spec (ws := Ty) B.pre, rfl, hK, fun q h => Or.inr h, B.notSynchronized⟩ hSF (name_of_methodNamed B.named B.method).1 ⟨⟨_, rfl⟩, htab⟩
    (fun pc lv v u hd hp H locs ls hP hD hS hl => vx_ret (W.fret (v := v) B.exec B.bytes B.returns (fun t ht hW => ⟨⟨v, u, rfl, hp, by rw [ht]; exact hP, hD⟩, hS.F ht⟩) hS.2.2 hd B.notSynchronized))
  rw [lg_entry_eq]
  exact hb s.heap [] _ hP hD0.self va_S.rf (Lh_entry hav)
/-- a method with a table of its own, that answers an int -/
theorem CtX.ofIW {Po : Int32 → S → Prop} {ty : FieldType} {hh : List (Nat × Nat × Nat × Nat)} (hy : plainName y.cls = true) (hw : Ty = Cond.codeWith y cc maxL (some ty) hh :: ws') (hav : avOk av maxL)
    (body : ∀ K : Cx, kl K = l → Cok G K cc maxL y.cls Ty rm → SF (kA K) (ks K) (ks K).heap → (kt K).name = y.name → (kc K).exceptionTable.toList = tableOf hh → (∀ (pc : Nat) (lv : List (Option Value)) (v : Int32) (u : S), decode cc pc = .ok (.ireturn, 1) → narrow ty (.int v) = .int v → Po v u → V G K maxL mc ms pc lv [.int v] (w1 u)) → V G K maxL 0 0 0 (lv0 av maxL) [] w0) : CtX l G SF y Ty rm av w0 mkI Po w1 Px wx mc ms := by
  intro sz
  refine vx_ofWH (cc := cc) (maxL := maxL) (ret := some ty) (hh := hh) hy hw ?_
  intro p e s m args below meth c s₁ B hml hv
  obtain ⟨rfl, hsz, hP, hK, hD0, hSF⟩ := hv
  subst hsz
  have htab := vx_table (x := y) B (atoms_spec (ws := Ty) B.pre _ (by rw [hw]; exact List.mem_cons_self))
  have hb := body (p, l, e, (headSpec Ty rm).room, s, m, av.toArray, below, meth, c, va_A w0 s.heap.size, vx_MQ below (Qg mkI Po (CB G w1 (va_A w0 s.heap.size)) (va_A w0 s.heap.size)) (XCf G Px wx (va_A w0 s.heap.size)) av.toArray s mc ms (va_A w0 s.heap.size)) rfl ⟨B.exec, B.bytes, hml, findClass_of_methodNamed B.named, atoms_spec (ws := Ty) B.pre, rfl, hK, fun q h => Or.inr h, B.notSynchronized⟩ hSF (name_of_methodNamed B.named B.method).1 htab
    (fun pc lv v u hd hn hp H locs ls hP hD hS hl => vx_ret (W.zret (v := v) B.exec B.bytes B.returns hn (fun t ht hW => ⟨⟨v, u, rfl, hp, by rw [ht]; exact hP, hD⟩, hS.F ht⟩) hS.2.2 hd B.notSynchronized))
  rw [lg_entry_eq]
  exact hb s.heap [] _ hP hD0.self va_S.rf (Lh_entry hav)
end CTXOF
/-! ## the throw itself -/
abbrev nm2 : List String := ["java/lang/RuntimeException", "java/lang/Exception"]
def dcL : List MethodName := [Bundle.initS "java/lang/RuntimeException", Bundle.initS "java/lang/Exception", Bundle.initS "java/lang/Throwable"]
/-- what a throw of E in FeatherShares needs of the lists, by decision -/
def ThrOk (ik ic : Nat) (E : String) : Prop := Bundle.fit E = true ∧ (∀ n ∈ nm2, Bundle.fit n = true) ∧ (∀ w ∈ (vx_atS RX12 ic E nm2).filter (fun w => !goodWord w), w ∈ Cond.castable E E :: dcL.map Cond.declares) ∧ ∀ w ∈ Cond.classLink RX12 ik E :: Cond.initialized E :: vx_atS RX12 ic E nm2, vx_ot w = true
set_option maxRecDepth 20000 in
theorem thr_IA : ThrOk 204 208 "java/lang/IllegalArgumentException" := ⟨by decide +kernel, by decide +kernel, by decide +kernel, by decide +kernel⟩
set_option maxRecDepth 20000 in
theorem thr_IO : ThrOk 142 146 "java/lang/IndexOutOfBoundsException" := ⟨by decide +kernel, by decide +kernel, by decide +kernel, by decide +kernel⟩
set_option maxRecDepth 20000 in
theorem thr_NS : ThrOk 122 126 "java/util/NoSuchElementException" := ⟨by decide +kernel, by decide +kernel, by decide +kernel, by decide +kernel⟩
set_option maxRecDepth 20000 in
theorem thr_IS : ThrOk 162 166 "java/lang/IllegalStateException" := ⟨by decide +kernel, by decide +kernel, by decide +kernel, by decide +kernel⟩
set_option maxRecDepth 20000 in
theorem thr_UO : ThrOk 263 267 "java/lang/UnsupportedOperationException" := ⟨by decide +kernel, by decide +kernel, by decide +kernel, by decide +kernel⟩
set_option maxRecDepth 20000 in
theorem thr_AE : ThrOk 221 225 "java/lang/ArithmeticException" := ⟨by decide +kernel, by decide +kernel, by decide +kernel, by decide +kernel⟩
section THROWS
variable {X : Type} {G : Gx} {K : Cx} {nL cells slots pc : Nat} {lv : List (Option Value)} {rest : List Value} {ws : va_W} {cc : ByteArray} {Ts : List Cond} {rm : Room} {Px : String → X → Prop} {wx : X → va_W} {mc ms : Nat}
theorem V.throwS (hC : Cok G K cc nL RX12 Ts rm) (hQ : XQ G K Px wx mc ms) (hst : (kl K).stackTraces = false) {E text : String} {ik is ic : Nat} (u : X) (hu : Px E u) (hw : wx u = ws) (hok : ThrOk ik ic E)
    (hU : vx_Zq Bundle.tN "UNASSIGNED_STACK" Bundle.steD (kA K) (ks K) (ks K).heap) (hN : vx_Zq Bundle.tN "SUPPRESSED_SENTINEL" Bundle.listD (kA K) (ks K) (ks K).heap) (hstr : ∃ sa, vk_R RX12 is text sa (ks K)) (hca : va_Nw (.castable E E) (ks K)) (hde : ∀ x ∈ dcL, va_Nw (.declares x) (ks K))
    (hk : Cond.classLink RX12 ik E ∈ Ts) (hini : Cond.initialized E ∈ Ts) (hat : ∀ w ∈ (vx_atS RX12 ic E nm2).filter goodWord, w ∈ Ts)
    (d0 : decode cc pc = .ok (.new ik, 3)) (d3 : decode cc (pc + 3) = .ok (.dup, 1)) (d4 : decode cc (pc + 4) = .ok (.ldc is, 2)) (d6 : decode cc (pc + 6) = .ok (.invokespecial ic, 3)) (d9 : decode cc (pc + 9) = .ok (.athrow, 1))
    (hr : 5 < rm.frames ∧ (rest.map fun v => v.category).sum + 82 ≤ rm.locals ∧ cells + 1 ≤ rm.cells ∧ slots + 6 ≤ rm.slots ∧ cells + 1 ≤ mc ∧ slots + 6 ≤ ms) : V G K nL cells slots pc lv rest ws := by
  intro H locs ls hP hD hS hl
  have hR := hC.2.2.2.2.2.1
  have hts := hC.2.2.2.2.1
  obtain ⟨sa, hstr⟩ := hstr
  obtain ⟨⟨Qc, hQ⟩, ht⟩ := hQ
  rw [hQ]
  exact vx_throwS (names := nm2) (sa := sa) (text := text) (A := kA K) hC.1 hC.2.1 hst hC.2.2.2.1 hok.1 hok.2.1 (hts _ hk) (hts _ hini) hstr
    (vx_hat (fun w hw => hts w (hat w hw)) hok.2.2.1 (vx_c (va_Nw.use rfl hca) (fun w hw => by
      obtain ⟨x, hx, rfl⟩ := List.mem_map.mp hw
      exact va_Nw.use rfl (hde x hx)))) hok.2.2.2 hU hN hS (hl.1.1.trans hC.2.2.1.symm) d0 d3 d4 d6 d9 (fun x hx => (ht x hx).elim)
    (by rw [hR]; exact hr.1) (by rw [hR]; exact hr.2.1) (by rw [hR]; exact hr.2.2.1) (by rw [hR]; exact hr.2.2.2.1) hC.2.2.2.2.2.2.2.2
    (fun t hvm hsz hq => ⟨u, hu, ⟨by rw [hw]; exact hP.kept (fun k x hx => hq x.1 ((hP k x hx).lt)), by rw [hw]; exact hD⟩, ⟨Nat.le_trans hS.1 hsz, fun q h1 h2 => (hq q (Nat.lt_of_lt_of_le h1 hS.1)).trans (hS.2.1 q h1 h2)⟩⟩) hS.2.2 hr.2.2.2.2.1 hr.2.2.2.2.2
theorem V.throwSW (hC : Cok G K cc nL RX12 Ts rm) (hQ : XQ G K Px wx mc ms) (hst : (kl K).stackTraces = false) {E text : String} {ik is ic : Nat} (u : X) (hu : Px E u) (hw : wx u = ws) (hok : ThrOk ik ic E)
    (hU : vx_Zq Bundle.tN "UNASSIGNED_STACK" Bundle.steD (kA K) (ks K) (ks K).heap) (hN : vx_Zq Bundle.tN "SUPPRESSED_SENTINEL" Bundle.listD (kA K) (ks K) (ks K).heap) (hstr : ∃ sa, vk_R RX12 is text sa (ks K)) (hca : va_Nw (.castable E E) (ks K)) (hde : ∀ x ∈ dcL, va_Nw (.declares x) (ks K))
    (hk : Cond.classLink RX12 ik E ∈ Ts) (hini : Cond.initialized E ∈ Ts) (hat : ∀ w ∈ (vx_atS RX12 ic E nm2).filter goodWord, w ∈ Ts)
    (d0 : decode cc pc = .ok (.new ik, 3)) (d3 : decode cc (pc + 3) = .ok (.dup, 1)) (d4 : decode cc (pc + 4) = .ok (.ldc_w is, 3)) (d7 : decode cc (pc + 7) = .ok (.invokespecial ic, 3)) (d10 : decode cc (pc + 10) = .ok (.athrow, 1))
    (hr : 5 < rm.frames ∧ (rest.map fun v => v.category).sum + 82 ≤ rm.locals ∧ cells + 1 ≤ rm.cells ∧ slots + 6 ≤ rm.slots ∧ cells + 1 ≤ mc ∧ slots + 6 ≤ ms) : V G K nL cells slots pc lv rest ws := by
  intro H locs ls hP hD hS hl
  have hR := hC.2.2.2.2.2.1
  have hts := hC.2.2.2.2.1
  obtain ⟨sa, hstr⟩ := hstr
  obtain ⟨⟨Qc, hQ⟩, ht⟩ := hQ
  rw [hQ]
  exact vx_throwSW (names := nm2) (sa := sa) (text := text) (A := kA K) hC.1 hC.2.1 hst hC.2.2.2.1 hok.1 hok.2.1 (hts _ hk) (hts _ hini) hstr
    (vx_hat (fun w hw => hts w (hat w hw)) hok.2.2.1 (vx_c (va_Nw.use rfl hca) (fun w hw => by
      obtain ⟨x, hx, rfl⟩ := List.mem_map.mp hw
      exact va_Nw.use rfl (hde x hx)))) hok.2.2.2 hU hN hS (hl.1.1.trans hC.2.2.1.symm) d0 d3 d4 d7 d10 (fun x hx => (ht x hx).elim)
    (by rw [hR]; exact hr.1) (by rw [hR]; exact hr.2.1) (by rw [hR]; exact hr.2.2.1) (by rw [hR]; exact hr.2.2.2.1) hC.2.2.2.2.2.2.2.2
    (fun t hvm hsz hq => ⟨u, hu, ⟨by rw [hw]; exact hP.kept (fun k x hx => hq x.1 ((hP k x hx).lt)), by rw [hw]; exact hD⟩, ⟨Nat.le_trans hS.1 hsz, fun q h1 h2 => (hq q (Nat.lt_of_lt_of_le h1 hS.1)).trans (hS.2.1 q h1 h2)⟩⟩) hS.2.2 hr.2.2.2.2.1 hr.2.2.2.2.2
end THROWS
/-! ## a contract in a wider room -/
theorem hasRoom_le {s : State} {pl : Platform} {r r' : Room} (h1 : r.frames ≤ r'.frames) (h2 : r.locals ≤ r'.locals) (h3 : r.cells ≤ r'.cells) (h4 : r.slots ≤ r'.slots) (h : s.hasRoom pl r' = true) : s.hasRoom pl r = true := by
  simp only [State.hasRoom, Bool.and_eq_true, decide_eq_true_eq] at h ⊢
  obtain ⟨⟨⟨⟨a1, a2, a3, a4, a5, a6⟩, a7⟩, a8⟩, a9⟩ := h
  exact ⟨⟨⟨⟨by omega, by omega, by omega, by omega, by omega, a6⟩, by omega⟩, by omega⟩, a9⟩
theorem MetFree.roomUp {l : Launch} {y : MethodName} {ws : List Cond} {rm rm' : Room} {P : Array Value → State → Prop} {Kk : Program → Env → List Frame → State → Array Value → Prop} {Q : Array Value → State → Outcome → State → Prop} (h : MetFree l y (headSpec ws rm) P Kk Q) (h1 : rm.frames ≤ rm'.frames) (h2 : rm.locals ≤ rm'.locals) (h3 : rm.cells ≤ rm'.cells) (h4 : rm.slots ≤ rm'.slots) : MetFree l y (headSpec ws rm') P Kk Q := by
  intro p e ha hc hk s m args below hf happ hp hk'
  obtain ⟨a1, a2, a3, a4, a5, a6, a7, a8⟩ := (Spec.appliesLoose_iff hf).mp happ
  exact h p e ha hc hk s m args below hf ((Spec.appliesLoose_iff hf).mpr ⟨a1, a2, a3, a4, a5, a6, hasRoom_le h1 h2 h3 h4 a7, a8⟩) hp hk'
theorem Ct.room {α S : Type} {l : Launch} {G : Gx} {SF : (Nat → Prop) → State → Heap → Prop} {y : MethodName} {Ts : List Cond} {rm rm' : Room} {av : List Value} {w0 : va_W} {mk : α → Option Value} {Po : α → S → Prop} {w1 : S → va_W} {mc ms : Nat} (h : Ct l G SF y Ts rm av w0 mk Po w1 mc ms) (h1 : rm.frames ≤ rm'.frames) (h2 : rm.locals ≤ rm'.locals) (h3 : rm.cells ≤ rm'.cells) (h4 : rm.slots ≤ rm'.slots) : Ct l G SF y Ts rm' av w0 mk Po w1 mc ms := fun sz => MetFree.roomUp (h sz) h1 h2 h3 h4
theorem CtX.room {α S X : Type} {l : Launch} {G : Gx} {SF : (Nat → Prop) → State → Heap → Prop} {y : MethodName} {Ts : List Cond} {rm rm' : Room} {av : List Value} {w0 : va_W} {mk : α → Option Value} {Po : α → S → Prop} {w1 : S → va_W} {Px : String → X → Prop} {wx : X → va_W} {mc ms : Nat} (h : CtX l G SF y Ts rm av w0 mk Po w1 Px wx mc ms) (h1 : rm.frames ≤ rm'.frames) (h2 : rm.locals ≤ rm'.locals) (h3 : rm.cells ≤ rm'.cells) (h4 : rm.slots ≤ rm'.slots) : CtX l G SF y Ts rm' av w0 mk Po w1 Px wx mc ms := fun sz => MetFree.roomUp (h sz) h1 h2 h3 h4
/-- weaker words behind: another name for the answer and the world -/
theorem Ct.mono {α S S' : Type} {l : Launch} {G : Gx} {SF : (Nat → Prop) → State → Heap → Prop} {y : MethodName} {Ts : List Cond} {rm : Room} {av : List Value} {w0 : va_W} {mk : α → Option Value} {Po : α → S → Prop} {Po' : α → S' → Prop} {w1 : S → va_W} {w1' : S' → va_W} {mc ms : Nat} (h : Ct l G SF y Ts rm av w0 mk Po w1 mc ms) (hp : ∀ r u, Po r u → ∃ u', Po' r u' ∧ w1' u' = w1 u) : Ct l G SF y Ts rm av w0 mk Po' w1' mc ms := by
  intro sz
  refine MetFree.mono (h sz) (fun _ _ z => z) (fun _ _ _ _ _ z => z) (fun a s o t hP hQ => ?_)
  obtain ⟨⟨⟨r, u, ho, hpo, hb⟩, hF⟩, L⟩ := hQ
  obtain ⟨u', hp', hw⟩ := hp r u hpo
  exact ⟨⟨⟨r, u', ho, hp', by rw [CB, hw]; exact hb⟩, hF⟩, L⟩
section VXR
variable {α S X : Type} {G : Gx} {K : Cx} {nL cells slots pc : Nat} {lv : List (Option Value)} {st rest As : List Value} {ws wc w0 : va_W} {cc bytes : ByteArray} {own C : String} {Ts Ty ws2 ws' : List Cond} {rm rmy : Room} {SF SFc : (Nat → Prop) → State → Heap → Prop} {y : MethodName} {mk : α → Option Value} {Po : α → S → Prop} {w1 : S → va_W} {Px : String → X → Prop} {wx : X → va_W} {mc ms maxL index n b : Nat} {ret : Option FieldType} {l : Launch} {av : List Value}
theorem V.callVXr (hC : Cok G K cc nL own Ts rm) (hM : CtX (kl K) G SFc y Ty rmy (.ref b :: As) wc mk Po (fun _ => wc) Px (fun _ => wc) mc ms) (hk : SFk SFc) (hgo : SFgo K SFc) (hT : GoodIn Ts (wsV own index C y Ty)) (hw : Ty = Cond.code y bytes maxL ret :: ws2) (hrm : rmy.cells = mc ∧ rmy.slots = ms)
    (hd : y.cls = C ∧ y.cls ≠ "java/lang/invoke/MethodHandle" ∧ y.cls ≠ "java/lang/invoke/VarHandle" ∧ (parseMethodDescriptor y.desc).map (fun d => d.parameters.length) = some n) (hR : rmy.frames + 1 ≤ rm.frames ∧ 8 + (maxL + 11) + rmy.locals ≤ rm.locals ∧ cells + mc ≤ rm.cells ∧ slots + ms ≤ rm.slots)
    (isC : List Nat) (hsub : isC.map (fun i => ws[i]?) = wc.map some) (hnd : va_nd isC = true) {ci N : Nat} {fs : List Value} {T : u_T} (hb : wc[0]? = some (b, .inr (ci, fs))) (hci : vwCl[ci]? = some (C, T, N))
    (hst : st = As.reverse ++ .ref b :: rest) (hn : As.length = n) (hsm : (rest.map fun v => v.category).sum ≤ 8) (hdg : decode cc pc = .ok (.invokevirtual index, 3))
    (kx : ∀ (E : String) (u : X), Px E u → VX G K nL (cells + mc) (slots + ms) pc lv rest ws E)
    (kk : ∀ (r : α) (u : S), Po r u → V G K nL (cells + mc) (slots + ms) (pc + 3) lv ((mk r).toList ++ rest) ws) : V G K nL cells slots pc lv st ws :=
  V.callVX hC hM hk hgo hT hw hrm hd hR isC hsub hnd (fun _ => rfl) (fun _ => rfl) hb hci hst hn hsm hdg (fun E u hp => by rw [rj_self hnd hsub]; exact kx E u hp) (fun r u hp => by rw [rj_self hnd hsub]; exact kk r u hp)
theorem V.callSXr (hC : Cok G K cc nL own Ts rm) (hM : CtX (kl K) G SFc y Ty rmy As wc mk Po (fun _ => wc) Px (fun _ => wc) mc ms) (hk : SFk SFc) (hgo : SFgo K SFc) (hT : GoodIn Ts (va_wsS own index y Ty)) (hw : Ty = Cond.code y bytes maxL ret :: ws2) (hrm : rmy.cells = mc ∧ rmy.slots = ms)
    (hd : y.cls ≠ "java/lang/invoke/MethodHandle" ∧ y.cls ≠ "java/lang/invoke/VarHandle" ∧ (parseMethodDescriptor y.desc).map (fun d => d.parameters.length) = some n) (hR : rmy.frames + 1 ≤ rm.frames ∧ 8 + (maxL + 11) + rmy.locals ≤ rm.locals ∧ cells + mc ≤ rm.cells ∧ slots + ms ≤ rm.slots)
    (isC : List Nat) (hsub : isC.map (fun i => ws[i]?) = wc.map some) (hnd : va_nd isC = true)
    (hst : st = As.reverse ++ rest) (hn : As.length = n) (hsm : (rest.map fun v => v.category).sum ≤ 8) (hdg : decode cc pc = .ok (.invokestatic index, 3))
    (kx : ∀ (E : String) (u : X), Px E u → VX G K nL (cells + mc) (slots + ms) pc lv rest ws E)
    (kk : ∀ (r : α) (u : S), Po r u → V G K nL (cells + mc) (slots + ms) (pc + 3) lv ((mk r).toList ++ rest) ws) : V G K nL cells slots pc lv st ws :=
  V.callSX hC hM hk hgo hT hw hrm hd hR isC hsub hnd (fun _ => rfl) (fun _ => rfl) hst hn hsm hdg (fun E u hp => by rw [rj_self hnd hsub]; exact kx E u hp) (fun r u hp => by rw [rj_self hnd hsub]; exact kk r u hp)
end VXR
