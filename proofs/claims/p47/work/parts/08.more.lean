section VMORE
variable {G : Gx} {K : Cx} {nL cells slots pc : Nat} {lv lv' : List (Option Value)} {st : List Value} {ws ws' : va_W} {cc : ByteArray} {own : String} {Ts : List Cond} {rm : Room}
theorem V.iushr (hC : Cok G K cc nL own Ts rm) {x y : Int32} (hdg : decode cc pc = .ok (.iushr, 1)) (h : V G K nL cells slots (pc + 1) lv (.int (x.toUInt32 >>> (y.toUInt32 &&& Int32.toUInt32 31)).toInt32 :: st) ws) : V G K nL cells slots pc lv (.int y :: .int x :: st) ws :=
  fun H locs ls hP hD hS hl => lv_iushr hC.1 hC.2.1 hdg rfl (h H locs ls hP hD hS hl)
theorem V.ldcw (hC : Cok G K cc nL own Ts rm) {index : Nat} (v : Int32) (hdg : decode cc pc = .ok (.ldc_w index, 3)) (hm : Cond.constant own index v ∈ Ts) (h : V G K nL cells slots (pc + 3) lv (.int v :: st) ws) : V G K nL cells slots pc lv st ws :=
  fun H locs ls hP hD hS hl => lv_ldcw hC.1 hC.2.1 hC.2.2.2.1 (hC.2.2.2.2.1 _ hm) hdg (h H locs ls hP hD hS hl)
theorem V.lset (i : Nat) {x y : Value} (e : x = y) (h1 : lv[i]? = some (some x)) (e2 : lv.set i (some y) = lv') (h : V G K nL cells slots pc lv' st ws) : V G K nL cells slots pc lv st ws := by
  subst e
  have : lv.set i (some x) = lv := by
    apply List.ext_getElem?
    intro j
    by_cases hj : i = j
    · subst hj
      rw [List.getElem?_set_self (List.getElem?_eq_some_iff.mp h1).1, h1]
    · rw [List.getElem?_set_ne hj]
  rw [this] at e2
  rw [e2]
  exact h
/-- a cell of ints said by another function that agrees on its places -/
theorem V.ext (q0 : Nat) {a n : Nat} {cA : ClassId} {f g : Nat → Int32} (ha : ws[q0]? = some (a, .inl (cA, n, .inl f))) (hfg : ∀ k, k < n → f k = g k) (e : ws.set q0 (a, .inl (cA, n, .inl g)) = ws') (h : V G K nL cells slots pc lv st ws') : V G K nL cells slots pc lv st ws := by
  intro H locs ls hP hD hS hl
  subst e
  have hc : vp_cell cA (n, .inl f) = vp_cell cA (n, .inl g) := by
    rw [vp_cell_i, vp_cell_i]
    unfold arrV
    congr 1
    apply Array.ext
    · simp
    · intro i h1 h2
      simp only [Array.size_ofFn] at h1
      simp [hfg i h1]
  refine h H locs ls (hP.set hD ha ?_ (fun q _ => rfl)) (hD.set ha) hS hl
  have := hP q0 _ ha
  show H[a]? = some (vp_cell cA (n, .inl g))
  rw [← hc]
  exact this
theorem V.copyAll (hC : Cok G K cc nL own Ts rm) {index : Nat} (h1 : Cond.methodLink own index arraycopyName ∈ Ts) (h2 : Cond.native arraycopyName ∈ Ts) (h3 : Cond.static arraycopyName ∈ Ts) (h4 : Cond.initialized "java/lang/System" ∈ Ts) (q0 q1 : Nat) {a a0 N : Nat} {f g : Nat → Int32} (ha0 : ws[q0]? = some (a0, .inl (gI G, N, .inl f))) (ha1 : ws[q1]? = some (a, .inl (gI G, N, .inl g))) {n : Int32} (hn : n = nI N) (hN : N < 2 ^ 31) (hr : 1 ≤ rm.frames ∧ (st.map fun v => v.category).sum + 18 ≤ rm.locals) (hdg : decode cc pc = .ok (.invokestatic index, 3)) (ws' : va_W) (e : ws.set q1 (a, .inl (gI G, N, .inl f)) = ws') (h : V G K nL cells slots (pc + 3) lv st ws') : V G K nL cells slots pc lv (.int n :: .int 0 :: .ref a :: .int 0 :: .ref a0 :: st) ws := by
  intro H locs ls hP hD hS hl
  subst hn
  have hR := hC.2.2.2.2.2.1
  have hcl : (nI N).toNatClampNeg = N := nI_clamp hN
  refine va_copyi (D := G.1) (tys := TY G) hC.1 hC.2.1 (hC.2.2.1.trans hl.1.1.symm) hC.2.2.2.1 (hC.2.2.2.2.1 _ h1) (hC.2.2.2.2.1 _ h2) (hC.2.2.2.2.1 _ h3) (hC.2.2.2.2.1 _ h4) hC.2.2.2.2.2.2.1 hP hD hS q0 q1 0 0 ha0 ha1 rfl rfl rfl (by decide) (by decide) (nI_pos hN) (by rw [hcl]; show 0 + N ≤ N; omega) (by rw [hcl]; show 0 + N ≤ N; omega) (fun i _ => rfl) (by rw [hR]; exact hr.1) (by rw [hR]; exact hr.2) hdg (fun H1 locs1 hP1 hD1 hS1 => ?_)
  have hl1 : q1 < ws.length := (List.getElem?_eq_some_iff.mp ha1).1
  refine V.ext (K := K) (ws := ws.set q1 (a, .inl (gI G, N, .inl (va_cpy f g (0 : Int32).toNatClampNeg (0 : Int32).toNatClampNeg (nI N).toNatClampNeg)))) (g := f) q1 (List.getElem?_set_self hl1) (fun k hk => ?_) ?_ h H1 locs1 ls hP1 hD1 hS1 hl
  · have h0 : (0 : Int32).toNatClampNeg = 0 := rfl
    rw [hcl, h0, va_cpy, if_pos ⟨Nat.zero_le _, by omega⟩]
    simp
  · rw [List.set_set]
    exact e
end VMORE
section VCALLR
variable {α S : Type} {G : Gx} {K : Cx} {nL cells slots pc : Nat} {lv : List (Option Value)} {st rest As : List Value} {ws wc : va_W} {cc bytes : ByteArray} {own C : String} {Ts Ty ws2 : List Cond} {rm rmy : Room} {SFc : (Nat → Prop) → State → Heap → Prop} {y : MethodName} {mk : α → Option Value} {Po : α → S → Prop} {mc ms maxL index n b : Nat} {ret : Option FieldType}
theorem V.callVr (hC : Cok G K cc nL own Ts rm) (hM : Ct (kl K) G SFc y Ty rmy (.ref b :: As) wc mk Po (fun _ => wc) mc ms) (hk : SFk SFc) (hgo : SFgo K SFc) (hT : GoodIn Ts (wsV own index C y Ty)) (hw : Ty = Cond.code y bytes maxL ret :: ws2) (hrm : rmy.cells = mc ∧ rmy.slots = ms)
    (hd : y.cls = C ∧ y.cls ≠ "java/lang/invoke/MethodHandle" ∧ y.cls ≠ "java/lang/invoke/VarHandle" ∧ (parseMethodDescriptor y.desc).map (fun d => d.parameters.length) = some n) (hR : rmy.frames + 1 ≤ rm.frames ∧ 8 + (maxL + 11) + rmy.locals ≤ rm.locals ∧ cells + mc ≤ rm.cells ∧ slots + ms ≤ rm.slots)
    (isC : List Nat) (hsub : isC.map (fun i => ws[i]?) = wc.map some) (hnd : va_nd isC = true) {ci N : Nat} {fs : List Value} {T : u_T} (hb : wc[0]? = some (b, .inr (ci, fs))) (hci : vwCl[ci]? = some (C, T, N))
    (hst : st = As.reverse ++ .ref b :: rest) (hn : As.length = n) (hsm : (rest.map fun v => v.category).sum ≤ 8) (hdg : decode cc pc = .ok (.invokevirtual index, 3))
    (kk : ∀ (r : α) (u : S), Po r u → V G K nL (cells + mc) (slots + ms) (pc + 3) lv ((mk r).toList ++ rest) ws) : V G K nL cells slots pc lv st ws :=
  V.callV hC hM hk hgo hT hw hrm hd hR isC hsub hnd (fun _ => rfl) hb hci hst hn hsm hdg (fun r u hp => by rw [rj_self hnd hsub]; exact kk r u hp)
theorem V.callSr (hC : Cok G K cc nL own Ts rm) (hM : Ct (kl K) G SFc y Ty rmy As wc mk Po (fun _ => wc) mc ms) (hk : SFk SFc) (hgo : SFgo K SFc) (hT : GoodIn Ts (va_wsS own index y Ty)) (hw : Ty = Cond.code y bytes maxL ret :: ws2) (hrm : rmy.cells = mc ∧ rmy.slots = ms)
    (hd : y.cls ≠ "java/lang/invoke/MethodHandle" ∧ y.cls ≠ "java/lang/invoke/VarHandle" ∧ (parseMethodDescriptor y.desc).map (fun d => d.parameters.length) = some n) (hR : rmy.frames + 1 ≤ rm.frames ∧ 8 + (maxL + 11) + rmy.locals ≤ rm.locals ∧ cells + mc ≤ rm.cells ∧ slots + ms ≤ rm.slots)
    (isC : List Nat) (hsub : isC.map (fun i => ws[i]?) = wc.map some) (hnd : va_nd isC = true)
    (hst : st = As.reverse ++ rest) (hn : As.length = n) (hsm : (rest.map fun v => v.category).sum ≤ 8) (hdg : decode cc pc = .ok (.invokestatic index, 3))
    (kk : ∀ (r : α) (u : S), Po r u → V G K nL (cells + mc) (slots + ms) (pc + 3) lv ((mk r).toList ++ rest) ws) : V G K nL cells slots pc lv st ws :=
  V.callS hC hM hk hgo hT hw hrm hd hR isC hsub hnd (fun _ => rfl) hst hn hsm hdg (fun r u hp => by rw [rj_self hnd hsub]; exact kk r u hp)
end VCALLR
theorem lt6 {k : Nat} (h : k < 6) : k = 0 ∨ k = 1 ∨ k = 2 ∨ k = 3 ∨ k = 4 ∨ k = 5 := by omega
theorem lt8 {k : Nat} (h : k < 8) : k = 0 ∨ k = 1 ∨ k = 2 ∨ k = 3 ∨ k = 4 ∨ k = 5 ∨ k = 6 ∨ k = 7 := by omega
theorem m31 {a b A B : Nat} (ha : a ≤ A) (hb : b ≤ B) (h : A * B < 2 ^ 31) : a * b < 2 ^ 31 := Nat.lt_of_le_of_lt (Nat.mul_le_mul ha hb) h
theorem r31 {a d : Nat} (hd : 0 < d) (h : d < 2 ^ 31) : a % d < 2 ^ 31 := Nat.lt_trans (Nat.mod_lt _ hd) h
section VMORE2
variable {G : Gx} {K : Cx} {nL cells slots pc : Nat} {lv lv' : List (Option Value)} {st : List Value} {ws ws' : va_W} {cc : ByteArray} {own : String} {Ts : List Cond} {rm : Room}
theorem V.ladd (hC : Cok G K cc nL own Ts rm) {x y : Int64} (hdg : decode cc pc = .ok (.ladd, 1)) (h : V G K nL cells slots (pc + 1) lv (.long (x + y) :: st) ws) : V G K nL cells slots pc lv (.long y :: .long x :: st) ws :=
  fun H locs ls hP hD hS hl => lv_ladd hC.1 hC.2.1 hdg (h H locs ls hP hD hS hl)
/-- two places of the world are two addresses -/
theorem V.apart (i j : Nat) {p q : Nat × va_E} (hi : ws[i]? = some p) (hj : ws[j]? = some q) (hij : i ≠ j) (h : p.1 ≠ q.1 → V G K nL cells slots pc lv st ws) : V G K nL cells slots pc lv st ws :=
  fun H locs ls hP hD hS hl => h (fun z => hij (hD.1 i j p q hi hj z)) H locs ls hP hD hS hl
/-- the world's cells in another order -/
theorem V.perm (is : List Nat) (hs : is.map (fun i => ws[i]?) = ws'.map some) (hn : va_nd is = true) (h : V G K nL cells slots pc lv st ws') : V G K nL cells slots pc lv st ws := by
  intro H locs ls hP hD hS hl
  refine h H locs ls (hP.by (fun k => (is[k]?).getD 0) (fun k q hk => ?_)) (hD.sub is hn hs) hS hl
  have h1 : (is.map (fun i => ws[i]?))[k]? = some (some q) := by rw [hs, List.getElem?_map, hk]; rfl
  rw [List.getElem?_map] at h1
  cases hi : is[k]? with
  | none => rw [hi] at h1; cases h1
  | some i => rw [hi] at h1; exact Option.some.inj h1
end VMORE2
