/-! a call whose callee throws, or hands back another world -/
section GXROWS
variable {α S X : Type} {G : Gx} {K : Cx} {nL cells slots pc : Nat} {lv : List (Option Value)} {st rest As : List Value} {ws wc w0 wr : va_W} {cc bytes : ByteArray} {own C owner : String} {Ts Ty ws2 ws' : List Cond} {rm rmy : Room} {SF SFc : (Nat → Prop) → State → Heap → Prop} {y : MethodName} {mk : α → Option Value} {Po : α → S → Prop} {w1 : S → va_W} {Px : String → X → Prop} {wx : X → va_W} {mc ms maxL index n b : Nat} {ret : Option FieldType} {l : Launch} {av : List Value}
theorem V.runGX {a : Array Value} (isC isR : List Nat) (hsub : isC.map (fun i => ws[i]?) = wc.map some) (hndC : va_nd isC = true) (hRr : isR.map (fun i => ws[i]?) = wr.map some) (hnd : va_nd isR = true) (hdis : ∀ i ∈ isR, i ∉ isC)
    (hA : ∀ q, (ks K).heap.size ≤ q → kA K q)
    (hrun : ∀ (H : Heap) (locs : List Loc) (ls : Array Slot), va_P G.1 vwCl ws H → va_D (kA K) ws → va_S (kA K) (ks K).heap H locs → Lh ls nL lv → vx_Run (kp K) (kl K) (ke K) (kR K) (ks K) (km K) (ka K) (kb K) (kt K) (kc K) H locs cells slots mc ms (F0 (km K) pc ls st) rest (Qg mk Po (CB G w1 (va_A wc H.size)) (va_A wc H.size) a) (XCf G Px wx (va_A wc H.size)) (va_A wc H.size))
    (kx : ∀ (E : String) (u : X), Px E u → VX G K nL (cells + mc) (slots + ms) pc lv rest (wr ++ wx u) E)
    (kk : ∀ (r : α) (u : S), Po r u → V G K nL (cells + mc) (slots + ms) (pc + 3) lv ((mk r).toList ++ rest) (wr ++ w1 u)) : V G K nL cells slots pc lv st ws := by
  intro H locs ls hP hD hS hl T hT X
  have hF := va_free hD hS hA isC hsub
  rcases hrun H locs ls hP hD hS hl T hT X with ⟨v, st₀, t, T', L, h0, X', hL, e1, e2, ⟨⟨r, u, hv, hp, hb⟩, hz, hk⟩, stp⟩ | ⟨q, st₀, t, T', L, E, ce, h0, X', hL, e1, e2, ⟨u, hp, hb, hz, hk⟩, hce, hcv, hcl, stp⟩
  · rw [h0] at hz hk
    have hv' : v = mk r := by cases hv; rfl
    subst hv'
    obtain ⟨hP1, hD1⟩ := hb
    rw [← e1] at hP1
    have hj := va_join hP hD isC isR hsub hRr hnd hdis (fun q h1 h2 => by rw [e1]; exact hk q h1 h2) hF hP1 hD1
    obtain ⟨t2, a1, b1⟩ := kk r u hp T'.heap (locs ++ L) ls hj.1 hj.2
      ⟨Nat.le_trans hS.1 (by rw [e1]; exact hz), fun q h1 h2 => by rw [e1, hk q (Nat.lt_of_lt_of_le h1 hS.1) (fun z => h2 (hF q z))]; exact hS.2.1 q h1 h2, fun q hq => by
        rcases List.mem_append.mp hq with h | h
        · exact hS.2.2 q h
        · exact hF _ (hL q h)⟩ hl T' rfl X'
    exact ⟨t2, stp t2 a1, b1⟩
  · rw [h0] at hz hk
    obtain ⟨hP1, hD1⟩ := hb
    rw [← e1] at hP1
    have hj := va_join hP hD isC isR hsub hRr hnd hdis (fun q h1 h2 => by rw [e1]; exact hk q h1 h2) hF hP1 hD1
    obtain ⟨t2, a1, b1⟩ := kx E u hp T'.heap (locs ++ L) ls ce q hj.1 hj.2
      ⟨Nat.le_trans hS.1 (by rw [e1]; exact hz), fun q h1 h2 => by rw [e1, hk q (Nat.lt_of_lt_of_le h1 hS.1) (fun z => h2 (hF q z))]; exact hS.2.1 q h1 h2, fun q hq => by
        rcases List.mem_append.mp hq with h | h
        · exact hS.2.2 q h
        · exact hF _ (hL q h)⟩ hl (by rw [e1]; exact hce) hcv hcl T' rfl X'
    exact ⟨t2, stp.trans a1, b1⟩
theorem V.callVGX (hC : Cok G K cc nL own Ts rm) (hM : CtX (kl K) G SFc y Ty rmy (.ref b :: As) wc mk Po w1 Px wx mc ms) (hk : SFk SFc) (hgo : SFgo K SFc) (hT : GoodIn Ts (wsV own index C y Ty)) (hw : Ty = Cond.code y bytes maxL ret :: ws2) (hrm : rmy.cells = mc ∧ rmy.slots = ms)
    (hd : y.cls = C ∧ y.cls ≠ "java/lang/invoke/MethodHandle" ∧ y.cls ≠ "java/lang/invoke/VarHandle" ∧ (parseMethodDescriptor y.desc).map (fun d => d.parameters.length) = some n) (hR : rmy.frames + 1 ≤ rm.frames ∧ 8 + (maxL + 11) + rmy.locals ≤ rm.locals ∧ cells + mc ≤ rm.cells ∧ slots + ms ≤ rm.slots)
    (isC isR : List Nat) (hsub : isC.map (fun i => ws[i]?) = wc.map some) (hndC : va_nd isC = true) (hRr : isR.map (fun i => ws[i]?) = wr.map some) (hnd : va_nd isR = true) (hdis : ∀ i ∈ isR, i ∉ isC) {ci N : Nat} {fs : List Value} {T : u_T} (hb : wc[0]? = some (b, .inr (ci, fs))) (hci : vwCl[ci]? = some (C, T, N))
    (hst : st = As.reverse ++ .ref b :: rest) (hn : As.length = n) (hsm : (rest.map fun v => v.category).sum ≤ 8) (hdg : decode cc pc = .ok (.invokevirtual index, 3))
    (kx : ∀ (E : String) (u : X), Px E u → VX G K nL (cells + mc) (slots + ms) pc lv rest (wr ++ wx u) E)
    (kk : ∀ (r : α) (u : S), Po r u → V G K nL (cells + mc) (slots + ms) (pc + 3) lv ((mk r).toList ++ rest) (wr ++ w1 u)) : V G K nL cells slots pc lv st ws := by
  refine V.runGX (a := (Value.ref b :: As).toArray) isC isR hsub hndC hRr hnd hdis hC.2.2.2.2.2.2.2.1 (fun H locs ls hP hD hS hl => ?_) kx kk
  have hRR := hC.2.2.2.2.2.1
  have hPc : va_P G.1 vwCl wc H := (ct_pre (l := kl K) (As := Value.ref b :: As) hC hgo hP hD hS hsub hndC ({ (ks K) with heap := H }) rfl (State.WarmedH.refl _)).2.2.1
  have hrecv := va_recv (s := ks K) hC.2.2.2.2.2.2.1 hPc hci hb
  exact vx_runV (C := C) (As := As) (rest := rest) (Ts := Ts) (own := own) (nL := nL) (n := n) (b := b) (bytes := bytes) (maxL := maxL) (ret := ret) ⟨hC.1, hC.2.1, hC.2.2.1, hC.2.2.2.1, hC.2.2.2.2.1⟩ (hM H.size) (cwV n hC.2.2.2.2.1 hT hw hrm.1 hrm.2 hd (by rw [hRR]; exact ⟨hR.1, hR.2.1⟩)) ⟨ct_blind hk, hrecv, ct_pre (l := kl K) hC hgo hP hD hS hsub hndC⟩ rfl hn hl.1.1 hst (lv_room hsm) hdg (by rw [hRR]; exact hR.2.2)
theorem V.callSGX (hC : Cok G K cc nL own Ts rm) (hM : CtX (kl K) G SFc y Ty rmy As wc mk Po w1 Px wx mc ms) (hk : SFk SFc) (hgo : SFgo K SFc) (hT : GoodIn Ts (va_wsS own index y Ty)) (hw : Ty = Cond.code y bytes maxL ret :: ws2) (hrm : rmy.cells = mc ∧ rmy.slots = ms)
    (hd : y.cls ≠ "java/lang/invoke/MethodHandle" ∧ y.cls ≠ "java/lang/invoke/VarHandle" ∧ (parseMethodDescriptor y.desc).map (fun d => d.parameters.length) = some n) (hR : rmy.frames + 1 ≤ rm.frames ∧ 8 + (maxL + 11) + rmy.locals ≤ rm.locals ∧ cells + mc ≤ rm.cells ∧ slots + ms ≤ rm.slots)
    (isC isR : List Nat) (hsub : isC.map (fun i => ws[i]?) = wc.map some) (hndC : va_nd isC = true) (hRr : isR.map (fun i => ws[i]?) = wr.map some) (hnd : va_nd isR = true) (hdis : ∀ i ∈ isR, i ∉ isC)
    (hst : st = As.reverse ++ rest) (hn : As.length = n) (hsm : (rest.map fun v => v.category).sum ≤ 8) (hdg : decode cc pc = .ok (.invokestatic index, 3))
    (kx : ∀ (E : String) (u : X), Px E u → VX G K nL (cells + mc) (slots + ms) pc lv rest (wr ++ wx u) E)
    (kk : ∀ (r : α) (u : S), Po r u → V G K nL (cells + mc) (slots + ms) (pc + 3) lv ((mk r).toList ++ rest) (wr ++ w1 u)) : V G K nL cells slots pc lv st ws := by
  refine V.runGX (a := As.toArray) isC isR hsub hndC hRr hnd hdis hC.2.2.2.2.2.2.2.1 (fun H locs ls hP hD hS hl => ?_) kx kk
  have hRR := hC.2.2.2.2.2.1
  exact vx_runS (As := As) (rest := rest) (Ts := Ts) (own := own) (nL := nL) (n := n) (bytes := bytes) (maxL := maxL) (ret := ret) ⟨hC.1, hC.2.1, hC.2.2.1, hC.2.2.2.1, hC.2.2.2.2.1⟩ (hM H.size) (va_cwS n hC.2.2.2.2.1 hT hw hrm.1 hrm.2 hd (by rw [hRR]; exact ⟨hR.1, hR.2.1⟩)) ⟨ct_blind hk, ct_pre (l := kl K) hC hgo hP hD hS hsub hndC⟩ rfl hn hl.1.1 hst (lv_room hsm) hdg (by rw [hRR]; exact hR.2.2)
theorem V.callSGXW {hh : List (Nat × Nat × Nat × Nat)} (hC : Cok G K cc nL own Ts rm) (hM : CtX (kl K) G SFc y Ty rmy As wc mk Po w1 Px wx mc ms) (hk : SFk SFc) (hgo : SFgo K SFc) (hT : GoodIn Ts (va_wsS own index y Ty)) (hw : Ty = Cond.codeWith y bytes maxL ret hh :: ws2) (hrm : rmy.cells = mc ∧ rmy.slots = ms)
    (hd : y.cls ≠ "java/lang/invoke/MethodHandle" ∧ y.cls ≠ "java/lang/invoke/VarHandle" ∧ (parseMethodDescriptor y.desc).map (fun d => d.parameters.length) = some n) (hR : rmy.frames + 1 ≤ rm.frames ∧ 8 + (maxL + 11) + rmy.locals ≤ rm.locals ∧ cells + mc ≤ rm.cells ∧ slots + ms ≤ rm.slots)
    (isC isR : List Nat) (hsub : isC.map (fun i => ws[i]?) = wc.map some) (hndC : va_nd isC = true) (hRr : isR.map (fun i => ws[i]?) = wr.map some) (hnd : va_nd isR = true) (hdis : ∀ i ∈ isR, i ∉ isC)
    (hst : st = As.reverse ++ rest) (hn : As.length = n) (hsm : (rest.map fun v => v.category).sum ≤ 8) (hdg : decode cc pc = .ok (.invokestatic index, 3))
    (kx : ∀ (E : String) (u : X), Px E u → VX G K nL (cells + mc) (slots + ms) pc lv rest (wr ++ wx u) E)
    (kk : ∀ (r : α) (u : S), Po r u → V G K nL (cells + mc) (slots + ms) (pc + 3) lv ((mk r).toList ++ rest) (wr ++ w1 u)) : V G K nL cells slots pc lv st ws := by
  refine V.runGX (a := As.toArray) isC isR hsub hndC hRr hnd hdis hC.2.2.2.2.2.2.2.1 (fun H locs ls hP hD hS hl => ?_) kx kk
  have hRR := hC.2.2.2.2.2.1
  exact vx_runSX (As := As) (rest := rest) (Ts := Ts) (own := own) (nL := nL) (n := n) (bytes := bytes) (maxL := maxL) (ret := ret) (hh := hh) ⟨hC.1, hC.2.1, hC.2.2.1, hC.2.2.2.1, hC.2.2.2.2.1⟩ (hM H.size) (vx_cwSW n hC.2.2.2.2.1 hT hw hrm.1 hrm.2 hd (by rw [hRR]; exact ⟨hR.1, hR.2.1⟩)) ⟨ct_blind hk, ct_pre (l := kl K) hC hgo hP hD hS hsub hndC⟩ rfl hn hl.1.1 hst (lv_room hsm) hdg (by rw [hRR]; exact hR.2.2)
end GXROWS