/-! worlds by blocks, their number said apart (printed by gen/s8825.py) -/
section VBLKN
variable {α S X : Type} {G : Gx} {K : Cx} {nL cells slots pc : Nat} {lv : List (Option Value)} {st rest As : List Value} {ws wc : va_W} {cc bytes : ByteArray} {own C : String} {Ts Ty ws2 : List Cond} {rm rmy : Room} {SFc : (Nat → Prop) → State → Heap → Prop} {y : MethodName} {mk : α → Option Value} {Po : α → S → Prop} {w1 : S → va_W} {Px : String → X → Prop} {wx : X → va_W} {N mc ms maxL index n b : Nat} {ret : Option FieldType}
theorem V.reN {L : List va_W} (ks : List Nat) (L' : List va_W) (hN : L.length = N) (hk : lo_ N ks = true) (e : ks.map (fun k => L.getD k []) = L') (h : V G K nL cells slots pc lv st (flt L')) : V G K nL cells slots pc lv st (flt L) := by
  subst hN
  exact V.re ks L' hk e h
theorem VX.reN {L : List va_W} {E : String} (ks : List Nat) (L' : List va_W) (hN : L.length = N) (hk : lo_ N ks = true) (e : ks.map (fun k => L.getD k []) = L') (h : VX G K nL cells slots pc lv rest (flt L') E) : VX G K nL cells slots pc lv rest (flt L) E := by
  subst hN
  exact VX.re ks L' hk e h
theorem V.callVBN (hC : Cok G K cc nL own Ts rm) (hM : Ct (kl K) G SFc y Ty rmy (.ref b :: As) wc mk Po w1 mc ms) (hk : SFk SFc) (hgo : SFgo K SFc) (hT : GoodIn Ts (wsV own index C y Ty)) (hw : Ty = Cond.code y bytes maxL ret :: ws2) (hrm : rmy.cells = mc ∧ rmy.slots = ms)
    (hd : y.cls = C ∧ y.cls ≠ "java/lang/invoke/MethodHandle" ∧ y.cls ≠ "java/lang/invoke/VarHandle" ∧ (parseMethodDescriptor y.desc).map (fun d => d.parameters.length) = some n) (hR : rmy.frames + 1 ≤ rm.frames ∧ 8 + (maxL + 11) + rmy.locals ≤ rm.locals ∧ cells + mc ≤ rm.cells ∧ slots + ms ≤ rm.slots)
    {L : List va_W} (hN : L.length = N) (is js : List Nat) (hlo : lo_ N (is ++ js) = true) (hwc : flt (is.map (fun i => L.getD i [])) = wc) (ys : S → List va_W) (hys : ∀ u, flt (ys u) = w1 u) {ci N2 : Nat} {fs : List Value} {T : u_T} (hb : wc[0]? = some (b, .inr (ci, fs))) (hci : vwCl[ci]? = some (C, T, N2))
    (hst : st = As.reverse ++ .ref b :: rest) (hn : As.length = n) (hsm : (rest.map fun v => v.category).sum ≤ 8) (hdg : decode cc pc = .ok (.invokevirtual index, 3))
    (kk : ∀ (r : α) (u : S), Po r u → V G K nL (cells + mc) (slots + ms) (pc + 3) lv ((mk r).toList ++ rest) (flt (ys u ++ js.map (fun i => L.getD i [])))) : V G K nL cells slots pc lv st (flt L) := by
  subst hN
  exact V.callVB hC hM hk hgo hT hw hrm hd hR is js hlo hwc ys hys hb hci hst hn hsm hdg kk
theorem V.callSBWN {hh : List (Nat × Nat × Nat × Nat)} (hC : Cok G K cc nL own Ts rm) (hM : CtX (kl K) G SFc y Ty rmy As wc mk Po w1 (fun (_ : String) (_ : Unit) => False) (fun _ => wc) mc ms) (hk : SFk SFc) (hgo : SFgo K SFc) (hT : GoodIn Ts (va_wsS own index y Ty)) (hw : Ty = Cond.codeWith y bytes maxL ret hh :: ws2) (hrm : rmy.cells = mc ∧ rmy.slots = ms)
    (hd : y.cls ≠ "java/lang/invoke/MethodHandle" ∧ y.cls ≠ "java/lang/invoke/VarHandle" ∧ (parseMethodDescriptor y.desc).map (fun d => d.parameters.length) = some n) (hR : rmy.frames + 1 ≤ rm.frames ∧ 8 + (maxL + 11) + rmy.locals ≤ rm.locals ∧ cells + mc ≤ rm.cells ∧ slots + ms ≤ rm.slots)
    {L : List va_W} (hN : L.length = N) (is js : List Nat) (hlo : lo_ N (is ++ js) = true) (hwc : flt (is.map (fun i => L.getD i [])) = wc) (ys : S → List va_W) (hys : ∀ u, flt (ys u) = w1 u)
    (hst : st = As.reverse ++ rest) (hn : As.length = n) (hsm : (rest.map fun v => v.category).sum ≤ 8) (hdg : decode cc pc = .ok (.invokestatic index, 3))
    (kk : ∀ (r : α) (u : S), Po r u → V G K nL (cells + mc) (slots + ms) (pc + 3) lv ((mk r).toList ++ rest) (flt (ys u ++ js.map (fun i => L.getD i [])))) : V G K nL cells slots pc lv st (flt L) := by
  subst hN
  exact V.callSBW hC hM hk hgo hT hw hrm hd hR is js hlo hwc ys hys hst hn hsm hdg kk
theorem V.callVBXN (hC : Cok G K cc nL own Ts rm) (hM : CtX (kl K) G SFc y Ty rmy (.ref b :: As) wc mk Po w1 Px wx mc ms) (hk : SFk SFc) (hgo : SFgo K SFc) (hT : GoodIn Ts (wsV own index C y Ty)) (hw : Ty = Cond.code y bytes maxL ret :: ws2) (hrm : rmy.cells = mc ∧ rmy.slots = ms)
    (hd : y.cls = C ∧ y.cls ≠ "java/lang/invoke/MethodHandle" ∧ y.cls ≠ "java/lang/invoke/VarHandle" ∧ (parseMethodDescriptor y.desc).map (fun d => d.parameters.length) = some n) (hR : rmy.frames + 1 ≤ rm.frames ∧ 8 + (maxL + 11) + rmy.locals ≤ rm.locals ∧ cells + mc ≤ rm.cells ∧ slots + ms ≤ rm.slots)
    {L : List va_W} (hN : L.length = N) (is js : List Nat) (hlo : lo_ N (is ++ js) = true) (hwc : flt (is.map (fun i => L.getD i [])) = wc) (ys : S → List va_W) (hys : ∀ u, flt (ys u) = w1 u) (yx : X → List va_W) (hyx : ∀ u, flt (yx u) = wx u) {ci N2 : Nat} {fs : List Value} {T : u_T} (hb : wc[0]? = some (b, .inr (ci, fs))) (hci : vwCl[ci]? = some (C, T, N2))
    (hst : st = As.reverse ++ .ref b :: rest) (hn : As.length = n) (hsm : (rest.map fun v => v.category).sum ≤ 8) (hdg : decode cc pc = .ok (.invokevirtual index, 3))
    (kx : ∀ (E : String) (u : X), Px E u → VX G K nL (cells + mc) (slots + ms) pc lv rest (flt (yx u ++ js.map (fun i => L.getD i []))) E)
    (kk : ∀ (r : α) (u : S), Po r u → V G K nL (cells + mc) (slots + ms) (pc + 3) lv ((mk r).toList ++ rest) (flt (ys u ++ js.map (fun i => L.getD i [])))) : V G K nL cells slots pc lv st (flt L) := by
  subst hN
  exact V.callVBX hC hM hk hgo hT hw hrm hd hR is js hlo hwc ys hys yx hyx hb hci hst hn hsm hdg kx kk
/-- the law's script -/
theorem V.sld (hC : Cok G K cc nL own Ts rm) {b L : Nat} {xs : Nat → Int32} (hX : va_X b L xs (ks K) (ks K).heap) (hbl : b < (ks K).heap.size) (hbA : ¬ kA K b) (hdg : decode cc pc = .ok (.iaload, 1)) {i : Int32} (j : Nat) (hi : i = nI j) (hj : j < L) (hL : L < 2 ^ 31) (h : V G K nL cells slots (pc + 1) lv (.int (xs j) :: st) ws) : V G K nL cells slots pc lv (.int i :: .ref b :: st) ws :=
  fun H locs ls hP hD hS hl => va_sld hC.1 hC.2.1 hX hbl hbA hS (ix_in hi hj hL) hdg (by rw [ix_cl hi hj hL]; exact h H locs ls hP hD hS hl)
theorem V.slen (hC : Cok G K cc nL own Ts rm) {b L : Nat} {xs : Nat → Int32} (hX : va_X b L xs (ks K) (ks K).heap) (hbl : b < (ks K).heap.size) (hbA : ¬ kA K b) (hdg : decode cc pc = .ok (.arraylength, 1)) (h : V G K nL cells slots (pc + 1) lv (.int (nI L) :: st) ws) : V G K nL cells slots pc lv (.ref b :: st) ws :=
  fun H locs ls hP hD hS hl => va_slen hC.1 hC.2.1 hX hbl hbA hS hdg (h H locs ls hP hD hS hl)
end VBLKN