/-! rows for bytes, calls whose callee hands back another world, calls of methods of a class above -/
section ROWS2
variable {α S : Type} {G : Gx} {K : Cx} {nL cells slots pc : Nat} {lv lv' : List (Option Value)} {st rest As : List Value} {ws ws' wc wr : va_W} {cc bytes : ByteArray} {own C owner : String} {Ts Ty ws2 : List Cond} {rm rmy : Room} {SFc : (Nat → Prop) → State → Heap → Prop} {x y : MethodName} {mk : α → Option Value} {Po : α → S → Prop} {w1 : S → va_W} {mc ms maxL index n b : Nat} {ret : Option FieldType}
theorem V.ineg (hC : Cok G K cc nL own Ts rm) {x : Int32} (hdg : decode cc pc = .ok (.ineg, 1)) (h : V G K nL cells slots (pc + 1) lv (.int (-x) :: st) ws) : V G K nL cells slots pc lv (.int x :: st) ws :=
  fun H locs ls hP hD hS hl => lv_ineg hC.1 hC.2.1 hdg (h H locs ls hP hD hS hl)
theorem V.i2b (hC : Cok G K cc nL own Ts rm) {x : Int32} (v : Int32) (hdg : decode cc pc = .ok (.i2b, 1)) (hv : x.toInt8.toInt32 = v) (h : V G K nL cells slots (pc + 1) lv (.int v :: st) ws) : V G K nL cells slots pc lv (.int x :: st) ws :=
  fun H locs ls hP hD hS hl => lv_i2b hC.1 hC.2.1 hdg hv (h H locs ls hP hD hS hl)
theorem V.dup_x1 (hC : Cok G K cc nL own Ts rm) {va vb : Value} (hdg : decode cc pc = .ok (.dup_x1, 1)) (hva : va.category = 1) (hvb : vb.category = 1) (h : V G K nL cells slots (pc + 1) lv (va :: vb :: va :: st) ws) : V G K nL cells slots pc lv (va :: vb :: st) ws :=
  fun H locs ls hP hD hS hl => lv_dup_x1 hC.1 hC.2.1 hdg hva hvb (h H locs ls hP hD hS hl)
theorem V.baldN (hC : Cok G K cc nL own Ts rm) (hdg : decode cc pc = .ok (.baload, 1)) (q0 : Nat) {a n : Nat} {f : Nat → Nat} (ha : ws[q0]? = some (a, .inl (gB G, n, .inl (fun j => nI (f j))))) {i : Int32} (j : Nat) (hi : i = nI j) (hj : j < n) (hn : n < 2 ^ 31) (h : V G K nL cells slots (pc + 1) lv (.int (nI (f j)) :: st) ws) : V G K nL cells slots pc lv (.int i :: .ref a :: st) ws :=
  fun H locs ls hP hD hS hl => va_bald (D := G.1) (tys := TY G) hC.1 hC.2.1 hC.2.2.2.2.2.2.1 hP q0 6 ha rfl (ix_in hi hj hn) hdg (by rw [ix_cl hi hj hn]; exact h H locs ls hP hD hS hl)
theorem bnar : ∀ v, v < 128 → vp_nar .byte (nI v) = nI v := by decide
theorem bfit : ∀ v, v < 128 → fits .byte (.int (nI v)) = true := by decide
theorem b8i : ∀ v, v < 128 → (nI v).toInt8.toInt32 = nI v := by decide
theorem V.bastN (hC : Cok G K cc nL own Ts rm) (hdg : decode cc pc = .ok (.bastore, 1)) (q0 : Nat) {a n : Nat} {f : Nat → Nat} (ha : ws[q0]? = some (a, .inl (gB G, n, .inl (fun j => nI (f j))))) {i v : Int32} (j y : Nat) (hi : i = nI j) (hj : j < n) (hn : n < 2 ^ 31) (hv : v = nI y) (hy : y < 128) (ws' : va_W) (e : ws.set q0 (a, .inl (gB G, n, .inl (fun i => nI (va_up f j y i)))) = ws') (h : V G K nL cells slots (pc + 1) lv st ws') : V G K nL cells slots pc lv (.int v :: .int i :: .ref a :: st) ws := by
  intro H locs ls hP hD hS hl
  subst e
  subst hv
  refine va_bast (D := G.1) (tys := TY G) hC.1 hC.2.1 hC.2.2.2.2.2.2.1 hP hD hS q0 6 ha rfl (ix_in hi hj hn) hdg (fun H1 locs1 hP1 hD1 hS1 => ?_)
  rw [ix_cl hi hj hn, bnar y hy, updN] at hP1 hD1
  exact h H1 locs1 ls hP1 hD1 hS1 hl
/-- the first n bytes copied -/
theorem V.copyB (hC : Cok G K cc nL own Ts rm) {index : Nat} (h1 : Cond.methodLink own index arraycopyName ∈ Ts) (h2 : Cond.native arraycopyName ∈ Ts) (h3 : Cond.static arraycopyName ∈ Ts) (h4 : Cond.initialized "java/lang/System" ∈ Ts) (q0 q1 : Nat) {a a0 N0 N1 : Nat} {f g : Nat → Nat} (hf : ∀ j, f j < 128) (ha0 : ws[q0]? = some (a0, .inl (gB G, N0, .inl (fun j => nI (f j))))) (ha1 : ws[q1]? = some (a, .inl (gB G, N1, .inl (fun j => nI (g j))))) {n : Int32} (N : Nat) (hn : n = nI N) (hN : N < 2 ^ 31) (hN0 : N ≤ N0) (hN1 : N ≤ N1) (hr : 1 ≤ rm.frames ∧ (st.map fun v => v.category).sum + 18 ≤ rm.locals) (hdg : decode cc pc = .ok (.invokestatic index, 3)) (ws' : va_W) (e : ws.set q1 (a, .inl (gB G, N1, .inl (fun j => nI (if j < N then f j else g j)))) = ws') (h : V G K nL cells slots (pc + 3) lv st ws') : V G K nL cells slots pc lv (.int n :: .int 0 :: .ref a :: .int 0 :: .ref a0 :: st) ws := by
  intro H locs ls hP hD hS hl
  subst hn
  have hR := hC.2.2.2.2.2.1
  have hcl : (nI N).toNatClampNeg = N := nI_clamp hN
  refine va_copyi (D := G.1) (tys := TY G) hC.1 hC.2.1 (hC.2.2.1.trans hl.1.1.symm) hC.2.2.2.1 (hC.2.2.2.2.1 _ h1) (hC.2.2.2.2.1 _ h2) (hC.2.2.2.2.1 _ h3) (hC.2.2.2.2.1 _ h4) hC.2.2.2.2.2.2.1 hP hD hS q0 q1 6 6 ha0 ha1 rfl rfl rfl (by decide) (by decide) (nI_pos hN) (by rw [hcl]; show 0 + N ≤ N0; omega) (by rw [hcl]; show 0 + N ≤ N1; omega) (fun i _ => bfit _ (hf _)) (by rw [hR]; exact hr.1) (by rw [hR]; exact hr.2) hdg (fun H1 locs1 hP1 hD1 hS1 => ?_)
  have hl1 : q1 < ws.length := (List.getElem?_eq_some_iff.mp ha1).1
  refine V.ext (K := K) (ws := ws.set q1 (a, .inl (gB G, N1, .inl (va_cpy (fun j => nI (f j)) (fun j => nI (g j)) (0 : Int32).toNatClampNeg (0 : Int32).toNatClampNeg (nI N).toNatClampNeg)))) (g := fun j => nI (if j < N then f j else g j)) q1 (List.getElem?_set_self hl1) (fun k hk => ?_) ?_ h H1 locs1 ls hP1 hD1 hS1 hl
  · have h0 : (0 : Int32).toNatClampNeg = 0 := rfl
    rw [hcl, h0, va_cpy]
    by_cases hkN : k < N
    · rw [if_pos ⟨Nat.zero_le _, by omega⟩, if_pos hkN]
      simp
    · rw [if_neg (fun z => hkN (by omega)), if_neg hkN]
  · rw [List.set_set]
    exact e
theorem V.tb2 (hC : Cok G K cc nL own Ts rm) {t N : Nat} {f : Nat → Value} (hT : va_T .byte t N f (kA K) (ks K) (ks K).heap) (hdg : decode cc pc = .ok (.baload, 1)) {i : Int32} (j : Nat) (hi : i = nI j) (hj : j < N) (hn : N < 2 ^ 31) (v : Value) (hv : f j = v) (h : V G K nL cells slots (pc + 1) lv (v :: st) ws) : V G K nL cells slots pc lv (.int i :: .ref t :: st) ws :=
  fun H locs ls hP hD hS hl => va_tb hC.1 hC.2.1 hT hS (ix_in hi hj hn) (by rw [ix_cl hi hj hn]; exact hv) hdg (h H locs ls hP hD hS hl)
/-- behind a call: what the callee had not, and the world that it hands back -/
theorem V.runG {a : Array Value} (isC isR : List Nat) (hsub : isC.map (fun i => ws[i]?) = wc.map some) (hRr : isR.map (fun i => ws[i]?) = wr.map some) (hnd : va_nd isR = true) (hdis : ∀ i ∈ isR, i ∉ isC)
    (hA : ∀ q, (ks K).heap.size ≤ q → kA K q)
    (hrun : ∀ (H : Heap) (locs : List Loc) (ls : Array Slot), va_P G.1 vwCl ws H → va_D (kA K) ws → va_S (kA K) (ks K).heap H locs → Lh ls nL lv → va_Run (kp K) (kl K) (ke K) (kR K) (ks K) (km K) (ka K) (kb K) (kt K) (kc K) H locs cells slots mc ms (F0 (km K) pc ls st) rest (Qg mk Po (CB G w1 (va_A wc H.size)) (va_A wc H.size) a) (va_A wc H.size))
    (kk : ∀ (r : α) (u : S), Po r u → V G K nL (cells + mc) (slots + ms) (pc + 3) lv ((mk r).toList ++ rest) (wr ++ w1 u)) : V G K nL cells slots pc lv st ws := by
  intro H locs ls hP hD hS hl T hT X
  obtain ⟨v, st₀, t, T', L, h0, X', hL, e1, e2, ⟨⟨r, u, hv, hp, hb⟩, hz, hk⟩, stp⟩ := hrun H locs ls hP hD hS hl T hT X
  have hF := va_free hD hS hA isC hsub
  rw [h0] at hz hk
  have hv' : v = mk r := by cases hv; rfl
  subst hv'
  obtain ⟨hP1, hD1⟩ := hb
  rw [← e1] at hP1
  have hj := va_join hP hD isC isR hsub hRr hnd hdis (fun q h1 h2 => by rw [e1]; exact hk q h1 h2) hF hP1 hD1
  obtain ⟨t2, a1, b1⟩ := kk r u hp T'.heap (locs ++ L) ls hj.1 hj.2
    ⟨Nat.le_trans hS.1 (by rw [e1]; exact hz), fun q h1 h2 => by rw [e1, hk q (Nat.lt_of_lt_of_le h1 hS.1) (fun z => h2 (hF q z))]; exact hS.2.1 q h1 h2, fun q hq => by
      rcases List.mem_append.mp hq with h | h
      · exact hS.2.2 q h
      · exact hF _ (hL q h)⟩ hl T' rfl X'
  exact ⟨t2, stp t2 a1, b1⟩
theorem V.callVG (hC : Cok G K cc nL own Ts rm) (hM : Ct (kl K) G SFc y Ty rmy (.ref b :: As) wc mk Po w1 mc ms) (hk : SFk SFc) (hgo : SFgo K SFc) (hT : GoodIn Ts (wsV own index C y Ty)) (hw : Ty = Cond.code y bytes maxL ret :: ws2) (hrm : rmy.cells = mc ∧ rmy.slots = ms)
    (hd : y.cls = C ∧ y.cls ≠ "java/lang/invoke/MethodHandle" ∧ y.cls ≠ "java/lang/invoke/VarHandle" ∧ (parseMethodDescriptor y.desc).map (fun d => d.parameters.length) = some n) (hR : rmy.frames + 1 ≤ rm.frames ∧ 8 + (maxL + 11) + rmy.locals ≤ rm.locals ∧ cells + mc ≤ rm.cells ∧ slots + ms ≤ rm.slots)
    (isC isR : List Nat) (hsub : isC.map (fun i => ws[i]?) = wc.map some) (hndC : va_nd isC = true) (hRr : isR.map (fun i => ws[i]?) = wr.map some) (hnd : va_nd isR = true) (hdis : ∀ i ∈ isR, i ∉ isC) {ci N : Nat} {fs : List Value} {T : u_T} (hb : wc[0]? = some (b, .inr (ci, fs))) (hci : vwCl[ci]? = some (C, T, N))
    (hst : st = As.reverse ++ .ref b :: rest) (hn : As.length = n) (hsm : (rest.map fun v => v.category).sum ≤ 8) (hdg : decode cc pc = .ok (.invokevirtual index, 3))
    (kk : ∀ (r : α) (u : S), Po r u → V G K nL (cells + mc) (slots + ms) (pc + 3) lv ((mk r).toList ++ rest) (wr ++ w1 u)) : V G K nL cells slots pc lv st ws := by
  refine V.runG (a := (Value.ref b :: As).toArray) isC isR hsub hRr hnd hdis hC.2.2.2.2.2.2.2.1 (fun H locs ls hP hD hS hl => ?_) kk
  have hRR := hC.2.2.2.2.2.1
  have hPc : va_P G.1 vwCl wc H := (ct_pre (l := kl K) (As := Value.ref b :: As) hC hgo hP hD hS hsub hndC ({ (ks K) with heap := H }) rfl (State.WarmedH.refl _)).2.2.1
  have hrecv := va_recv (s := ks K) hC.2.2.2.2.2.2.1 hPc hci hb
  exact va_runV (C := C) (As := As) (rest := rest) (Ts := Ts) (own := own) (nL := nL) (n := n) (b := b) (bytes := bytes) (maxL := maxL) (ret := ret) ⟨hC.1, hC.2.1, hC.2.2.1, hC.2.2.2.1, hC.2.2.2.2.1⟩ (hM H.size) (cwV n hC.2.2.2.2.1 hT hw hrm.1 hrm.2 hd (by rw [hRR]; exact ⟨hR.1, hR.2.1⟩)) ⟨ct_blind hk, hrecv, ct_pre (l := kl K) hC hgo hP hD hS hsub hndC⟩ rfl hn hl.1.1 hst (lv_room hsm) hdg (by rw [hRR]; exact hR.2.2)
theorem V.callSG (hC : Cok G K cc nL own Ts rm) (hM : Ct (kl K) G SFc y Ty rmy As wc mk Po w1 mc ms) (hk : SFk SFc) (hgo : SFgo K SFc) (hT : GoodIn Ts (va_wsS own index y Ty)) (hw : Ty = Cond.code y bytes maxL ret :: ws2) (hrm : rmy.cells = mc ∧ rmy.slots = ms)
    (hd : y.cls ≠ "java/lang/invoke/MethodHandle" ∧ y.cls ≠ "java/lang/invoke/VarHandle" ∧ (parseMethodDescriptor y.desc).map (fun d => d.parameters.length) = some n) (hR : rmy.frames + 1 ≤ rm.frames ∧ 8 + (maxL + 11) + rmy.locals ≤ rm.locals ∧ cells + mc ≤ rm.cells ∧ slots + ms ≤ rm.slots)
    (isC isR : List Nat) (hsub : isC.map (fun i => ws[i]?) = wc.map some) (hndC : va_nd isC = true) (hRr : isR.map (fun i => ws[i]?) = wr.map some) (hnd : va_nd isR = true) (hdis : ∀ i ∈ isR, i ∉ isC)
    (hst : st = As.reverse ++ rest) (hn : As.length = n) (hsm : (rest.map fun v => v.category).sum ≤ 8) (hdg : decode cc pc = .ok (.invokestatic index, 3))
    (kk : ∀ (r : α) (u : S), Po r u → V G K nL (cells + mc) (slots + ms) (pc + 3) lv ((mk r).toList ++ rest) (wr ++ w1 u)) : V G K nL cells slots pc lv st ws := by
  refine V.runG (a := As.toArray) isC isR hsub hRr hnd hdis hC.2.2.2.2.2.2.2.1 (fun H locs ls hP hD hS hl => ?_) kk
  have hRR := hC.2.2.2.2.2.1
  exact va_runS (As := As) (rest := rest) (Ts := Ts) (own := own) (nL := nL) (n := n) (bytes := bytes) (maxL := maxL) (ret := ret) ⟨hC.1, hC.2.1, hC.2.2.1, hC.2.2.2.1, hC.2.2.2.2.1⟩ (hM H.size) (va_cwS n hC.2.2.2.2.1 hT hw hrm.1 hrm.2 hd (by rw [hRR]; exact ⟨hR.1, hR.2.1⟩)) ⟨ct_blind hk, ct_pre (l := kl K) hC hgo hP hD hS hsub hndC⟩ rfl hn hl.1.1 hst (lv_room hsm) hdg (by rw [hRR]; exact hR.2.2)
/-- x.m(..), m of a class above the receiver's -/
theorem V.callUG (hC : Cok G K cc nL own Ts rm) (hM : Ct (kl K) G SFc y Ty rmy (.ref b :: As) wc mk Po w1 mc ms) (hk : SFk SFc) (hgo : SFgo K SFc) (hT : GoodIn Ts (va_wsU own index C owner x y Ty)) (hw : Ty = Cond.code y bytes maxL ret :: ws2) (hrm : rmy.cells = mc ∧ rmy.slots = ms)
    (hyx : y = ⟨owner, x.name, x.desc⟩) (hd : owner ≠ "java/lang/invoke/MethodHandle" ∧ owner ≠ "java/lang/invoke/VarHandle" ∧ (parseMethodDescriptor x.desc).map (fun d => d.parameters.length) = some n) (hR : rmy.frames + 1 ≤ rm.frames ∧ 8 + (maxL + 11) + rmy.locals ≤ rm.locals ∧ cells + mc ≤ rm.cells ∧ slots + ms ≤ rm.slots)
    (isC isR : List Nat) (hsub : isC.map (fun i => ws[i]?) = wc.map some) (hndC : va_nd isC = true) (hRr : isR.map (fun i => ws[i]?) = wr.map some) (hnd : va_nd isR = true) (hdis : ∀ i ∈ isR, i ∉ isC) {ci N : Nat} {fs : List Value} {T : u_T} (hb : wc[0]? = some (b, .inr (ci, fs))) (hci : vwCl[ci]? = some (C, T, N))
    (hst : st = As.reverse ++ .ref b :: rest) (hn : As.length = n) (hsm : (rest.map fun v => v.category).sum ≤ 8) (hdg : decode cc pc = .ok (.invokevirtual index, 3))
    (kk : ∀ (r : α) (u : S), Po r u → V G K nL (cells + mc) (slots + ms) (pc + 3) lv ((mk r).toList ++ rest) (wr ++ w1 u)) : V G K nL cells slots pc lv st ws := by
  refine V.runG (a := (Value.ref b :: As).toArray) isC isR hsub hRr hnd hdis hC.2.2.2.2.2.2.2.1 (fun H locs ls hP hD hS hl => ?_) kk
  have hRR := hC.2.2.2.2.2.1
  have hPc : va_P G.1 vwCl wc H := (ct_pre (l := kl K) (As := Value.ref b :: As) hC hgo hP hD hS hsub hndC ({ (ks K) with heap := H }) rfl (State.WarmedH.refl _)).2.2.1
  have hrecv := va_recv (s := ks K) hC.2.2.2.2.2.2.1 hPc hci hb
  exact va_runU (C := C) (As := As) (rest := rest) (Ts := Ts) (own := own) (nL := nL) (n := n) (b := b) (bytes := bytes) (maxL := maxL) (ret := ret) ⟨hC.1, hC.2.1, hC.2.2.1, hC.2.2.2.1, hC.2.2.2.2.1⟩ (hM H.size) (va_cwU n hC.2.2.2.2.1 hT hw hrm.1 hrm.2 hyx hd (by rw [hRR]; exact ⟨hR.1, hR.2.1⟩)) ⟨ct_blind hk, hrecv, ct_pre (l := kl K) hC hgo hP hD hS hsub hndC⟩ rfl hn hl.1.1 hst (lv_room hsm) hdg (by rw [hRR]; exact hR.2.2)
/-- super.m(..) -/
theorem V.callPG (hC : Cok G K cc nL own Ts rm) (hM : Ct (kl K) G SFc y Ty rmy (.ref b :: As) wc mk Po w1 mc ms) (hk : SFk SFc) (hgo : SFgo K SFc) (hT : GoodIn Ts (va_wsSU own index y Ty)) (hw : Ty = Cond.code y bytes maxL ret :: ws2) (hrm : rmy.cells = mc ∧ rmy.slots = ms)
    (hd : y.name ≠ "<init>" ∧ (parseMethodDescriptor y.desc).map (fun d => d.parameters.length) = some n) (hR : rmy.frames + 1 ≤ rm.frames ∧ 8 + (maxL + 11) + rmy.locals ≤ rm.locals ∧ cells + mc ≤ rm.cells ∧ slots + ms ≤ rm.slots)
    (isC isR : List Nat) (hsub : isC.map (fun i => ws[i]?) = wc.map some) (hndC : va_nd isC = true) (hRr : isR.map (fun i => ws[i]?) = wr.map some) (hnd : va_nd isR = true) (hdis : ∀ i ∈ isR, i ∉ isC) {ci N : Nat} {fs : List Value} {T : u_T} (hb : wc[0]? = some (b, .inr (ci, fs))) (hci : vwCl[ci]? = some (C, T, N))
    (hst : st = As.reverse ++ .ref b :: rest) (hn : As.length = n) (hsm : (rest.map fun v => v.category).sum ≤ 8) (hdg : decode cc pc = .ok (.invokespecial index, 3))
    (kk : ∀ (r : α) (u : S), Po r u → V G K nL (cells + mc) (slots + ms) (pc + 3) lv ((mk r).toList ++ rest) (wr ++ w1 u)) : V G K nL cells slots pc lv st ws := by
  refine V.runG (a := (Value.ref b :: As).toArray) isC isR hsub hRr hnd hdis hC.2.2.2.2.2.2.2.1 (fun H locs ls hP hD hS hl => ?_) kk
  have hRR := hC.2.2.2.2.2.1
  have hPc : va_P G.1 vwCl wc H := (ct_pre (l := kl K) (As := Value.ref b :: As) hC hgo hP hD hS hsub hndC ({ (ks K) with heap := H }) rfl (State.WarmedH.refl _)).2.2.1
  have hrecv := va_recv (s := ks K) hC.2.2.2.2.2.2.1 hPc hci hb
  exact va_runSU (C := C) (As := As) (rest := rest) (Ts := Ts) (own := own) (nL := nL) (n := n) (b := b) (bytes := bytes) (maxL := maxL) (ret := ret) (hC.2.2.2.2.2.2.1.1 ci _ hci).2 ⟨hC.1, hC.2.1, hC.2.2.1, hC.2.2.2.1, hC.2.2.2.2.1⟩ (hM H.size) (va_cwSU n hC.2.2.2.2.1 hT hw hrm.1 hrm.2 hd (by rw [hRR]; exact ⟨hR.1, hR.2.1⟩)) ⟨ct_blind hk, hrecv, ct_pre (l := kl K) hC hgo hP hD hS hsub hndC⟩ rfl hn hl.1.1 hst (lv_room hsm) hdg (by rw [hRR]; exact hR.2.2)
end ROWS2
