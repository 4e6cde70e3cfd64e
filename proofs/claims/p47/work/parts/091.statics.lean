/-! what the statics hold: the constants of Deed and Problem, their switch maps, the row of deeds, the forms -/
def dNm : List String := ["BIRD", "MOVE", "SPLIT", "LOSE", "SPOIL", "ISSUE", "REFRESH", "FORGET"]
def pNm : List String := ["NONE", "ARGUMENT", "BIRD", "SECRET", "STATE", "HOLDERS"]
def adD (G : Gx) (i : Nat) : Nat := G.2 (100 + i)
def adP (G : Gx) (i : Nat) : Nat := G.2 (120 + i)
def smD (G : Gx) : Nat := G.2 140
def smP (G : Gx) : Nat := G.2 141
def dds (G : Gx) : Nat := G.2 142
def adK (G : Gx) (i : Nat) : Nat := G.2 (150 + i)
def adV (G : Gx) (i : Nat) : Nat := G.2 (160 + i)
def smDv (j : Nat) : Int32 := nI (([1, 2, 3, 6, 7, 0, 4, 5] : List Nat).getD j 0)
def oD : List Int32 := [0, 1, 2, 3, 4, 5, 6, 7]
def oP : List Int32 := [0, 1, 2, 3, 4, 5]
/-- the forms of the commands, their signs by number -/
def fmS : List (List Nat) := ["bird #", "move # #", "split % # %", "lose # %", "spoil # % %", "issue # %", "refresh % %", "forget %"].map (fun s => s.toList.map Char.toNat)
def fByt : List (List Int32) := fmS.map (fun l => l.map nI)
def fLen : List Nat := fmS.map List.length
def SFx (G : Gx) (A : Nat → Prop) (U : State) (H : Heap) : Prop :=
  va_En "FeatherShares$Deed" "LFeatherShares$Deed;" dNm [("java/lang/Enum", "ordinal", "I", oD)] (adD G) A U H ∧
  va_En "FeatherShares$Problem" "LFeatherShares$Problem;" pNm [("java/lang/Enum", "ordinal", "I", oP)] (adP G) A U H ∧
  va_Z "FeatherShares$1" "$SwitchMap$FeatherShares$Deed" "[I" (.ref (smD G)) A U H ∧ va_T .int (smD G) 8 (fun j => .int (smDv j)) A U H ∧
  va_Z "FeatherShares$1" "$SwitchMap$FeatherShares$Problem" "[I" (.ref (smP G)) A U H ∧ va_T .int (smP G) 6 (fun j => .int (nI j)) A U H ∧
  va_Z "FeatherShares" "DEEDS" "[LFeatherShares$Deed;" (.ref (dds G)) A U H ∧ va_T (.object "FeatherShares$Deed") (dds G) 8 (fun j => .ref (adD G j)) A U H ∧
  va_Ef 8 "FeatherShares$Deed" "form" "Ljava/lang/String;" (fun i => .ref (adK G i)) (adD G) A U H ∧
  vk_S 8 fLen fByt (adK G) (adV G) A U H ∧
  va_Z "java/lang/String" "COMPACT_STRINGS" "Z" (.int 1) A U H ∧
  va_Zq "jdk/internal/util/Preconditions" "SIOOBE_FORMATTER" "Ljava/util/function/BiFunction;" A U H ∧
  va_Nw (.fieldLinkNest "FeatherShares$Program" 55 "FeatherShares" "DEEDS" "[LFeatherShares$Deed;" "FeatherShares") U
theorem SFx.moved {G : Gx} {A : Nat → Prop} {u U : State} {H : Heap} (hvm : u.vm.Alike U.vm) (hnw : va_Nw (.fieldLinkNest "FeatherShares$Program" 55 "FeatherShares" "DEEDS" "[LFeatherShares$Deed;" "FeatherShares") U) (h : SFx G A u H) : SFx G A U H := by
  obtain ⟨h1, h2, h3, h4, h5, h6, h7, h8, h9, h10, h11, h12, h13⟩ := h
  exact ⟨va_En.moved hvm h1, va_En.moved hvm h2, va_Z.moved hvm h3, va_T.moved hvm h4, va_Z.moved hvm h5, va_T.moved hvm h6, va_Z.moved hvm h7, va_T.moved hvm h8, va_Ef.moved hvm h9, vk_S.moved hvm h10, va_Z.moved hvm h11, va_Zq.moved hvm h12, hnw⟩
theorem SFx.k (G : Gx) : SFk (SFx G) := by
  refine ⟨fun A s U H hW h => SFx.moved hW.alike (va_Nw.warmF hW h.2.2.2.2.2.2.2.2.2.2.2.2) h, fun A u U H hv h => SFx.moved (by rw [hv]; exact Vm.Alike.refl _) (va_Nw.same rfl hv.symm h.2.2.2.2.2.2.2.2.2.2.2.2) h, fun A B U H hB h => ?_, fun A U H H1 hq h => ?_⟩
  · obtain ⟨h1, h2, h3, h4, h5, h6, h7, h8, h9, h10, h11, h12, h13⟩ := h
    exact ⟨va_En.narrow h1 hB, va_En.narrow h2 hB, va_Z.narrow h3 hB, va_T.narrow h4 hB, va_Z.narrow h5 hB, va_T.narrow h6 hB, va_Z.narrow h7 hB, va_T.narrow h8 hB, va_Ef.narrow h9 hB, vk_S.narrow h10 hB, va_Z.narrow h11 hB, va_Zq.narrow h12 hB, h13⟩
  · obtain ⟨h1, h2, h3, h4, h5, h6, h7, h8, h9, h10, h11, h12, h13⟩ := h
    exact ⟨va_En.kept h1 hq, va_En.kept h2 hq, va_Z.kept h3 hq, va_T.kept h4 hq, va_Z.kept h5 hq, va_T.kept h6 hq, va_Z.kept h7 hq, va_T.kept h8 hq, va_Ef.kept h9 hq, vk_S.kept h10 hq, va_Z.kept h11 hq, va_Zq.kept h12 hq, h13⟩
section SROWS
variable {α S : Type} {G : Gx} {K : Cx} {nL cells slots pc : Nat} {lv : List (Option Value)} {st rest As : List Value} {ws wc : va_W} {cc bytes : ByteArray} {own C : String} {Ts Ty ws2 : List Cond} {rm rmy : Room} {SFc : (Nat → Prop) → State → Heap → Prop} {y : MethodName} {mk : α → Option Value} {Po : α → S → Prop} {w1 : S → va_W} {mc ms maxL index n b : Nat} {ret : Option FieldType}
theorem V.getOF (hC : Cok G K cc nL own Ts rm) {o n d ref : String} {index q : Nat} {v : Value} (hE : va_OF o n d v q (kA K) (ks K) (ks K).heap) (hm : Cond.fieldLink own index ref n d ∈ Ts) (hsame : ref = o) (hdg : decode cc pc = .ok (.getfield index, 3)) (h : V G K nL cells slots (pc + 3) lv (v :: st) ws) : V G K nL cells slots pc lv (.ref q :: st) ws := by
  intro H locs ls hP hD hS hl
  subst hsame
  exact vk_getf hC.1 hC.2.1 hE hS hC.2.2.2.1 (hC.2.2.2.2.1 _ hm) (fun _ z => z) hdg (h H locs ls hP hD hS hl)
/-- a private static of the class around -/
theorem V.getsN (hC : Cok G K cc nL own Ts rm) {C n d ref host : String} {v : Value} {index : Nat} (hZ : va_Z C n d v (kA K) (ks K) (ks K).heap) (hm : va_Nw (.fieldLinkNest own index ref n d host) (ks K)) (hsame : ref = C) (hdg : decode cc pc = .ok (.getstatic index, 3)) (h : V G K nL cells slots (pc + 3) lv (v :: st) ws) : V G K nL cells slots pc lv st ws := by
  intro H locs ls hP hD hS hl
  subst hsame
  exact va_getsN hC.1 hC.2.1 hZ hS hC.2.2.2.1 (va_Nw.use rfl hm) (fun _ z => z) hdg (h H locs ls hP hD hS hl)
/-- x.m(..) on an object of the statics, m found in a class above -/
theorem V.callU {x : MethodName} {owner : String} (hC : Cok G K cc nL own Ts rm) (hM : Ct (kl K) G SFc y Ty rmy (.ref b :: As) wc mk Po w1 mc ms) (hk : SFk SFc) (hgo : SFgo K SFc) (hO : va_O C b (kA K) (ks K) (ks K).heap) (hT : GoodIn Ts (va_wsU own index C owner x y Ty)) (hw : Ty = Cond.code y bytes maxL ret :: ws2) (hrm : rmy.cells = mc ∧ rmy.slots = ms)
    (hyx : y = ⟨owner, x.name, x.desc⟩) (hd : owner ≠ "java/lang/invoke/MethodHandle" ∧ owner ≠ "java/lang/invoke/VarHandle" ∧ (parseMethodDescriptor x.desc).map (fun d => d.parameters.length) = some n) (hR : rmy.frames + 1 ≤ rm.frames ∧ 8 + (maxL + 11) + rmy.locals ≤ rm.locals ∧ cells + mc ≤ rm.cells ∧ slots + ms ≤ rm.slots)
    (isC : List Nat) (hsub : isC.map (fun i => ws[i]?) = wc.map some) (hnd : va_nd isC = true) (hadr : ∀ u, (w1 u).map Prod.fst = wc.map Prod.fst)
    (hst : st = As.reverse ++ .ref b :: rest) (hn : As.length = n) (hsm : (rest.map fun v => v.category).sum ≤ 8) (hdg : decode cc pc = .ok (.invokevirtual index, 3))
    (kk : ∀ (r : α) (u : S), Po r u → V G K nL (cells + mc) (slots + ms) (pc + 3) lv ((mk r).toList ++ rest) (rj ws isC (w1 u))) : V G K nL cells slots pc lv st ws := by
  refine V.run (a := (Value.ref b :: As).toArray) isC hsub hnd hadr hC.2.2.2.2.2.2.2.1 (fun H locs ls hP hD hS hl => ?_) kk
  have hRR := hC.2.2.2.2.2.1
  have hrecv : ∃ cell : Cell, H[b]? = some cell ∧ cell.vm.isStatics = false ∧ (ks K).vm.findClass C = some cell.cls := by
    obtain ⟨cell, h1, h2, h3, -⟩ := hO.kept hS.2.1
    exact ⟨cell, h1, h2, h3⟩
  exact va_runU (C := C) (As := As) (rest := rest) (Ts := Ts) (own := own) (nL := nL) (n := n) (b := b) (bytes := bytes) (maxL := maxL) (ret := ret) ⟨hC.1, hC.2.1, hC.2.2.1, hC.2.2.2.1, hC.2.2.2.2.1⟩ (hM H.size) (va_cwU n hC.2.2.2.2.1 hT hw hrm.1 hrm.2 hyx hd (by rw [hRR]; exact ⟨hR.1, hR.2.1⟩)) ⟨ct_blind hk, hrecv, ct_pre (l := kl K) hC hgo hP hD hS hsub hnd⟩ rfl hn hl.1.1 hst (lv_room hsm) hdg (by rw [hRR]; exact hR.2.2)
/-- x.m(..) on an object of the statics -/
theorem V.callO (hC : Cok G K cc nL own Ts rm) (hM : Ct (kl K) G SFc y Ty rmy (.ref b :: As) wc mk Po w1 mc ms) (hk : SFk SFc) (hgo : SFgo K SFc) (hO : va_O C b (kA K) (ks K) (ks K).heap) (hT : GoodIn Ts (wsV own index C y Ty)) (hw : Ty = Cond.code y bytes maxL ret :: ws2) (hrm : rmy.cells = mc ∧ rmy.slots = ms)
    (hd : y.cls = C ∧ y.cls ≠ "java/lang/invoke/MethodHandle" ∧ y.cls ≠ "java/lang/invoke/VarHandle" ∧ (parseMethodDescriptor y.desc).map (fun d => d.parameters.length) = some n) (hR : rmy.frames + 1 ≤ rm.frames ∧ 8 + (maxL + 11) + rmy.locals ≤ rm.locals ∧ cells + mc ≤ rm.cells ∧ slots + ms ≤ rm.slots)
    (isC : List Nat) (hsub : isC.map (fun i => ws[i]?) = wc.map some) (hnd : va_nd isC = true) (hadr : ∀ u, (w1 u).map Prod.fst = wc.map Prod.fst)
    (hst : st = As.reverse ++ .ref b :: rest) (hn : As.length = n) (hsm : (rest.map fun v => v.category).sum ≤ 8) (hdg : decode cc pc = .ok (.invokevirtual index, 3))
    (kk : ∀ (r : α) (u : S), Po r u → V G K nL (cells + mc) (slots + ms) (pc + 3) lv ((mk r).toList ++ rest) (rj ws isC (w1 u))) : V G K nL cells slots pc lv st ws := by
  refine V.run (a := (Value.ref b :: As).toArray) isC hsub hnd hadr hC.2.2.2.2.2.2.2.1 (fun H locs ls hP hD hS hl => ?_) kk
  have hRR := hC.2.2.2.2.2.1
  have hrecv : ∃ cell : Cell, H[b]? = some cell ∧ cell.vm.isStatics = false ∧ (ks K).vm.findClass C = some cell.cls := by
    obtain ⟨cell, h1, h2, h3, -⟩ := hO.kept hS.2.1
    exact ⟨cell, h1, h2, h3⟩
  exact va_runV (C := C) (As := As) (rest := rest) (Ts := Ts) (own := own) (nL := nL) (n := n) (b := b) (bytes := bytes) (maxL := maxL) (ret := ret) ⟨hC.1, hC.2.1, hC.2.2.1, hC.2.2.2.1, hC.2.2.2.2.1⟩ (hM H.size) (cwV n hC.2.2.2.2.1 hT hw hrm.1 hrm.2 hd (by rw [hRR]; exact ⟨hR.1, hR.2.1⟩)) ⟨ct_blind hk, hrecv, ct_pre (l := kl K) hC hgo hP hD hS hsub hnd⟩ rfl hn hl.1.1 hst (lv_room hsm) hdg (by rw [hRR]; exact hR.2.2)
end SROWS
theorem oD_at : ∀ i, i < 8 → oD.getD i 0 = nI i := by decide
theorem oP_at : ∀ i, i < 6 → oP.getD i 0 = nI i := by decide
theorem SFx.dz {G : Gx} {A : Nat → Prop} {U : State} {H : Heap} (h : SFx G A U H) (i : Nat) (hi : i < 8) : va_Z "FeatherShares$Deed" (dNm.getD i "") "LFeatherShares$Deed;" (.ref (adD G i)) A U H := (h.1.1 i hi).1
theorem SFx.pz {G : Gx} {A : Nat → Prop} {U : State} {H : Heap} (h : SFx G A U H) (i : Nat) (hi : i < 6) : va_Z "FeatherShares$Problem" (pNm.getD i "") "LFeatherShares$Problem;" (.ref (adP G i)) A U H := (h.2.1.1 i hi).1
theorem SFx.dO {G : Gx} {A : Nat → Prop} {U : State} {H : Heap} (h : SFx G A U H) (i : Nat) (hi : i < 8) : va_O "FeatherShares$Deed" (adD G i) A U H := (h.1.1 i hi).2.1
theorem SFx.pO {G : Gx} {A : Nat → Prop} {U : State} {H : Heap} (h : SFx G A U H) (i : Nat) (hi : i < 6) : va_O "FeatherShares$Problem" (adP G i) A U H := (h.2.1.1 i hi).2.1
theorem SFx.dor {G : Gx} {A : Nat → Prop} {U : State} {H : Heap} (h : SFx G A U H) (i : Nat) (hi : i < 8) : va_OF "java/lang/Enum" "ordinal" "I" (.int (nI i)) (adD G i) A U H := by
  have := (h.1.1 i hi).2.2 ("java/lang/Enum", "ordinal", "I", oD) (List.mem_singleton.mpr rfl)
  rw [← oD_at i hi]
  exact this
theorem SFx.por {G : Gx} {A : Nat → Prop} {U : State} {H : Heap} (h : SFx G A U H) (i : Nat) (hi : i < 6) : va_OF "java/lang/Enum" "ordinal" "I" (.int (nI i)) (adP G i) A U H := by
  have := (h.2.1.1 i hi).2.2 ("java/lang/Enum", "ordinal", "I", oP) (List.mem_singleton.mpr rfl)
  rw [← oP_at i hi]
  exact this
theorem SFx.dne {G : Gx} {A : Nat → Prop} {U : State} {H : Heap} (h : SFx G A U H) {i j : Nat} (hi : i < 8) (hj : j < 8) : adD G i = adD G j ↔ i = j := ⟨h.1.2 i j hi hj, fun e => by rw [e]⟩
theorem SFx.pne {G : Gx} {A : Nat → Prop} {U : State} {H : Heap} (h : SFx G A U H) {i j : Nat} (hi : i < 6) (hj : j < 6) : adP G i = adP G j ↔ i = j := ⟨h.2.1.2 i j hi hj, fun e => by rw [e]⟩
