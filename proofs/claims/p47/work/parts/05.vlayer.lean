/-! V: the walk over a WORLD (a list of cells), a list of locals by their places, a stack: no heap is named. -/
abbrev Gx : Type := va_G × (Nat → Nat)
abbrev gI (G : Gx) : ClassId := G.2 0
abbrev gZ (G : Gx) : ClassId := G.2 1
abbrev gC (G : Gx) : ClassId := G.2 2
abbrev gSec (G : Gx) : ClassId := G.2 3
abbrev gSt (G : Gx) : ClassId := G.2 4
abbrev gII (G : Gx) : ClassId := G.2 5
abbrev gB (G : Gx) : ClassId := G.2 6
abbrev gJ (G : Gx) : ClassId := G.2 7
abbrev gD (G : Gx) : ClassId := G.2 8
def TY (G : Gx) : List (ClassId × FieldType) := [(gI G, .int), (gZ G, .boolean), (gC G, .char), (gSec G, .object "FeatherShares$Secret"), (gSt G, .object "FeatherShares$State"), (gII G, .array .int), (gB G, .byte)]
abbrev Cx : Type := Program × Launch × Env × Room × State × MethodId × Array Value × List Frame × Method × Code × (Nat → Prop) × (State → Prop)
abbrev kp (K : Cx) : Program := K.1
abbrev kl (K : Cx) : Launch := K.2.1
abbrev ke (K : Cx) : Env := K.2.2.1
abbrev kR (K : Cx) : Room := K.2.2.2.1
abbrev ks (K : Cx) : State := K.2.2.2.2.1
abbrev km (K : Cx) : MethodId := K.2.2.2.2.2.1
abbrev ka (K : Cx) : Array Value := K.2.2.2.2.2.2.1
abbrev kb (K : Cx) : List Frame := K.2.2.2.2.2.2.2.1
abbrev kt (K : Cx) : Method := K.2.2.2.2.2.2.2.2.1
abbrev kc (K : Cx) : Code := K.2.2.2.2.2.2.2.2.2.1
abbrev kA (K : Cx) : Nat → Prop := K.2.2.2.2.2.2.2.2.2.2.1
abbrev kQ (K : Cx) : State → Prop := K.2.2.2.2.2.2.2.2.2.2.2
/-- locals by their places -/
def lvp : Nat → List (Option Value) → List (Nat × Value)
  | _, [] => []
  | i, none :: t => lvp (i + 1) t
  | i, some v :: t => (i, v) :: lvp (i + 1) t
theorem lvp_mem : ∀ (lv : List (Option Value)) (i j : Nat) (v : Value), (j, v) ∈ lvp i lv ↔ i ≤ j ∧ lv[j - i]? = some (some v)
  | [], i, j, v => by simp [lvp]
  | none :: t, i, j, v => by
    rw [lvp, lvp_mem t (i + 1) j v]
    constructor
    · rintro ⟨h1, h2⟩
      refine ⟨by omega, ?_⟩
      rw [show j - i = (j - (i + 1)) + 1 by omega, List.getElem?_cons_succ]
      exact h2
    · rintro ⟨h1, h2⟩
      rcases Nat.lt_or_ge i j with h | h
      · refine ⟨h, ?_⟩
        rw [show j - i = (j - (i + 1)) + 1 by omega, List.getElem?_cons_succ] at h2
        exact h2
      · rw [show j - i = 0 by omega] at h2
        simp at h2
  | some w :: t, i, j, v => by
    rw [lvp, List.mem_cons, lvp_mem t (i + 1) j v]
    constructor
    · rintro (h | ⟨h1, h2⟩)
      · cases h
        refine ⟨Nat.le_refl _, ?_⟩
        rw [Nat.sub_self]
        rfl
      · refine ⟨by omega, ?_⟩
        rw [show j - i = (j - (i + 1)) + 1 by omega, List.getElem?_cons_succ]
        exact h2
    · rintro ⟨h1, h2⟩
      rcases Nat.lt_or_ge i j with h | h
      · right
        refine ⟨h, ?_⟩
        rw [show j - i = (j - (i + 1)) + 1 by omega, List.getElem?_cons_succ] at h2
        exact h2
      · left
        have e : j = i := by omega
        subst e
        rw [Nat.sub_self, List.getElem?_cons_zero] at h2
        cases h2
        rfl
def Lh (ls : Array Slot) (nL : Nat) (lv : List (Option Value)) : Prop := lv_has ls nL (lvp 0 lv) ∧ ∀ v, some v ∈ lv → v.category = 1
theorem Lh.get {ls : Array Slot} {nL : Nat} {lv : List (Option Value)} (h : Lh ls nL lv) {j : Nat} {v : Value} (hj : lv[j]? = some (some v)) : ls[j]? = some (.val v) :=
  h.1.2.2 (j, v) ((lvp_mem lv 0 j v).mpr ⟨Nat.zero_le _, hj⟩)
theorem Lh.put {ls ls' : Array Slot} {nL i : Nat} {lv : List (Option Value)} {v : Value} (h : Lh ls nL lv) (hv : v.category = 1) (h' : lv_has ls' nL ((i, v) :: (lvp 0 lv).filter (fun q => !(q.1 == i) && !(q.1 + 1 == i && q.2.category == 2)))) : Lh ls' nL (lv.set i (some v)) := by
  refine ⟨⟨h'.1, h'.2.1, fun q hq => ?_⟩, fun w hw => ?_⟩
  · obtain ⟨j, w⟩ := q
    have hj := ((lvp_mem _ 0 j w).mp hq).2
    rw [Nat.sub_zero] at hj
    by_cases hji : j = i
    · subst hji
      have hl : j < lv.length := by
        have := (List.getElem?_eq_some_iff.mp hj).1
        simpa using this
      rw [List.getElem?_set_self hl] at hj
      cases hj
      exact h'.2.2 _ List.mem_cons_self
    · rw [List.getElem?_set_ne (Ne.symm hji)] at hj
      refine h'.2.2 (j, w) (List.mem_cons_of_mem _ (List.mem_filter.mpr ⟨(lvp_mem lv 0 j w).mpr ⟨Nat.zero_le _, hj⟩, ?_⟩))
      have hc := h.2 w (List.mem_of_getElem? hj)
      simp [hji, hc]
  · rcases List.mem_or_eq_of_mem_set hw with h1 | h1
    · exact h.2 w h1
    · cases h1
      exact hv
theorem Lh.weak {ls : Array Slot} {nL : Nat} {lv lv' : List (Option Value)} (h : Lh ls nL lv) (hw : ∀ (i : Nat) (v : Value), lv'[i]? = some (some v) → lv[i]? = some (some v)) : Lh ls nL lv' := by
  refine ⟨⟨h.1.1, h.1.2.1, fun q hq => ?_⟩, fun v hv => ?_⟩
  · obtain ⟨j, w⟩ := q
    have hj := ((lvp_mem _ 0 j w).mp hq).2
    rw [Nat.sub_zero] at hj
    exact h.get (hw j w hj)
  · obtain ⟨i, hi⟩ := List.getElem?_of_mem hv
    exact h.2 v (List.mem_of_getElem? (hw i v hi))
def V (G : Gx) (K : Cx) (nL cells slots pc : Nat) (lv : List (Option Value)) (st : List Value) (ws : va_W) : Prop :=
  ∀ (H : Heap) (locs : List Loc) (ls : Array Slot), va_P G.1 vwCl ws H → va_D (kA K) ws → va_S (kA K) (ks K).heap H locs → Lh ls nL lv → W (kp K) (kl K) (ke K) (kR K) (ks K) (km K) (ka K) (kb K) (kt K) (kc K) H locs cells slots (kQ K) (F0 (km K) pc ls st)
/-- what is fixed in a walk -/
def Cok (G : Gx) (K : Cx) (cc : ByteArray) (nL : Nat) (own : String) (Ts : List Cond) (rm : Room) : Prop :=
  (kp K).tables.exec = Jvm.exec ∧ (kc K).code = cc ∧ (kc K).maxLocals = nL ∧ (ks K).vm.findClass own = some (km K).cls ∧ (∀ w ∈ Ts, w.before (ka K) (ks K) = true) ∧ kR K = rm ∧ va_K G.1 vwCl (TY G) (ks K) ∧ (∀ q, (ks K).heap.size ≤ q → kA K q) ∧ (kt K).locks = false
section VROWS
variable {G : Gx} {K : Cx} {nL cells slots pc : Nat} {lv lv' : List (Option Value)} {st : List Value} {ws ws' : va_W} {cc : ByteArray} {own : String} {Ts : List Cond} {rm : Room}
theorem V.weak (hw : ∀ (i : Nat) (v : Value), lv'[i]? = some (some v) → lv[i]? = some (some v)) (h : V G K nL cells slots pc lv' st ws) : V G K nL cells slots pc lv st ws := fun H locs ls hP hD hS hl => h H locs ls hP hD hS (hl.weak hw)
theorem V.drop (i : Nat) (e : lv.set i none = lv') (h : V G K nL cells slots pc lv' st ws) : V G K nL cells slots pc lv st ws := by
  subst e
  refine V.weak (fun j v hj => ?_) h
  by_cases hji : i = j
  · subst hji
    have hl : i < lv.length := by
      have := (List.getElem?_eq_some_iff.mp hj).1
      simpa using this
    rw [List.getElem?_set_self hl] at hj
    cases hj
  · rw [List.getElem?_set_ne hji] at hj
    exact hj
theorem V.widen {k n : Nat} (h1 : cells ≤ k) (h2 : slots ≤ n) (h : V G K nL k n pc lv st ws) : V G K nL cells slots pc lv st ws := fun H locs ls hP hD hS hl => W.widen h1 h2 (h H locs ls hP hD hS hl)
theorem V.eqw (e : ws = ws') (h : V G K nL cells slots pc lv st ws') : V G K nL cells slots pc lv st ws := by rw [e]; exact h
theorem V.topi {x : Int32} (k : ∀ y : Int32, y = x → V G K nL cells slots pc lv (.int y :: st) ws) : V G K nL cells slots pc lv (.int x :: st) ws := k x rfl
theorem V.iconst (hC : Cok G K cc nL own Ts rm) {n : Int} (v : Int32) (hdg : decode cc pc = .ok (.iconst n, 1)) (hv : Int32.ofInt n = v) (h : V G K nL cells slots (pc + 1) lv (.int v :: st) ws) : V G K nL cells slots pc lv st ws :=
  fun H locs ls hP hD hS hl => lv_iconst hC.1 hC.2.1 hdg hv (h H locs ls hP hD hS hl)
theorem V.bipush (hC : Cok G K cc nL own Ts rm) {n : Int} (v : Int32) (hdg : decode cc pc = .ok (.bipush n, 2)) (hv : (Int8.ofInt n).toInt32 = v) (h : V G K nL cells slots (pc + 2) lv (.int v :: st) ws) : V G K nL cells slots pc lv st ws :=
  fun H locs ls hP hD hS hl => lv_bipush hC.1 hC.2.1 hdg hv (h H locs ls hP hD hS hl)
theorem V.sipush (hC : Cok G K cc nL own Ts rm) {n : Int} (v : Int32) (hdg : decode cc pc = .ok (.sipush n, 3)) (hv : (Int16.ofInt n).toInt32 = v) (h : V G K nL cells slots (pc + 3) lv (.int v :: st) ws) : V G K nL cells slots pc lv st ws :=
  fun H locs ls hP hD hS hl => lv_sipush hC.1 hC.2.1 hdg hv (h H locs ls hP hD hS hl)
theorem V.ldc (hC : Cok G K cc nL own Ts rm) {index : Nat} (v : Int32) (hdg : decode cc pc = .ok (.ldc index, 2)) (hm : Cond.constant own index v ∈ Ts) (h : V G K nL cells slots (pc + 2) lv (.int v :: st) ws) : V G K nL cells slots pc lv st ws :=
  fun H locs ls hP hD hS hl => lv_ldc hC.1 hC.2.1 hC.2.2.2.1 (hC.2.2.2.2.1 _ hm) hdg (h H locs ls hP hD hS hl)
theorem V.lconst (hC : Cok G K cc nL own Ts rm) {n : Fin 2} (v : Int64) (hdg : decode cc pc = .ok (.lconst n, 1)) (hv : Int64.ofNat (n : Nat) = v) (h : V G K nL cells slots (pc + 1) lv (.long v :: st) ws) : V G K nL cells slots pc lv st ws :=
  fun H locs ls hP hD hS hl => lv_lconst hC.1 hC.2.1 hdg hv (h H locs ls hP hD hS hl)
theorem V.iload_n (hC : Cok G K cc nL own Ts rm) {k : Fin 4} {x : Int32} (hdg : decode cc pc = .ok (.iload_n k, 1)) (hj : lv[k.val]? = some (some (.int x))) (h : V G K nL cells slots (pc + 1) lv (.int x :: st) ws) : V G K nL cells slots pc lv st ws :=
  fun H locs ls hP hD hS hl => lv_iload_n hC.1 hC.2.1 hdg rfl (hl.get hj) (h H locs ls hP hD hS hl)
theorem V.iload (hC : Cok G K cc nL own Ts rm) {k : Nat} {x : Int32} (hdg : decode cc pc = .ok (.iload k, 2)) (hj : lv[k]? = some (some (.int x))) (h : V G K nL cells slots (pc + 2) lv (.int x :: st) ws) : V G K nL cells slots pc lv st ws :=
  fun H locs ls hP hD hS hl => lv_iload hC.1 hC.2.1 hdg (hl.get hj) (h H locs ls hP hD hS hl)
theorem V.fload (hC : Cok G K cc nL own Ts rm) {k : Nat} {x : UInt32} (hdg : decode cc pc = .ok (.fload k, 2)) (hj : lv[k]? = some (some (.float x))) (h : V G K nL cells slots (pc + 2) lv (.float x :: st) ws) : V G K nL cells slots pc lv st ws :=
  fun H locs ls hP hD hS hl => lv_fload hC.1 hC.2.1 hdg (hl.get hj) (h H locs ls hP hD hS hl)
theorem V.aload_n (hC : Cok G K cc nL own Ts rm) {k : Fin 4} {x : Nat} (hdg : decode cc pc = .ok (.aload_n k, 1)) (hj : lv[k.val]? = some (some (.ref x))) (h : V G K nL cells slots (pc + 1) lv (.ref x :: st) ws) : V G K nL cells slots pc lv st ws :=
  fun H locs ls hP hD hS hl => lv_aload_n hC.1 hC.2.1 hdg rfl (hl.get hj) (h H locs ls hP hD hS hl)
theorem V.aload (hC : Cok G K cc nL own Ts rm) {k : Nat} {x : Nat} (hdg : decode cc pc = .ok (.aload k, 2)) (hj : lv[k]? = some (some (.ref x))) (h : V G K nL cells slots (pc + 2) lv (.ref x :: st) ws) : V G K nL cells slots pc lv st ws :=
  fun H locs ls hP hD hS hl => lv_aload hC.1 hC.2.1 hdg (hl.get hj) (h H locs ls hP hD hS hl)
theorem V.aload_nN (hC : Cok G K cc nL own Ts rm) {k : Fin 4} (hdg : decode cc pc = .ok (.aload_n k, 1)) (hj : lv[k.val]? = some (some .null)) (h : V G K nL cells slots (pc + 1) lv (.null :: st) ws) : V G K nL cells slots pc lv st ws :=
  fun H locs ls hP hD hS hl => lv_aload_nN hC.1 hC.2.1 hdg rfl (hl.get hj) (h H locs ls hP hD hS hl)
theorem V.aloadN (hC : Cok G K cc nL own Ts rm) {k : Nat} (hdg : decode cc pc = .ok (.aload k, 2)) (hj : lv[k]? = some (some .null)) (h : V G K nL cells slots (pc + 2) lv (.null :: st) ws) : V G K nL cells slots pc lv st ws :=
  fun H locs ls hP hD hS hl => lv_aloadN hC.1 hC.2.1 hdg (hl.get hj) (h H locs ls hP hD hS hl)
theorem V.istore_n (hC : Cok G K cc nL own Ts rm) {k : Fin 4} {x : Int32} (hdg : decode cc pc = .ok (.istore_n k, 1)) (lv' : List (Option Value)) (hn : k.val < nL) (e : lv.set k.val (some (.int x)) = lv') (h : V G K nL cells slots (pc + 1) lv' st ws) : V G K nL cells slots pc lv (.int x :: st) ws :=
  fun H locs ls hP hD hS hl => lv_istore_n hC.1 hC.2.1 hdg rfl hl.1 hn rfl (fun ls' hl' => h H locs ls' hP hD hS (e ▸ hl.put rfl hl'))
theorem V.istore (hC : Cok G K cc nL own Ts rm) {k : Nat} {x : Int32} (hdg : decode cc pc = .ok (.istore k, 2)) (lv' : List (Option Value)) (hn : k < nL) (e : lv.set k (some (.int x)) = lv') (h : V G K nL cells slots (pc + 2) lv' st ws) : V G K nL cells slots pc lv (.int x :: st) ws :=
  fun H locs ls hP hD hS hl => lv_istore hC.1 hC.2.1 hdg hl.1 hn rfl (fun ls' hl' => h H locs ls' hP hD hS (e ▸ hl.put rfl hl'))
theorem V.fstore (hC : Cok G K cc nL own Ts rm) {k : Nat} {x : UInt32} (hdg : decode cc pc = .ok (.fstore k, 2)) (lv' : List (Option Value)) (hn : k < nL) (e : lv.set k (some (.float x)) = lv') (h : V G K nL cells slots (pc + 2) lv' st ws) : V G K nL cells slots pc lv (.float x :: st) ws :=
  fun H locs ls hP hD hS hl => lv_fstore hC.1 hC.2.1 hdg hl.1 hn rfl (fun ls' hl' => h H locs ls' hP hD hS (e ▸ hl.put rfl hl'))
theorem V.astore_n (hC : Cok G K cc nL own Ts rm) {k : Fin 4} {x : Nat} (hdg : decode cc pc = .ok (.astore_n k, 1)) (lv' : List (Option Value)) (hn : k.val < nL) (e : lv.set k.val (some (.ref x)) = lv') (h : V G K nL cells slots (pc + 1) lv' st ws) : V G K nL cells slots pc lv (.ref x :: st) ws :=
  fun H locs ls hP hD hS hl => lv_astore_n hC.1 hC.2.1 hdg rfl hl.1 hn rfl (fun ls' hl' => h H locs ls' hP hD hS (e ▸ hl.put rfl hl'))
theorem V.astore (hC : Cok G K cc nL own Ts rm) {k : Nat} {x : Nat} (hdg : decode cc pc = .ok (.astore k, 2)) (lv' : List (Option Value)) (hn : k < nL) (e : lv.set k (some (.ref x)) = lv') (h : V G K nL cells slots (pc + 2) lv' st ws) : V G K nL cells slots pc lv (.ref x :: st) ws :=
  fun H locs ls hP hD hS hl => lv_astore hC.1 hC.2.1 hdg hl.1 hn rfl (fun ls' hl' => h H locs ls' hP hD hS (e ▸ hl.put rfl hl'))
theorem V.astore_nN (hC : Cok G K cc nL own Ts rm) {k : Fin 4} (hdg : decode cc pc = .ok (.astore_n k, 1)) (lv' : List (Option Value)) (hn : k.val < nL) (e : lv.set k.val (some .null) = lv') (h : V G K nL cells slots (pc + 1) lv' st ws) : V G K nL cells slots pc lv (.null :: st) ws :=
  fun H locs ls hP hD hS hl => lv_astore_nN hC.1 hC.2.1 hdg rfl hl.1 hn rfl (fun ls' hl' => h H locs ls' hP hD hS (e ▸ hl.put rfl hl'))
theorem V.astoreN (hC : Cok G K cc nL own Ts rm) {k : Nat} (hdg : decode cc pc = .ok (.astore k, 2)) (lv' : List (Option Value)) (hn : k < nL) (e : lv.set k (some .null) = lv') (h : V G K nL cells slots (pc + 2) lv' st ws) : V G K nL cells slots pc lv (.null :: st) ws :=
  fun H locs ls hP hD hS hl => lv_astoreN hC.1 hC.2.1 hdg hl.1 hn rfl (fun ls' hl' => h H locs ls' hP hD hS (e ▸ hl.put rfl hl'))
theorem V.iinc (hC : Cok G K cc nL own Ts rm) {k : Nat} {n : Int} {x : Int32} (v : Int32) (hdg : decode cc pc = .ok (.iinc k n, 3)) (hj : lv[k]? = some (some (.int x))) (lv' : List (Option Value)) (hn : k < nL) (hv : x + Int32.ofInt n = v) (e : lv.set k (some (.int v)) = lv') (h : V G K nL cells slots (pc + 3) lv' st ws) : V G K nL cells slots pc lv st ws := by
  intro H locs ls hP hD hS hl
  obtain ⟨j, hj2⟩ := List.getElem?_of_mem ((lvp_mem lv 0 k (.int x)).mpr ⟨Nat.zero_le _, hj⟩)
  exact lv_iinc hC.1 hC.2.1 hdg hl.1 hj2 hv hn rfl (fun ls' hl' => h H locs ls' hP hD hS (e ▸ hl.put rfl hl'))
theorem V.iadd (hC : Cok G K cc nL own Ts rm) {x y : Int32} (hdg : decode cc pc = .ok (.iadd, 1)) (h : V G K nL cells slots (pc + 1) lv (.int (x + y) :: st) ws) : V G K nL cells slots pc lv (.int y :: .int x :: st) ws :=
  fun H locs ls hP hD hS hl => lv_iadd hC.1 hC.2.1 hdg (h H locs ls hP hD hS hl)
theorem V.isub (hC : Cok G K cc nL own Ts rm) {x y : Int32} (hdg : decode cc pc = .ok (.isub, 1)) (h : V G K nL cells slots (pc + 1) lv (.int (x - y) :: st) ws) : V G K nL cells slots pc lv (.int y :: .int x :: st) ws :=
  fun H locs ls hP hD hS hl => lv_isub hC.1 hC.2.1 hdg (h H locs ls hP hD hS hl)
theorem V.imul (hC : Cok G K cc nL own Ts rm) {x y : Int32} (hdg : decode cc pc = .ok (.imul, 1)) (h : V G K nL cells slots (pc + 1) lv (.int (x * y) :: st) ws) : V G K nL cells slots pc lv (.int y :: .int x :: st) ws :=
  fun H locs ls hP hD hS hl => lv_imul hC.1 hC.2.1 hdg (h H locs ls hP hD hS hl)
theorem V.iand (hC : Cok G K cc nL own Ts rm) {x y : Int32} (hdg : decode cc pc = .ok (.iand, 1)) (h : V G K nL cells slots (pc + 1) lv (.int (x &&& y) :: st) ws) : V G K nL cells slots pc lv (.int y :: .int x :: st) ws :=
  fun H locs ls hP hD hS hl => lv_iand hC.1 hC.2.1 hdg (h H locs ls hP hD hS hl)
theorem V.ior (hC : Cok G K cc nL own Ts rm) {x y : Int32} (hdg : decode cc pc = .ok (.ior, 1)) (h : V G K nL cells slots (pc + 1) lv (.int (x ||| y) :: st) ws) : V G K nL cells slots pc lv (.int y :: .int x :: st) ws :=
  fun H locs ls hP hD hS hl => lv_ior hC.1 hC.2.1 hdg (h H locs ls hP hD hS hl)
theorem V.ixor (hC : Cok G K cc nL own Ts rm) {x y : Int32} (hdg : decode cc pc = .ok (.ixor, 1)) (h : V G K nL cells slots (pc + 1) lv (.int (x ^^^ y) :: st) ws) : V G K nL cells slots pc lv (.int y :: .int x :: st) ws :=
  fun H locs ls hP hD hS hl => lv_ixor hC.1 hC.2.1 hdg (h H locs ls hP hD hS hl)
theorem V.idiv (hC : Cok G K cc nL own Ts rm) {x y : Int32} (hdg : decode cc pc = .ok (.idiv, 1)) (hne : ¬ y = 0) (h : V G K nL cells slots (pc + 1) lv (.int (x / y) :: st) ws) : V G K nL cells slots pc lv (.int y :: .int x :: st) ws :=
  fun H locs ls hP hD hS hl => lv_idiv hC.1 hC.2.1 hdg hne (h H locs ls hP hD hS hl)
theorem V.irem (hC : Cok G K cc nL own Ts rm) {x y : Int32} (hdg : decode cc pc = .ok (.irem, 1)) (hne : ¬ y = 0) (h : V G K nL cells slots (pc + 1) lv (.int (x - x / y * y) :: st) ws) : V G K nL cells slots pc lv (.int y :: .int x :: st) ws :=
  fun H locs ls hP hD hS hl => lv_irem hC.1 hC.2.1 hdg hne (h H locs ls hP hD hS hl)
theorem V.ishl (hC : Cok G K cc nL own Ts rm) {x y : Int32} (hdg : decode cc pc = .ok (.ishl, 1)) (h : V G K nL cells slots (pc + 1) lv (.int (x <<< (y &&& 31)) :: st) ws) : V G K nL cells slots pc lv (.int y :: .int x :: st) ws :=
  fun H locs ls hP hD hS hl => lv_ishl hC.1 hC.2.1 hdg (h H locs ls hP hD hS hl)
theorem V.ishr (hC : Cok G K cc nL own Ts rm) {x y : Int32} (hdg : decode cc pc = .ok (.ishr, 1)) (h : V G K nL cells slots (pc + 1) lv (.int (x >>> (y &&& 31)) :: st) ws) : V G K nL cells slots pc lv (.int y :: .int x :: st) ws :=
  fun H locs ls hP hD hS hl => lv_ishr hC.1 hC.2.1 hdg (h H locs ls hP hD hS hl)
theorem V.i2l (hC : Cok G K cc nL own Ts rm) {x : Int32} (hdg : decode cc pc = .ok (.i2l, 1)) (h : V G K nL cells slots (pc + 1) lv (.long x.toInt64 :: st) ws) : V G K nL cells slots pc lv (.int x :: st) ws :=
  fun H locs ls hP hD hS hl => lv_i2l hC.1 hC.2.1 hdg rfl (h H locs ls hP hD hS hl)
theorem V.i2c (hC : Cok G K cc nL own Ts rm) {x : Int32} (hdg : decode cc pc = .ok (.i2c, 1)) (h : V G K nL cells slots (pc + 1) lv (.int (x.toUInt32 % 65536).toInt32 :: st) ws) : V G K nL cells slots pc lv (.int x :: st) ws :=
  fun H locs ls hP hD hS hl => lv_i2c hC.1 hC.2.1 hdg rfl (h H locs ls hP hD hS hl)
theorem V.i2f (hC : Cok G K cc nL own Ts rm) {x : Int32} (hdg : decode cc pc = .ok (.i2f, 1)) (h : V G K nL cells slots (pc + 1) lv (.float (FP.i2f x) :: st) ws) : V G K nL cells slots pc lv (.int x :: st) ws :=
  fun H locs ls hP hD hS hl => lv_i2f hC.1 hC.2.1 hdg (h H locs ls hP hD hS hl)
theorem V.i2d (hC : Cok G K cc nL own Ts rm) {x : Int32} (hdg : decode cc pc = .ok (.i2d, 1)) (h : V G K nL cells slots (pc + 1) lv (.double (FP.i2d x) :: st) ws) : V G K nL cells slots pc lv (.int x :: st) ws :=
  fun H locs ls hP hD hS hl => lv_i2d hC.1 hC.2.1 hdg (h H locs ls hP hD hS hl)
theorem V.fdiv (hC : Cok G K cc nL own Ts rm) {x y : UInt32} (hdg : decode cc pc = .ok (.fdiv, 1)) (hne : vf_n32 (FP.fdiv x y)) (h : V G K nL cells slots (pc + 1) lv (.float (FP.fdiv x y) :: st) ws) : V G K nL cells slots pc lv (.float y :: .float x :: st) ws :=
  fun H locs ls hP hD hS hl => lv_fdiv hC.1 hC.2.1 hdg hne (h H locs ls hP hD hS hl)
theorem V.ddiv (hC : Cok G K cc nL own Ts rm) {x y : UInt64} (hdg : decode cc pc = .ok (.ddiv, 1)) (hne : vf_n64 (FP.ddiv x y)) (h : V G K nL cells slots (pc + 1) lv (.double (FP.ddiv x y) :: st) ws) : V G K nL cells slots pc lv (.double y :: .double x :: st) ws :=
  fun H locs ls hP hD hS hl => lv_ddiv hC.1 hC.2.1 hdg hne (h H locs ls hP hD hS hl)
theorem V.f2d (hC : Cok G K cc nL own Ts rm) {x : UInt32} (hdg : decode cc pc = .ok (.f2d, 1)) (hne : vf_n64 (FP.f2d x)) (h : V G K nL cells slots (pc + 1) lv (.double (FP.f2d x) :: st) ws) : V G K nL cells slots pc lv (.float x :: st) ws :=
  fun H locs ls hP hD hS hl => lv_f2d hC.1 hC.2.1 hdg hne (h H locs ls hP hD hS hl)
theorem V.fconst0 (hC : Cok G K cc nL own Ts rm) (hdg : decode cc pc = .ok (.fconst 0, 1)) (h : V G K nL cells slots (pc + 1) lv (.float FP.fconst0 :: st) ws) : V G K nL cells slots pc lv st ws :=
  fun H locs ls hP hD hS hl => lv_fconst0 hC.1 hC.2.1 hdg (h H locs ls hP hD hS hl)
theorem V.dconst0 (hC : Cok G K cc nL own Ts rm) (hdg : decode cc pc = .ok (.dconst 0, 1)) (h : V G K nL cells slots (pc + 1) lv (.double FP.dconst0 :: st) ws) : V G K nL cells slots pc lv st ws :=
  fun H locs ls hP hD hS hl => lv_dconst0 hC.1 hC.2.1 hdg (h H locs ls hP hD hS hl)
theorem V.lcmp (hC : Cok G K cc nL own Ts rm) {x y : Int64} (hdg : decode cc pc = .ok (.lcmp, 1)) (h : V G K nL cells slots (pc + 1) lv (.int (lg_cmp x y) :: st) ws) : V G K nL cells slots pc lv (.long y :: .long x :: st) ws :=
  fun H locs ls hP hD hS hl => W.lcmp hC.1 hC.2.1 hdg (h H locs ls hP hD hS hl)
theorem V.dcmp (hC : Cok G K cc nL own Ts rm) {x y : UInt64} {op : CmpOp} (hdg : decode cc pc = .ok (.dcmp op, 1)) (h : V G K nL cells slots (pc + 1) lv (.int (Op.cmpValue (FP.dcmp x y) op) :: st) ws) : V G K nL cells slots pc lv (.double y :: .double x :: st) ws :=
  fun H locs ls hP hD hS hl => lv_dcmp hC.1 hC.2.1 hdg (h H locs ls hP hD hS hl)
theorem V.dup (hC : Cok G K cc nL own Ts rm) {v : Value} (hdg : decode cc pc = .ok (.dup, 1)) (hv : v.category = 1) (h : V G K nL cells slots (pc + 1) lv (v :: v :: st) ws) : V G K nL cells slots pc lv (v :: st) ws :=
  fun H locs ls hP hD hS hl => lv_dup hC.1 hC.2.1 hdg hv (h H locs ls hP hD hS hl)
theorem V.dup2 (hC : Cok G K cc nL own Ts rm) {v w : Value} (hdg : decode cc pc = .ok (.dup2, 1)) (hv : v.category = 1) (hw : w.category = 1) (h : V G K nL cells slots (pc + 1) lv (v :: w :: v :: w :: st) ws) : V G K nL cells slots pc lv (v :: w :: st) ws :=
  fun H locs ls hP hD hS hl => lv_dup2_11 hC.1 hC.2.1 hdg hv hw (h H locs ls hP hD hS hl)
theorem V.pop (hC : Cok G K cc nL own Ts rm) {v : Value} (hdg : decode cc pc = .ok (.pop, 1)) (hv : v.category = 1) (h : V G K nL cells slots (pc + 1) lv st ws) : V G K nL cells slots pc lv (v :: st) ws :=
  fun H locs ls hP hD hS hl => lv_pop hC.1 hC.2.1 hdg hv (h H locs ls hP hD hS hl)
theorem V.null (hC : Cok G K cc nL own Ts rm) (hdg : decode cc pc = .ok (.aconst_null, 1)) (h : V G K nL cells slots (pc + 1) lv (.null :: st) ws) : V G K nL cells slots pc lv st ws :=
  fun H locs ls hP hD hS hl => lv_null hC.1 hC.2.1 hdg (h H locs ls hP hD hS hl)
theorem V.goto (hC : Cok G K cc nL own Ts rm) {off : Int} (tgt : Nat) (hdg : decode cc pc = .ok (.goto off, 3)) (ht : (pc : Int) + off = (tgt : Int)) (h : V G K nL cells slots tgt lv st ws) : V G K nL cells slots pc lv st ws :=
  fun H locs ls hP hD hS hl => lv_goto hC.1 hC.2.1 hdg ht (h H locs ls hP hD hS hl)
theorem V.if_eq (hC : Cok G K cc nL own Ts rm) {x : Int32} {off : Int} (tgt : Nat) (hdg : decode cc pc = .ok (.ifCond .eq off, 3)) (ht : (pc : Int) + off = (tgt : Int)) (ht1 : x = 0 → V G K nL cells slots tgt lv st ws) (hf1 : ¬ x = 0 → V G K nL cells slots (pc + 3) lv st ws) : V G K nL cells slots pc lv (.int x :: st) ws :=
  fun H locs ls hP hD hS hl => lv_if_eq hC.1 hC.2.1 hdg ht (fun q => ht1 q H locs ls hP hD hS hl) (fun q => hf1 q H locs ls hP hD hS hl)
theorem V.icmp_eq (hC : Cok G K cc nL own Ts rm) {x y : Int32} {off : Int} (tgt : Nat) (hdg : decode cc pc = .ok (.if_icmp .eq off, 3)) (ht : (pc : Int) + off = (tgt : Int)) (ht1 : x = y → V G K nL cells slots tgt lv st ws) (hf1 : ¬ x = y → V G K nL cells slots (pc + 3) lv st ws) : V G K nL cells slots pc lv (.int y :: .int x :: st) ws :=
  fun H locs ls hP hD hS hl => lv_icmp_eq hC.1 hC.2.1 hdg ht (fun q => ht1 q H locs ls hP hD hS hl) (fun q => hf1 q H locs ls hP hD hS hl)
theorem V.if_ne (hC : Cok G K cc nL own Ts rm) {x : Int32} {off : Int} (tgt : Nat) (hdg : decode cc pc = .ok (.ifCond .ne off, 3)) (ht : (pc : Int) + off = (tgt : Int)) (ht1 : ¬ x = 0 → V G K nL cells slots tgt lv st ws) (hf1 : x = 0 → V G K nL cells slots (pc + 3) lv st ws) : V G K nL cells slots pc lv (.int x :: st) ws :=
  fun H locs ls hP hD hS hl => lv_if_ne hC.1 hC.2.1 hdg ht (fun q => ht1 q H locs ls hP hD hS hl) (fun q => hf1 q H locs ls hP hD hS hl)
theorem V.icmp_ne (hC : Cok G K cc nL own Ts rm) {x y : Int32} {off : Int} (tgt : Nat) (hdg : decode cc pc = .ok (.if_icmp .ne off, 3)) (ht : (pc : Int) + off = (tgt : Int)) (ht1 : ¬ x = y → V G K nL cells slots tgt lv st ws) (hf1 : x = y → V G K nL cells slots (pc + 3) lv st ws) : V G K nL cells slots pc lv (.int y :: .int x :: st) ws :=
  fun H locs ls hP hD hS hl => lv_icmp_ne hC.1 hC.2.1 hdg ht (fun q => ht1 q H locs ls hP hD hS hl) (fun q => hf1 q H locs ls hP hD hS hl)
theorem V.if_lt (hC : Cok G K cc nL own Ts rm) {x : Int32} {off : Int} (tgt : Nat) (hdg : decode cc pc = .ok (.ifCond .lt off, 3)) (ht : (pc : Int) + off = (tgt : Int)) (ht1 : x < 0 → V G K nL cells slots tgt lv st ws) (hf1 : ¬ x < 0 → V G K nL cells slots (pc + 3) lv st ws) : V G K nL cells slots pc lv (.int x :: st) ws :=
  fun H locs ls hP hD hS hl => lv_if_lt hC.1 hC.2.1 hdg ht (fun q => ht1 q H locs ls hP hD hS hl) (fun q => hf1 q H locs ls hP hD hS hl)
theorem V.icmp_lt (hC : Cok G K cc nL own Ts rm) {x y : Int32} {off : Int} (tgt : Nat) (hdg : decode cc pc = .ok (.if_icmp .lt off, 3)) (ht : (pc : Int) + off = (tgt : Int)) (ht1 : x < y → V G K nL cells slots tgt lv st ws) (hf1 : ¬ x < y → V G K nL cells slots (pc + 3) lv st ws) : V G K nL cells slots pc lv (.int y :: .int x :: st) ws :=
  fun H locs ls hP hD hS hl => lv_icmp_lt hC.1 hC.2.1 hdg ht (fun q => ht1 q H locs ls hP hD hS hl) (fun q => hf1 q H locs ls hP hD hS hl)
theorem V.if_ge (hC : Cok G K cc nL own Ts rm) {x : Int32} {off : Int} (tgt : Nat) (hdg : decode cc pc = .ok (.ifCond .ge off, 3)) (ht : (pc : Int) + off = (tgt : Int)) (ht1 : 0 ≤ x → V G K nL cells slots tgt lv st ws) (hf1 : ¬ 0 ≤ x → V G K nL cells slots (pc + 3) lv st ws) : V G K nL cells slots pc lv (.int x :: st) ws :=
  fun H locs ls hP hD hS hl => lv_if_ge hC.1 hC.2.1 hdg ht (fun q => ht1 q H locs ls hP hD hS hl) (fun q => hf1 q H locs ls hP hD hS hl)
theorem V.icmp_ge (hC : Cok G K cc nL own Ts rm) {x y : Int32} {off : Int} (tgt : Nat) (hdg : decode cc pc = .ok (.if_icmp .ge off, 3)) (ht : (pc : Int) + off = (tgt : Int)) (ht1 : y ≤ x → V G K nL cells slots tgt lv st ws) (hf1 : ¬ y ≤ x → V G K nL cells slots (pc + 3) lv st ws) : V G K nL cells slots pc lv (.int y :: .int x :: st) ws :=
  fun H locs ls hP hD hS hl => lv_icmp_ge hC.1 hC.2.1 hdg ht (fun q => ht1 q H locs ls hP hD hS hl) (fun q => hf1 q H locs ls hP hD hS hl)
theorem V.if_gt (hC : Cok G K cc nL own Ts rm) {x : Int32} {off : Int} (tgt : Nat) (hdg : decode cc pc = .ok (.ifCond .gt off, 3)) (ht : (pc : Int) + off = (tgt : Int)) (ht1 : 0 < x → V G K nL cells slots tgt lv st ws) (hf1 : ¬ 0 < x → V G K nL cells slots (pc + 3) lv st ws) : V G K nL cells slots pc lv (.int x :: st) ws :=
  fun H locs ls hP hD hS hl => lv_if_gt hC.1 hC.2.1 hdg ht (fun q => ht1 q H locs ls hP hD hS hl) (fun q => hf1 q H locs ls hP hD hS hl)
theorem V.icmp_gt (hC : Cok G K cc nL own Ts rm) {x y : Int32} {off : Int} (tgt : Nat) (hdg : decode cc pc = .ok (.if_icmp .gt off, 3)) (ht : (pc : Int) + off = (tgt : Int)) (ht1 : y < x → V G K nL cells slots tgt lv st ws) (hf1 : ¬ y < x → V G K nL cells slots (pc + 3) lv st ws) : V G K nL cells slots pc lv (.int y :: .int x :: st) ws :=
  fun H locs ls hP hD hS hl => lv_icmp_gt hC.1 hC.2.1 hdg ht (fun q => ht1 q H locs ls hP hD hS hl) (fun q => hf1 q H locs ls hP hD hS hl)
theorem V.if_le (hC : Cok G K cc nL own Ts rm) {x : Int32} {off : Int} (tgt : Nat) (hdg : decode cc pc = .ok (.ifCond .le off, 3)) (ht : (pc : Int) + off = (tgt : Int)) (ht1 : x ≤ 0 → V G K nL cells slots tgt lv st ws) (hf1 : ¬ x ≤ 0 → V G K nL cells slots (pc + 3) lv st ws) : V G K nL cells slots pc lv (.int x :: st) ws :=
  fun H locs ls hP hD hS hl => lv_if_le hC.1 hC.2.1 hdg ht (fun q => ht1 q H locs ls hP hD hS hl) (fun q => hf1 q H locs ls hP hD hS hl)
theorem V.icmp_le (hC : Cok G K cc nL own Ts rm) {x y : Int32} {off : Int} (tgt : Nat) (hdg : decode cc pc = .ok (.if_icmp .le off, 3)) (ht : (pc : Int) + off = (tgt : Int)) (ht1 : x ≤ y → V G K nL cells slots tgt lv st ws) (hf1 : ¬ x ≤ y → V G K nL cells slots (pc + 3) lv st ws) : V G K nL cells slots pc lv (.int y :: .int x :: st) ws :=
  fun H locs ls hP hD hS hl => lv_icmp_le hC.1 hC.2.1 hdg ht (fun q => ht1 q H locs ls hP hD hS hl) (fun q => hf1 q H locs ls hP hD hS hl)
theorem V.ifnull (hC : Cok G K cc nL own Ts rm) {x : Nat} {off : Int} (hdg : decode cc pc = .ok (.ifnull off, 3)) (h : V G K nL cells slots (pc + 3) lv st ws) : V G K nL cells slots pc lv (.ref x :: st) ws :=
  fun H locs ls hP hD hS hl => lv_ifnull hC.1 hC.2.1 hdg (h H locs ls hP hD hS hl)
theorem V.ifnullN (hC : Cok G K cc nL own Ts rm) {off : Int} (tgt : Nat) (hdg : decode cc pc = .ok (.ifnull off, 3)) (ht : (pc : Int) + off = (tgt : Int)) (h : V G K nL cells slots tgt lv st ws) : V G K nL cells slots pc lv (.null :: st) ws :=
  fun H locs ls hP hD hS hl => lv_ifnullN hC.1 hC.2.1 hdg ht (h H locs ls hP hD hS hl)
theorem V.ifnonnull (hC : Cok G K cc nL own Ts rm) {x : Nat} {off : Int} (tgt : Nat) (hdg : decode cc pc = .ok (.ifnonnull off, 3)) (ht : (pc : Int) + off = (tgt : Int)) (h : V G K nL cells slots tgt lv st ws) : V G K nL cells slots pc lv (.ref x :: st) ws :=
  fun H locs ls hP hD hS hl => lv_ifnonnull hC.1 hC.2.1 hdg ht (h H locs ls hP hD hS hl)
theorem V.ifnonnullN (hC : Cok G K cc nL own Ts rm) {off : Int} (hdg : decode cc pc = .ok (.ifnonnull off, 3)) (h : V G K nL cells slots (pc + 3) lv st ws) : V G K nL cells slots pc lv (.null :: st) ws :=
  fun H locs ls hP hD hS hl => lv_ifnonnullN hC.1 hC.2.1 hdg (h H locs ls hP hD hS hl)
theorem V.acmp_eq (hC : Cok G K cc nL own Ts rm) {x y : Nat} {off : Int} (tgt : Nat) (hdg : decode cc pc = .ok (.if_acmp .eq off, 3)) (ht : (pc : Int) + off = (tgt : Int)) (ht1 : x = y → V G K nL cells slots tgt lv st ws) (hf1 : ¬ x = y → V G K nL cells slots (pc + 3) lv st ws) : V G K nL cells slots pc lv (.ref y :: .ref x :: st) ws :=
  fun H locs ls hP hD hS hl => lv_acmp_eq (rx := some x) (ry := some y) hC.1 hC.2.1 hdg ht (fun q => ht1 (Option.some.inj q) H locs ls hP hD hS hl) (fun q => hf1 (fun z => q (by rw [z])) H locs ls hP hD hS hl)
theorem V.acmp_ne (hC : Cok G K cc nL own Ts rm) {x y : Nat} {off : Int} (tgt : Nat) (hdg : decode cc pc = .ok (.if_acmp .ne off, 3)) (ht : (pc : Int) + off = (tgt : Int)) (ht1 : ¬ x = y → V G K nL cells slots tgt lv st ws) (hf1 : x = y → V G K nL cells slots (pc + 3) lv st ws) : V G K nL cells slots pc lv (.ref y :: .ref x :: st) ws :=
  fun H locs ls hP hD hS hl => lv_acmp_ne (rx := some x) (ry := some y) hC.1 hC.2.1 hdg ht (fun q => ht1 (fun z => q (by rw [z])) H locs ls hP hD hS hl) (fun q => hf1 (Option.some.inj q) H locs ls hP hD hS hl)
theorem V.getf (hC : Cok G K cc nL own Ts rm) {C ref : String} {T : u_T} {N ci index a : Nat} (hin : ∀ w ∈ u_ws C T N, w ∈ Ts) (k : Nat) (hm : Cond.fieldLink own index ref (T k).2.1 (T k).2.2.1 ∈ Ts) (hsame : ref = (T k).1) (q0 : Nat) {fs : List Value} (he : ws[q0]? = some (a, .inr (ci, fs))) (hc : vwCl[ci]? = some (C, T, N)) (hk : k < N) (v : Value) (hv : fs[k]? = some v) (hdg : decode cc pc = .ok (.getfield index, 3)) (h : V G K nL cells slots (pc + 3) lv (v :: st) ws) : V G K nL cells slots pc lv (.ref a :: st) ws := by
  intro H locs ls hP hD hS hl
  subst hsame
  exact va_get (D := G.1) hC.1 hC.2.1 hC.2.2.2.2.1 hin hC.2.2.2.1 hC.2.2.2.2.2.2.1 hP q0 he hc k hk (hC.2.2.2.2.1 _ hm) (fun _ z => z) hv hdg (h H locs ls hP hD hS hl)
theorem V.putf (hC : Cok G K cc nL own Ts rm) {C ref : String} {T : u_T} {N ci index a : Nat} (hin : ∀ w ∈ u_ws C T N, w ∈ Ts) (ty0 : Nat → FieldType) (hty : ∀ k, k < N → parseFieldDescriptor (T k).2.2.1 = some (ty0 k)) (hnm : ∀ a, a < N → ∀ b, b < N → a ≠ b → (T a).2.1 ≠ (T b).2.1) (k : Nat) (hm : Cond.fieldLink own index ref (T k).2.1 (T k).2.2.1 ∈ Ts) (hsame : ref = (T k).1) (hfin : (T k).2.2.2 = false) (q0 : Nat) {fs : List Value} (he : ws[q0]? = some (a, .inr (ci, fs))) (hc : vwCl[ci]? = some (C, T, N)) (hk : k < N) (hl0 : k < fs.length) {v : Value} (hn : narrow (ty0 k) v = v) (hfit : fits (ty0 k) v = true) (hdg : decode cc pc = .ok (.putfield index, 3)) (ws' : va_W) (e : ws.set q0 (a, .inr (ci, fs.set k v)) = ws') (h : V G K nL cells slots (pc + 3) lv st ws') : V G K nL cells slots pc lv (v :: .ref a :: st) ws := by
  intro H locs ls hP hD hS hl
  subst hsame
  subst e
  exact va_put (D := G.1) hC.1 hC.2.1 hC.2.2.2.2.1 hin ty0 hty hnm hC.2.2.2.1 hC.2.2.2.2.2.2.1 hP hD hS q0 he hc k hk (hC.2.2.2.2.1 _ hm) (fun _ z => z) hfin (hty k hk) hn hfit hl0 hdg (fun H1 locs1 hP1 hD1 hS1 => h H1 locs1 ls hP1 hD1 hS1 hl)
theorem V.putfF (hC : Cok G K cc nL own Ts rm) {C ref : String} {T : u_T} {N ci index a : Nat} (hin : ∀ w ∈ u_ws C T N, w ∈ Ts) (ty0 : Nat → FieldType) (hty : ∀ k, k < N → parseFieldDescriptor (T k).2.2.1 = some (ty0 k)) (hnm : ∀ a, a < N → ∀ b, b < N → a ≠ b → (T a).2.1 ≠ (T b).2.1) (k : Nat) (hm : Cond.fieldLink own index ref (T k).2.1 (T k).2.2.1 ∈ Ts) (hsame : ref = (T k).1) (hfin : (T k).2.2.2 = true) (hini : (kt K).name = "<init>") (hdecl : (T k).1 = own) (q0 : Nat) {fs : List Value} (he : ws[q0]? = some (a, .inr (ci, fs))) (hc : vwCl[ci]? = some (C, T, N)) (hk : k < N) (hl0 : k < fs.length) {v : Value} (hn : narrow (ty0 k) v = v) (hfit : fits (ty0 k) v = true) (hdg : decode cc pc = .ok (.putfield index, 3)) (ws' : va_W) (e : ws.set q0 (a, .inr (ci, fs.set k v)) = ws') (h : V G K nL cells slots (pc + 3) lv st ws') : V G K nL cells slots pc lv (v :: .ref a :: st) ws := by
  intro H locs ls hP hD hS hl
  subst hsame
  subst e
  exact va_putF (D := G.1) hC.1 hC.2.1 hC.2.2.2.2.1 hin ty0 hty hnm hC.2.2.2.1 hC.2.2.2.2.2.2.1 hP hD hS q0 he hc k hk (hC.2.2.2.2.1 _ hm) (fun _ z => z) hfin hini hdecl (hty k hk) hn hfit hl0 hdg (fun H1 locs1 hP1 hD1 hS1 => h H1 locs1 ls hP1 hD1 hS1 hl)
theorem ix_in {i : Int32} {j n : Nat} (hi : i = nI j) (hj : j < n) (hn : n < 2 ^ 31) : vp_in i n := by rw [hi]; exact vp_in_nI hj hn
theorem ix_cl {i : Int32} {j n : Nat} (hi : i = nI j) (hj : j < n) (hn : n < 2 ^ 31) : i.toNatClampNeg = j := by rw [hi]; exact nI_clamp (Nat.lt_trans hj hn)
theorem V.iald (hC : Cok G K cc nL own Ts rm) (hdg : decode cc pc = .ok (.iaload, 1)) (q0 : Nat) {a n : Nat} {f : Nat → Int32} (ha : ws[q0]? = some (a, .inl (gI G, n, .inl f))) {i : Int32} (j : Nat) (hi : i = nI j) (hj : j < n) (hn : n < 2 ^ 31) (h : V G K nL cells slots (pc + 1) lv (.int (f j) :: st) ws) : V G K nL cells slots pc lv (.int i :: .ref a :: st) ws :=
  fun H locs ls hP hD hS hl => va_iald (D := G.1) (tys := TY G) hC.1 hC.2.1 hC.2.2.2.2.2.2.1 hP q0 0 ha rfl (ix_in hi hj hn) hdg (by rw [ix_cl hi hj hn]; exact h H locs ls hP hD hS hl)
theorem V.zald (hC : Cok G K cc nL own Ts rm) (hdg : decode cc pc = .ok (.baload, 1)) (q0 : Nat) {a n : Nat} {f : Nat → Int32} (ha : ws[q0]? = some (a, .inl (gZ G, n, .inl f))) {i : Int32} (j : Nat) (hi : i = nI j) (hj : j < n) (hn : n < 2 ^ 31) (h : V G K nL cells slots (pc + 1) lv (.int (f j) :: st) ws) : V G K nL cells slots pc lv (.int i :: .ref a :: st) ws :=
  fun H locs ls hP hD hS hl => va_zald (D := G.1) (tys := TY G) hC.1 hC.2.1 hC.2.2.2.2.2.2.1 hP q0 1 ha rfl (ix_in hi hj hn) hdg (by rw [ix_cl hi hj hn]; exact h H locs ls hP hD hS hl)
theorem V.cald (hC : Cok G K cc nL own Ts rm) (hdg : decode cc pc = .ok (.caload, 1)) (q0 : Nat) {a n : Nat} {f : Nat → Int32} (ha : ws[q0]? = some (a, .inl (gC G, n, .inl f))) {i : Int32} (j : Nat) (hi : i = nI j) (hj : j < n) (hn : n < 2 ^ 31) (h : V G K nL cells slots (pc + 1) lv (.int (f j) :: st) ws) : V G K nL cells slots pc lv (.int i :: .ref a :: st) ws :=
  fun H locs ls hP hD hS hl => va_cald (D := G.1) (tys := TY G) hC.1 hC.2.1 hC.2.2.2.2.2.2.1 hP q0 2 ha rfl (ix_in hi hj hn) hdg (by rw [ix_cl hi hj hn]; exact h H locs ls hP hD hS hl)
theorem V.aaldS (hC : Cok G K cc nL own Ts rm) (hdg : decode cc pc = .ok (.aaload, 1)) (q0 : Nat) {a n : Nat} {f : Nat → Option Nat} (ha : ws[q0]? = some (a, .inl (gSec G, n, .inr (.inr (.inr (.inr f)))))) {i : Int32} (j : Nat) (hi : i = nI j) (hj : j < n) (hn : n < 2 ^ 31) (x : Nat) (hx : f j = some x) (h : V G K nL cells slots (pc + 1) lv (.ref x :: st) ws) : V G K nL cells slots pc lv (.int i :: .ref a :: st) ws :=
  fun H locs ls hP hD hS hl => va_aldq (D := G.1) (tys := TY G) hC.1 hC.2.1 hC.2.2.2.2.2.2.1 hP q0 3 ha rfl (ix_in hi hj hn) hdg (by rw [ix_cl hi hj hn, hx]; exact h H locs ls hP hD hS hl)
theorem V.aaldT (hC : Cok G K cc nL own Ts rm) (hdg : decode cc pc = .ok (.aaload, 1)) (q0 : Nat) {a n : Nat} {f : Nat → Option Nat} (ha : ws[q0]? = some (a, .inl (gSt G, n, .inr (.inr (.inr (.inr f)))))) {i : Int32} (j : Nat) (hi : i = nI j) (hj : j < n) (hn : n < 2 ^ 31) (x : Nat) (hx : f j = some x) (h : V G K nL cells slots (pc + 1) lv (.ref x :: st) ws) : V G K nL cells slots pc lv (.int i :: .ref a :: st) ws :=
  fun H locs ls hP hD hS hl => va_aldq (D := G.1) (tys := TY G) hC.1 hC.2.1 hC.2.2.2.2.2.2.1 hP q0 4 ha rfl (ix_in hi hj hn) hdg (by rw [ix_cl hi hj hn, hx]; exact h H locs ls hP hD hS hl)
theorem V.iast (hC : Cok G K cc nL own Ts rm) (hdg : decode cc pc = .ok (.iastore, 1)) (q0 : Nat) {a n : Nat} {f : Nat → Int32} (ha : ws[q0]? = some (a, .inl (gI G, n, .inl f))) {i x : Int32} (j : Nat) (hi : i = nI j) (hj : j < n) (hn : n < 2 ^ 31) (ws' : va_W) (e : ws.set q0 (a, .inl (gI G, n, .inl (upd f j x))) = ws') (h : V G K nL cells slots (pc + 1) lv st ws') : V G K nL cells slots pc lv (.int x :: .int i :: .ref a :: st) ws := by
  intro H locs ls hP hD hS hl
  subst e
  refine va_iast (D := G.1) (tys := TY G) hC.1 hC.2.1 hC.2.2.2.2.2.2.1 hP hD hS q0 0 ha rfl (ix_in hi hj hn) hdg (fun H1 locs1 hP1 hD1 hS1 => ?_)
  rw [ix_cl hi hj hn] at hP1 hD1
  exact h H1 locs1 ls hP1 hD1 hS1 hl
theorem V.zast (hC : Cok G K cc nL own Ts rm) (hdg : decode cc pc = .ok (.bastore, 1)) (q0 : Nat) {a n : Nat} {f : Nat → Int32} (ha : ws[q0]? = some (a, .inl (gZ G, n, .inl f))) {i x : Int32} (j : Nat) (hi : i = nI j) (hj : j < n) (hn : n < 2 ^ 31) (hx : vp_nar .boolean x = x) (ws' : va_W) (e : ws.set q0 (a, .inl (gZ G, n, .inl (upd f j x))) = ws') (h : V G K nL cells slots (pc + 1) lv st ws') : V G K nL cells slots pc lv (.int x :: .int i :: .ref a :: st) ws := by
  intro H locs ls hP hD hS hl
  subst e
  refine va_zast (D := G.1) (tys := TY G) hC.1 hC.2.1 hC.2.2.2.2.2.2.1 hP hD hS q0 1 ha rfl (ix_in hi hj hn) hdg (fun H1 locs1 hP1 hD1 hS1 => ?_)
  rw [ix_cl hi hj hn, hx] at hP1 hD1
  exact h H1 locs1 ls hP1 hD1 hS1 hl
theorem V.cast (hC : Cok G K cc nL own Ts rm) (hdg : decode cc pc = .ok (.castore, 1)) (q0 : Nat) {a n : Nat} {f : Nat → Int32} (ha : ws[q0]? = some (a, .inl (gC G, n, .inl f))) {i x : Int32} (j : Nat) (hi : i = nI j) (hj : j < n) (hn : n < 2 ^ 31) (hx : vp_nar .char x = x) (ws' : va_W) (e : ws.set q0 (a, .inl (gC G, n, .inl (upd f j x))) = ws') (h : V G K nL cells slots (pc + 1) lv st ws') : V G K nL cells slots pc lv (.int x :: .int i :: .ref a :: st) ws := by
  intro H locs ls hP hD hS hl
  subst e
  refine va_cast (D := G.1) (tys := TY G) hC.1 hC.2.1 hC.2.2.2.2.2.2.1 hP hD hS q0 2 ha rfl (ix_in hi hj hn) hdg (fun H1 locs1 hP1 hD1 hS1 => ?_)
  rw [ix_cl hi hj hn, hx] at hP1 hD1
  exact h H1 locs1 ls hP1 hD1 hS1 hl
theorem V.aastS (hC : Cok G K cc nL own Ts rm) (hdg : decode cc pc = .ok (.aastore, 1)) (q0 qk : Nat) {a n v : Nat} {f : Nat → Option Nat} {vs : List Value} (ha : ws[q0]? = some (a, .inl (gSec G, n, .inr (.inr (.inr (.inr f)))))) (hv : ws[qk]? = some (v, .inr (10, vs))) {i : Int32} (j : Nat) (hi : i = nI j) (hj : j < n) (hn : n < 2 ^ 31) (ws' : va_W) (e : ws.set q0 (a, .inl (gSec G, n, .inr (.inr (.inr (.inr (va_up f j (some v))))))) = ws') (h : V G K nL cells slots (pc + 1) lv st ws') : V G K nL cells slots pc lv (.ref v :: .int i :: .ref a :: st) ws := by
  intro H locs ls hP hD hS hl
  subst e
  refine va_astq (D := G.1) (tys := TY G) hC.1 hC.2.1 hC.2.2.2.2.2.2.1 hP hD hS q0 3 qk 10 (r := (RX10, TX10, 3)) ha rfl hv rfl (ix_in hi hj hn) hdg (fun H1 locs1 hP1 hD1 hS1 => ?_)
  rw [ix_cl hi hj hn] at hP1 hD1
  exact h H1 locs1 ls hP1 hD1 hS1 hl
theorem V.aastT (hC : Cok G K cc nL own Ts rm) (hdg : decode cc pc = .ok (.aastore, 1)) (q0 qk : Nat) {a n v : Nat} {f : Nat → Option Nat} {vs : List Value} (ha : ws[q0]? = some (a, .inl (gSt G, n, .inr (.inr (.inr (.inr f)))))) (hv : ws[qk]? = some (v, .inr (11, vs))) {i : Int32} (j : Nat) (hi : i = nI j) (hj : j < n) (hn : n < 2 ^ 31) (ws' : va_W) (e : ws.set q0 (a, .inl (gSt G, n, .inr (.inr (.inr (.inr (va_up f j (some v))))))) = ws') (h : V G K nL cells slots (pc + 1) lv st ws') : V G K nL cells slots pc lv (.ref v :: .int i :: .ref a :: st) ws := by
  intro H locs ls hP hD hS hl
  subst e
  refine va_astq (D := G.1) (tys := TY G) hC.1 hC.2.1 hC.2.2.2.2.2.2.1 hP hD hS q0 4 qk 11 (r := (RX11, TX11, 6)) ha rfl hv rfl (ix_in hi hj hn) hdg (fun H1 locs1 hP1 hD1 hS1 => ?_)
  rw [ix_cl hi hj hn] at hP1 hD1
  exact h H1 locs1 ls hP1 hD1 hS1 hl
theorem V.alen (hC : Cok G K cc nL own Ts rm) (hdg : decode cc pc = .ok (.arraylength, 1)) (q0 t0 : Nat) {a : Nat} {cA : ClassId} {x : vp_A} (ha : ws[q0]? = some (a, .inl (cA, x))) {ty : FieldType} (ht : (TY G)[t0]? = some (cA, ty)) (v : Int32) (hv : Int32.ofNat x.1 = v) (h : V G K nL cells slots (pc + 1) lv (.int v :: st) ws) : V G K nL cells slots pc lv (.ref a :: st) ws :=
  fun H locs ls hP hD hS hl => va_alen (D := G.1) hC.1 hC.2.1 hC.2.2.2.2.2.2.1 hP q0 t0 ha ht hv hdg (h H locs ls hP hD hS hl)
theorem V.tableIn (hC : Cok G K cc nL own Ts rm) {dflt lo hi : Int} {offs : Array Int} {len : Nat} {x : Int32} {off : Int} (tgt : Nat) (hdg : decode cc pc = .ok (.tableswitch dflt lo hi offs, len)) (h1 : ¬ x.toInt < lo) (h2 : ¬ hi < x.toInt) (ho : offs[(x.toInt - lo).toNat]? = some off) (ht : (pc : Int) + off = (tgt : Int)) (h : V G K nL cells slots tgt lv st ws) : V G K nL cells slots pc lv (.int x :: st) ws :=
  fun H locs ls hP hD hS hl => lv_tableIn hC.1 hC.2.1 hdg h1 h2 ho ht (h H locs ls hP hD hS hl)
theorem V.tableOut (hC : Cok G K cc nL own Ts rm) {dflt lo hi : Int} {offs : Array Int} {len : Nat} {x : Int32} (tgt : Nat) (hdg : decode cc pc = .ok (.tableswitch dflt lo hi offs, len)) (h1 : x.toInt < lo ∨ hi < x.toInt) (ht : (pc : Int) + dflt = (tgt : Int)) (h : V G K nL cells slots tgt lv st ws) : V G K nL cells slots pc lv (.int x :: st) ws :=
  fun H locs ls hP hD hS hl => lv_tableOut hC.1 hC.2.1 hdg h1 ht (h H locs ls hP hD hS hl)
theorem V.lookup (hC : Cok G K cc nL own Ts rm) {dflt : Int} {ps : Array (Int × Int)} {len : Nat} {x : Int32} {off : Int} (tgt : Nat) (hdg : decode cc pc = .ok (.lookupswitch dflt ps, len)) (hp : (ps.toList.zip (ps.toList.drop 1)).all (fun (a, next) => a.1 < next.1) = true) (ho : Op.lookupswitch.offset ps.toList dflt x.toInt = off) (ht : (pc : Int) + off = (tgt : Int)) (h : V G K nL cells slots tgt lv st ws) : V G K nL cells slots pc lv (.int x :: st) ws :=
  fun H locs ls hP hD hS hl => lv_lookup hC.1 hC.2.1 hdg hp ho ht (h H locs ls hP hD hS hl)
/-- a static: what it holds was read at the start, and its holder is none of this walk's cells -/
theorem V.gets (hC : Cok G K cc nL own Ts rm) {C n d ref : String} {v : Value} {index : Nat} (hZ : va_Z C n d v (kA K) (ks K) (ks K).heap) (hm : Cond.fieldLink own index ref n d ∈ Ts) (hsame : ref = C) (hdg : decode cc pc = .ok (.getstatic index, 3)) (h : V G K nL cells slots (pc + 3) lv (v :: st) ws) : V G K nL cells slots pc lv st ws := by
  intro H locs ls hP hD hS hl
  subst hsame
  exact va_gets hC.1 hC.2.1 hZ hS hC.2.2.2.1 (hC.2.2.2.2.1 _ hm) (fun _ z => z) hdg (h H locs ls hP hD hS hl)
theorem V.ti (hC : Cok G K cc nL own Ts rm) {t N : Nat} {f : Nat → Value} (hT : va_T .int t N f (kA K) (ks K) (ks K).heap) (hdg : decode cc pc = .ok (.iaload, 1)) {i : Int32} (j : Nat) (hi : i = nI j) (hj : j < N) (hn : N < 2 ^ 31) (v : Value) (hv : f j = v) (h : V G K nL cells slots (pc + 1) lv (v :: st) ws) : V G K nL cells slots pc lv (.int i :: .ref t :: st) ws :=
  fun H locs ls hP hD hS hl => va_ti hC.1 hC.2.1 hT hS (ix_in hi hj hn) (by rw [ix_cl hi hj hn]; exact hv) hdg (h H locs ls hP hD hS hl)
theorem V.mmax (hC : Cok G K cc nL own Ts rm) {index : Nat} (h1 : Cond.methodLink own index Lib.Math.max.name ∈ Ts) (h2 : Cond.static Lib.Math.max.name ∈ Ts) (h3 : Cond.initialized "java/lang/Math" ∈ Ts) (h4 : Cond.code Lib.Math.max.name Lib.Math.max.code 2 (some .int) ∈ Ts) (hr : 1 ≤ rm.frames ∧ (st.map fun v => v.category).sum + 13 ≤ rm.locals ∧ cells ≤ rm.cells ∧ slots ≤ rm.slots) {x y : Int32} (hdg : decode cc pc = .ok (.invokestatic index, 3)) (h : V G K nL cells slots (pc + 3) lv (.int (if x < y then y else x) :: st) ws) : V G K nL cells slots pc lv (.int y :: .int x :: st) ws := by
  intro H locs ls hP hD hS hl
  have hR := hC.2.2.2.2.2.1
  exact va_mmax hC.1 hC.2.1 (hC.2.2.1.trans hl.1.1.symm) hC.2.2.2.1 (hC.2.2.2.2.1 _ h1) (hC.2.2.2.2.1 _ h2) (hC.2.2.2.2.1 _ h3) (hC.2.2.2.2.1 _ h4) (by rw [hR]; exact hr.1) (by rw [hR]; exact hr.2.1) (by rw [hR]; exact hr.2.2.1) (by rw [hR]; exact hr.2.2.2) hdg (h H locs ls hP hD hS hl)
theorem V.mmin (hC : Cok G K cc nL own Ts rm) {index : Nat} (h1 : Cond.methodLink own index Lib.Math.min.name ∈ Ts) (h2 : Cond.static Lib.Math.min.name ∈ Ts) (h3 : Cond.initialized "java/lang/Math" ∈ Ts) (h4 : Cond.code Lib.Math.min.name Lib.Math.min.code 2 (some .int) ∈ Ts) (hr : 1 ≤ rm.frames ∧ (st.map fun v => v.category).sum + 13 ≤ rm.locals ∧ cells ≤ rm.cells ∧ slots ≤ rm.slots) {x y : Int32} (hdg : decode cc pc = .ok (.invokestatic index, 3)) (h : V G K nL cells slots (pc + 3) lv (.int (if y < x then y else x) :: st) ws) : V G K nL cells slots pc lv (.int y :: .int x :: st) ws := by
  intro H locs ls hP hD hS hl
  have hR := hC.2.2.2.2.2.1
  exact va_mmin hC.1 hC.2.1 (hC.2.2.1.trans hl.1.1.symm) hC.2.2.2.1 (hC.2.2.2.2.1 _ h1) (hC.2.2.2.2.1 _ h2) (hC.2.2.2.2.1 _ h3) (hC.2.2.2.2.1 _ h4) (by rw [hR]; exact hr.1) (by rw [hR]; exact hr.2.1) (by rw [hR]; exact hr.2.2.1) (by rw [hR]; exact hr.2.2.2) hdg (h H locs ls hP hD hS hl)
end VROWS
