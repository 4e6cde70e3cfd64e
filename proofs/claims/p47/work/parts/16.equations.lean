/-! Equations (printed by gen/s16.py) -/
/-- the equations: the object, the row of rows, which columns are led, the fresh row, the solution, four rows -/
def eqW (G : Gx) (he aw al af as_ : Nat) (ar : Nat → Nat) (un : Nat) (Rn : Nat → Nat → Nat) (led fr so : Nat → Nat) : va_W :=
  [(he, .inr (5, [.ref aw, .ref al, .ref af, .ref as_, .int (nI un)])), (aw, .inl (gII G, 4, .inr (.inr (.inr (.inr (fun k => some (ar k))))))), (al, .inl (gZ G, 4, .inl (fun j => nI (led j)))), (af, .inl (gI G, 5, .inl (fun j => nI (fr j)))), (as_, .inl (gI G, 4, .inl (fun j => nI (so j)))),
   (ar 0, .inl (gI G, 5, .inl (fun j => nI (Rn 0 j)))), (ar 1, .inl (gI G, 5, .inl (fun j => nI (Rn 1 j)))), (ar 2, .inl (gI G, 5, .inl (fun j => nI (Rn 2 j)))), (ar 3, .inl (gI G, 5, .inl (fun j => nI (Rn 3 j))))]
theorem lt4 {k : Nat} (h : k < 4) : k = 0 ∨ k = 1 ∨ k = 2 ∨ k = 3 := by omega
theorem mx_0 {α : Type} (g f : Nat → α) : mx g f 0 = f := by funext j; simp [mx]
theorem mx_succ {α : Type} (g f : Nat → α) (b : Nat) : va_up (mx g f b) b (g b) = mx g f (b + 1) := by
  funext j
  unfold va_up mx
  by_cases h : j = b
  · subst h
    simp
  · rw [if_neg h]
    by_cases h2 : j < b
    · rw [if_pos h2, if_pos (by omega)]
    · rw [if_neg h2, if_neg (by omega)]
theorem mx_in {α : Type} {g f : Nat → α} {b k : Nat} (h : k < b) : mx g f b k = g k := by simp [mx, h]
theorem mx_out {α : Type} {g f : Nat → α} {b k : Nat} (h : ¬ k < b) : mx g f b k = f k := by simp [mx, h]
/-- the powers of a place -/
def pwr (x : Nat) : Nat → Nat
  | 0 => 1
  | j + 1 => pwr x j * x % 97
theorem pwr_lt (x : Nat) : ∀ j, pwr x j < 97
  | 0 => by simp [pwr]
  | j + 1 => Nat.mod_lt _ (by decide)
/-- the fresh row with column c cleared by its leading row, up to i -/
def cfr (Rc fr : Nat → Nat) (c i : Nat) : Nat → Nat := fun j => if c ≤ j ∧ j < i then dif97 (fr j) (fr c * Rc j) else fr j
theorem cfr_0 (Rc fr : Nat → Nat) (c : Nat) : fr = cfr Rc fr c c := by
  funext j
  rw [cfr, if_neg (by omega)]
theorem cfr_at (Rc fr : Nat → Nat) (c i : Nat) : cfr Rc fr c i i = fr i := by rw [cfr, if_neg (by omega)]
theorem cfr_step {Rc fr : Nat → Nat} {c i : Nat} (h : c ≤ i) : va_up (cfr Rc fr c i) i (dif97 (fr i) (fr c * Rc i)) = cfr Rc fr c (i + 1) := by
  funext j
  unfold va_up cfr
  by_cases h1 : j = i
  · subst h1
    rw [if_pos rfl, if_pos ⟨h, by omega⟩]
  · rw [if_neg h1]
    by_cases h2 : c ≤ j ∧ j < i
    · rw [if_pos h2, if_pos ⟨h2.1, by omega⟩]
    · rw [if_neg h2, if_neg (fun z => h2 ⟨z.1, by omega⟩)]
theorem cfr_lt {Rc fr : Nat → Nat} {c i : Nat} (h : ∀ j, fr j < 97) : ∀ j, cfr Rc fr c i j < 97 := by
  intro j
  unfold cfr
  split
  · exact dif97_lt _ _
  · exact h j
/-- the fresh row before column c is looked at -/
def frs (Rn : Nat → Nat → Nat) (ff : Nat → Nat) (u : Nat) : Nat → Nat → Nat
  | 0 => ff
  | c + 1 => if frs Rn ff u c c = 0 then frs Rn ff u c else cfr (Rn c) (frs Rn ff u c) c (u + 1)
theorem frs_lt {Rn : Nat → Nat → Nat} {ff : Nat → Nat} {u : Nat} (h : ∀ j, ff j < 97) : ∀ c j, frs Rn ff u c j < 97
  | 0, j => h j
  | c + 1, j => by
    rw [frs]
    split
    · exact frs_lt h c j
    · exact cfr_lt (frs_lt h c) j
/-- the column that the fresh row comes to lead, the first n looked at -/
def tks (Rn : Nat → Nat → Nat) (led ff : Nat → Nat) (u : Nat) : Nat → Option Nat
  | 0 => none
  | c + 1 => match tks Rn led ff u c with
    | some k => some k
    | none => if frs Rn ff u c c ≠ 0 ∧ led c = 0 then some c else none
theorem tks_up {Rn : Nat → Nat → Nat} {led ff : Nat → Nat} {u n k : Nat} (h : tks Rn led ff u n = some k) : ∀ m, tks Rn led ff u (n + m) = some k
  | 0 => h
  | m + 1 => by rw [← Nat.add_assoc, tks, tks_up h m]
theorem tks_hit {Rn : Nat → Nat → Nat} {led ff : Nat → Nat} {u n m : Nat} (h : tks Rn led ff u n = none) (h1 : frs Rn ff u n n ≠ 0) (h2 : led n = 0) (hm : n < m) : tks Rn led ff u m = some n := by
  have h3 : tks Rn led ff u (n + 1) = some n := by
    rw [tks, h]
    exact if_pos ⟨h1, h2⟩
  have := tks_up h3 (m - (n + 1))
  rw [show n + 1 + (m - (n + 1)) = m by omega] at this
  exact this
theorem tks_next {Rn : Nat → Nat → Nat} {led ff : Nat → Nat} {u n : Nat} (h : tks Rn led ff u n = none) (h1 : ¬ (frs Rn ff u n n ≠ 0 ∧ led n = 0)) : tks Rn led ff u (n + 1) = none := by
  rw [tks, h]
  exact if_neg h1
/-- the row with which the fresh one leads -/
def ldr (f : Nat → Nat) (c : Nat) : Nat → Nat := fun i => f i * inv97 (f c) % 97
/-- the fresh row as an equation lays it -/
def ffr (x value u : Nat) (fr : Nat → Nat) : Nat → Nat := va_up (mx (pwr x) fr u) u value
theorem ffr_lt {x value u : Nat} {fr : Nat → Nat} (hv : value < 97) (h : ∀ j, fr j < 97) : ∀ j, ffr x value u fr j < 97 := by
  intro j
  unfold ffr va_up mx
  split
  · exact hv
  · split
    · exact pwr_lt x j
    · exact h j
/-- the right side, j of the columns behind c taken off -/
def rgt (Rc so : Nat → Nat) (c u : Nat) : Nat → Nat
  | 0 => Rc u
  | j + 1 => dif97 (rgt Rc so c u j) (Rc (c + 1 + j) * so (c + 1 + j))
theorem rgt_lt {Rc so : Nat → Nat} {c u : Nat} (h : Rc u < 97) : ∀ j, rgt Rc so c u j < 97
  | 0 => h
  | j + 1 => dif97_lt _ _
/-- the solution, k of the columns solved from the last on -/
def bks (Rn : Nat → Nat → Nat) (so : Nat → Nat) (u : Nat) : Nat → Nat → Nat
  | 0 => so
  | k + 1 => va_up (bks Rn so u k) (u - 1 - k) (rgt (Rn (u - 1 - k)) (bks Rn so u k) (u - 1 - k) u k)
theorem bks_lt {Rn : Nat → Nat → Nat} {so : Nat → Nat} {u : Nat} (hR : ∀ c j, Rn c j < 97) (hs : ∀ j, so j < 97) : ∀ k j, bks Rn so u k j < 97
  | 0, j => hs j
  | k + 1, j => by
    rw [bks]
    unfold va_up
    split
    · exact rgt_lt (hR _ _) _
    · exact bks_lt hR hs k j
theorem b8m {a b : Nat} (ha : a < 97) (hb : b < 97) : a * b < 1000000 := Nat.lt_of_le_of_lt (Nat.mul_le_mul (Nat.le_of_lt ha) (Nat.le_of_lt hb)) (by decide)
set_option maxHeartbeats 4000000 in
set_option maxRecDepth 100000 in
theorem c_eqBegin (l : Launch) (G : Gx) (he aw al af as_ : Nat) (ar : Nat → Nat) (un : Nat) (Rn : Nat → Nat → Nat) (led fr so : Nat → Nat) (t : Nat) (ht : t ≤ 4) : Ct l G SF0 yX3_begin wsX3_begin ({ frames := 1, cells := 0, slots := 0, locals := 14 }) [.ref he, .int (nI t)] (eqW G he aw al af as_ ar un Rn led fr so) mkV (fun (_ : Unit) (_ : Unit) => True) (fun _ : Unit => (eqW G he aw al af as_ ar t Rn (fun _ => 0) fr so)) 0 0 := by
  refine Ct.ofV (cc := cX3_begin) (maxL := 3) (by decide) rfl ⟨by simp [Value.category], Nat.le_of_ble_eq_true rfl⟩ ?_
  intro K hl hC hSF hnm hE
  subst hl
  have q0_ : Cond.methodLink RX3 27 Lib.Math.max.name ∈ wsX3_begin := by decide +kernel
  have q1_ : Cond.static Lib.Math.max.name ∈ wsX3_begin := by decide +kernel
  have q2_ : Cond.initialized "java/lang/Math" ∈ wsX3_begin := by decide +kernel
  have q3_ : Cond.code Lib.Math.max.name Lib.Math.max.code 2 (some .int) ∈ wsX3_begin := by decide +kernel
  have q4_ : Cond.methodLink RX3 33 Lib.Math.min.name ∈ wsX3_begin := by decide +kernel
  have q5_ : Cond.static Lib.Math.min.name ∈ wsX3_begin := by decide +kernel
  have q6_ : Cond.code Lib.Math.min.name Lib.Math.min.code 2 (some .int) ∈ wsX3_begin := by decide +kernel
  have q7_ : ∀ w ∈ u_ws RX3 TX3 5, w ∈ wsX3_begin := by decide +kernel
  have q8_ : Cond.fieldLink RX3 36 "FeatherShares$Equations" "unknowns" "I" ∈ wsX3_begin := by decide +kernel
  have q9_ : Cond.fieldLink RX3 16 "FeatherShares$Equations" "isLed" "[Z" ∈ wsX3_begin := by decide +kernel
  show V G K 3 0 0 0 [some (.ref he), some (.int (nI t)), none] [] (eqW G he aw al af as_ ar un Rn led fr so)
  refine V.aload_n hC (x := he) dX3_begin_0 rfl ?_
  refine V.iload_n hC (x := nI t) dX3_begin_1 rfl ?_
  refine V.iconst hC 0 dX3_begin_2 rfl ?_
  refine V.mmax hC q0_ q1_ q2_ q3_ ⟨Nat.le_of_ble_eq_true rfl, Nat.le_of_ble_eq_true rfl, Nat.le_of_ble_eq_true rfl, Nat.le_of_ble_eq_true rfl⟩ dX3_begin_3 ?_
  refine V.topeq (nI t) (if_neg (nI_pos (by omega))) ?_
  refine V.iconst hC 4 dX3_begin_6 rfl ?_
  refine V.mmin hC q4_ q5_ q2_ q6_ ⟨Nat.le_of_ble_eq_true rfl, Nat.le_of_ble_eq_true rfl, Nat.le_of_ble_eq_true rfl, Nat.le_of_ble_eq_true rfl⟩ dX3_begin_7 ?_
  refine V.topeq (nI t) (if_neg (nI_nlt (a := 4) (b := t) (by omega) (by omega))) ?_
  refine V.putf hC (T := TX3) q7_ tyX3 tyX3_ok nmX3 4 q8_ rfl rfl (0) rfl rfl (by decide) (by simp) rfl rfl dX3_begin_10 (eqW G he aw al af as_ ar t Rn led fr so) rfl ?_
  refine V.extN (2) (f := led) (g := mx (fun _ => 0) led 0) rfl (fun z _ => congrFun (show led = mx (fun _ => 0) led 0 from (mx_0 _ _).symm) z) (ws' := (eqW G he aw al af as_ ar t Rn (mx (fun _ => 0) led 0) fr so)) rfl ?_
  refine V.iconst hC 0 dX3_begin_13 rfl ?_
  refine V.istore_n hC dX3_begin_14 [some (.ref he), some (.int (nI t)), some (.int 0)] (Nat.le_of_ble_eq_true rfl) rfl ?_
  have loop15 : ∀ (n : Nat) (c : Nat), 5 - c < n → (c ≤ 4) → V G K 3 0 0 15 [some (.ref he), some (.int (nI t)), some (.int (nI c))] [] (eqW G he aw al af as_ ar t Rn (mx (fun _ => 0) led c) fr so) := by
    intro n
    induction n with
    | zero => intro c hlt; exact absurd hlt (Nat.not_lt_zero _)
    | succ n ih15 =>
      intro c hlt15 hc
      refine V.iload_n hC (x := nI c) dX3_begin_15 rfl ?_
      refine V.iconst hC 4 dX3_begin_16 rfl ?_
      refine V.icmpN_ge hC c 4 33 dX3_begin_17 rfl rfl rfl (by omega) (by omega) (fun c_17 => ?_) (fun c_17 => ?_)
      · refine V.extN (2) (f := mx (fun _ => 0) led c) (g := fun _ => 0) rfl (fun k hk => mx_in (by omega)) (ws' := (eqW G he aw al af as_ ar t Rn (fun _ => 0) fr so)) rfl ?_
        exact hE 33 _ () dX3_begin_33 trivial
      · refine V.aload_n hC (x := he) dX3_begin_20 rfl ?_
        refine V.getf hC (T := TX3) q7_ 1 q9_ rfl (0) rfl rfl (by decide) (.ref al) rfl dX3_begin_21 ?_
        refine V.iload_n hC (x := nI c) dX3_begin_24 rfl ?_
        refine V.iconst hC 0 dX3_begin_25 rfl ?_
        refine V.zastN hC dX3_begin_26 (2) (f := mx (fun _ => 0) led c) rfl c 0 rfl (by omega) (by decide) rfl rfl (eqW G he aw al af as_ ar t Rn (va_up (mx (fun _ => 0) led c) c 0) fr so) rfl ?_
        refine V.iincN hC c 1 dX3_begin_27 rfl [some (.ref he), some (.int (nI t)), some (.int (nI (c + 1)))] (Nat.le_of_ble_eq_true rfl) rfl rfl rfl ?_
        refine V.extN (2) (f := va_up (mx (fun _ => 0) led c) c 0) (g := mx (fun _ => 0) led (c + 1)) rfl (fun z _ => congrFun (show va_up (mx (fun _ => 0) led c) c 0 = mx (fun _ => 0) led (c + 1) from mx_succ _ _ _) z) (ws' := (eqW G he aw al af as_ ar t Rn (mx (fun _ => 0) led (c + 1)) fr so)) rfl ?_
        refine V.goto hC 15 dX3_begin_30 rfl ?_
        exact ih15 (c + 1) (by omega) (by omega)
  exact loop15 _ 0 (Nat.lt_succ_self _) (by omega)

set_option maxHeartbeats 4000000 in
set_option maxRecDepth 100000 in
theorem c_leadWithFresh (l : Launch) (G : Gx) (he aw al af as_ : Nat) (ar : Nat → Nat) (un : Nat) (Rn : Nat → Nat → Nat) (led fr so : Nat → Nat) (hu : un ≤ 4) (hR : ∀ c j, Rn c j < 97) (hf : ∀ j, fr j < 97) (c : Nat) (hc : c < un) : Ct l G SF0 yX3_leadWithFresh wsX3_leadWithFresh ({ frames := 1, cells := 0, slots := 0, locals := 23 }) [.ref he, .int (nI c)] (eqW G he aw al af as_ ar un Rn led fr so) mkV (fun (_ : Unit) (_ : Unit) => True) (fun _ : Unit => (eqW G he aw al af as_ ar un (va_up Rn c (mx (ldr fr c) (Rn c) (un + 1))) (va_up led c 1) fr so)) 0 0 := by
  refine Ct.ofV (cc := cX3_leadWithFresh) (maxL := 4) (by decide) rfl ⟨by simp [Value.category], Nat.le_of_ble_eq_true rfl⟩ ?_
  intro K hl hC hSF hnm hE
  subst hl
  have q0_ : ∀ w ∈ u_ws RX3 TX3 5, w ∈ wsX3_leadWithFresh := by decide +kernel
  have q1_ : Cond.fieldLink RX3 20 "FeatherShares$Equations" "fresh" "[I" ∈ wsX3_leadWithFresh := by decide +kernel
  have q2_ : Cond.fieldLink RX3 36 "FeatherShares$Equations" "unknowns" "I" ∈ wsX3_leadWithFresh := by decide +kernel
  have q3_ : Cond.fieldLink RX3 16 "FeatherShares$Equations" "isLed" "[Z" ∈ wsX3_leadWithFresh := by decide +kernel
  have q4_ : Cond.fieldLink RX3 11 "FeatherShares$Equations" "rows" "[[I" ∈ wsX3_leadWithFresh := by decide +kernel
  show V G K 4 0 0 0 [some (.ref he), some (.int (nI c)), none, none] [] (eqW G he aw al af as_ ar un Rn led fr so)
  refine V.aload_n hC (x := he) dX3_leadWithFresh_0 rfl ?_
  refine V.getf hC (T := TX3) q0_ 2 q1_ rfl (0) rfl rfl (by decide) (.ref af) rfl dX3_leadWithFresh_1 ?_
  refine V.iload_n hC (x := nI c) dX3_leadWithFresh_4 rfl ?_
  refine V.ialdN hC dX3_leadWithFresh_5 (3) (f := fr) rfl c rfl (by omega) (by decide) ?_
  refine V.callSr (n := 1) (As := [.int (nI (fr c))]) (rest := []) hC (c_inverseOf (kl K) G (fr c) (by have := hf c; omega)) SFk0 SFgo0 gX3_leadWithFresh_X9_inverseOf rfl ⟨rfl, rfl⟩ (by decide +kernel) ⟨by decide, by decide, by decide, by decide⟩ [] rfl (by decide) rfl rfl (Nat.le_of_ble_eq_true rfl) dX3_leadWithFresh_6 (fun r_6 u_6 hp_6 => ?_)
  subst hp_6
  show V G K 4 0 0 9 [some (.ref he), some (.int (nI c)), none, none] [.int (nI (inv97 (fr c)))] (eqW G he aw al af as_ ar un Rn led fr so)
  refine V.istore_n hC dX3_leadWithFresh_9 [some (.ref he), some (.int (nI c)), some (.int (nI (inv97 (fr c)))), none] (Nat.le_of_ble_eq_true rfl) rfl ?_
  refine V.eqw (ws' := (eqW G he aw al af as_ ar un (va_up Rn c (mx (ldr fr c) (Rn c) 0)) led fr so)) (congrArg (fun z => (eqW G he aw al af as_ ar un z led fr so)) (show Rn = (va_up Rn c (mx (ldr fr c) (Rn c) 0)) from (by rw [mx_0]; funext z; by_cases h : z = c <;> simp [va_up, h]))) ?_
  refine V.iconst hC 0 dX3_leadWithFresh_10 rfl ?_
  refine V.istore_n hC dX3_leadWithFresh_11 [some (.ref he), some (.int (nI c)), some (.int (nI (inv97 (fr c)))), some (.int 0)] (Nat.le_of_ble_eq_true rfl) rfl ?_
  have loop12 : ∀ (n : Nat) (i : Nat), 6 - i < n → (i ≤ un + 1) → V G K 4 0 0 12 [some (.ref he), some (.int (nI c)), some (.int (nI (inv97 (fr c)))), some (.int (nI i))] [] (eqW G he aw al af as_ ar un (va_up Rn c (mx (ldr fr c) (Rn c) i)) led fr so) := by
    intro n
    induction n with
    | zero => intro i hlt; exact absurd hlt (Nat.not_lt_zero _)
    | succ n ih12 =>
      intro i hlt12 hi
      refine V.iload_n hC (x := nI i) dX3_leadWithFresh_12 rfl ?_
      refine V.aload_n hC (x := he) dX3_leadWithFresh_13 rfl ?_
      refine V.getf hC (T := TX3) q0_ 4 q2_ rfl (0) rfl rfl (by decide) (.int (nI un)) rfl dX3_leadWithFresh_14 ?_
      refine V.icmpN_gt hC i un 45 dX3_leadWithFresh_17 rfl rfl rfl (by omega) (by omega) (fun c_17 => ?_) (fun c_17 => ?_)
      · refine V.eqw (ws' := (eqW G he aw al af as_ ar un (va_up Rn c (mx (ldr fr c) (Rn c) (un + 1))) led fr so)) (by rw [show i = un + 1 by omega]) ?_
        refine V.aload_n hC (x := he) dX3_leadWithFresh_45 rfl ?_
        refine V.getf hC (T := TX3) q0_ 1 q3_ rfl (0) rfl rfl (by decide) (.ref al) rfl dX3_leadWithFresh_46 ?_
        refine V.iload_n hC (x := nI c) dX3_leadWithFresh_49 rfl ?_
        refine V.iconst hC 1 dX3_leadWithFresh_50 rfl ?_
        refine V.zastN hC dX3_leadWithFresh_51 (2) (f := led) rfl c 1 rfl (by omega) (by decide) rfl rfl (eqW G he aw al af as_ ar un (va_up Rn c (mx (ldr fr c) (Rn c) (un + 1))) (va_up led c 1) fr so) rfl ?_
        exact hE 52 _ () dX3_leadWithFresh_52 trivial
      · refine V.aload_n hC (x := he) dX3_leadWithFresh_20 rfl ?_
        refine V.getf hC (T := TX3) q0_ 0 q4_ rfl (0) rfl rfl (by decide) (.ref aw) rfl dX3_leadWithFresh_21 ?_
        refine V.iload_n hC (x := nI c) dX3_leadWithFresh_24 rfl ?_
        refine V.aaldII hC dX3_leadWithFresh_25 (1) rfl c rfl (by omega) (by decide) (ar c) rfl ?_
        refine V.iload_n hC (x := nI i) dX3_leadWithFresh_26 rfl ?_
        refine V.aload_n hC (x := he) dX3_leadWithFresh_27 rfl ?_
        refine V.getf hC (T := TX3) q0_ 2 q1_ rfl (0) rfl rfl (by decide) (.ref af) rfl dX3_leadWithFresh_28 ?_
        refine V.iload_n hC (x := nI i) dX3_leadWithFresh_31 rfl ?_
        refine V.ialdN hC dX3_leadWithFresh_32 (3) (f := fr) rfl i rfl (by omega) (by decide) ?_
        refine V.iload_n hC (x := nI (inv97 (fr c))) dX3_leadWithFresh_33 rfl ?_
        refine V.imulN hC (fr i) (inv97 (fr c)) dX3_leadWithFresh_34 rfl rfl ?_
        refine V.bipush hC 97 dX3_leadWithFresh_35 rfl ?_
        refine V.iremN hC ((fr i) * (inv97 (fr c))) 97 dX3_leadWithFresh_37 rfl rfl (m31 (Nat.le_of_lt (hf i)) (Nat.le_of_lt (inv97_lt _)) (by decide)) (by decide) (by decide) ?_
        refine V.iastN hC dX3_leadWithFresh_38 (5 + c) (f := (va_up Rn c (mx (ldr fr c) (Rn c) i)) c) (by rcases lt4 (by omega : c < 4) with rfl | rfl | rfl | rfl <;> rfl) i (((fr i) * (inv97 (fr c))) % 97) rfl (by omega) (by decide) rfl (eqW G he aw al af as_ ar un (va_up (va_up Rn c (mx (ldr fr c) (Rn c) i)) c (va_up ((va_up Rn c (mx (ldr fr c) (Rn c) i)) c) i (((fr i) * (inv97 (fr c))) % 97))) led fr so) (by rcases lt4 (by omega : c < 4) with rfl | rfl | rfl | rfl <;> rfl) ?_
        refine V.iincN hC i 1 dX3_leadWithFresh_39 rfl [some (.ref he), some (.int (nI c)), some (.int (nI (inv97 (fr c)))), some (.int (nI (i + 1)))] (Nat.le_of_ble_eq_true rfl) rfl rfl rfl ?_
        refine V.eqw (ws' := (eqW G he aw al af as_ ar un (va_up Rn c (mx (ldr fr c) (Rn c) (i + 1))) led fr so)) (congrArg (fun z => (eqW G he aw al af as_ ar un z led fr so)) (show (va_up (va_up Rn c (mx (ldr fr c) (Rn c) i)) c (va_up ((va_up Rn c (mx (ldr fr c) (Rn c) i)) c) i (((fr i) * (inv97 (fr c))) % 97))) = (va_up Rn c (mx (ldr fr c) (Rn c) (i + 1))) from (by rw [← mx_succ]; funext z; by_cases h : z = c <;> simp [va_up, ldr, h]))) ?_
        refine V.goto hC 12 dX3_leadWithFresh_42 rfl ?_
        exact ih12 (i + 1) (by omega) (by omega)
  exact loop12 _ 0 (Nat.lt_succ_self _) (by omega)

set_option maxHeartbeats 4000000 in
set_option maxRecDepth 100000 in
theorem c_clearFresh (l : Launch) (G : Gx) (he aw al af as_ : Nat) (ar : Nat → Nat) (un : Nat) (Rn : Nat → Nat → Nat) (led fr so : Nat → Nat) (hu : un ≤ 4) (hR : ∀ c j, Rn c j < 97) (hf : ∀ j, fr j < 97) (c : Nat) (hc : c < un) : Ct l G SF0 yX3_clearFresh wsX3_clearFresh ({ frames := 1, cells := 0, slots := 0, locals := 21 }) [.ref he, .int (nI c)] (eqW G he aw al af as_ ar un Rn led fr so) mkV (fun (_ : Unit) (_ : Unit) => True) (fun _ : Unit => (eqW G he aw al af as_ ar un Rn led (cfr (Rn c) fr c (un + 1)) so)) 0 0 := by
  refine Ct.ofV (cc := cX3_clearFresh) (maxL := 4) (by decide) rfl ⟨by simp [Value.category], Nat.le_of_ble_eq_true rfl⟩ ?_
  intro K hl hC hSF hnm hE
  subst hl
  have q0_ : ∀ w ∈ u_ws RX3 TX3 5, w ∈ wsX3_clearFresh := by decide +kernel
  have q1_ : Cond.fieldLink RX3 20 "FeatherShares$Equations" "fresh" "[I" ∈ wsX3_clearFresh := by decide +kernel
  have q2_ : Cond.fieldLink RX3 36 "FeatherShares$Equations" "unknowns" "I" ∈ wsX3_clearFresh := by decide +kernel
  have q3_ : Cond.fieldLink RX3 11 "FeatherShares$Equations" "rows" "[[I" ∈ wsX3_clearFresh := by decide +kernel
  show V G K 4 0 0 0 [some (.ref he), some (.int (nI c)), none, none] [] (eqW G he aw al af as_ ar un Rn led fr so)
  refine V.aload_n hC (x := he) dX3_clearFresh_0 rfl ?_
  refine V.getf hC (T := TX3) q0_ 2 q1_ rfl (0) rfl rfl (by decide) (.ref af) rfl dX3_clearFresh_1 ?_
  refine V.iload_n hC (x := nI c) dX3_clearFresh_4 rfl ?_
  refine V.ialdN hC dX3_clearFresh_5 (3) (f := fr) rfl c rfl (by omega) (by decide) ?_
  refine V.istore_n hC dX3_clearFresh_6 [some (.ref he), some (.int (nI c)), some (.int (nI (fr c))), none] (Nat.le_of_ble_eq_true rfl) rfl ?_
  refine V.extN (3) (f := fr) (g := cfr (Rn c) fr c c) rfl (fun z _ => congrFun (show fr = cfr (Rn c) fr c c from cfr_0 _ _ _) z) (ws' := (eqW G he aw al af as_ ar un Rn led (cfr (Rn c) fr c c) so)) rfl ?_
  refine V.iload_n hC (x := nI c) dX3_clearFresh_7 rfl ?_
  refine V.istore_n hC dX3_clearFresh_8 [some (.ref he), some (.int (nI c)), some (.int (nI (fr c))), some (.int (nI c))] (Nat.le_of_ble_eq_true rfl) rfl ?_
  have loop9 : ∀ (n : Nat) (i : Nat), 6 - i < n → (i ≤ un + 1) → (c ≤ i) → V G K 4 0 0 9 [some (.ref he), some (.int (nI c)), some (.int (nI (fr c))), some (.int (nI i))] [] (eqW G he aw al af as_ ar un Rn led (cfr (Rn c) fr c i) so) := by
    intro n
    induction n with
    | zero => intro i hlt; exact absurd hlt (Nat.not_lt_zero _)
    | succ n ih9 =>
      intro i hlt9 hi hi2
      refine V.iload_n hC (x := nI i) dX3_clearFresh_9 rfl ?_
      refine V.aload_n hC (x := he) dX3_clearFresh_10 rfl ?_
      refine V.getf hC (T := TX3) q0_ 4 q2_ rfl (0) rfl rfl (by decide) (.int (nI un)) rfl dX3_clearFresh_11 ?_
      refine V.icmpN_gt hC i un 48 dX3_clearFresh_14 rfl rfl rfl (by omega) (by omega) (fun c_14 => ?_) (fun c_14 => ?_)
      · refine V.extN (3) (f := cfr (Rn c) fr c i) (g := cfr (Rn c) fr c (un + 1)) rfl (fun k hk => (by rw [show i = un + 1 by omega])) (ws' := (eqW G he aw al af as_ ar un Rn led (cfr (Rn c) fr c (un + 1)) so)) rfl ?_
        exact hE 48 _ () dX3_clearFresh_48 trivial
      · refine V.aload_n hC (x := he) dX3_clearFresh_17 rfl ?_
        refine V.getf hC (T := TX3) q0_ 2 q1_ rfl (0) rfl rfl (by decide) (.ref af) rfl dX3_clearFresh_18 ?_
        refine V.iload_n hC (x := nI i) dX3_clearFresh_21 rfl ?_
        refine V.aload_n hC (x := he) dX3_clearFresh_22 rfl ?_
        refine V.getf hC (T := TX3) q0_ 2 q1_ rfl (0) rfl rfl (by decide) (.ref af) rfl dX3_clearFresh_23 ?_
        refine V.iload_n hC (x := nI i) dX3_clearFresh_26 rfl ?_
        refine V.ialdN hC dX3_clearFresh_27 (3) (f := cfr (Rn c) fr c i) rfl i rfl (by omega) (by decide) ?_
        refine V.topeq (nI (fr i)) (congrArg nI (cfr_at _ _ _ _)) ?_
        refine V.iload_n hC (x := nI (fr c)) dX3_clearFresh_28 rfl ?_
        refine V.aload_n hC (x := he) dX3_clearFresh_29 rfl ?_
        refine V.getf hC (T := TX3) q0_ 0 q3_ rfl (0) rfl rfl (by decide) (.ref aw) rfl dX3_clearFresh_30 ?_
        refine V.iload_n hC (x := nI c) dX3_clearFresh_33 rfl ?_
        refine V.aaldII hC dX3_clearFresh_34 (1) rfl c rfl (by omega) (by decide) (ar c) rfl ?_
        refine V.iload_n hC (x := nI i) dX3_clearFresh_35 rfl ?_
        refine V.ialdN hC dX3_clearFresh_36 (5 + c) (f := Rn c) (by rcases lt4 (by omega : c < 4) with rfl | rfl | rfl | rfl <;> rfl) i rfl (by omega) (by decide) ?_
        refine V.imulN hC (fr c) ((Rn c) i) dX3_clearFresh_37 rfl rfl ?_
        refine V.callSr (n := 2) (As := [.int (nI (fr i)), .int (nI ((fr c) * ((Rn c) i)))]) (rest := [.int (nI i), .ref af]) hC (c_difference (kl K) G (fr i) (fr c * Rn c i) (by have := hf i; omega) (b8m (hf c) (hR c i))) SFk0 SFgo0 gX3_clearFresh_X9_difference rfl ⟨rfl, rfl⟩ (by decide +kernel) ⟨by decide, by decide, by decide, by decide⟩ [] rfl (by decide) rfl rfl (Nat.le_of_ble_eq_true rfl) dX3_clearFresh_38 (fun r_38 u_38 hp_38 => ?_)
        subst hp_38
        show V G K 4 0 0 41 [some (.ref he), some (.int (nI c)), some (.int (nI (fr c))), some (.int (nI i))] [.int (nI (dif97 (fr i) (fr c * Rn c i))), .int (nI i), .ref af] (eqW G he aw al af as_ ar un Rn led (cfr (Rn c) fr c i) so)
        refine V.iastN hC dX3_clearFresh_41 (3) (f := cfr (Rn c) fr c i) rfl i (dif97 (fr i) (fr c * Rn c i)) rfl (by omega) (by decide) rfl (eqW G he aw al af as_ ar un Rn led (va_up (cfr (Rn c) fr c i) i (dif97 (fr i) (fr c * Rn c i))) so) rfl ?_
        refine V.iincN hC i 1 dX3_clearFresh_42 rfl [some (.ref he), some (.int (nI c)), some (.int (nI (fr c))), some (.int (nI (i + 1)))] (Nat.le_of_ble_eq_true rfl) rfl rfl rfl ?_
        refine V.extN (3) (f := va_up (cfr (Rn c) fr c i) i (dif97 (fr i) (fr c * Rn c i))) (g := cfr (Rn c) fr c (i + 1)) rfl (fun z _ => congrFun (show va_up (cfr (Rn c) fr c i) i (dif97 (fr i) (fr c * Rn c i)) = cfr (Rn c) fr c (i + 1) from cfr_step hi2) z) (ws' := (eqW G he aw al af as_ ar un Rn led (cfr (Rn c) fr c (i + 1)) so)) rfl ?_
        refine V.goto hC 9 dX3_clearFresh_45 rfl ?_
        exact ih9 (i + 1) (by omega) (by omega) (by omega)
  exact loop9 _ c (Nat.lt_succ_self _) (by omega) (by omega)

set_option maxHeartbeats 4000000 in
set_option maxRecDepth 100000 in
theorem c_take (l : Launch) (G : Gx) (he aw al af as_ : Nat) (ar : Nat → Nat) (un : Nat) (Rn : Nat → Nat → Nat) (led fr so : Nat → Nat) (hu : un ≤ 4) (hR : ∀ c j, Rn c j < 97) (hf : ∀ j, fr j < 97) (hled : ∀ j, j < 4 → led j ≤ 1) (x value : Nat) (hx : x ≤ 8) (hv : value < 97) : Ct l G SF0 yX3_take wsX3_take ({ frames := 2, cells := 0, slots := 0, locals := 46 }) [.ref he, .int (nI x), .int (nI value)] (eqW G he aw al af as_ ar un Rn led fr so) mkI (fun (r : Int32) (u : (Nat → Nat → Nat) × (Nat → Nat) × (Nat → Nat)) => (∃ c, c < un ∧ tks Rn led (ffr x value un fr) un un = some c ∧ r = 1 ∧ u = (va_up Rn c (mx (ldr (frs Rn (ffr x value un fr) un c) c) (Rn c) (un + 1)), va_up led c 1, (frs Rn (ffr x value un fr) un c))) ∨ (tks Rn led (ffr x value un fr) un un = none ∧ r = (if (frs Rn (ffr x value un fr) un un) un = 0 then 1 else 0) ∧ u = (Rn, led, (frs Rn (ffr x value un fr) un un)))) (fun u : (Nat → Nat → Nat) × (Nat → Nat) × (Nat → Nat) => (eqW G he aw al af as_ ar un (u.1) (u.2.1) (u.2.2) so)) 0 0 := by
  have hfl := frs_lt (Rn := Rn) (u := un) (ffr_lt (x := x) (u := un) hv hf)
  refine Ct.ofI (cc := cX3_take) (maxL := 5) (by decide) rfl ⟨by simp [Value.category], Nat.le_of_ble_eq_true rfl⟩ ?_
  intro K hl hC hSF hnm hE
  subst hl
  have q0_ : ∀ w ∈ u_ws RX3 TX3 5, w ∈ wsX3_take := by decide +kernel
  have q1_ : Cond.fieldLink RX3 36 "FeatherShares$Equations" "unknowns" "I" ∈ wsX3_take := by decide +kernel
  have q2_ : Cond.fieldLink RX3 20 "FeatherShares$Equations" "fresh" "[I" ∈ wsX3_take := by decide +kernel
  have q3_ : Cond.fieldLink RX3 16 "FeatherShares$Equations" "isLed" "[Z" ∈ wsX3_take := by decide +kernel
  show V G K 5 0 0 0 [some (.ref he), some (.int (nI x)), some (.int (nI value)), none, none] [] (eqW G he aw al af as_ ar un Rn led fr so)
  refine V.iconst hC 1 dX3_take_0 rfl ?_
  refine V.istore_n hC dX3_take_1 [some (.ref he), some (.int (nI x)), some (.int (nI value)), some (.int 1), none] (Nat.le_of_ble_eq_true rfl) rfl ?_
  refine V.extN (3) (f := fr) (g := mx (pwr x) fr 0) rfl (fun z _ => congrFun (show fr = mx (pwr x) fr 0 from (mx_0 _ _).symm) z) (ws' := (eqW G he aw al af as_ ar un Rn led (mx (pwr x) fr 0) so)) rfl ?_
  refine V.iconst hC 0 dX3_take_2 rfl ?_
  refine V.istore hC dX3_take_3 [some (.ref he), some (.int (nI x)), some (.int (nI value)), some (.int 1), some (.int 0)] (Nat.le_of_ble_eq_true rfl) rfl ?_
  have loop5 : ∀ (n : Nat) (j : Nat), 5 - j < n → (j ≤ un) → V G K 5 0 0 5 [some (.ref he), some (.int (nI x)), some (.int (nI value)), some (.int (nI (pwr x j))), some (.int (nI j))] [] (eqW G he aw al af as_ ar un Rn led (mx (pwr x) fr j) so) := by
    intro n
    induction n with
    | zero => intro j hlt; exact absurd hlt (Nat.not_lt_zero _)
    | succ n ih5 =>
      intro j hlt5 hj
      refine V.iload hC (x := nI j) dX3_take_5 rfl ?_
      refine V.aload_n hC (x := he) dX3_take_7 rfl ?_
      refine V.getf hC (T := TX3) q0_ 4 q1_ rfl (0) rfl rfl (by decide) (.int (nI un)) rfl dX3_take_8 ?_
      refine V.icmpN_ge hC j un 35 dX3_take_11 rfl rfl rfl (by omega) (by omega) (fun c_11 => ?_) (fun c_11 => ?_)
      · refine V.extN (3) (f := mx (pwr x) fr j) (g := mx (pwr x) fr un) rfl (fun z _ => congrFun (show mx (pwr x) fr j = mx (pwr x) fr un from (by rw [show j = un by omega])) z) (ws' := (eqW G he aw al af as_ ar un Rn led (mx (pwr x) fr un) so)) rfl ?_
        refine V.aload_n hC (x := he) dX3_take_35 rfl ?_
        refine V.getf hC (T := TX3) q0_ 2 q2_ rfl (0) rfl rfl (by decide) (.ref af) rfl dX3_take_36 ?_
        refine V.aload_n hC (x := he) dX3_take_39 rfl ?_
        refine V.getf hC (T := TX3) q0_ 4 q1_ rfl (0) rfl rfl (by decide) (.int (nI un)) rfl dX3_take_40 ?_
        refine V.iload_n hC (x := nI value) dX3_take_43 rfl ?_
        refine V.iastN hC dX3_take_44 (3) (f := mx (pwr x) fr un) rfl un value rfl (by omega) (by decide) rfl (eqW G he aw al af as_ ar un Rn led (va_up (mx (pwr x) fr un) un value) so) rfl ?_
        refine V.extN (3) (f := va_up (mx (pwr x) fr un) un value) (g := (frs Rn (ffr x value un fr) un 0)) rfl (fun z _ => congrFun (show va_up (mx (pwr x) fr un) un value = (frs Rn (ffr x value un fr) un 0) from rfl) z) (ws' := (eqW G he aw al af as_ ar un Rn led (frs Rn (ffr x value un fr) un 0) so)) rfl ?_
        refine V.iconst hC 0 dX3_take_45 rfl ?_
        refine V.istore hC dX3_take_46 [some (.ref he), some (.int (nI x)), some (.int (nI value)), some (.int (nI (pwr x j))), some (.int 0)] (Nat.le_of_ble_eq_true rfl) rfl ?_
        refine V.drop 3 (lv' := [some (.ref he), some (.int (nI x)), some (.int (nI value)), none, some (.int 0)]) rfl ?_
        have loop48 : ∀ (n : Nat) (c : Nat), 5 - c < n → (c ≤ un) → (tks Rn led (ffr x value un fr) un c = none) → V G K 5 0 0 48 [some (.ref he), some (.int (nI x)), some (.int (nI value)), none, some (.int (nI c))] [] (eqW G he aw al af as_ ar un Rn led (frs Rn (ffr x value un fr) un c) so) := by
          intro n
          induction n with
          | zero => intro c hlt; exact absurd hlt (Nat.not_lt_zero _)
          | succ n ih48 =>
            intro c hlt48 hc ht
            refine V.iload hC (x := nI c) dX3_take_48 rfl ?_
            refine V.aload_n hC (x := he) dX3_take_50 rfl ?_
            refine V.getf hC (T := TX3) q0_ 4 q1_ rfl (0) rfl rfl (by decide) (.int (nI un)) rfl dX3_take_51 ?_
            refine V.icmpN_ge hC c un 97 dX3_take_54 rfl rfl rfl (by omega) (by omega) (fun c_54 => ?_) (fun c_54 => ?_)
            · refine V.extN (3) (f := (frs Rn (ffr x value un fr) un c)) (g := (frs Rn (ffr x value un fr) un un)) rfl (fun z _ => congrFun (show (frs Rn (ffr x value un fr) un c) = (frs Rn (ffr x value un fr) un un) from (by rw [show c = un by omega])) z) (ws' := (eqW G he aw al af as_ ar un Rn led (frs Rn (ffr x value un fr) un un) so)) rfl ?_
              refine V.aload_n hC (x := he) dX3_take_97 rfl ?_
              refine V.getf hC (T := TX3) q0_ 2 q2_ rfl (0) rfl rfl (by decide) (.ref af) rfl dX3_take_98 ?_
              refine V.aload_n hC (x := he) dX3_take_101 rfl ?_
              refine V.getf hC (T := TX3) q0_ 4 q1_ rfl (0) rfl rfl (by decide) (.int (nI un)) rfl dX3_take_102 ?_
              refine V.ialdN hC dX3_take_105 (3) (f := (frs Rn (ffr x value un fr) un un)) rfl un rfl (by omega) (by decide) ?_
              refine V.ifN_ne hC ((frs Rn (ffr x value un fr) un un) un) 113 dX3_take_106 rfl rfl (Nat.lt_trans (hfl un un) (by decide)) (fun c_106 => ?_) (fun c_106 => ?_)
              · refine V.iconst hC 0 dX3_take_113 rfl ?_
                exact hE 114 _ 0 (Rn, led, (frs Rn (ffr x value un fr) un un)) dX3_take_114 rfl (Or.inr ⟨by rw [← ht, show c = un by omega], (if_neg c_106).symm, rfl⟩)
              · refine V.iconst hC 1 dX3_take_109 rfl ?_
                refine V.goto hC 114 dX3_take_110 rfl ?_
                exact hE 114 _ 1 (Rn, led, (frs Rn (ffr x value un fr) un un)) dX3_take_114 rfl (Or.inr ⟨by rw [← ht, show c = un by omega], (if_pos c_106).symm, rfl⟩)
            · refine V.aload_n hC (x := he) dX3_take_57 rfl ?_
              refine V.getf hC (T := TX3) q0_ 2 q2_ rfl (0) rfl rfl (by decide) (.ref af) rfl dX3_take_58 ?_
              refine V.iload hC (x := nI c) dX3_take_61 rfl ?_
              refine V.ialdN hC dX3_take_63 (3) (f := (frs Rn (ffr x value un fr) un c)) rfl c rfl (by omega) (by decide) ?_
              refine V.ifN_eq hC ((frs Rn (ffr x value un fr) un c) c) 91 dX3_take_64 rfl rfl (Nat.lt_trans (hfl c c) (by decide)) (fun c_64 => ?_) (fun c_64 => ?_)
              · refine V.extN (3) (f := (frs Rn (ffr x value un fr) un c)) (g := (frs Rn (ffr x value un fr) un (c + 1))) rfl (fun z _ => congrFun (show (frs Rn (ffr x value un fr) un c) = (frs Rn (ffr x value un fr) un (c + 1)) from (by rw [frs, if_pos c_64])) z) (ws' := (eqW G he aw al af as_ ar un Rn led (frs Rn (ffr x value un fr) un (c + 1)) so)) rfl ?_
                refine V.iincN hC c 1 dX3_take_91 rfl [some (.ref he), some (.int (nI x)), some (.int (nI value)), none, some (.int (nI (c + 1)))] (Nat.le_of_ble_eq_true rfl) rfl rfl rfl ?_
                refine V.goto hC 48 dX3_take_94 rfl ?_
                exact ih48 (c + 1) (by omega) (by omega) (tks_next ht (fun z => z.1 c_64))
              · refine V.aload_n hC (x := he) dX3_take_67 rfl ?_
                refine V.getf hC (T := TX3) q0_ 1 q3_ rfl (0) rfl rfl (by decide) (.ref al) rfl dX3_take_68 ?_
                refine V.iload hC (x := nI c) dX3_take_71 rfl ?_
                refine V.zaldN hC dX3_take_73 (2) (f := led) rfl c rfl (by omega) (by decide) ?_
                refine V.ifN_ne hC (led c) 85 dX3_take_74 rfl rfl (by have := hled c (by omega); omega) (fun c_74 => ?_) (fun c_74 => ?_)
                · refine V.aload_n hC (x := he) dX3_take_85 rfl ?_
                  refine V.iload hC (x := nI c) dX3_take_86 rfl ?_
                  refine V.callV (n := 1) (As := [.int (nI c)]) (rest := []) hC (c_clearFresh (kl K) G he aw al af as_ ar un Rn led (frs Rn (ffr x value un fr) un c) so hu hR (hfl c) c (by omega)) SFk0 SFgo0 gX3_take_X3_clearFresh rfl ⟨rfl, rfl⟩ (by decide +kernel) ⟨by decide, by decide, by decide, by decide⟩ [0, 1, 2, 3, 4, 5, 6, 7, 8] rfl (by decide) (fun _ => rfl) rfl rfl rfl rfl (Nat.le_of_ble_eq_true rfl) dX3_take_88 (fun r_88 u_88 hp_88 => ?_)
                  show V G K 5 0 0 91 [some (.ref he), some (.int (nI x)), some (.int (nI value)), none, some (.int (nI c))] [] (eqW G he aw al af as_ ar un Rn led (cfr (Rn c) (frs Rn (ffr x value un fr) un c) c (un + 1)) so)
                  refine V.extN (3) (f := (cfr (Rn c) (frs Rn (ffr x value un fr) un c) c (un + 1))) (g := (frs Rn (ffr x value un fr) un (c + 1))) rfl (fun z _ => congrFun (show (cfr (Rn c) (frs Rn (ffr x value un fr) un c) c (un + 1)) = (frs Rn (ffr x value un fr) un (c + 1)) from (by rw [frs, if_neg c_64])) z) (ws' := (eqW G he aw al af as_ ar un Rn led (frs Rn (ffr x value un fr) un (c + 1)) so)) rfl ?_
                  refine V.iincN hC c 1 dX3_take_91 rfl [some (.ref he), some (.int (nI x)), some (.int (nI value)), none, some (.int (nI (c + 1)))] (Nat.le_of_ble_eq_true rfl) rfl rfl rfl ?_
                  refine V.goto hC 48 dX3_take_94 rfl ?_
                  exact ih48 (c + 1) (by omega) (by omega) (tks_next ht (fun z => c_74 z.2))
                · refine V.aload_n hC (x := he) dX3_take_77 rfl ?_
                  refine V.iload hC (x := nI c) dX3_take_78 rfl ?_
                  refine V.callV (n := 1) (As := [.int (nI c)]) (rest := []) hC (c_leadWithFresh (kl K) G he aw al af as_ ar un Rn led (frs Rn (ffr x value un fr) un c) so hu hR (hfl c) c (by omega)) SFk0 SFgo0 gX3_take_X3_leadWithFresh rfl ⟨rfl, rfl⟩ (by decide +kernel) ⟨by decide, by decide, by decide, by decide⟩ [0, 1, 2, 3, 4, 5, 6, 7, 8] rfl (by decide) (fun _ => rfl) rfl rfl rfl rfl (Nat.le_of_ble_eq_true rfl) dX3_take_80 (fun r_80 u_80 hp_80 => ?_)
                  show V G K 5 0 0 83 [some (.ref he), some (.int (nI x)), some (.int (nI value)), none, some (.int (nI c))] [] (eqW G he aw al af as_ ar un (va_up Rn c (mx (ldr (frs Rn (ffr x value un fr) un c) c) (Rn c) (un + 1))) (va_up led c 1) (frs Rn (ffr x value un fr) un c) so)
                  refine V.iconst hC 1 dX3_take_83 rfl ?_
                  exact hE 84 _ 1 (va_up Rn c (mx (ldr (frs Rn (ffr x value un fr) un c) c) (Rn c) (un + 1)), va_up led c 1, (frs Rn (ffr x value un fr) un c)) dX3_take_84 rfl (Or.inl ⟨c, by omega, tks_hit ht c_64 c_74 (by omega), rfl, rfl⟩)
        exact loop48 _ 0 (Nat.lt_succ_self _) (by omega) rfl
      · refine V.aload_n hC (x := he) dX3_take_14 rfl ?_
        refine V.getf hC (T := TX3) q0_ 2 q2_ rfl (0) rfl rfl (by decide) (.ref af) rfl dX3_take_15 ?_
        refine V.iload hC (x := nI j) dX3_take_18 rfl ?_
        refine V.iload_n hC (x := nI (pwr x j)) dX3_take_20 rfl ?_
        refine V.iastN hC dX3_take_21 (3) (f := mx (pwr x) fr j) rfl j (pwr x j) rfl (by omega) (by decide) rfl (eqW G he aw al af as_ ar un Rn led (va_up (mx (pwr x) fr j) j (pwr x j)) so) rfl ?_
        refine V.iload_n hC (x := nI (pwr x j)) dX3_take_22 rfl ?_
        refine V.iload_n hC (x := nI x) dX3_take_23 rfl ?_
        refine V.imulN hC (pwr x j) x dX3_take_24 rfl rfl ?_
        refine V.bipush hC 97 dX3_take_25 rfl ?_
        refine V.iremN hC ((pwr x j) * x) 97 dX3_take_27 rfl rfl (m31 (Nat.le_of_lt (pwr_lt x j)) hx (by decide)) (by decide) (by decide) ?_
        refine V.istore_n hC dX3_take_28 [some (.ref he), some (.int (nI x)), some (.int (nI value)), some (.int (nI (((pwr x j) * x) % 97))), some (.int (nI j))] (Nat.le_of_ble_eq_true rfl) rfl ?_
        refine V.iincN hC j 1 dX3_take_29 rfl [some (.ref he), some (.int (nI x)), some (.int (nI value)), some (.int (nI (((pwr x j) * x) % 97))), some (.int (nI (j + 1)))] (Nat.le_of_ble_eq_true rfl) rfl rfl rfl ?_
        refine V.extN (3) (f := va_up (mx (pwr x) fr j) j (pwr x j)) (g := mx (pwr x) fr (j + 1)) rfl (fun z _ => congrFun (show va_up (mx (pwr x) fr j) j (pwr x j) = mx (pwr x) fr (j + 1) from mx_succ _ _ _) z) (ws' := (eqW G he aw al af as_ ar un Rn led (mx (pwr x) fr (j + 1)) so)) rfl ?_
        refine V.goto hC 5 dX3_take_32 rfl ?_
        exact ih5 (j + 1) (by omega) (by omega)
  exact loop5 _ 0 (Nat.lt_succ_self _) (by omega)

set_option maxHeartbeats 4000000 in
set_option maxRecDepth 100000 in
theorem c_constant (l : Launch) (G : Gx) (he aw al af as_ : Nat) (ar : Nat → Nat) (un : Nat) (Rn : Nat → Nat → Nat) (led fr so : Nat → Nat) (hu1 : 1 ≤ un) (hu : un ≤ 4) (hR : ∀ c j, Rn c j < 97) (hs : ∀ j, so j < 97) : Ct l G SF0 yX3_constant wsX3_constant ({ frames := 1, cells := 0, slots := 0, locals := 21 }) [.ref he] (eqW G he aw al af as_ ar un Rn led fr so) mkI (fun (r : Int32) (_ : Unit) => r = nI ((bks Rn so un un) 0)) (fun _ : Unit => (eqW G he aw al af as_ ar un Rn led fr (bks Rn so un un))) 0 0 := by
  have hbl := bks_lt (u := un) hR hs
  refine Ct.ofI (cc := cX3_constant) (maxL := 4) (by decide) rfl ⟨by simp [Value.category], Nat.le_of_ble_eq_true rfl⟩ ?_
  intro K hl hC hSF hnm hE
  subst hl
  have q0_ : ∀ w ∈ u_ws RX3 TX3 5, w ∈ wsX3_constant := by decide +kernel
  have q1_ : Cond.fieldLink RX3 36 "FeatherShares$Equations" "unknowns" "I" ∈ wsX3_constant := by decide +kernel
  have q2_ : Cond.fieldLink RX3 24 "FeatherShares$Equations" "solution" "[I" ∈ wsX3_constant := by decide +kernel
  have q3_ : Cond.fieldLink RX3 11 "FeatherShares$Equations" "rows" "[[I" ∈ wsX3_constant := by decide +kernel
  show V G K 4 0 0 0 [some (.ref he), none, none, none] [] (eqW G he aw al af as_ ar un Rn led fr so)
  refine V.aload_n hC (x := he) dX3_constant_0 rfl ?_
  refine V.getf hC (T := TX3) q0_ 4 q1_ rfl (0) rfl rfl (by decide) (.int (nI un)) rfl dX3_constant_1 ?_
  refine V.iconst hC 1 dX3_constant_4 rfl ?_
  refine V.isub hC dX3_constant_5 ?_
  refine V.extN (4) (f := so) (g := (bks Rn so un (un - un))) rfl (fun z _ => congrFun (show so = (bks Rn so un (un - un)) from (by rw [Nat.sub_self]; rfl)) z) (ws' := (eqW G he aw al af as_ ar un Rn led fr (bks Rn so un (un - un)))) rfl ?_
  refine V.istore_n hC dX3_constant_6 [some (.ref he), some (.int ((nI un) - 1)), none, none] (Nat.le_of_ble_eq_true rfl) rfl ?_
  have loop7 : ∀ (n : Nat) (m : Nat), m < n → (m ≤ un) → V G K 4 0 0 7 [some (.ref he), some (.int (nI m - 1)), none, none] [] (eqW G he aw al af as_ ar un Rn led fr (bks Rn so un (un - m))) := by
    intro n
    induction n with
    | zero => intro m hlt; exact absurd hlt (Nat.not_lt_zero _)
    | succ n ih7 =>
      intro m hlt7 hmu
      refine V.iload_n hC (x := nI m - 1) dX3_constant_7 rfl ?_
      rcases Nat.eq_zero_or_pos m with hm | hm
      · refine V.topeq (-1) (by rw [hm]; rfl) ?_
        refine V.if_lt hC 74 dX3_constant_8 rfl (fun c_8 => ?_) (fun c_8 => ?_)
        · refine V.extN (4) (f := (bks Rn so un (un - m))) (g := (bks Rn so un un)) rfl (fun k hk => (by rw [hm]; rfl)) (ws' := (eqW G he aw al af as_ ar un Rn led fr (bks Rn so un un))) rfl ?_
          refine V.aload_n hC (x := he) dX3_constant_74 rfl ?_
          refine V.getf hC (T := TX3) q0_ 3 q2_ rfl (0) rfl rfl (by decide) (.ref as_) rfl dX3_constant_75 ?_
          refine V.iconst hC 0 dX3_constant_78 rfl ?_
          refine V.ialdN hC dX3_constant_79 (4) (f := (bks Rn so un un)) rfl 0 rfl (by omega) (by decide) ?_
          exact hE 80 _ (nI ((bks Rn so un un) 0)) () dX3_constant_80 rfl rfl
        · exact absurd (by decide) c_8
      · refine V.topeq (nI (m - 1)) (pk_sub (b := 1) hm) ?_
        refine V.lset 1 (x := .int (nI m - 1)) (y := .int (nI (m - 1))) (congrArg Value.int (pk_sub (b := 1) hm)) rfl (lv' := [some (.ref he), some (.int (nI (m - 1))), none, none]) rfl ?_
        refine V.ifN_lt hC (m - 1) 74 dX3_constant_8 rfl rfl (by omega) ?_
        refine V.aload_n hC (x := he) dX3_constant_11 rfl ?_
        refine V.getf hC (T := TX3) q0_ 0 q3_ rfl (0) rfl rfl (by decide) (.ref aw) rfl dX3_constant_12 ?_
        refine V.iload_n hC (x := nI (m - 1)) dX3_constant_15 rfl ?_
        refine V.aaldII hC dX3_constant_16 (1) rfl (m - 1) rfl (by omega) (by decide) (ar (m - 1)) rfl ?_
        refine V.aload_n hC (x := he) dX3_constant_17 rfl ?_
        refine V.getf hC (T := TX3) q0_ 4 q1_ rfl (0) rfl rfl (by decide) (.int (nI un)) rfl dX3_constant_18 ?_
        refine V.ialdN hC dX3_constant_21 (5 + (m - 1)) (f := Rn (m - 1)) (by rcases (show m = 1 ∨ m = 2 ∨ m = 3 ∨ m = 4 by omega) with rfl | rfl | rfl | rfl <;> rfl) un rfl (by omega) (by decide) ?_
        refine V.istore_n hC dX3_constant_22 [some (.ref he), some (.int (nI (m - 1))), some (.int (nI ((Rn (m - 1)) un))), none] (Nat.le_of_ble_eq_true rfl) rfl ?_
        refine V.iload_n hC (x := nI (m - 1)) dX3_constant_23 rfl ?_
        refine V.iconst hC 1 dX3_constant_24 rfl ?_
        refine V.iaddN hC (m - 1) 1 dX3_constant_25 rfl rfl ?_
        refine V.istore_n hC dX3_constant_26 [some (.ref he), some (.int (nI (m - 1))), some (.int (nI ((Rn (m - 1)) un))), some (.int (nI ((m - 1) + 1)))] (Nat.le_of_ble_eq_true rfl) rfl ?_
        have loop27 : ∀ (n : Nat) (j : Nat), 5 - j < n → (j ≤ un - m) → V G K 4 0 0 27 [some (.ref he), some (.int (nI (m - 1))), some (.int (nI (rgt (Rn (m - 1)) (bks Rn so un (un - m)) (m - 1) un j))), some (.int (nI (m - 1 + 1 + j)))] [] (eqW G he aw al af as_ ar un Rn led fr (bks Rn so un (un - m))) := by
          intro n
          induction n with
          | zero => intro j hlt; exact absurd hlt (Nat.not_lt_zero _)
          | succ n ih27 =>
            intro j hlt27 hj
            refine V.iload_n hC (x := nI (m - 1 + 1 + j)) dX3_constant_27 rfl ?_
            refine V.aload_n hC (x := he) dX3_constant_28 rfl ?_
            refine V.getf hC (T := TX3) q0_ 4 q1_ rfl (0) rfl rfl (by decide) (.int (nI un)) rfl dX3_constant_29 ?_
            refine V.icmpN_ge hC (m - 1 + 1 + j) un 61 dX3_constant_32 rfl rfl rfl (by omega) (by omega) (fun c_32 => ?_) (fun c_32 => ?_)
            · refine V.lset 2 (x := .int (nI (rgt (Rn (m - 1)) (bks Rn so un (un - m)) (m - 1) un j))) (y := .int (nI (rgt (Rn (m - 1)) (bks Rn so un (un - m)) (m - 1) un (un - m)))) (congrArg Value.int (by rw [show j = un - m by omega])) rfl (lv' := [some (.ref he), some (.int (nI (m - 1))), some (.int (nI (rgt (Rn (m - 1)) (bks Rn so un (un - m)) (m - 1) un (un - m)))), some (.int (nI (m - 1 + 1 + j)))]) rfl ?_
              refine V.aload_n hC (x := he) dX3_constant_61 rfl ?_
              refine V.getf hC (T := TX3) q0_ 3 q2_ rfl (0) rfl rfl (by decide) (.ref as_) rfl dX3_constant_62 ?_
              refine V.iload_n hC (x := nI (m - 1)) dX3_constant_65 rfl ?_
              refine V.iload_n hC (x := nI (rgt (Rn (m - 1)) (bks Rn so un (un - m)) (m - 1) un (un - m))) dX3_constant_66 rfl ?_
              refine V.iastN hC dX3_constant_67 (4) (f := (bks Rn so un (un - m))) rfl (m - 1) (rgt (Rn (m - 1)) (bks Rn so un (un - m)) (m - 1) un (un - m)) rfl (by omega) (by decide) rfl (eqW G he aw al af as_ ar un Rn led fr (va_up (bks Rn so un (un - m)) (m - 1) (rgt (Rn (m - 1)) (bks Rn so un (un - m)) (m - 1) un (un - m)))) rfl ?_
              refine V.extN (4) (f := va_up (bks Rn so un (un - m)) (m - 1) (rgt (Rn (m - 1)) (bks Rn so un (un - m)) (m - 1) un (un - m))) (g := (bks Rn so un (un - (m - 1)))) rfl (fun z _ => congrFun (show va_up (bks Rn so un (un - m)) (m - 1) (rgt (Rn (m - 1)) (bks Rn so un (un - m)) (m - 1) un (un - m)) = (bks Rn so un (un - (m - 1))) from (by rw [show un - (m - 1) = un - m + 1 by omega, bks, show un - 1 - (un - m) = m - 1 by omega])) z) (ws' := (eqW G he aw al af as_ ar un Rn led fr (bks Rn so un (un - (m - 1))))) rfl ?_
              refine V.iinc hC (nI (m - 1) + (-1)) dX3_constant_68 rfl [some (.ref he), some (.int (nI (m - 1) + (-1))), some (.int (nI (rgt (Rn (m - 1)) (bks Rn so un (un - m)) (m - 1) un (un - m)))), some (.int (nI (m - 1 + 1 + j)))] (Nat.le_of_ble_eq_true rfl) rfl rfl ?_
              refine V.lset 1 (x := .int (nI (m - 1) + (-1))) (y := .int (nI (m - 1) - 1)) (congrArg Value.int (by rw [Int32.sub_eq_add_neg])) rfl (lv' := [some (.ref he), some (.int (nI (m - 1) - 1)), some (.int (nI (rgt (Rn (m - 1)) (bks Rn so un (un - m)) (m - 1) un (un - m)))), some (.int (nI (m - 1 + 1 + j)))]) rfl ?_
              refine V.goto hC 7 dX3_constant_71 rfl ?_
              refine V.drop 2 (lv' := [some (.ref he), some (.int (nI (m - 1) - 1)), none, some (.int (nI (m - 1 + 1 + j)))]) rfl ?_
              refine V.drop 3 (lv' := [some (.ref he), some (.int (nI (m - 1) - 1)), none, none]) rfl ?_
              exact ih7 (m - 1) (by omega) (by omega)
            · refine V.iload_n hC (x := nI (rgt (Rn (m - 1)) (bks Rn so un (un - m)) (m - 1) un j)) dX3_constant_35 rfl ?_
              refine V.aload_n hC (x := he) dX3_constant_36 rfl ?_
              refine V.getf hC (T := TX3) q0_ 0 q3_ rfl (0) rfl rfl (by decide) (.ref aw) rfl dX3_constant_37 ?_
              refine V.iload_n hC (x := nI (m - 1)) dX3_constant_40 rfl ?_
              refine V.aaldII hC dX3_constant_41 (1) rfl (m - 1) rfl (by omega) (by decide) (ar (m - 1)) rfl ?_
              refine V.iload_n hC (x := nI (m - 1 + 1 + j)) dX3_constant_42 rfl ?_
              refine V.ialdN hC dX3_constant_43 (5 + (m - 1)) (f := Rn (m - 1)) (by rcases (show m = 1 ∨ m = 2 ∨ m = 3 ∨ m = 4 by omega) with rfl | rfl | rfl | rfl <;> rfl) (m - 1 + 1 + j) rfl (by omega) (by decide) ?_
              refine V.aload_n hC (x := he) dX3_constant_44 rfl ?_
              refine V.getf hC (T := TX3) q0_ 3 q2_ rfl (0) rfl rfl (by decide) (.ref as_) rfl dX3_constant_45 ?_
              refine V.iload_n hC (x := nI (m - 1 + 1 + j)) dX3_constant_48 rfl ?_
              refine V.ialdN hC dX3_constant_49 (4) (f := (bks Rn so un (un - m))) rfl (m - 1 + 1 + j) rfl (by omega) (by decide) ?_
              refine V.imulN hC ((Rn (m - 1)) (m - 1 + 1 + j)) ((bks Rn so un (un - m)) (m - 1 + 1 + j)) dX3_constant_50 rfl rfl ?_
              refine V.callSr (n := 2) (As := [.int (nI (rgt (Rn (m - 1)) (bks Rn so un (un - m)) (m - 1) un j)), .int (nI (((Rn (m - 1)) (m - 1 + 1 + j)) * ((bks Rn so un (un - m)) (m - 1 + 1 + j))))]) (rest := []) hC (c_difference (kl K) G (rgt (Rn (m - 1)) (bks Rn so un (un - m)) (m - 1) un j) (Rn (m - 1) (m - 1 + 1 + j) * (bks Rn so un (un - m)) (m - 1 + 1 + j)) (by have := rgt_lt (so := (bks Rn so un (un - m))) (c := m - 1) (hR (m - 1) un) j; omega) (b8m (hR _ _) (hbl _ _))) SFk0 SFgo0 gX3_constant_X9_difference rfl ⟨rfl, rfl⟩ (by decide +kernel) ⟨by decide, by decide, by decide, by decide⟩ [] rfl (by decide) rfl rfl (Nat.le_of_ble_eq_true rfl) dX3_constant_51 (fun r_51 u_51 hp_51 => ?_)
              subst hp_51
              show V G K 4 0 0 54 [some (.ref he), some (.int (nI (m - 1))), some (.int (nI (rgt (Rn (m - 1)) (bks Rn so un (un - m)) (m - 1) un j))), some (.int (nI (m - 1 + 1 + j)))] [.int (nI (rgt (Rn (m - 1)) (bks Rn so un (un - m)) (m - 1) un (j + 1)))] (eqW G he aw al af as_ ar un Rn led fr (bks Rn so un (un - m)))
              refine V.istore_n hC dX3_constant_54 [some (.ref he), some (.int (nI (m - 1))), some (.int (nI (rgt (Rn (m - 1)) (bks Rn so un (un - m)) (m - 1) un (j + 1)))), some (.int (nI (m - 1 + 1 + j)))] (Nat.le_of_ble_eq_true rfl) rfl ?_
              refine V.iincN hC (m - 1 + 1 + j) 1 dX3_constant_55 rfl [some (.ref he), some (.int (nI (m - 1))), some (.int (nI (rgt (Rn (m - 1)) (bks Rn so un (un - m)) (m - 1) un (j + 1)))), some (.int (nI (m - 1 + 1 + j + 1)))] (Nat.le_of_ble_eq_true rfl) rfl rfl rfl ?_
              refine V.goto hC 27 dX3_constant_58 rfl ?_
              exact ih27 (j + 1) (by omega) (by omega)
        exact loop27 _ 0 (Nat.lt_succ_self _) (by omega)
  exact loop7 _ un (Nat.lt_succ_self _) (by omega)
