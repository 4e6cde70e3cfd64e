/-! State: what changes it (printed by gen/s14.py) -/
/-- g below k, f from k on -/
def mx {α : Type} (g f : Nat → α) (k : Nat) : Nat → α := fun j => if j < k then g j else f j
/-- where the secret at k comes from when the one at c is closed -/
def pm (c ns k : Nat) : Nat := if c ≤ k ∧ k + 1 < ns then k + 1 else if k + 1 = ns then c else k
/-- the row of secrets while the one at c is closed, p of them seen -/
def clf (rr : Nat → Nat) (c p : Nat) : Nat → Option Nat := fun k => if c ≤ k ∧ k + 1 < p then some (rr (k + 1)) else some (rr k)
def kpt (c p : Nat) : Nat := if p ≤ c then p else p - 1
theorem clf_0 (rr : Nat → Nat) (c : Nat) : (fun k => some (rr k)) = clf rr c 0 := by
  funext k
  simp [clf]
theorem clf_at (rr : Nat → Nat) (c p : Nat) : clf rr c p p = some (rr p) := by
  rw [clf, if_neg (fun z => by omega)]
theorem clf_same (rr : Nat → Nat) {c p : Nat} (h : p = c) : clf rr c p = clf rr c (p + 1) := by
  funext k
  rw [clf, clf, if_neg (fun z => by omega), if_neg (fun z => by omega)]
theorem clf_step (rr : Nat → Nat) {c p : Nat} (h : ¬ p = c) : va_up (clf rr c p) (kpt c p) (some (rr p)) = clf rr c (p + 1) := by
  funext k
  unfold va_up clf kpt
  by_cases h1 : p ≤ c
  · rw [if_pos h1]
    by_cases h2 : k = p
    · subst h2
      rw [if_pos rfl, if_neg (fun z => by omega)]
    · rw [if_neg h2, if_neg (fun z => by omega), if_neg (fun z => by omega)]
  · rw [if_neg h1]
    by_cases h2 : k = p - 1
    · subst h2
      rw [if_pos rfl, if_pos ⟨by omega, by omega⟩, show p - 1 + 1 = p by omega]
    · rw [if_neg h2]
      by_cases h3 : c ≤ k ∧ k + 1 < p
      · rw [if_pos h3, if_pos ⟨h3.1, by omega⟩]
      · rw [if_neg h3, if_neg (fun z => h3 ⟨z.1, by omega⟩)]
theorem kpt_y {c p : Nat} (h : p = c) : kpt c p = kpt c (p + 1) := by unfold kpt; split <;> split <;> omega
theorem kpt_n {c p : Nat} (h : ¬ p = c) : kpt c p + 1 = kpt c (p + 1) := by unfold kpt; split <;> split <;> omega
theorem kpt_le (c p : Nat) : kpt c p ≤ p := by unfold kpt; split <;> omega
theorem clf_end (rr : Nat → Nat) {c ns : Nat} (h : c < ns) : va_up (clf rr c ns) (ns - 1) (some (rr c)) = fun k => some (rr (pm c ns k)) := by
  funext k
  unfold va_up clf pm
  by_cases h1 : k = ns - 1
  · rw [if_pos h1, if_neg (fun z => by omega), if_pos (by omega)]
  · rw [if_neg h1]
    by_cases h3 : c ≤ k ∧ k + 1 < ns
    · rw [if_pos h3, if_pos h3]
    · rw [if_neg h3, if_neg h3, if_neg (by omega)]
theorem lt7 {k : Nat} (h : k < 7) : k = 0 ∨ k = 1 ∨ k = 2 ∨ k = 3 ∨ k = 4 ∨ k = 5 ∨ k = 6 := by omega
set_option maxHeartbeats 4000000 in
set_option maxRecDepth 100000 in
theorem c_countLoss (l : Launch) (G : Gx) (h ah as_ : Nat) (rr ra : Nat → Nat) (hm : Nat → Int32) (nb ns : Nat) (la : Int32) (lo : Int64) (nu : Nat → Int32) (tn : Nat → Nat) (sh : Nat → Nat → Int32) (hb8 : nb ≤ 8) (hs6 : ns ≤ 6) : Ct l G SF0 yX11_countLoss wsX11_countLoss ({ frames := 0, cells := 0, slots := 0, locals := 0 }) [.ref h] (stW G h ah as_ rr ra hm nb ns la lo nu tn sh) mkV (fun (_ : Unit) (_ : Unit) => True) (fun _ : Unit => (stW G h ah as_ rr ra hm nb ns la (lo + 1) nu tn sh)) 0 0 := by
  refine Ct.ofV (cc := cX11_countLoss) (maxL := 1) (by decide) rfl ⟨by simp [Value.category], Nat.le_of_ble_eq_true rfl⟩ ?_
  intro K hl hC hSF hnm hE
  subst hl
  have q0_ : ∀ w ∈ u_ws RX11 TX11 6, w ∈ wsX11_countLoss := by decide +kernel
  have q1_ : Cond.fieldLink RX11 42 "FeatherShares$State" "losses" "J" ∈ wsX11_countLoss := by decide +kernel
  show V G K 1 0 0 0 [some (.ref h)] [] (stW G h ah as_ rr ra hm nb ns la lo nu tn sh)
  refine V.aload_n hC (x := h) dX11_countLoss_0 rfl ?_
  refine V.dup hC dX11_countLoss_1 rfl ?_
  refine V.getf hC (T := TX11) q0_ 5 q1_ rfl (0) rfl rfl (by decide) (.long lo) rfl dX11_countLoss_2 ?_
  refine V.lconst hC 1 dX11_countLoss_5 rfl ?_
  refine V.ladd hC dX11_countLoss_6 ?_
  refine V.putf hC (T := TX11) q0_ tyX11 tyX11_ok nmX11 5 q1_ rfl rfl (0) rfl rfl (by decide) (by simp) rfl rfl dX11_countLoss_7 (stW G h ah as_ rr ra hm nb ns la (lo + 1) nu tn sh) rfl ?_
  exact hE 10 _ () dX11_countLoss_10 trivial

set_option maxHeartbeats 4000000 in
set_option maxRecDepth 100000 in
theorem c_settle (l : Launch) (G : Gx) (h ah as_ : Nat) (rr ra : Nat → Nat) (hm : Nat → Int32) (nb ns : Nat) (la : Int32) (lo : Int64) (nu : Nat → Int32) (tn : Nat → Nat) (sh : Nat → Nat → Int32) (hb8 : nb < 8) (hs6 : ns ≤ 6) (x : Int32) : Ct l G SF0 yX11_settle wsX11_settle ({ frames := 0, cells := 0, slots := 0, locals := 0 }) [.ref h, .int x] (stW G h ah as_ rr ra hm nb ns la lo nu tn sh) mkI (fun (r : Int32) (_ : Unit) => r = nI nb) (fun _ : Unit => (stW G h ah as_ rr ra (upd hm nb x) (nb + 1) ns la lo nu tn sh)) 0 0 := by
  refine Ct.ofI (cc := cX11_settle) (maxL := 2) (by decide) rfl ⟨by simp [Value.category], Nat.le_of_ble_eq_true rfl⟩ ?_
  intro K hl hC hSF hnm hE
  subst hl
  have q0_ : ∀ w ∈ u_ws RX11 TX11 6, w ∈ wsX11_settle := by decide +kernel
  have q1_ : Cond.fieldLink RX11 32 "FeatherShares$State" "birds" "I" ∈ wsX11_settle := by decide +kernel
  have q2_ : Cond.fieldLink RX11 9 "FeatherShares$State" "homes" "[I" ∈ wsX11_settle := by decide +kernel
  show V G K 2 0 0 0 [some (.ref h), some (.int x)] [] (stW G h ah as_ rr ra hm nb ns la lo nu tn sh)
  refine V.aload_n hC (x := h) dX11_settle_0 rfl ?_
  refine V.getf hC (T := TX11) q0_ 2 q1_ rfl (0) rfl rfl (by decide) (.int (nI nb)) rfl dX11_settle_1 ?_
  refine V.bipush hC 8 dX11_settle_4 rfl ?_
  refine V.icmpN_ge hC nb 8 29 dX11_settle_6 rfl rfl rfl (by omega) (by omega) (fun c_6 => ?_) (fun c_6 => ?_)
  · exact absurd c_6 (by omega)
  · refine V.aload_n hC (x := h) dX11_settle_9 rfl ?_
    refine V.getf hC (T := TX11) q0_ 0 q2_ rfl (0) rfl rfl (by decide) (.ref ah) rfl dX11_settle_10 ?_
    refine V.aload_n hC (x := h) dX11_settle_13 rfl ?_
    refine V.getf hC (T := TX11) q0_ 2 q1_ rfl (0) rfl rfl (by decide) (.int (nI nb)) rfl dX11_settle_14 ?_
    refine V.iload_n hC (x := x) dX11_settle_17 rfl ?_
    refine V.iast hC dX11_settle_18 (1) rfl nb rfl (by omega) (by decide) (stW G h ah as_ rr ra (upd hm nb x) nb ns la lo nu tn sh) rfl ?_
    refine V.aload_n hC (x := h) dX11_settle_19 rfl ?_
    refine V.dup hC dX11_settle_20 rfl ?_
    refine V.getf hC (T := TX11) q0_ 2 q1_ rfl (0) rfl rfl (by decide) (.int (nI nb)) rfl dX11_settle_21 ?_
    refine V.iconst hC 1 dX11_settle_24 rfl ?_
    refine V.iaddN hC nb 1 dX11_settle_25 rfl rfl ?_
    refine V.putf hC (T := TX11) q0_ tyX11 tyX11_ok nmX11 2 q1_ rfl rfl (0) rfl rfl (by decide) (by simp) rfl rfl dX11_settle_26 (stW G h ah as_ rr ra (upd hm nb x) (nb + 1) ns la lo nu tn sh) rfl ?_
    refine V.aload_n hC (x := h) dX11_settle_29 rfl ?_
    refine V.getf hC (T := TX11) q0_ 2 q1_ rfl (0) rfl rfl (by decide) (.int (nI (nb + 1))) rfl dX11_settle_30 ?_
    refine V.iconst hC 1 dX11_settle_33 rfl ?_
    refine V.isubN hC (nb + 1) 1 dX11_settle_34 rfl rfl (by omega) ?_
    exact hE 35 _ (nI ((nb + 1) - 1)) () dX11_settle_35 rfl (by rw [show nb + 1 - 1 = nb by omega])

set_option maxHeartbeats 4000000 in
set_option maxRecDepth 100000 in
theorem c_resettle (l : Launch) (G : Gx) (h ah as_ : Nat) (rr ra : Nat → Nat) (hm : Nat → Int32) (nb ns : Nat) (la : Int32) (lo : Int64) (nu : Nat → Int32) (tn : Nat → Nat) (sh : Nat → Nat → Int32) (hb8 : nb ≤ 8) (hs6 : ns ≤ 6) (b : Nat) (hb : b < 8) (x : Int32) : Ct l G SF0 yX11_resettle wsX11_resettle ({ frames := 1, cells := 0, slots := 0, locals := 21 }) [.ref h, .int (nI b), .int x] (stW G h ah as_ rr ra hm nb ns la lo nu tn sh) mkI (fun (r : Int32) (_ : Unit) => r = hm b) (fun _ : Unit => (stW G h ah as_ rr ra (upd hm b x) nb ns la lo nu tn sh)) 0 0 := by
  refine Ct.ofI (cc := cX11_resettle) (maxL := 4) (by decide) rfl ⟨by simp [Value.category], Nat.le_of_ble_eq_true rfl⟩ ?_
  intro K hl hC hSF hnm hE
  subst hl
  have q0_ : ∀ w ∈ u_ws RX11 TX11 6, w ∈ wsX11_resettle := by decide +kernel
  have q1_ : Cond.fieldLink RX11 9 "FeatherShares$State" "homes" "[I" ∈ wsX11_resettle := by decide +kernel
  show V G K 4 0 0 0 [some (.ref h), some (.int (nI b)), some (.int x), none] [] (stW G h ah as_ rr ra hm nb ns la lo nu tn sh)
  refine V.aload_n hC (x := h) dX11_resettle_0 rfl ?_
  refine V.iload_n hC (x := nI b) dX11_resettle_1 rfl ?_
  refine V.callVr (n := 1) (As := [.int (nI b)]) (rest := []) hC (c_homeOf (kl K) G h ah as_ rr ra hm nb ns la lo nu tn sh hb8 hs6 b (by omega)) SFk0 SFgo0 gX11_resettle_X11_homeOf rfl ⟨rfl, rfl⟩ (by decide +kernel) ⟨by decide, by decide, by decide, by decide⟩ [0, 1, 2, 3, 4, 5, 6, 7, 8, 9, 10, 11, 12, 13, 14] rfl (by decide) rfl rfl rfl rfl (Nat.le_of_ble_eq_true rfl) dX11_resettle_2 (fun r_2 u_2 hp_2 => ?_)
  subst hp_2
  show V G K 4 0 0 5 [some (.ref h), some (.int (nI b)), some (.int x), none] [.int (hm b)] (stW G h ah as_ rr ra hm nb ns la lo nu tn sh)
  refine V.istore_n hC dX11_resettle_5 [some (.ref h), some (.int (nI b)), some (.int x), some (.int (hm b))] (Nat.le_of_ble_eq_true rfl) rfl ?_
  refine V.iload_n hC (x := nI b) dX11_resettle_6 rfl ?_
  refine V.ifN_lt hC b 23 dX11_resettle_7 rfl rfl (by omega) ?_
  refine V.iload_n hC (x := nI b) dX11_resettle_10 rfl ?_
  refine V.bipush hC 8 dX11_resettle_11 rfl ?_
  refine V.icmpN_ge hC b 8 23 dX11_resettle_13 rfl rfl rfl (by omega) (by omega) (fun c_13 => ?_) (fun c_13 => ?_)
  · exact absurd hb (by omega)
  · refine V.aload_n hC (x := h) dX11_resettle_16 rfl ?_
    refine V.getf hC (T := TX11) q0_ 0 q1_ rfl (0) rfl rfl (by decide) (.ref ah) rfl dX11_resettle_17 ?_
    refine V.iload_n hC (x := nI b) dX11_resettle_20 rfl ?_
    refine V.iload_n hC (x := x) dX11_resettle_21 rfl ?_
    refine V.iast hC dX11_resettle_22 (1) rfl b rfl (by omega) (by decide) (stW G h ah as_ rr ra (upd hm b x) nb ns la lo nu tn sh) rfl ?_
    refine V.iload_n hC (x := hm b) dX11_resettle_23 rfl ?_
    exact hE 24 _ (hm b) () dX11_resettle_24 rfl rfl

set_option maxHeartbeats 4000000 in
set_option maxRecDepth 100000 in
theorem c_copyFrom (l : Launch) (G : Gx) (h ah as_ : Nat) (rr ra : Nat → Nat) (hm : Nat → Int32) (nb ns : Nat) (la : Int32) (lo : Int64) (nu : Nat → Int32) (tn : Nat → Nat) (sh : Nat → Nat → Int32) (h2 ah2 as2 : Nat) (rr2 ra2 : Nat → Nat) (hm2 : Nat → Int32) (nb2 ns2 : Nat) (la2 : Int32) (lo2 : Int64) (nu2 : Nat → Int32) (tn2 : Nat → Nat) (sh2 : Nat → Nat → Int32) : Ct l G SF0 yX11_copyFrom wsX11_copyFrom ({ frames := 2, cells := 0, slots := 0, locals := 39 }) [.ref h, .ref h2] ((stW G h ah as_ rr ra hm nb ns la lo nu tn sh) ++ (stW G h2 ah2 as2 rr2 ra2 hm2 nb2 ns2 la2 lo2 nu2 tn2 sh2)) mkV (fun (_ : Unit) (_ : Unit) => True) (fun _ : Unit => ((stW G h ah as_ rr ra hm2 nb2 ns2 la2 lo2 nu2 tn2 sh2) ++ (stW G h2 ah2 as2 rr2 ra2 hm2 nb2 ns2 la2 lo2 nu2 tn2 sh2))) 0 0 := by
  refine Ct.ofV (cc := cX11_copyFrom) (maxL := 3) (by decide) rfl ⟨by simp [Value.category], Nat.le_of_ble_eq_true rfl⟩ ?_
  intro K hl hC hSF hnm hE
  subst hl
  have q0_ : ∀ w ∈ u_ws RX11 TX11 6, w ∈ wsX11_copyFrom := by decide +kernel
  have q1_ : Cond.fieldLink RX11 9 "FeatherShares$State" "homes" "[I" ∈ wsX11_copyFrom := by decide +kernel
  have q2_ : Cond.methodLink RX11 22 arraycopyName ∈ wsX11_copyFrom := by decide +kernel
  have q3_ : Cond.native arraycopyName ∈ wsX11_copyFrom := by decide +kernel
  have q4_ : Cond.static arraycopyName ∈ wsX11_copyFrom := by decide +kernel
  have q5_ : Cond.initialized "java/lang/System" ∈ wsX11_copyFrom := by decide +kernel
  have q6_ : Cond.fieldLink RX11 32 "FeatherShares$State" "birds" "I" ∈ wsX11_copyFrom := by decide +kernel
  have q7_ : Cond.fieldLink RX11 36 "FeatherShares$State" "secretsInUse" "I" ∈ wsX11_copyFrom := by decide +kernel
  have q8_ : Cond.fieldLink RX11 39 "FeatherShares$State" "lastNumber" "I" ∈ wsX11_copyFrom := by decide +kernel
  have q9_ : Cond.fieldLink RX11 42 "FeatherShares$State" "losses" "J" ∈ wsX11_copyFrom := by decide +kernel
  have q10_ : Cond.fieldLink RX11 17 "FeatherShares$State" "secrets" "[LFeatherShares$Secret;" ∈ wsX11_copyFrom := by decide +kernel
  show V G K 3 0 0 0 [some (.ref h), some (.ref h2), none] [] ((stW G h ah as_ rr ra hm nb ns la lo nu tn sh) ++ (stW G h2 ah2 as2 rr2 ra2 hm2 nb2 ns2 la2 lo2 nu2 tn2 sh2))
  refine V.aload_n hC (x := h2) dX11_copyFrom_0 rfl ?_
  refine V.getf hC (T := TX11) q0_ 0 q1_ rfl (15) rfl rfl (by decide) (.ref ah2) rfl dX11_copyFrom_1 ?_
  refine V.iconst hC 0 dX11_copyFrom_4 rfl ?_
  refine V.aload_n hC (x := h) dX11_copyFrom_5 rfl ?_
  refine V.getf hC (T := TX11) q0_ 0 q1_ rfl (0) rfl rfl (by decide) (.ref ah) rfl dX11_copyFrom_6 ?_
  refine V.iconst hC 0 dX11_copyFrom_9 rfl ?_
  refine V.bipush hC 8 dX11_copyFrom_10 rfl ?_
  refine V.copyAll hC q2_ q3_ q4_ q5_ (16) (1) rfl rfl (N := 8) rfl (by decide) ⟨by decide, by decide⟩ dX11_copyFrom_12 ((stW G h ah as_ rr ra hm2 nb ns la lo nu tn sh) ++ (stW G h2 ah2 as2 rr2 ra2 hm2 nb2 ns2 la2 lo2 nu2 tn2 sh2)) rfl ?_
  refine V.eqw (ws' := ((stW G h ah as_ rr ra hm2 nb ns la lo (mx nu2 nu 0) (mx tn2 tn 0) (mx sh2 sh 0)) ++ (stW G h2 ah2 as2 rr2 ra2 hm2 nb2 ns2 la2 lo2 nu2 tn2 sh2))) rfl ?_
  refine V.iconst hC 0 dX11_copyFrom_15 rfl ?_
  refine V.istore_n hC dX11_copyFrom_16 [some (.ref h), some (.ref h2), some (.int 0)] (Nat.le_of_ble_eq_true rfl) rfl ?_
  have loop17 : ∀ (n : Nat) (k : Nat), 7 - k < n → (k ≤ 6) → V G K 3 0 0 17 [some (.ref h), some (.ref h2), some (.int (nI k))] [] ((stW G h ah as_ rr ra hm2 nb ns la lo (mx nu2 nu k) (mx tn2 tn k) (mx sh2 sh k)) ++ (stW G h2 ah2 as2 rr2 ra2 hm2 nb2 ns2 la2 lo2 nu2 tn2 sh2)) := by
    intro n
    induction n with
    | zero => intro k hlt; exact absurd hlt (Nat.not_lt_zero _)
    | succ n ih17 =>
      intro k hlt17 hk
      refine V.iload_n hC (x := nI k) dX11_copyFrom_17 rfl ?_
      refine V.bipush hC 6 dX11_copyFrom_18 rfl ?_
      refine V.icmpN_ge hC k 6 44 dX11_copyFrom_20 rfl rfl rfl (by omega) (by omega) (fun c_20 => ?_) (fun c_20 => ?_)
      · refine V.eqw (ws' := ((stW G h ah as_ rr ra hm2 nb ns la lo nu2 tn2 sh2) ++ (stW G h2 ah2 as2 rr2 ra2 hm2 nb2 ns2 la2 lo2 nu2 tn2 sh2))) (by obtain rfl : k = 6 := (by omega); rfl) ?_
        refine V.aload_n hC (x := h) dX11_copyFrom_44 rfl ?_
        refine V.aload_n hC (x := h2) dX11_copyFrom_45 rfl ?_
        refine V.getf hC (T := TX11) q0_ 2 q6_ rfl (15) rfl rfl (by decide) (.int (nI nb2)) rfl dX11_copyFrom_46 ?_
        refine V.putf hC (T := TX11) q0_ tyX11 tyX11_ok nmX11 2 q6_ rfl rfl (0) rfl rfl (by decide) (by simp) rfl rfl dX11_copyFrom_49 ((stW G h ah as_ rr ra hm2 nb2 ns la lo nu2 tn2 sh2) ++ (stW G h2 ah2 as2 rr2 ra2 hm2 nb2 ns2 la2 lo2 nu2 tn2 sh2)) rfl ?_
        refine V.aload_n hC (x := h) dX11_copyFrom_52 rfl ?_
        refine V.aload_n hC (x := h2) dX11_copyFrom_53 rfl ?_
        refine V.getf hC (T := TX11) q0_ 3 q7_ rfl (15) rfl rfl (by decide) (.int (nI ns2)) rfl dX11_copyFrom_54 ?_
        refine V.putf hC (T := TX11) q0_ tyX11 tyX11_ok nmX11 3 q7_ rfl rfl (0) rfl rfl (by decide) (by simp) rfl rfl dX11_copyFrom_57 ((stW G h ah as_ rr ra hm2 nb2 ns2 la lo nu2 tn2 sh2) ++ (stW G h2 ah2 as2 rr2 ra2 hm2 nb2 ns2 la2 lo2 nu2 tn2 sh2)) rfl ?_
        refine V.aload_n hC (x := h) dX11_copyFrom_60 rfl ?_
        refine V.aload_n hC (x := h2) dX11_copyFrom_61 rfl ?_
        refine V.getf hC (T := TX11) q0_ 4 q8_ rfl (15) rfl rfl (by decide) (.int la2) rfl dX11_copyFrom_62 ?_
        refine V.putf hC (T := TX11) q0_ tyX11 tyX11_ok nmX11 4 q8_ rfl rfl (0) rfl rfl (by decide) (by simp) rfl rfl dX11_copyFrom_65 ((stW G h ah as_ rr ra hm2 nb2 ns2 la2 lo nu2 tn2 sh2) ++ (stW G h2 ah2 as2 rr2 ra2 hm2 nb2 ns2 la2 lo2 nu2 tn2 sh2)) rfl ?_
        refine V.aload_n hC (x := h) dX11_copyFrom_68 rfl ?_
        refine V.aload_n hC (x := h2) dX11_copyFrom_69 rfl ?_
        refine V.getf hC (T := TX11) q0_ 5 q9_ rfl (15) rfl rfl (by decide) (.long lo2) rfl dX11_copyFrom_70 ?_
        refine V.putf hC (T := TX11) q0_ tyX11 tyX11_ok nmX11 5 q9_ rfl rfl (0) rfl rfl (by decide) (by simp) rfl rfl dX11_copyFrom_73 ((stW G h ah as_ rr ra hm2 nb2 ns2 la2 lo2 nu2 tn2 sh2) ++ (stW G h2 ah2 as2 rr2 ra2 hm2 nb2 ns2 la2 lo2 nu2 tn2 sh2)) rfl ?_
        exact hE 76 _ () dX11_copyFrom_76 trivial
      · refine V.aload_n hC (x := h) dX11_copyFrom_23 rfl ?_
        refine V.getf hC (T := TX11) q0_ 1 q10_ rfl (0) rfl rfl (by decide) (.ref as_) rfl dX11_copyFrom_24 ?_
        refine V.iload_n hC (x := nI k) dX11_copyFrom_27 rfl ?_
        refine V.aaldS hC dX11_copyFrom_28 (2) rfl k rfl (by omega) (by decide) (rr k) rfl ?_
        refine V.aload_n hC (x := h2) dX11_copyFrom_29 rfl ?_
        refine V.getf hC (T := TX11) q0_ 1 q10_ rfl (15) rfl rfl (by decide) (.ref as2) rfl dX11_copyFrom_30 ?_
        refine V.iload_n hC (x := nI k) dX11_copyFrom_33 rfl ?_
        refine V.aaldS hC dX11_copyFrom_34 (17) rfl k rfl (by omega) (by decide) (rr2 k) rfl ?_
        refine V.callV (n := 1) (As := [.ref (rr2 k)]) (rest := []) hC (c_copyFromS (kl K) G (rr k) (ra k) (rr2 k) (ra2 k) (mx sh2 sh k k) (sh2 k) (mx nu2 nu k k) (nI (mx tn2 tn k k)) (nu2 k) (nI (tn2 k))) SFk0 SFgo0 gX11_copyFrom_X10_copyFrom rfl ⟨rfl, rfl⟩ (by decide +kernel) ⟨by decide, by decide, by decide, by decide⟩ [3 + 2 * k, 4 + 2 * k, 15 + (3 + 2 * k), 15 + (4 + 2 * k)] (by rcases (lt6 (by omega : k < 6)) with rfl | rfl | rfl | rfl | rfl | rfl <;> rfl) (by rcases (lt6 (by omega : k < 6)) with rfl | rfl | rfl | rfl | rfl | rfl <;> rfl) (fun _ => rfl) rfl rfl rfl rfl (Nat.le_of_ble_eq_true rfl) dX11_copyFrom_35 (fun r_35 u_35 hp_35 => ?_)
        refine V.eqw (ws' := ((stW G h ah as_ rr ra hm2 nb ns la lo (mx nu2 nu (k + 1)) (mx tn2 tn (k + 1)) (mx sh2 sh (k + 1))) ++ (stW G h2 ah2 as2 rr2 ra2 hm2 nb2 ns2 la2 lo2 nu2 tn2 sh2))) (by rcases (lt6 (by omega : k < 6)) with rfl | rfl | rfl | rfl | rfl | rfl <;> rfl) ?_
        show V G K 3 0 0 38 [some (.ref h), some (.ref h2), some (.int (nI k))] [] ((stW G h ah as_ rr ra hm2 nb ns la lo (mx nu2 nu (k + 1)) (mx tn2 tn (k + 1)) (mx sh2 sh (k + 1))) ++ (stW G h2 ah2 as2 rr2 ra2 hm2 nb2 ns2 la2 lo2 nu2 tn2 sh2))
        refine V.iincN hC k 1 dX11_copyFrom_38 rfl [some (.ref h), some (.ref h2), some (.int (nI (k + 1)))] (Nat.le_of_ble_eq_true rfl) rfl rfl rfl ?_
        refine V.goto hC 17 dX11_copyFrom_41 rfl ?_
        exact ih17 (k + 1) (by omega) (by omega)
  exact loop17 _ 0 (Nat.lt_succ_self _) (by omega)

set_option maxHeartbeats 4000000 in
set_option maxRecDepth 100000 in
theorem c_open (l : Launch) (G : Gx) (h ah as_ : Nat) (rr ra : Nat → Nat) (hm : Nat → Int32) (nb ns : Nat) (la : Int32) (lo : Int64) (nu : Nat → Int32) (tn : Nat → Nat) (sh : Nat → Nat → Int32) (hb8 : nb ≤ 8) (hs6 : ns < 6) (value t seed : Nat) (hv : value < 97) (ht : 1 ≤ t) (ht4 : t ≤ 4) (hs : seed < 97) : Ct l G SF0 yX11_open wsX11_open ({ frames := 2, cells := 0, slots := 0, locals := 52 }) [.ref h, .int (nI value), .int (nI t), .int (nI seed)] (stW G h ah as_ rr ra hm nb ns la lo nu tn sh) mkI (fun (r : Int32) (_ : Unit) => r = la + 1) (fun _ : Unit => (stW G h ah as_ rr ra hm nb (ns + 1) (la + 1) lo (va_up nu ns (la + 1)) (va_up tn ns t) (va_up sh ns (flf (dl value seed t) (fun _ => -1) nb)))) 0 0 := by
  refine Ct.ofI (cc := cX11_open) (maxL := 4) (by decide) rfl ⟨by simp [Value.category], Nat.le_of_ble_eq_true rfl⟩ ?_
  intro K hl hC hSF hnm hE
  subst hl
  have q0_ : ∀ w ∈ u_ws RX11 TX11 6, w ∈ wsX11_open := by decide +kernel
  have q1_ : Cond.fieldLink RX11 36 "FeatherShares$State" "secretsInUse" "I" ∈ wsX11_open := by decide +kernel
  have q2_ : Cond.fieldLink RX11 39 "FeatherShares$State" "lastNumber" "I" ∈ wsX11_open := by decide +kernel
  have q3_ : Cond.fieldLink RX11 17 "FeatherShares$State" "secrets" "[LFeatherShares$Secret;" ∈ wsX11_open := by decide +kernel
  have q4_ : Cond.fieldLink RX11 32 "FeatherShares$State" "birds" "I" ∈ wsX11_open := by decide +kernel
  show V G K 4 0 0 0 [some (.ref h), some (.int (nI value)), some (.int (nI t)), some (.int (nI seed))] [] (stW G h ah as_ rr ra hm nb ns la lo nu tn sh)
  refine V.aload_n hC (x := h) dX11_open_0 rfl ?_
  refine V.getf hC (T := TX11) q0_ 3 q1_ rfl (0) rfl rfl (by decide) (.int (nI ns)) rfl dX11_open_1 ?_
  refine V.bipush hC 6 dX11_open_4 rfl ?_
  refine V.icmpN_ge hC ns 6 64 dX11_open_6 rfl rfl rfl (by omega) (by omega) (fun c_6 => ?_) (fun c_6 => ?_)
  · exact absurd c_6 (by omega)
  · refine V.aload_n hC (x := h) dX11_open_9 rfl ?_
    refine V.dup hC dX11_open_10 rfl ?_
    refine V.getf hC (T := TX11) q0_ 4 q2_ rfl (0) rfl rfl (by decide) (.int la) rfl dX11_open_11 ?_
    refine V.iconst hC 1 dX11_open_14 rfl ?_
    refine V.iadd hC dX11_open_15 ?_
    refine V.putf hC (T := TX11) q0_ tyX11 tyX11_ok nmX11 4 q2_ rfl rfl (0) rfl rfl (by decide) (by simp) rfl rfl dX11_open_16 (stW G h ah as_ rr ra hm nb ns (la + 1) lo nu tn sh) rfl ?_
    refine V.aload_n hC (x := h) dX11_open_19 rfl ?_
    refine V.getf hC (T := TX11) q0_ 1 q3_ rfl (0) rfl rfl (by decide) (.ref as_) rfl dX11_open_20 ?_
    refine V.aload_n hC (x := h) dX11_open_23 rfl ?_
    refine V.getf hC (T := TX11) q0_ 3 q1_ rfl (0) rfl rfl (by decide) (.int (nI ns)) rfl dX11_open_24 ?_
    refine V.aaldS hC dX11_open_27 (2) rfl ns rfl (by omega) (by decide) (rr ns) rfl ?_
    refine V.aload_n hC (x := h) dX11_open_28 rfl ?_
    refine V.getf hC (T := TX11) q0_ 4 q2_ rfl (0) rfl rfl (by decide) (.int (la + 1)) rfl dX11_open_29 ?_
    refine V.iload_n hC (x := nI t) dX11_open_32 rfl ?_
    refine V.callV (n := 2) (As := [.int (la + 1), .int (nI t)]) (rest := []) hC (c_begin (kl K) G (rr ns) (ra ns) (sh ns) (nu ns) (nI (tn ns)) (la + 1) (nI t)) SFk0 SFgo0 gX11_open_X10_begin rfl ⟨rfl, rfl⟩ (by decide +kernel) ⟨by decide, by decide, by decide, by decide⟩ [3 + 2 * ns, 4 + 2 * ns] (by rcases (lt6 hs6) with rfl | rfl | rfl | rfl | rfl | rfl <;> rfl) (by rcases (lt6 hs6) with rfl | rfl | rfl | rfl | rfl | rfl <;> rfl) (fun _ => rfl) rfl rfl rfl rfl (Nat.le_of_ble_eq_true rfl) dX11_open_33 (fun r_33 u_33 hp_33 => ?_)
    refine V.eqw (ws' := (stW G h ah as_ rr ra hm nb ns (la + 1) lo (va_up nu ns (la + 1)) (va_up tn ns t) (va_up sh ns (fun _ => -1)))) (by rcases (lt6 hs6) with rfl | rfl | rfl | rfl | rfl | rfl <;> rfl) ?_
    show V G K 4 0 0 36 [some (.ref h), some (.int (nI value)), some (.int (nI t)), some (.int (nI seed))] [] (stW G h ah as_ rr ra hm nb ns (la + 1) lo (va_up nu ns (la + 1)) (va_up tn ns t) (va_up sh ns (fun _ => -1)))
    refine V.aload_n hC (x := h) dX11_open_36 rfl ?_
    refine V.getf hC (T := TX11) q0_ 1 q3_ rfl (0) rfl rfl (by decide) (.ref as_) rfl dX11_open_37 ?_
    refine V.aload_n hC (x := h) dX11_open_40 rfl ?_
    refine V.getf hC (T := TX11) q0_ 3 q1_ rfl (0) rfl rfl (by decide) (.int (nI ns)) rfl dX11_open_41 ?_
    refine V.aaldS hC dX11_open_44 (2) rfl ns rfl (by omega) (by decide) (rr ns) rfl ?_
    refine V.aload_n hC (x := h) dX11_open_45 rfl ?_
    refine V.getf hC (T := TX11) q0_ 2 q4_ rfl (0) rfl rfl (by decide) (.int (nI nb)) rfl dX11_open_46 ?_
    refine V.iload_n hC (x := nI value) dX11_open_49 rfl ?_
    refine V.iload_n hC (x := nI seed) dX11_open_50 rfl ?_
    refine V.callV (n := 3) (As := [.int (nI nb), .int (nI value), .int (nI seed)]) (rest := []) hC (c_dealTo (kl K) G (rr ns) (ra ns) (fun _ => -1) (la + 1) t ht ht4 nb value seed hb8 hv hs) SFk0 SFgo0 gX11_open_X10_dealTo rfl ⟨rfl, rfl⟩ (by decide +kernel) ⟨by decide, by decide, by decide, by decide⟩ [3 + 2 * ns, 4 + 2 * ns] (by rcases (lt6 hs6) with rfl | rfl | rfl | rfl | rfl | rfl <;> rfl) (by rcases (lt6 hs6) with rfl | rfl | rfl | rfl | rfl | rfl <;> rfl) (fun _ => rfl) rfl rfl rfl rfl (Nat.le_of_ble_eq_true rfl) dX11_open_51 (fun r_51 u_51 hp_51 => ?_)
    refine V.eqw (ws' := (stW G h ah as_ rr ra hm nb ns (la + 1) lo (va_up nu ns (la + 1)) (va_up tn ns t) (va_up sh ns (flf (dl value seed t) (fun _ => -1) nb)))) (by rcases (lt6 hs6) with rfl | rfl | rfl | rfl | rfl | rfl <;> rfl) ?_
    show V G K 4 0 0 54 [some (.ref h), some (.int (nI value)), some (.int (nI t)), some (.int (nI seed))] [] (stW G h ah as_ rr ra hm nb ns (la + 1) lo (va_up nu ns (la + 1)) (va_up tn ns t) (va_up sh ns (flf (dl value seed t) (fun _ => -1) nb)))
    refine V.aload_n hC (x := h) dX11_open_54 rfl ?_
    refine V.dup hC dX11_open_55 rfl ?_
    refine V.getf hC (T := TX11) q0_ 3 q1_ rfl (0) rfl rfl (by decide) (.int (nI ns)) rfl dX11_open_56 ?_
    refine V.iconst hC 1 dX11_open_59 rfl ?_
    refine V.iaddN hC ns 1 dX11_open_60 rfl rfl ?_
    refine V.putf hC (T := TX11) q0_ tyX11 tyX11_ok nmX11 3 q1_ rfl rfl (0) rfl rfl (by decide) (by simp) rfl rfl dX11_open_61 (stW G h ah as_ rr ra hm nb (ns + 1) (la + 1) lo (va_up nu ns (la + 1)) (va_up tn ns t) (va_up sh ns (flf (dl value seed t) (fun _ => -1) nb))) rfl ?_
    refine V.aload_n hC (x := h) dX11_open_64 rfl ?_
    refine V.getf hC (T := TX11) q0_ 4 q2_ rfl (0) rfl rfl (by decide) (.int (la + 1)) rfl dX11_open_65 ?_
    exact hE 68 _ (la + 1) () dX11_open_68 rfl rfl

set_option maxHeartbeats 4000000 in
set_option maxRecDepth 100000 in
theorem c_close (l : Launch) (G : Gx) (h ah as_ : Nat) (rr ra : Nat → Nat) (hm : Nat → Int32) (nb ns : Nat) (la : Int32) (lo : Int64) (nu : Nat → Int32) (tn : Nat → Nat) (sh : Nat → Nat → Int32) (hb8 : nb ≤ 8) (hs6 : ns ≤ 6) (c : Nat) (hc : c < ns) : Ct l G SF0 yX11_close wsX11_close ({ frames := 0, cells := 0, slots := 0, locals := 0 }) [.ref h, .ref (rr c)] (stW G h ah as_ rr ra hm nb ns la lo nu tn sh) mkV (fun (_ : Unit) (_ : Unit) => True) (fun _ : Unit => (stW G h ah as_ (fun k => rr (pm c ns k)) (fun k => ra (pm c ns k)) hm nb (ns - 1) la lo (fun k => nu (pm c ns k)) (fun k => tn (pm c ns k)) (fun k => sh (pm c ns k)))) 0 0 := by
  refine Ct.ofV (cc := cX11_close) (maxL := 4) (by decide) rfl ⟨by simp [Value.category], Nat.le_of_ble_eq_true rfl⟩ ?_
  intro K hl hC hSF hnm hE
  subst hl
  have q0_ : ∀ w ∈ u_ws RX11 TX11 6, w ∈ wsX11_close := by decide +kernel
  have q1_ : Cond.fieldLink RX11 36 "FeatherShares$State" "secretsInUse" "I" ∈ wsX11_close := by decide +kernel
  have q2_ : Cond.fieldLink RX11 17 "FeatherShares$State" "secrets" "[LFeatherShares$Secret;" ∈ wsX11_close := by decide +kernel
  show V G K 4 0 0 0 [some (.ref h), some (.ref (rr c)), none, none] [] (stW G h ah as_ rr ra hm nb ns la lo nu tn sh)
  refine V.iconst hC 0 dX11_close_0 rfl ?_
  refine V.istore_n hC dX11_close_1 [some (.ref h), some (.ref (rr c)), some (.int 0), none] (Nat.le_of_ble_eq_true rfl) rfl ?_
  refine V.eqw (ws' := (stWf G h ah as_ rr ra hm nb ns la lo nu tn sh (clf rr c 0))) (congrArg (stWf G h ah as_ rr ra hm nb ns la lo nu tn sh) (clf_0 rr c)) ?_
  refine V.iconst hC 0 dX11_close_2 rfl ?_
  refine V.istore_n hC dX11_close_3 [some (.ref h), some (.ref (rr c)), some (.int 0), some (.int 0)] (Nat.le_of_ble_eq_true rfl) rfl ?_
  have loop4 : ∀ (n : Nat) (p : Nat), 7 - p < n → (p ≤ ns) → V G K 4 0 0 4 [some (.ref h), some (.ref (rr c)), some (.int (nI (kpt c p))), some (.int (nI p))] [] (stWf G h ah as_ rr ra hm nb ns la lo nu tn sh (clf rr c p)) := by
    intro n
    induction n with
    | zero => intro p hlt; exact absurd hlt (Nat.not_lt_zero _)
    | succ n ih4 =>
      intro p hlt4 hp
      have hq := kpt_le c p
      refine V.iload_n hC (x := nI p) dX11_close_4 rfl ?_
      refine V.aload_n hC (x := h) dX11_close_5 rfl ?_
      refine V.getf hC (T := TX11) q0_ 3 q1_ rfl (0) rfl rfl (by decide) (.int (nI ns)) rfl dX11_close_6 ?_
      refine V.icmpN_ge hC p ns 49 dX11_close_9 rfl rfl rfl (by omega) (by omega) (fun c_9 => ?_) (fun c_9 => ?_)
      · refine V.lset 2 (x := .int (nI (kpt c p))) (y := .int (nI (ns - 1))) (congrArg Value.int (congrArg nI (by unfold kpt; split <;> omega))) rfl (lv' := [some (.ref h), some (.ref (rr c)), some (.int (nI (ns - 1))), some (.int (nI p))]) rfl ?_
        refine V.eqw (ws' := (stWf G h ah as_ rr ra hm nb ns la lo nu tn sh (clf rr c ns))) (by rw [show (clf rr c p) = (clf rr c ns) from (by rw [show p = ns by omega])]) ?_
        refine V.iload_n hC (x := nI (ns - 1)) dX11_close_49 rfl ?_
        refine V.aload_n hC (x := h) dX11_close_50 rfl ?_
        refine V.getf hC (T := TX11) q0_ 3 q1_ rfl (0) rfl rfl (by decide) (.int (nI ns)) rfl dX11_close_51 ?_
        refine V.icmpN_ge hC (ns - 1) ns 69 dX11_close_54 rfl rfl rfl (by omega) (by omega) (fun c_54 => ?_) (fun c_54 => ?_)
        · exact absurd c_54 (by omega)
        · refine V.aload_n hC (x := h) dX11_close_57 rfl ?_
          refine V.getf hC (T := TX11) q0_ 1 q2_ rfl (0) rfl rfl (by decide) (.ref as_) rfl dX11_close_58 ?_
          refine V.iload_n hC (x := nI (ns - 1)) dX11_close_61 rfl ?_
          refine V.aload_n hC (x := (rr c)) dX11_close_62 rfl ?_
          refine V.aastS (vs := [.ref (ra c), .int (nu c), .int (nI (tn c))]) hC dX11_close_63 (2) (3 + 2 * c) rfl (by rcases lt6 (by omega : c < 6) with rfl | rfl | rfl | rfl | rfl | rfl <;> rfl) (ns - 1) rfl (by omega) (by decide) (stWf G h ah as_ rr ra hm nb ns la lo nu tn sh (va_up (clf rr c ns) (ns - 1) (some (rr c)))) rfl ?_
          refine V.eqw (ws' := (stWf G h ah as_ rr ra hm nb ns la lo nu tn sh (fun k => some (rr (pm c ns k))))) (by rw [show va_up (clf rr c ns) (ns - 1) (some (rr c)) = (fun k => some (rr (pm c ns k))) from clf_end rr hc]) ?_
          refine V.aload_n hC (x := h) dX11_close_64 rfl ?_
          refine V.iload_n hC (x := nI (ns - 1)) dX11_close_65 rfl ?_
          refine V.putf hC (T := TX11) q0_ tyX11 tyX11_ok nmX11 3 q1_ rfl rfl (0) rfl rfl (by decide) (by simp) rfl rfl dX11_close_66 (stWf G h ah as_ rr ra hm nb (ns - 1) la lo nu tn sh (fun k => some (rr (pm c ns k)))) rfl ?_
          refine V.perm (ws' := (stW G h ah as_ (fun k => rr (pm c ns k)) (fun k => ra (pm c ns k)) hm nb (ns - 1) la lo (fun k => nu (pm c ns k)) (fun k => tn (pm c ns k)) (fun k => sh (pm c ns k)))) [0, 1, 2, 3 + 2 * pm c ns 0, 4 + 2 * pm c ns 0, 3 + 2 * pm c ns 1, 4 + 2 * pm c ns 1, 3 + 2 * pm c ns 2, 4 + 2 * pm c ns 2, 3 + 2 * pm c ns 3, 4 + 2 * pm c ns 3, 3 + 2 * pm c ns 4, 4 + 2 * pm c ns 4, 3 + 2 * pm c ns 5, 4 + 2 * pm c ns 5] (by rcases lt6 (by omega : c < 6) with rfl | rfl | rfl | rfl | rfl | rfl <;> rcases lt7 (by omega : ns < 7) with rfl | rfl | rfl | rfl | rfl | rfl | rfl <;> first | rfl | omega) (by rcases lt6 (by omega : c < 6) with rfl | rfl | rfl | rfl | rfl | rfl <;> rcases lt7 (by omega : ns < 7) with rfl | rfl | rfl | rfl | rfl | rfl | rfl <;> first | rfl | omega) ?_
          exact hE 69 _ () dX11_close_69 trivial
      · refine V.iload_n hC (x := nI p) dX11_close_12 rfl ?_
        refine V.bipush hC 6 dX11_close_13 rfl ?_
        refine V.icmpN_ge hC p 6 49 dX11_close_15 rfl rfl rfl (by omega) (by omega) (fun c_15 => ?_) (fun c_15 => ?_)
        · refine V.lset 2 (x := .int (nI (kpt c p))) (y := .int (nI (ns - 1))) (congrArg Value.int (congrArg nI (by unfold kpt; split <;> omega))) rfl (lv' := [some (.ref h), some (.ref (rr c)), some (.int (nI (ns - 1))), some (.int (nI p))]) rfl ?_
          refine V.eqw (ws' := (stWf G h ah as_ rr ra hm nb ns la lo nu tn sh (clf rr c ns))) (by rw [show (clf rr c p) = (clf rr c ns) from (by rw [show p = ns by omega])]) ?_
          refine V.iload_n hC (x := nI (ns - 1)) dX11_close_49 rfl ?_
          refine V.aload_n hC (x := h) dX11_close_50 rfl ?_
          refine V.getf hC (T := TX11) q0_ 3 q1_ rfl (0) rfl rfl (by decide) (.int (nI ns)) rfl dX11_close_51 ?_
          refine V.icmpN_ge hC (ns - 1) ns 69 dX11_close_54 rfl rfl rfl (by omega) (by omega) (fun c_54 => ?_) (fun c_54 => ?_)
          · exact absurd c_54 (by omega)
          · refine V.aload_n hC (x := h) dX11_close_57 rfl ?_
            refine V.getf hC (T := TX11) q0_ 1 q2_ rfl (0) rfl rfl (by decide) (.ref as_) rfl dX11_close_58 ?_
            refine V.iload_n hC (x := nI (ns - 1)) dX11_close_61 rfl ?_
            refine V.aload_n hC (x := (rr c)) dX11_close_62 rfl ?_
            refine V.aastS (vs := [.ref (ra c), .int (nu c), .int (nI (tn c))]) hC dX11_close_63 (2) (3 + 2 * c) rfl (by rcases lt6 (by omega : c < 6) with rfl | rfl | rfl | rfl | rfl | rfl <;> rfl) (ns - 1) rfl (by omega) (by decide) (stWf G h ah as_ rr ra hm nb ns la lo nu tn sh (va_up (clf rr c ns) (ns - 1) (some (rr c)))) rfl ?_
            refine V.eqw (ws' := (stWf G h ah as_ rr ra hm nb ns la lo nu tn sh (fun k => some (rr (pm c ns k))))) (by rw [show va_up (clf rr c ns) (ns - 1) (some (rr c)) = (fun k => some (rr (pm c ns k))) from clf_end rr hc]) ?_
            refine V.aload_n hC (x := h) dX11_close_64 rfl ?_
            refine V.iload_n hC (x := nI (ns - 1)) dX11_close_65 rfl ?_
            refine V.putf hC (T := TX11) q0_ tyX11 tyX11_ok nmX11 3 q1_ rfl rfl (0) rfl rfl (by decide) (by simp) rfl rfl dX11_close_66 (stWf G h ah as_ rr ra hm nb (ns - 1) la lo nu tn sh (fun k => some (rr (pm c ns k)))) rfl ?_
            refine V.perm (ws' := (stW G h ah as_ (fun k => rr (pm c ns k)) (fun k => ra (pm c ns k)) hm nb (ns - 1) la lo (fun k => nu (pm c ns k)) (fun k => tn (pm c ns k)) (fun k => sh (pm c ns k)))) [0, 1, 2, 3 + 2 * pm c ns 0, 4 + 2 * pm c ns 0, 3 + 2 * pm c ns 1, 4 + 2 * pm c ns 1, 3 + 2 * pm c ns 2, 4 + 2 * pm c ns 2, 3 + 2 * pm c ns 3, 4 + 2 * pm c ns 3, 3 + 2 * pm c ns 4, 4 + 2 * pm c ns 4, 3 + 2 * pm c ns 5, 4 + 2 * pm c ns 5] (by rcases lt6 (by omega : c < 6) with rfl | rfl | rfl | rfl | rfl | rfl <;> rcases lt7 (by omega : ns < 7) with rfl | rfl | rfl | rfl | rfl | rfl | rfl <;> first | rfl | omega) (by rcases lt6 (by omega : c < 6) with rfl | rfl | rfl | rfl | rfl | rfl <;> rcases lt7 (by omega : ns < 7) with rfl | rfl | rfl | rfl | rfl | rfl | rfl <;> first | rfl | omega) ?_
            exact hE 69 _ () dX11_close_69 trivial
        · refine V.aload_n hC (x := h) dX11_close_18 rfl ?_
          refine V.getf hC (T := TX11) q0_ 1 q2_ rfl (0) rfl rfl (by decide) (.ref as_) rfl dX11_close_19 ?_
          refine V.iload_n hC (x := nI p) dX11_close_22 rfl ?_
          refine V.aaldS hC dX11_close_23 (2) rfl p rfl (by omega) (by decide) (rr p) (clf_at rr c p) ?_
          refine V.aload_n hC (x := (rr c)) dX11_close_24 rfl ?_
          by_cases hpc : p = c
          · refine V.acmp_eq hC 43 dX11_close_25 rfl (fun c_25 => ?_) (fun c_25 => ?_)
            · refine V.eqw (ws' := (stWf G h ah as_ rr ra hm nb ns la lo nu tn sh (clf rr c (p + 1)))) (by rw [show (clf rr c p) = (clf rr c (p + 1)) from clf_same rr hpc]) ?_
              refine V.lset 2 (x := .int (nI (kpt c p))) (y := .int (nI (kpt c (p + 1)))) (congrArg Value.int (congrArg nI (kpt_y hpc))) rfl (lv' := [some (.ref h), some (.ref (rr c)), some (.int (nI (kpt c (p + 1)))), some (.int (nI p))]) rfl ?_
              refine V.iincN hC p 1 dX11_close_43 rfl [some (.ref h), some (.ref (rr c)), some (.int (nI (kpt c (p + 1)))), some (.int (nI (p + 1)))] (Nat.le_of_ble_eq_true rfl) rfl rfl rfl ?_
              refine V.goto hC 4 dX11_close_46 rfl ?_
              exact ih4 (p + 1) (by omega) (by omega)
            · exact absurd (congrArg rr hpc) c_25
          · refine V.apart (3 + 2 * p) (3 + 2 * c) (p := (rr p, .inr (10, [.ref (ra p), .int (nu p), .int (nI (tn p))]))) (q := (rr c, .inr (10, [.ref (ra c), .int (nu c), .int (nI (tn c))]))) (by rcases lt6 (by omega : p < 6) with rfl | rfl | rfl | rfl | rfl | rfl <;> rfl) (by rcases lt6 (by omega : c < 6) with rfl | rfl | rfl | rfl | rfl | rfl <;> rfl) (by omega) (fun hne => ?_)
            refine V.acmp_eq hC 43 dX11_close_25 rfl (fun c_25 => ?_) (fun c_25 => ?_)
            · exact absurd c_25 hne
            · refine V.aload_n hC (x := h) dX11_close_28 rfl ?_
              refine V.getf hC (T := TX11) q0_ 1 q2_ rfl (0) rfl rfl (by decide) (.ref as_) rfl dX11_close_29 ?_
              refine V.iload_n hC (x := nI (kpt c p)) dX11_close_32 rfl ?_
              refine V.aload_n hC (x := h) dX11_close_33 rfl ?_
              refine V.getf hC (T := TX11) q0_ 1 q2_ rfl (0) rfl rfl (by decide) (.ref as_) rfl dX11_close_34 ?_
              refine V.iload_n hC (x := nI p) dX11_close_37 rfl ?_
              refine V.aaldS hC dX11_close_38 (2) rfl p rfl (by omega) (by decide) (rr p) (clf_at rr c p) ?_
              refine V.aastS (vs := [.ref (ra p), .int (nu p), .int (nI (tn p))]) hC dX11_close_39 (2) (3 + 2 * p) rfl (by rcases lt6 (by omega : p < 6) with rfl | rfl | rfl | rfl | rfl | rfl <;> rfl) (kpt c p) rfl (by omega) (by decide) (stWf G h ah as_ rr ra hm nb ns la lo nu tn sh (va_up (clf rr c p) (kpt c p) (some (rr p)))) rfl ?_
              refine V.eqw (ws' := (stWf G h ah as_ rr ra hm nb ns la lo nu tn sh (clf rr c (p + 1)))) (by rw [show va_up (clf rr c p) (kpt c p) (some (rr p)) = (clf rr c (p + 1)) from clf_step rr hpc]) ?_
              refine V.iincN hC (kpt c p) 1 dX11_close_40 rfl [some (.ref h), some (.ref (rr c)), some (.int (nI (kpt c p + 1))), some (.int (nI p))] (Nat.le_of_ble_eq_true rfl) rfl rfl rfl ?_
              refine V.lset 2 (x := .int (nI (kpt c p + 1))) (y := .int (nI (kpt c (p + 1)))) (congrArg Value.int (congrArg nI (kpt_n hpc))) rfl (lv' := [some (.ref h), some (.ref (rr c)), some (.int (nI (kpt c (p + 1)))), some (.int (nI p))]) rfl ?_
              refine V.iincN hC p 1 dX11_close_43 rfl [some (.ref h), some (.ref (rr c)), some (.int (nI (kpt c (p + 1)))), some (.int (nI (p + 1)))] (Nat.le_of_ble_eq_true rfl) rfl rfl rfl ?_
              refine V.goto hC 4 dX11_close_46 rfl ?_
              exact ih4 (p + 1) (by omega) (by omega)
  exact loop4 _ 0 (Nat.lt_succ_self _) (by omega)
