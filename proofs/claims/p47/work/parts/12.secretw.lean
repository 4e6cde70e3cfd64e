/-! Secret: what changes it (printed by gen/s12.py) -/
/-- g below b, f from b on -/
def flf (g f : Nat → Int32) (b : Nat) : Nat → Int32 := fun j => if j < b then g j else f j
theorem flf_0 (g f : Nat → Int32) : flf g f 0 = f := by funext j; simp [flf]
theorem flf_succ (g f : Nat → Int32) (b : Nat) : upd (flf g f b) b (g b) = flf g f (b + 1) := by
  funext j
  by_cases h : j = b
  · subst h
    rw [pk_us]
    simp [flf]
  · rw [pk_un h]
    by_cases h2 : j < b
    · simp [flf, h2, Nat.lt_succ_of_lt h2]
    · simp [flf, h2, show ¬ j < b + 1 by omega]
theorem flf_keep {g f : Nat → Int32} {b : Nat} (h : g b = f b) : flf g f b = flf g f (b + 1) := by
  funext j
  by_cases h1 : j = b
  · subst h1
    simp [flf, h]
  · by_cases h2 : j < b
    · simp [flf, h2, Nat.lt_succ_of_lt h2]
    · simp [flf, h2, show ¬ j < b + 1 by omega]
theorem flf_at (g f : Nat → Int32) (b : Nat) : flf g f b b = f b := by simp [flf]
theorem flf_in {g f : Nat → Int32} {b k : Nat} (h : k < b) : flf g f b k = g k := by simp [flf, h]
/-- shares dealt: by the place of the bird -/
def dl (value seed th : Nat) : Nat → Int32 := fun b => nI (spr value seed (7 * value + 13) (b + 1) (th - 1)).1
/-- what a refreshing adds -/
def rfa (seed th : Nat) : Nat → Nat := fun b => (spr 0 seed 5 (b + 1) (th - 1)).1
def rfs (sh : Nat → Int32) (ad : Nat → Nat) : Nat → Int32 := fun b => if sh b = -1 ∨ ad b = 0 then sh b else (sh b + nI (ad b)) - (sh b + nI (ad b)) / 97 * 97
def rct (sh : Nat → Int32) (ad : Nat → Nat) : Nat → Nat
  | 0 => 0
  | b + 1 => if sh b = -1 ∨ ad b = 0 then rct sh ad b else rct sh ad b + 1
theorem rct_le (sh : Nat → Int32) (ad : Nat → Nat) : ∀ b, rct sh ad b ≤ b
  | 0 => Nat.le_refl 0
  | b + 1 => by
    have := rct_le sh ad b
    rw [rct]
    split <;> omega
theorem rct_y {sh : Nat → Int32} {ad : Nat → Nat} {b : Nat} (h : sh b = -1 ∨ ad b = 0) : rct sh ad b = rct sh ad (b + 1) := by rw [rct, if_pos h]
theorem rct_n {sh : Nat → Int32} {ad : Nat → Nat} {b : Nat} (h : ¬ (sh b = -1 ∨ ad b = 0)) : rct sh ad b + 1 = rct sh ad (b + 1) := by rw [rct, if_neg h]
theorem rfs_y {sh : Nat → Int32} {ad : Nat → Nat} {b : Nat} (h : sh b = -1 ∨ ad b = 0) : rfs sh ad b = sh b := if_pos h
theorem rfs_n {sh : Nat → Int32} {ad : Nat → Nat} {b : Nat} (h : ¬ (sh b = -1 ∨ ad b = 0)) : (sh b + nI (ad b)) - (sh b + nI (ad b)) / 97 * 97 = rfs sh ad b := (if_neg h).symm

set_option maxHeartbeats 4000000 in
set_option maxRecDepth 100000 in
theorem c_begin (l : Launch) (G : Gx) (h a : Nat) (sh : Nat → Int32) (nu th : Int32) (x y : Int32) : Ct l G SF0 yX10_begin wsX10_begin ({ frames := 0, cells := 0, slots := 0, locals := 0 }) [.ref h, .int x, .int y] [(h, .inr (10, [.ref a, .int nu, .int th])), (a, .inl (gI G, 8, .inl sh))] mkV (fun (_ : Unit) (_ : Unit) => True) (fun _ : Unit => [(h, .inr (10, [.ref a, .int x, .int y])), (a, .inl (gI G, 8, .inl (fun _ => -1)))]) 0 0 := by
  refine Ct.ofV (cc := cX10_begin) (maxL := 4) (by decide) rfl ⟨by simp [Value.category], Nat.le_of_ble_eq_true rfl⟩ ?_
  intro K hl hC hSF hnm hE
  subst hl
  have q0_ : ∀ w ∈ u_ws RX10 TX10 3, w ∈ wsX10_begin := by decide +kernel
  have q1_ : Cond.fieldLink RX10 15 "FeatherShares$Secret" "number" "I" ∈ wsX10_begin := by decide +kernel
  have q2_ : Cond.fieldLink RX10 19 "FeatherShares$Secret" "threshold" "I" ∈ wsX10_begin := by decide +kernel
  have q3_ : Cond.fieldLink RX10 9 "FeatherShares$Secret" "shares" "[I" ∈ wsX10_begin := by decide +kernel
  show V G K 4 0 0 0 [some (.ref h), some (.int x), some (.int y), none] [] [(h, .inr (10, [.ref a, .int nu, .int th])), (a, .inl (gI G, 8, .inl sh))]
  refine V.aload_n hC (x := h) dX10_begin_0 rfl ?_
  refine V.iload_n hC (x := x) dX10_begin_1 rfl ?_
  refine V.putf hC (T := TX10) q0_ tyX10 tyX10_ok nmX10 1 q1_ rfl rfl (0) rfl rfl (by decide) (by simp) rfl rfl dX10_begin_2 [(h, .inr (10, [.ref a, .int x, .int th])), (a, .inl (gI G, 8, .inl sh))] rfl ?_
  refine V.aload_n hC (x := h) dX10_begin_5 rfl ?_
  refine V.iload_n hC (x := y) dX10_begin_6 rfl ?_
  refine V.putf hC (T := TX10) q0_ tyX10 tyX10_ok nmX10 2 q2_ rfl rfl (0) rfl rfl (by decide) (by simp) rfl rfl dX10_begin_7 [(h, .inr (10, [.ref a, .int x, .int y])), (a, .inl (gI G, 8, .inl sh))] rfl ?_
  refine V.ext (1) (g := flf (fun _ => -1) sh 0) rfl (fun z _ => congrFun (show sh = flf (fun _ => -1) sh 0 from (flf_0 _ _).symm) z) (ws' := [(h, .inr (10, [.ref a, .int x, .int y])), (a, .inl (gI G, 8, .inl (flf (fun _ => -1) sh 0)))]) rfl ?_
  refine V.iconst hC 0 dX10_begin_10 rfl ?_
  refine V.istore_n hC dX10_begin_11 [some (.ref h), some (.int x), some (.int y), some (.int 0)] (Nat.le_of_ble_eq_true rfl) rfl ?_
  have loop12 : ∀ (n : Nat) (b : Nat), 9 - b < n → (b ≤ 8) → V G K 4 0 0 12 [some (.ref h), some (.int x), some (.int y), some (.int (nI b))] [] [(h, .inr (10, [.ref a, .int x, .int y])), (a, .inl (gI G, 8, .inl (flf (fun _ => -1) sh b)))] := by
    intro n
    induction n with
    | zero => intro b hlt; exact absurd hlt (Nat.not_lt_zero _)
    | succ n ih12 =>
      intro b hlt12 hb
      refine V.iload_n hC (x := nI b) dX10_begin_12 rfl ?_
      refine V.bipush hC 8 dX10_begin_13 rfl ?_
      refine V.icmpN_ge hC b 8 31 dX10_begin_15 rfl rfl rfl (by omega) (by omega) (fun c_15 => ?_) (fun c_15 => ?_)
      · refine V.ext (1) (g := (fun _ => -1)) rfl (fun k hk => flf_in (by omega)) (ws' := [(h, .inr (10, [.ref a, .int x, .int y])), (a, .inl (gI G, 8, .inl (fun _ => -1)))]) rfl ?_
        exact hE 31 _ () dX10_begin_31 trivial
      · refine V.aload_n hC (x := h) dX10_begin_18 rfl ?_
        refine V.getf hC (T := TX10) q0_ 0 q3_ rfl (0) rfl rfl (by decide) (.ref a) rfl dX10_begin_19 ?_
        refine V.iload_n hC (x := nI b) dX10_begin_22 rfl ?_
        refine V.iconst hC (-1) dX10_begin_23 rfl ?_
        refine V.iast hC dX10_begin_24 (1) rfl b rfl (by omega) (by decide) [(h, .inr (10, [.ref a, .int x, .int y])), (a, .inl (gI G, 8, .inl (upd (flf (fun _ => -1) sh b) b (-1))))] rfl ?_
        refine V.iincN hC b 1 dX10_begin_25 rfl [some (.ref h), some (.int x), some (.int y), some (.int (nI (b + 1)))] (Nat.le_of_ble_eq_true rfl) rfl rfl rfl ?_
        refine V.ext (1) (g := flf (fun _ => -1) sh (b + 1)) rfl (fun z _ => congrFun (show upd (flf (fun _ => -1) sh b) b (-1) = flf (fun _ => -1) sh (b + 1) from flf_succ _ _ _) z) (ws' := [(h, .inr (10, [.ref a, .int x, .int y])), (a, .inl (gI G, 8, .inl (flf (fun _ => -1) sh (b + 1))))]) rfl ?_
        refine V.goto hC 12 dX10_begin_28 rfl ?_
        exact ih12 (b + 1) (by omega) (by omega)
  exact loop12 _ 0 (Nat.lt_succ_self _) (by omega)

set_option maxHeartbeats 4000000 in
set_option maxRecDepth 100000 in
theorem c_copyFromS (l : Launch) (G : Gx) (h a h2 a2 : Nat) (sh sh2 : Nat → Int32) (nu th nu2 th2 : Int32) : Ct l G SF0 yX10_copyFrom wsX10_copyFrom ({ frames := 1, cells := 0, slots := 0, locals := 18 }) [.ref h, .ref h2] [(h, .inr (10, [.ref a, .int nu, .int th])), (a, .inl (gI G, 8, .inl sh)), (h2, .inr (10, [.ref a2, .int nu2, .int th2])), (a2, .inl (gI G, 8, .inl sh2))] mkV (fun (_ : Unit) (_ : Unit) => True) (fun _ : Unit => [(h, .inr (10, [.ref a, .int nu2, .int th2])), (a, .inl (gI G, 8, .inl sh2)), (h2, .inr (10, [.ref a2, .int nu2, .int th2])), (a2, .inl (gI G, 8, .inl sh2))]) 0 0 := by
  refine Ct.ofV (cc := cX10_copyFrom) (maxL := 2) (by decide) rfl ⟨by simp [Value.category], Nat.le_of_ble_eq_true rfl⟩ ?_
  intro K hl hC hSF hnm hE
  subst hl
  have q0_ : ∀ w ∈ u_ws RX10 TX10 3, w ∈ wsX10_copyFrom := by decide +kernel
  have q1_ : Cond.fieldLink RX10 15 "FeatherShares$Secret" "number" "I" ∈ wsX10_copyFrom := by decide +kernel
  have q2_ : Cond.fieldLink RX10 19 "FeatherShares$Secret" "threshold" "I" ∈ wsX10_copyFrom := by decide +kernel
  have q3_ : Cond.fieldLink RX10 9 "FeatherShares$Secret" "shares" "[I" ∈ wsX10_copyFrom := by decide +kernel
  have q4_ : Cond.methodLink RX10 22 arraycopyName ∈ wsX10_copyFrom := by decide +kernel
  have q5_ : Cond.native arraycopyName ∈ wsX10_copyFrom := by decide +kernel
  have q6_ : Cond.static arraycopyName ∈ wsX10_copyFrom := by decide +kernel
  have q7_ : Cond.initialized "java/lang/System" ∈ wsX10_copyFrom := by decide +kernel
  show V G K 2 0 0 0 [some (.ref h), some (.ref h2)] [] [(h, .inr (10, [.ref a, .int nu, .int th])), (a, .inl (gI G, 8, .inl sh)), (h2, .inr (10, [.ref a2, .int nu2, .int th2])), (a2, .inl (gI G, 8, .inl sh2))]
  refine V.aload_n hC (x := h) dX10_copyFrom_0 rfl ?_
  refine V.aload_n hC (x := h2) dX10_copyFrom_1 rfl ?_
  refine V.getf hC (T := TX10) q0_ 1 q1_ rfl (2) rfl rfl (by decide) (.int nu2) rfl dX10_copyFrom_2 ?_
  refine V.putf hC (T := TX10) q0_ tyX10 tyX10_ok nmX10 1 q1_ rfl rfl (0) rfl rfl (by decide) (by simp) rfl rfl dX10_copyFrom_5 [(h, .inr (10, [.ref a, .int nu2, .int th])), (a, .inl (gI G, 8, .inl sh)), (h2, .inr (10, [.ref a2, .int nu2, .int th2])), (a2, .inl (gI G, 8, .inl sh2))] rfl ?_
  refine V.aload_n hC (x := h) dX10_copyFrom_8 rfl ?_
  refine V.aload_n hC (x := h2) dX10_copyFrom_9 rfl ?_
  refine V.getf hC (T := TX10) q0_ 2 q2_ rfl (2) rfl rfl (by decide) (.int th2) rfl dX10_copyFrom_10 ?_
  refine V.putf hC (T := TX10) q0_ tyX10 tyX10_ok nmX10 2 q2_ rfl rfl (0) rfl rfl (by decide) (by simp) rfl rfl dX10_copyFrom_13 [(h, .inr (10, [.ref a, .int nu2, .int th2])), (a, .inl (gI G, 8, .inl sh)), (h2, .inr (10, [.ref a2, .int nu2, .int th2])), (a2, .inl (gI G, 8, .inl sh2))] rfl ?_
  refine V.aload_n hC (x := h2) dX10_copyFrom_16 rfl ?_
  refine V.getf hC (T := TX10) q0_ 0 q3_ rfl (2) rfl rfl (by decide) (.ref a2) rfl dX10_copyFrom_17 ?_
  refine V.iconst hC 0 dX10_copyFrom_20 rfl ?_
  refine V.aload_n hC (x := h) dX10_copyFrom_21 rfl ?_
  refine V.getf hC (T := TX10) q0_ 0 q3_ rfl (0) rfl rfl (by decide) (.ref a) rfl dX10_copyFrom_22 ?_
  refine V.iconst hC 0 dX10_copyFrom_25 rfl ?_
  refine V.bipush hC 8 dX10_copyFrom_26 rfl ?_
  refine V.copyAll hC q4_ q5_ q6_ q7_ (3) (1) rfl rfl (N := 8) rfl (by decide) ⟨by decide, by decide⟩ dX10_copyFrom_28 [(h, .inr (10, [.ref a, .int nu2, .int th2])), (a, .inl (gI G, 8, .inl sh2)), (h2, .inr (10, [.ref a2, .int nu2, .int th2])), (a2, .inl (gI G, 8, .inl sh2))] rfl ?_
  exact hE 31 _ () dX10_copyFrom_31 trivial

set_option maxHeartbeats 4000000 in
set_option maxRecDepth 100000 in
theorem c_dealTo (l : Launch) (G : Gx) (h a : Nat) (sh : Nat → Int32) (nu : Int32) (t : Nat) (ht : 1 ≤ t) (ht4 : t ≤ 4) (nb value seed : Nat) (hn : nb ≤ 8) (hv : value < 97) (hs : seed < 97) : Ct l G SF0 yX10_dealTo wsX10_dealTo ({ frames := 1, cells := 0, slots := 0, locals := 27 }) [.ref h, .int (nI nb), .int (nI value), .int (nI seed)] [(h, .inr (10, [.ref a, .int nu, .int (nI t)])), (a, .inl (gI G, 8, .inl sh))] mkV (fun (_ : Unit) (_ : Unit) => True) (fun _ : Unit => [(h, .inr (10, [.ref a, .int nu, .int (nI t)])), (a, .inl (gI G, 8, .inl (flf (dl value seed t) sh nb)))]) 0 0 := by
  refine Ct.ofV (cc := cX10_dealTo) (maxL := 6) (by decide) rfl ⟨by simp [Value.category], Nat.le_of_ble_eq_true rfl⟩ ?_
  intro K hl hC hSF hnm hE
  subst hl
  have q0_ : ∀ w ∈ u_ws RX10 TX10 3, w ∈ wsX10_dealTo := by decide +kernel
  have q1_ : Cond.fieldLink RX10 19 "FeatherShares$Secret" "threshold" "I" ∈ wsX10_dealTo := by decide +kernel
  show V G K 6 0 0 0 [some (.ref h), some (.int (nI nb)), some (.int (nI value)), some (.int (nI seed)), none, none] [] [(h, .inr (10, [.ref a, .int nu, .int (nI t)])), (a, .inl (gI G, 8, .inl sh))]
  refine V.bipush hC 7 dX10_dealTo_0 rfl ?_
  refine V.iload_n hC (x := nI value) dX10_dealTo_2 rfl ?_
  refine V.imulN hC 7 value dX10_dealTo_3 rfl rfl ?_
  refine V.bipush hC 13 dX10_dealTo_4 rfl ?_
  refine V.iaddN hC (7 * value) 13 dX10_dealTo_6 rfl rfl ?_
  refine V.istore hC dX10_dealTo_7 [some (.ref h), some (.int (nI nb)), some (.int (nI value)), some (.int (nI seed)), some (.int (nI ((7 * value) + 13))), none] (Nat.le_of_ble_eq_true rfl) rfl ?_
  refine V.ext (1) (g := flf (dl value seed t) sh 0) rfl (fun z _ => congrFun (show sh = flf (dl value seed t) sh 0 from (flf_0 _ _).symm) z) (ws' := [(h, .inr (10, [.ref a, .int nu, .int (nI t)])), (a, .inl (gI G, 8, .inl (flf (dl value seed t) sh 0)))]) rfl ?_
  refine V.iconst hC 0 dX10_dealTo_9 rfl ?_
  refine V.istore hC dX10_dealTo_10 [some (.ref h), some (.int (nI nb)), some (.int (nI value)), some (.int (nI seed)), some (.int (nI ((7 * value) + 13))), some (.int 0)] (Nat.le_of_ble_eq_true rfl) rfl ?_
  have loop12 : ∀ (n : Nat) (b : Nat), 9 - b < n → (b ≤ nb) → V G K 6 0 0 12 [some (.ref h), some (.int (nI nb)), some (.int (nI value)), some (.int (nI seed)), some (.int (nI (7 * value + 13))), some (.int (nI b))] [] [(h, .inr (10, [.ref a, .int nu, .int (nI t)])), (a, .inl (gI G, 8, .inl (flf (dl value seed t) sh b)))] := by
    intro n
    induction n with
    | zero => intro b hlt; exact absurd hlt (Nat.not_lt_zero _)
    | succ n ih12 =>
      intro b hlt12 hb
      refine V.iload hC (x := nI b) dX10_dealTo_12 rfl ?_
      refine V.iload_n hC (x := nI nb) dX10_dealTo_14 rfl ?_
      refine V.icmpN_ge hC b nb 45 dX10_dealTo_15 rfl rfl rfl (by omega) (by omega) (fun c_15 => ?_) (fun c_15 => ?_)
      · refine V.ext (1) (g := flf (dl value seed t) sh nb) rfl (fun z _ => congrFun (show flf (dl value seed t) sh b = flf (dl value seed t) sh nb from (by rw [show b = nb by omega])) z) (ws' := [(h, .inr (10, [.ref a, .int nu, .int (nI t)])), (a, .inl (gI G, 8, .inl (flf (dl value seed t) sh nb)))]) rfl ?_
        exact hE 45 _ () dX10_dealTo_45 trivial
      · refine V.aload_n hC (x := h) dX10_dealTo_18 rfl ?_
        refine V.iload hC (x := nI b) dX10_dealTo_19 rfl ?_
        refine V.iload_n hC (x := nI value) dX10_dealTo_21 rfl ?_
        refine V.iload_n hC (x := nI seed) dX10_dealTo_22 rfl ?_
        refine V.iload hC (x := nI (7 * value + 13)) dX10_dealTo_23 rfl ?_
        refine V.aload_n hC (x := h) dX10_dealTo_25 rfl ?_
        refine V.getf hC (T := TX10) q0_ 2 q1_ rfl (0) rfl rfl (by decide) (.int (nI t)) rfl dX10_dealTo_26 ?_
        refine V.iload hC (x := nI b) dX10_dealTo_29 rfl ?_
        refine V.iconst hC 1 dX10_dealTo_31 rfl ?_
        refine V.iaddN hC b 1 dX10_dealTo_32 rfl rfl ?_
        refine V.callSr (n := 5) (As := [.int (nI value), .int (nI seed), .int (nI (7 * value + 13)), .int (nI t), .int (nI (b + 1))]) (rest := [.int (nI b), .ref h]) hC (c_seededValue (kl K) G value seed (7 * value + 13) t (b + 1) (by omega) hs (by omega) ht ht4 (by omega)) SFk0 SFgo0 gX10_dealTo_X9_seededValue rfl ⟨rfl, rfl⟩ (by decide +kernel) ⟨by decide, by decide, by decide, by decide⟩ [] rfl (by decide) rfl rfl (Nat.le_of_ble_eq_true rfl) dX10_dealTo_33 (fun r_33 u_33 hp_33 => ?_)
        subst hp_33
        show V G K 6 0 0 36 [some (.ref h), some (.int (nI nb)), some (.int (nI value)), some (.int (nI seed)), some (.int (nI (7 * value + 13))), some (.int (nI b))] [.int (nI ((spr value seed (7 * value + 13) (b + 1) (t - 1)).1)), .int (nI b), .ref h] [(h, .inr (10, [.ref a, .int nu, .int (nI t)])), (a, .inl (gI G, 8, .inl (flf (dl value seed t) sh b)))]
        refine V.callV (n := 2) (As := [.int (nI b), .int (nI ((spr value seed (7 * value + 13) (b + 1) (t - 1)).1))]) (rest := []) hC (c_give (kl K) G h a (flf (dl value seed t) sh b) nu (nI t) b (by omega) (nI ((spr value seed (7 * value + 13) (b + 1) (t - 1)).1))) SFk0 SFgo0 gX10_dealTo_X10_give rfl ⟨rfl, rfl⟩ (by decide +kernel) ⟨by decide, by decide, by decide, by decide⟩ [0, 1] rfl (by decide) (fun _ => rfl) rfl rfl rfl rfl (Nat.le_of_ble_eq_true rfl) dX10_dealTo_36 (fun r_36 u_36 hp_36 => ?_)
        show V G K 6 0 0 39 [some (.ref h), some (.int (nI nb)), some (.int (nI value)), some (.int (nI seed)), some (.int (nI (7 * value + 13))), some (.int (nI b))] [] [(h, .inr (10, [.ref a, .int nu, .int (nI t)])), (a, .inl (gI G, 8, .inl (upd (flf (dl value seed t) sh b) b (nI ((spr value seed (7 * value + 13) (b + 1) (t - 1)).1)))))]
        refine V.iincN hC b 1 dX10_dealTo_39 rfl [some (.ref h), some (.int (nI nb)), some (.int (nI value)), some (.int (nI seed)), some (.int (nI (7 * value + 13))), some (.int (nI (b + 1)))] (Nat.le_of_ble_eq_true rfl) rfl rfl rfl ?_
        refine V.ext (1) (g := flf (dl value seed t) sh (b + 1)) rfl (fun z _ => congrFun (show upd (flf (dl value seed t) sh b) b (nI ((spr value seed (7 * value + 13) (b + 1) (t - 1)).1)) = flf (dl value seed t) sh (b + 1) from flf_succ _ _ _) z) (ws' := [(h, .inr (10, [.ref a, .int nu, .int (nI t)])), (a, .inl (gI G, 8, .inl (flf (dl value seed t) sh (b + 1))))]) rfl ?_
        refine V.goto hC 12 dX10_dealTo_42 rfl ?_
        exact ih12 (b + 1) (by omega) (by omega)
  exact loop12 _ 0 (Nat.lt_succ_self _) (by omega)

set_option maxHeartbeats 4000000 in
set_option maxRecDepth 100000 in
theorem c_addRefreshing (l : Launch) (G : Gx) (h a : Nat) (sh : Nat → Int32) (nu : Int32) (t : Nat) (ht : 1 ≤ t) (ht4 : t ≤ 4) (seed : Nat) (hs : seed < 97) : Ct l G SF0 yX10_addRefreshing wsX10_addRefreshing ({ frames := 1, cells := 0, slots := 0, locals := 27 }) [.ref h, .int (nI seed)] [(h, .inr (10, [.ref a, .int nu, .int (nI t)])), (a, .inl (gI G, 8, .inl sh))] mkI (fun (r : Int32) (_ : Unit) => r = nI (rct sh (rfa seed t) 8)) (fun _ : Unit => [(h, .inr (10, [.ref a, .int nu, .int (nI t)])), (a, .inl (gI G, 8, .inl (rfs sh (rfa seed t))))]) 0 0 := by
  refine Ct.ofI (cc := cX10_addRefreshing) (maxL := 5) (by decide) rfl ⟨by simp [Value.category], Nat.le_of_ble_eq_true rfl⟩ ?_
  intro K hl hC hSF hnm hE
  subst hl
  have q0_ : ∀ w ∈ u_ws RX10 TX10 3, w ∈ wsX10_addRefreshing := by decide +kernel
  have q1_ : Cond.fieldLink RX10 19 "FeatherShares$Secret" "threshold" "I" ∈ wsX10_addRefreshing := by decide +kernel
  have q2_ : Cond.fieldLink RX10 9 "FeatherShares$Secret" "shares" "[I" ∈ wsX10_addRefreshing := by decide +kernel
  show V G K 5 0 0 0 [some (.ref h), some (.int (nI seed)), none, none, none] [] [(h, .inr (10, [.ref a, .int nu, .int (nI t)])), (a, .inl (gI G, 8, .inl sh))]
  refine V.ext (1) (g := flf (rfs sh (rfa seed t)) sh 0) rfl (fun z _ => congrFun (show sh = flf (rfs sh (rfa seed t)) sh 0 from (flf_0 _ _).symm) z) (ws' := [(h, .inr (10, [.ref a, .int nu, .int (nI t)])), (a, .inl (gI G, 8, .inl (flf (rfs sh (rfa seed t)) sh 0)))]) rfl ?_
  refine V.iconst hC 0 dX10_addRefreshing_0 rfl ?_
  refine V.istore_n hC dX10_addRefreshing_1 [some (.ref h), some (.int (nI seed)), some (.int 0), none, none] (Nat.le_of_ble_eq_true rfl) rfl ?_
  refine V.iconst hC 0 dX10_addRefreshing_2 rfl ?_
  refine V.istore_n hC dX10_addRefreshing_3 [some (.ref h), some (.int (nI seed)), some (.int 0), some (.int 0), none] (Nat.le_of_ble_eq_true rfl) rfl ?_
  have loop4 : ∀ (n : Nat) (b : Nat), 9 - b < n → (b ≤ 8) → V G K 5 0 0 4 [some (.ref h), some (.int (nI seed)), some (.int (nI (rct sh (rfa seed t) b))), some (.int (nI b)), none] [] [(h, .inr (10, [.ref a, .int nu, .int (nI t)])), (a, .inl (gI G, 8, .inl (flf (rfs sh (rfa seed t)) sh b)))] := by
    intro n
    induction n with
    | zero => intro b hlt; exact absurd hlt (Nat.not_lt_zero _)
    | succ n ih4 =>
      intro b hlt4 hb
      refine V.iload_n hC (x := nI b) dX10_addRefreshing_4 rfl ?_
      refine V.bipush hC 8 dX10_addRefreshing_5 rfl ?_
      refine V.icmpN_ge hC b 8 67 dX10_addRefreshing_7 rfl rfl rfl (by omega) (by omega) (fun c_7 => ?_) (fun c_7 => ?_)
      · refine V.ext (1) (g := rfs sh (rfa seed t)) rfl (fun k hk => flf_in (by omega)) (ws' := [(h, .inr (10, [.ref a, .int nu, .int (nI t)])), (a, .inl (gI G, 8, .inl (rfs sh (rfa seed t))))]) rfl ?_
        refine V.lset 2 (x := .int (nI (rct sh (rfa seed t) b))) (y := .int (nI (rct sh (rfa seed t) 8))) (congrArg Value.int (by rw [show b = 8 by omega])) rfl (lv' := [some (.ref h), some (.int (nI seed)), some (.int (nI (rct sh (rfa seed t) 8))), some (.int (nI b)), none]) rfl ?_
        refine V.iload_n hC (x := nI (rct sh (rfa seed t) 8)) dX10_addRefreshing_67 rfl ?_
        exact hE 68 _ (nI (rct sh (rfa seed t) 8)) () dX10_addRefreshing_68 rfl rfl
      · refine V.iconst hC 0 dX10_addRefreshing_10 rfl ?_
        refine V.iload_n hC (x := nI seed) dX10_addRefreshing_11 rfl ?_
        refine V.iconst hC 5 dX10_addRefreshing_12 rfl ?_
        refine V.aload_n hC (x := h) dX10_addRefreshing_13 rfl ?_
        refine V.getf hC (T := TX10) q0_ 2 q1_ rfl (0) rfl rfl (by decide) (.int (nI t)) rfl dX10_addRefreshing_14 ?_
        refine V.iload_n hC (x := nI b) dX10_addRefreshing_17 rfl ?_
        refine V.iconst hC 1 dX10_addRefreshing_18 rfl ?_
        refine V.iaddN hC b 1 dX10_addRefreshing_19 rfl rfl ?_
        refine V.callSr (n := 5) (As := [.int 0, .int (nI seed), .int 5, .int (nI t), .int (nI (b + 1))]) (rest := []) hC (c_seededValue (kl K) G 0 seed 5 t (b + 1) (by omega) hs (by omega) ht ht4 (by omega)) SFk0 SFgo0 gX10_addRefreshing_X9_seededValue rfl ⟨rfl, rfl⟩ (by decide +kernel) ⟨by decide, by decide, by decide, by decide⟩ [] rfl (by decide) rfl rfl (Nat.le_of_ble_eq_true rfl) dX10_addRefreshing_20 (fun r_20 u_20 hp_20 => ?_)
        subst hp_20
        show V G K 5 0 0 23 [some (.ref h), some (.int (nI seed)), some (.int (nI (rct sh (rfa seed t) b))), some (.int (nI b)), none] [.int (nI ((spr 0 seed 5 (b + 1) (t - 1)).1))] [(h, .inr (10, [.ref a, .int nu, .int (nI t)])), (a, .inl (gI G, 8, .inl (flf (rfs sh (rfa seed t)) sh b)))]
        refine V.istore hC dX10_addRefreshing_23 [some (.ref h), some (.int (nI seed)), some (.int (nI (rct sh (rfa seed t) b))), some (.int (nI b)), some (.int (nI ((spr 0 seed 5 (b + 1) (t - 1)).1)))] (Nat.le_of_ble_eq_true rfl) rfl ?_
        refine V.aload_n hC (x := h) dX10_addRefreshing_25 rfl ?_
        refine V.getf hC (T := TX10) q0_ 0 q2_ rfl (0) rfl rfl (by decide) (.ref a) rfl dX10_addRefreshing_26 ?_
        refine V.iload_n hC (x := nI b) dX10_addRefreshing_29 rfl ?_
        refine V.iald hC dX10_addRefreshing_30 (1) rfl b rfl (by omega) (by decide) ?_
        refine V.topeq (sh b) (flf_at _ _ _) ?_
        refine V.iconst hC (-1) dX10_addRefreshing_31 rfl ?_
        refine V.icmp_eq hC 61 dX10_addRefreshing_32 rfl (fun c_32 => ?_) (fun c_32 => ?_)
        · refine V.ext (1) (g := flf (rfs sh (rfa seed t)) sh (b + 1)) rfl (fun z _ => congrFun (show flf (rfs sh (rfa seed t)) sh b = flf (rfs sh (rfa seed t)) sh (b + 1) from flf_keep (rfs_y (Or.inl c_32))) z) (ws' := [(h, .inr (10, [.ref a, .int nu, .int (nI t)])), (a, .inl (gI G, 8, .inl (flf (rfs sh (rfa seed t)) sh (b + 1))))]) rfl ?_
          refine V.lset 2 (x := .int (nI (rct sh (rfa seed t) b))) (y := .int (nI (rct sh (rfa seed t) (b + 1)))) (congrArg Value.int (congrArg nI (rct_y (Or.inl c_32)))) rfl (lv' := [some (.ref h), some (.int (nI seed)), some (.int (nI (rct sh (rfa seed t) (b + 1)))), some (.int (nI b)), some (.int (nI ((spr 0 seed 5 (b + 1) (t - 1)).1)))]) rfl ?_
          refine V.iincN hC b 1 dX10_addRefreshing_61 rfl [some (.ref h), some (.int (nI seed)), some (.int (nI (rct sh (rfa seed t) (b + 1)))), some (.int (nI (b + 1))), some (.int (nI ((spr 0 seed 5 (b + 1) (t - 1)).1)))] (Nat.le_of_ble_eq_true rfl) rfl rfl rfl ?_
          refine V.goto hC 4 dX10_addRefreshing_64 rfl ?_
          refine V.drop 4 (lv' := [some (.ref h), some (.int (nI seed)), some (.int (nI (rct sh (rfa seed t) (b + 1)))), some (.int (nI (b + 1))), none]) rfl ?_
          exact ih4 (b + 1) (by omega) (by omega)
        · refine V.iload hC (x := nI ((spr 0 seed 5 (b + 1) (t - 1)).1)) dX10_addRefreshing_35 rfl ?_
          refine V.ifN_eq hC ((spr 0 seed 5 (b + 1) (t - 1)).1) 61 dX10_addRefreshing_37 rfl rfl (Nat.lt_trans (spr_lt (by decide) _).1 (by decide)) (fun c_37 => ?_) (fun c_37 => ?_)
          · refine V.ext (1) (g := flf (rfs sh (rfa seed t)) sh (b + 1)) rfl (fun z _ => congrFun (show flf (rfs sh (rfa seed t)) sh b = flf (rfs sh (rfa seed t)) sh (b + 1) from flf_keep (rfs_y (Or.inr c_37))) z) (ws' := [(h, .inr (10, [.ref a, .int nu, .int (nI t)])), (a, .inl (gI G, 8, .inl (flf (rfs sh (rfa seed t)) sh (b + 1))))]) rfl ?_
            refine V.lset 2 (x := .int (nI (rct sh (rfa seed t) b))) (y := .int (nI (rct sh (rfa seed t) (b + 1)))) (congrArg Value.int (congrArg nI (rct_y (Or.inr c_37)))) rfl (lv' := [some (.ref h), some (.int (nI seed)), some (.int (nI (rct sh (rfa seed t) (b + 1)))), some (.int (nI b)), some (.int (nI ((spr 0 seed 5 (b + 1) (t - 1)).1)))]) rfl ?_
            refine V.iincN hC b 1 dX10_addRefreshing_61 rfl [some (.ref h), some (.int (nI seed)), some (.int (nI (rct sh (rfa seed t) (b + 1)))), some (.int (nI (b + 1))), some (.int (nI ((spr 0 seed 5 (b + 1) (t - 1)).1)))] (Nat.le_of_ble_eq_true rfl) rfl rfl rfl ?_
            refine V.goto hC 4 dX10_addRefreshing_64 rfl ?_
            refine V.drop 4 (lv' := [some (.ref h), some (.int (nI seed)), some (.int (nI (rct sh (rfa seed t) (b + 1)))), some (.int (nI (b + 1))), none]) rfl ?_
            exact ih4 (b + 1) (by omega) (by omega)
          · refine V.aload_n hC (x := h) dX10_addRefreshing_40 rfl ?_
            refine V.getf hC (T := TX10) q0_ 0 q2_ rfl (0) rfl rfl (by decide) (.ref a) rfl dX10_addRefreshing_41 ?_
            refine V.iload_n hC (x := nI b) dX10_addRefreshing_44 rfl ?_
            refine V.aload_n hC (x := h) dX10_addRefreshing_45 rfl ?_
            refine V.getf hC (T := TX10) q0_ 0 q2_ rfl (0) rfl rfl (by decide) (.ref a) rfl dX10_addRefreshing_46 ?_
            refine V.iload_n hC (x := nI b) dX10_addRefreshing_49 rfl ?_
            refine V.iald hC dX10_addRefreshing_50 (1) rfl b rfl (by omega) (by decide) ?_
            refine V.topeq (sh b) (flf_at _ _ _) ?_
            refine V.iload hC (x := nI ((spr 0 seed 5 (b + 1) (t - 1)).1)) dX10_addRefreshing_51 rfl ?_
            refine V.iadd hC dX10_addRefreshing_53 ?_
            refine V.bipush hC 97 dX10_addRefreshing_54 rfl ?_
            refine V.irem hC dX10_addRefreshing_56 (by decide) ?_
            refine V.topeq (rfs sh (rfa seed t) b) (rfs_n (sh := sh) (ad := rfa seed t) (b := b) (fun z => z.elim c_32 c_37)) ?_
            refine V.iast hC dX10_addRefreshing_57 (1) rfl b rfl (by omega) (by decide) [(h, .inr (10, [.ref a, .int nu, .int (nI t)])), (a, .inl (gI G, 8, .inl (upd (flf (rfs sh (rfa seed t)) sh b) b (rfs sh (rfa seed t) b))))] rfl ?_
            refine V.iincN hC (rct sh (rfa seed t) b) 1 dX10_addRefreshing_58 rfl [some (.ref h), some (.int (nI seed)), some (.int (nI (rct sh (rfa seed t) b + 1))), some (.int (nI b)), some (.int (nI ((spr 0 seed 5 (b + 1) (t - 1)).1)))] (Nat.le_of_ble_eq_true rfl) rfl rfl rfl ?_
            refine V.ext (1) (g := flf (rfs sh (rfa seed t)) sh (b + 1)) rfl (fun z _ => congrFun (show upd (flf (rfs sh (rfa seed t)) sh b) b (rfs sh (rfa seed t) b) = flf (rfs sh (rfa seed t)) sh (b + 1) from flf_succ _ _ _) z) (ws' := [(h, .inr (10, [.ref a, .int nu, .int (nI t)])), (a, .inl (gI G, 8, .inl (flf (rfs sh (rfa seed t)) sh (b + 1))))]) rfl ?_
            refine V.lset 2 (x := .int (nI (rct sh (rfa seed t) b + 1))) (y := .int (nI (rct sh (rfa seed t) (b + 1)))) (congrArg Value.int (congrArg nI (rct_n (fun z => z.elim c_32 c_37)))) rfl (lv' := [some (.ref h), some (.int (nI seed)), some (.int (nI (rct sh (rfa seed t) (b + 1)))), some (.int (nI b)), some (.int (nI ((spr 0 seed 5 (b + 1) (t - 1)).1)))]) rfl ?_
            refine V.iincN hC b 1 dX10_addRefreshing_61 rfl [some (.ref h), some (.int (nI seed)), some (.int (nI (rct sh (rfa seed t) (b + 1)))), some (.int (nI (b + 1))), some (.int (nI ((spr 0 seed 5 (b + 1) (t - 1)).1)))] (Nat.le_of_ble_eq_true rfl) rfl rfl rfl ?_
            refine V.goto hC 4 dX10_addRefreshing_64 rfl ?_
            refine V.drop 4 (lv' := [some (.ref h), some (.int (nI seed)), some (.int (nI (rct sh (rfa seed t) (b + 1)))), some (.int (nI (b + 1))), none]) rfl ?_
            exact ih4 (b + 1) (by omega) (by omega)
  exact loop4 _ 0 (Nat.lt_succ_self _) (by omega)
