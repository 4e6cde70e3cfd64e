/-! Program: a command read (printed by gen/s32.py) -/
/-- form i read from sr on, whole -/
def hfw (tf : Nat → Int32) (ln sr : Nat) (af : Nat → Int32) (i : Nat) : Nat × Nat × Nat × (Nat → Int32) := hfm tf ln sr af i (fLen.getD i 0)
/-- the arguments after i forms were looked at -/
def aff (tf : Nat → Int32) (ln sr : Nat) (af : Nat → Int32) : Nat → Nat → Int32
  | 0 => af
  | i + 1 => (hfw tf ln sr (aff tf ln sr af i) i).2.2.2
/-- the furthest place that the first forms reach -/
def frt (tf : Nat → Int32) (ln sr : Nat) (af : Nat → Int32) : Nat → Nat
  | 0 => sr
  | i + 1 => max (frt tf ln sr af i) (hfw tf ln sr (aff tf ln sr af i) i).2.1
/-- the first form that stands, n looked at -/
def fst (tf : Nat → Int32) (ln sr : Nat) (af : Nat → Int32) : Nat → Option Nat
  | 0 => none
  | i + 1 => match fst tf ln sr af i with
    | some k => some k
    | none => if (hfw tf ln sr (aff tf ln sr af i) i).1 = 0 then none else some i
theorem fst_up {tf : Nat → Int32} {ln sr : Nat} {af : Nat → Int32} {i k : Nat} (h : fst tf ln sr af i = some k) : ∀ m, fst tf ln sr af (i + m) = some k
  | 0 => h
  | m + 1 => by rw [← Nat.add_assoc, fst, fst_up h m]
theorem fst_hit {tf : Nat → Int32} {ln sr : Nat} {af : Nat → Int32} {i : Nat} (hi : i < 8) (h : fst tf ln sr af i = none) (h2 : ¬ (hfw tf ln sr (aff tf ln sr af i) i).1 = 0) : fst tf ln sr af 8 = some i := by
  have h3 : fst tf ln sr af (i + 1) = some i := by
    rw [fst, h]
    exact if_neg h2
  have := fst_up h3 (8 - (i + 1))
  rw [show i + 1 + (8 - (i + 1)) = 8 by omega] at this
  exact this
theorem fst_next {tf : Nat → Int32} {ln sr : Nat} {af : Nat → Int32} {i : Nat} (h : fst tf ln sr af i = none) (h2 : (hfw tf ln sr (aff tf ln sr af i) i).1 = 0) : fst tf ln sr af (i + 1) = none := by
  rw [fst, h]
  exact if_pos h2
theorem hfw_ln {tf : Nat → Int32} {ln sr : Nat} {af : Nat → Int32} {i : Nat} (hi : i < 8) (h : sr ≤ ln) : (hfw tf ln sr af i).2.1 ≤ ln := hfm_ln h (chr_m1 i hi) _
theorem frt_ln {tf : Nat → Int32} {ln sr : Nat} {af : Nat → Int32} (h : sr ≤ ln) : ∀ i, i ≤ 8 → frt tf ln sr af i ≤ ln
  | 0, _ => h
  | i + 1, hi => by
    have a := frt_ln (tf := tf) (af := af) h i (by omega)
    have b := hfw_ln (tf := tf) (af := aff tf ln sr af i) (i := i) (by omega) h
    rw [frt]
    omega
theorem nI_max {a b : Nat} (ha : a < 2 ^ 31) (hb : b < 2 ^ 31) : (if nI a < nI b then nI b else nI a) = nI (max a b) := by
  by_cases h : a < b
  · rw [if_pos ((nI_ltI ha hb).mpr h), Nat.max_eq_right (by omega)]
  · rw [if_neg (fun z => h ((nI_ltI ha hb).mp z)), Nat.max_eq_left (by omega)]
set_option maxHeartbeats 4000000 in
set_option maxRecDepth 100000 in
theorem c_commandForm (l : Launch) (G : Gx) (i : Nat) (hi : i < 8) : Ct l G (SFx G) yX2_commandForm wsX2_commandForm ({ frames := 0, cells := 0, slots := 0, locals := 0 }) [.ref (adD G i)] [] mkA (fun (r : Option Nat) (_ : Unit) => r = some (adK G i)) (fun _ : Unit => []) 0 0 := by
  refine Ct.ofA (mk := fun r : Option Nat => va_rf r) (fun r => va_rf_or r) (Or.inl ⟨_, rfl⟩) (cc := cX2_commandForm) (maxL := 1) (by decide) rfl ⟨by simp [Value.category], Nat.le_of_ble_eq_true rfl⟩ ?_
  intro K hl hC hSF hnm hE
  subst hl
  have hgo := SFgoS (SFx.k G) hSF
  have q0_ : Cond.fieldLink RX2 47 "FeatherShares$Deed" "form" "Ljava/lang/String;" ∈ wsX2_commandForm := by decide +kernel
  show V G K 1 0 0 0 [some (.ref (adD G i))] [] []
  refine V.aload_n hC (x := adD G i) dX2_commandForm_0 rfl ?_
  refine V.getOF hC (hSF.2.2.2.2.2.2.2.2.1 i hi) q0_ rfl dX2_commandForm_1 ?_
  exact hE 4 _ (some (adK G i)) () dX2_commandForm_4 rfl

theorem hfw_an {tf : Nat → Int32} {ln sr : Nat} {af : Nat → Int32} : ∀ i, i < 8 → (hfw tf ln sr af i).2.2.1 ≤ 3 := fun i hi => Nat.le_trans (hfm_an _) ((by decide : ∀ i, i < 8 → ncn i (fLen.getD i 0) ≤ 3) i hi)
set_option maxHeartbeats 4000000 in
set_option maxRecDepth 100000 in
theorem c_readCommand (l : Launch) (G : Gx) (hq tx ag dd ln sr rc an : Nat) (tf af : Nat → Int32) (hln : ln ≤ 60) (hsr : sr ≤ ln) (han : an ≤ 3) (m8 : Nat) (hm8 : m8 = 8) : Ct l G (SFx G) yX7_readCommand wsX7_readCommand ({ frames := 5, cells := 0, slots := 0, locals := 109 }) [.ref hq] [(hq, .inr (8, [.ref tx, .ref ag, .ref dd, .int (nI ln), .int (nI sr), .int (nI rc), .int (nI an)])), (tx, .inl (gC G, 60, .inl tf)), (ag, .inl (gI G, 3, .inl af))] mkI (fun (r : Int32) (u : Nat × Nat × Nat × (Nat → Int32)) => (∃ i, i < 8 ∧ fst tf ln sr af m8 = some i ∧ r = 1 ∧ u = (adD G i, (hfw tf ln sr (aff tf ln sr af i) i).2)) ∨ (fst tf ln sr af m8 = none ∧ r = 0 ∧ u.1 = dd ∧ u.2.1 = frt tf ln sr af m8 ∧ u.2.2.1 ≤ 3 ∧ u.2.2.2 = aff tf ln sr af m8)) (fun u : Nat × Nat × Nat × (Nat → Int32) => [(hq, .inr (8, [.ref tx, .ref ag, .ref (u.1), .int (nI ln), .int (nI sr), .int (nI (u.2.1)), .int (nI (u.2.2.1))])), (tx, .inl (gC G, 60, .inl tf)), (ag, .inl (gI G, 3, .inl (u.2.2.2)))]) 0 0 := by
  refine Ct.ofI (cc := cX7_readCommand) (maxL := 3) (by decide) rfl ⟨by simp [Value.category], Nat.le_of_ble_eq_true rfl⟩ ?_
  intro K hl hC hSF hnm hE
  subst hl
  have hgo := SFgoS (SFx.k G) hSF
  have q0_ : ∀ w ∈ u_ws RX7 TX7 7, w ∈ wsX7_readCommand := by decide +kernel
  have q1_ : Cond.fieldLink RX7 32 "FeatherShares$Program" "start" "I" ∈ wsX7_readCommand := by decide +kernel
  have q2_ : Cond.fieldLink RX7 45 "FeatherShares$Program" "reached" "I" ∈ wsX7_readCommand := by decide +kernel
  have q3_ : Cond.methodLink RX7 67 Lib.Math.max.name ∈ wsX7_readCommand := by decide +kernel
  have q4_ : Cond.static Lib.Math.max.name ∈ wsX7_readCommand := by decide +kernel
  have q5_ : Cond.initialized "java/lang/Math" ∈ wsX7_readCommand := by decide +kernel
  have q6_ : Cond.code Lib.Math.max.name Lib.Math.max.code 2 (some .int) ∈ wsX7_readCommand := by decide +kernel
  have q7_ : Cond.fieldLink RX7 25 "FeatherShares$Program" "deed" "LFeatherShares$Deed;" ∈ wsX7_readCommand := by decide +kernel
  show V G K 3 0 0 0 [some (.ref hq), none, none] [] [(hq, .inr (8, [.ref tx, .ref ag, .ref dd, .int (nI ln), .int (nI sr), .int (nI rc), .int (nI an)])), (tx, .inl (gC G, 60, .inl tf)), (ag, .inl (gI G, 3, .inl af))]
  refine V.aload_n hC (x := hq) dX7_readCommand_0 rfl ?_
  refine V.getf hC (T := TX7) q0_ 4 q1_ rfl (0) rfl rfl (by decide) (.int (nI sr)) rfl dX7_readCommand_1 ?_
  refine V.istore_n hC dX7_readCommand_4 [some (.ref hq), some (.int (nI sr)), none] (Nat.le_of_ble_eq_true rfl) rfl ?_
  refine V.lset 1 (x := .int (nI sr)) (y := .int (nI (frt tf ln sr af 0))) (congrArg Value.int rfl) rfl (lv' := [some (.ref hq), some (.int (nI (frt tf ln sr af 0))), none]) rfl ?_
  refine V.iconst hC 0 dX7_readCommand_5 rfl ?_
  refine V.istore_n hC dX7_readCommand_6 [some (.ref hq), some (.int (nI (frt tf ln sr af 0))), some (.int 0)] (Nat.le_of_ble_eq_true rfl) rfl ?_
  have loop7 : ∀ (n : Nat) (i : Nat) (rc1 : Nat) (an1 : Nat), 9 - i < n → (i ≤ 8) → (fst tf ln sr af i = none) → (an1 ≤ 3) → V G K 3 0 0 7 [some (.ref hq), some (.int (nI (frt tf ln sr af i))), some (.int (nI i))] [] [(hq, .inr (8, [.ref tx, .ref ag, .ref dd, .int (nI ln), .int (nI sr), .int (nI rc1), .int (nI an1)])), (tx, .inl (gC G, 60, .inl tf)), (ag, .inl (gI G, 3, .inl (aff tf ln sr af i)))] := by
    intro n
    induction n with
    | zero => intro i rc1 an1 hlt; exact absurd hlt (Nat.not_lt_zero _)
    | succ n ih7 =>
      intro i rc1 an1 hlt7 hi8 hf han1
      have hfl := frt_ln (tf := tf) (af := af) hsr i hi8
      refine V.iload_n hC (x := nI i) dX7_readCommand_7 rfl ?_
      refine V.getsN hC (C := "FeatherShares") (ref := "FeatherShares") (n := "DEEDS") (host := "FeatherShares") hSF.2.2.2.2.2.2.1 hSF.2.2.2.2.2.2.2.2.2.2.2.2 rfl dX7_readCommand_8 ?_
      refine V.tlen hC hSF.2.2.2.2.2.2.2.1 8 rfl dX7_readCommand_11 ?_
      refine V.icmpN_ge hC i 8 56 dX7_readCommand_12 rfl rfl rfl (by omega) (by omega) (fun c_12 => ?_) (fun c_12 => ?_)
      · refine V.lset 1 (x := .int (nI (frt tf ln sr af i))) (y := .int (nI (frt tf ln sr af m8))) (congrArg Value.int (by rw [show i = m8 by omega])) rfl (lv' := [some (.ref hq), some (.int (nI (frt tf ln sr af m8))), some (.int (nI i))]) rfl ?_
        refine V.aload_n hC (x := hq) dX7_readCommand_56 rfl ?_
        refine V.iload_n hC (x := nI (frt tf ln sr af m8)) dX7_readCommand_57 rfl ?_
        refine V.putf hC (T := TX7) q0_ tyX7 tyX7_ok nmX7 5 q2_ rfl rfl (0) rfl rfl (by decide) (by simp) rfl rfl dX7_readCommand_58 [(hq, .inr (8, [.ref tx, .ref ag, .ref dd, .int (nI ln), .int (nI sr), .int (nI (frt tf ln sr af m8)), .int (nI an1)])), (tx, .inl (gC G, 60, .inl tf)), (ag, .inl (gI G, 3, .inl (aff tf ln sr af i)))] rfl ?_
        refine V.eqw (ws' := [(hq, .inr (8, [.ref tx, .ref ag, .ref dd, .int (nI ln), .int (nI sr), .int (nI (frt tf ln sr af m8)), .int (nI an1)])), (tx, .inl (gC G, 60, .inl tf)), (ag, .inl (gI G, 3, .inl (aff tf ln sr af m8)))]) (by rw [show i = m8 by omega]) ?_
        refine V.iconst hC 0 dX7_readCommand_61 rfl ?_
        exact hE 62 _ 0 (dd, frt tf ln sr af m8, an1, aff tf ln sr af m8) dX7_readCommand_62 rfl (Or.inr ⟨by rw [← hf, show i = m8 by omega], rfl, rfl, rfl, han1, rfl⟩)
      · have hi : i < 8 := by omega
        have hb_ := hfw_ln (tf := tf) (af := (aff tf ln sr af i)) (i := i) hi hsr
        have hq_ := hfw_an (tf := tf) (ln := ln) (sr := sr) (af := (aff tf ln sr af i)) i hi
        refine V.aload_n hC (x := hq) dX7_readCommand_15 rfl ?_
        refine V.getsN hC (C := "FeatherShares") (ref := "FeatherShares") (n := "DEEDS") (host := "FeatherShares") hSF.2.2.2.2.2.2.1 hSF.2.2.2.2.2.2.2.2.2.2.2.2 rfl dX7_readCommand_16 ?_
        refine V.iload_n hC (x := nI i) dX7_readCommand_19 rfl ?_
        refine V.tq hC hSF.2.2.2.2.2.2.2.1 dX7_readCommand_20 i rfl (by omega) (by decide) (.ref (adD G i)) rfl ?_
        refine V.callO (n := 0) (As := []) (rest := [.ref hq]) hC (c_commandForm (kl K) G i (by omega)) (SFx.k G) hgo (hSF.dO i hi) gX7_readCommand_X2_commandForm rfl ⟨rfl, rfl⟩ (by decide +kernel) ⟨by decide, by decide, by decide, by decide⟩ [] rfl (by decide) (fun _ => rfl) rfl rfl (Nat.le_of_ble_eq_true rfl) dX7_readCommand_21 (fun r_21 u_21 hp_21 => ?_)
        subst hp_21
        show V G K 3 0 0 24 [some (.ref hq), some (.int (nI (frt tf ln sr af i))), some (.int (nI i))] [.ref (adK G i), .ref hq] [(hq, .inr (8, [.ref tx, .ref ag, .ref dd, .int (nI ln), .int (nI sr), .int (nI rc1), .int (nI an1)])), (tx, .inl (gC G, 60, .inl tf)), (ag, .inl (gI G, 3, .inl (aff tf ln sr af i)))]
        refine V.callV (n := 1) (As := [.ref (adK G i)]) (rest := []) hC (c_hasForm (kl K) G hq tx ag dd ln sr rc1 an1 tf (aff tf ln sr af i) hln i (by omega) hsr) (SFx.k G) hgo gX7_readCommand_X7_hasForm rfl ⟨rfl, rfl⟩ (by decide +kernel) ⟨by decide, by decide, by decide, by decide⟩ [0, 1, 2] rfl (by decide) (fun _ => rfl) rfl rfl rfl rfl (Nat.le_of_ble_eq_true rfl) dX7_readCommand_24 (fun r_24 u_24 hp_24 => ?_)
        subst hp_24
        show V G K 3 0 0 27 [some (.ref hq), some (.int (nI (frt tf ln sr af i))), some (.int (nI i))] [.int (nI ((hfw tf ln sr (aff tf ln sr af i) i).1))] [(hq, .inr (8, [.ref tx, .ref ag, .ref dd, .int (nI ln), .int (nI sr), .int (nI ((hfw tf ln sr (aff tf ln sr af i) i).2.1)), .int (nI ((hfw tf ln sr (aff tf ln sr af i) i).2.2.1))])), (tx, .inl (gC G, 60, .inl tf)), (ag, .inl (gI G, 3, .inl ((hfw tf ln sr (aff tf ln sr af i) i).2.2.2)))]
        refine V.ifN_eq hC ((hfw tf ln sr (aff tf ln sr af i) i).1) 41 dX7_readCommand_27 rfl rfl (Nat.lt_of_le_of_lt (hfm_le1 _) (by decide)) (fun c_27 => ?_) (fun c_27 => ?_)
        · refine V.iload_n hC (x := nI (frt tf ln sr af i)) dX7_readCommand_41 rfl ?_
          refine V.aload_n hC (x := hq) dX7_readCommand_42 rfl ?_
          refine V.getf hC (T := TX7) q0_ 5 q2_ rfl (0) rfl rfl (by decide) (.int (nI ((hfw tf ln sr (aff tf ln sr af i) i).2.1))) rfl dX7_readCommand_43 ?_
          refine V.mmax hC q3_ q4_ q5_ q6_ ⟨Nat.le_of_ble_eq_true rfl, Nat.le_of_ble_eq_true rfl, Nat.le_of_ble_eq_true rfl, Nat.le_of_ble_eq_true rfl⟩ dX7_readCommand_46 ?_
          refine V.topeq (nI (frt tf ln sr af (i + 1))) (nI_max (by omega) (by omega)) ?_
          refine V.istore_n hC dX7_readCommand_49 [some (.ref hq), some (.int (nI (frt tf ln sr af (i + 1)))), some (.int (nI i))] (Nat.le_of_ble_eq_true rfl) rfl ?_
          refine V.iincN hC i 1 dX7_readCommand_50 rfl [some (.ref hq), some (.int (nI (frt tf ln sr af (i + 1)))), some (.int (nI (i + 1)))] (Nat.le_of_ble_eq_true rfl) rfl rfl rfl ?_
          refine V.goto hC 7 dX7_readCommand_53 rfl ?_
          exact ih7 (i + 1) ((hfw tf ln sr (aff tf ln sr af i) i).2.1) ((hfw tf ln sr (aff tf ln sr af i) i).2.2.1) (by omega) (by omega) (fst_next hf c_27) hq_
        · refine V.aload_n hC (x := hq) dX7_readCommand_30 rfl ?_
          refine V.getsN hC (C := "FeatherShares") (ref := "FeatherShares") (n := "DEEDS") (host := "FeatherShares") hSF.2.2.2.2.2.2.1 hSF.2.2.2.2.2.2.2.2.2.2.2.2 rfl dX7_readCommand_31 ?_
          refine V.iload_n hC (x := nI i) dX7_readCommand_34 rfl ?_
          refine V.tq hC hSF.2.2.2.2.2.2.2.1 dX7_readCommand_35 i rfl (by omega) (by decide) (.ref (adD G i)) rfl ?_
          refine V.putf hC (T := TX7) q0_ tyX7 tyX7_ok nmX7 2 q7_ rfl rfl (0) rfl rfl (by decide) (by simp) rfl rfl dX7_readCommand_36 [(hq, .inr (8, [.ref tx, .ref ag, .ref (adD G i), .int (nI ln), .int (nI sr), .int (nI ((hfw tf ln sr (aff tf ln sr af i) i).2.1)), .int (nI ((hfw tf ln sr (aff tf ln sr af i) i).2.2.1))])), (tx, .inl (gC G, 60, .inl tf)), (ag, .inl (gI G, 3, .inl ((hfw tf ln sr (aff tf ln sr af i) i).2.2.2)))] rfl ?_
          refine V.iconst hC 1 dX7_readCommand_39 rfl ?_
          exact hE 40 _ 1 (adD G i, (hfw tf ln sr (aff tf ln sr af i) i).2) dX7_readCommand_40 rfl (Or.inl ⟨i, by omega, by rw [hm8]; exact fst_hit (by omega) hf c_27, rfl, rfl⟩)
  exact loop7 _ 0 rc an (Nat.lt_succ_self _) (by omega) rfl han
