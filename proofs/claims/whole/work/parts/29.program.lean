/-! Program: the buffer, its signs (printed by gen/s29.py) -/
/-- the sign at a place of the text, -1 behind its end -/
def sgn (tf : Nat → Int32) (ln i : Nat) : Int32 := if i < ln then tf i else -1
abbrev isD (x : Int32) : Prop := ¬ x < 48 ∧ ¬ 57 < x
/-- how many digits stand from rc on, the first n places looked at -/
def dct (tf : Nat → Int32) (ln rc : Nat) : Nat → Nat
  | 0 => 0
  | j + 1 => if dct tf ln rc j = j ∧ isD (sgn tf ln (rc + j)) then j + 1 else dct tf ln rc j
/-- the number that n digits from rc on say -/
def nmv (tf : Nat → Int32) (ln rc : Nat) : Nat → Int32
  | 0 => 0
  | j + 1 => nmv tf ln rc j * 10 + sgn tf ln (rc + j) - 48
theorem dct_le (tf : Nat → Int32) (ln rc : Nat) : ∀ n, dct tf ln rc n ≤ n
  | 0 => Nat.le_refl 0
  | n + 1 => by
    have := dct_le tf ln rc n
    rw [dct]
    split <;> omega
theorem dct_go {tf : Nat → Int32} {ln rc j : Nat} (h : dct tf ln rc j = j) (h2 : isD (sgn tf ln (rc + j))) : dct tf ln rc (j + 1) = j + 1 := by rw [dct, if_pos ⟨h, h2⟩]
theorem dct_stop {tf : Nat → Int32} {ln rc j : Nat} (h : dct tf ln rc j = j) (h2 : ¬ isD (sgn tf ln (rc + j))) : ∀ n, dct tf ln rc (j + n) = j
  | 0 => h
  | n + 1 => by
    have ih := dct_stop h h2 n
    rw [← Nat.add_assoc, dct]
    by_cases e : n = 0
    · subst e
      rw [if_neg (fun z => h2 z.2)]
      exact h
    · rw [if_neg (fun z => by omega)]
      exact ih
set_option maxHeartbeats 4000000 in
set_option maxRecDepth 100000 in
theorem c_progSize (l : Launch) (G : Gx) (hq tx ag dd ln sr rc an : Nat) (tf af : Nat → Int32) (hln : ln ≤ 60) : Ct l G SF0 yX7_size wsX7_size ({ frames := 0, cells := 0, slots := 0, locals := 0 }) [.ref hq] [(hq, .inr (8, [.ref tx, .ref ag, .ref dd, .int (nI ln), .int (nI sr), .int (nI rc), .int (nI an)])), (tx, .inl (gC G, 60, .inl tf)), (ag, .inl (gI G, 3, .inl af))] mkI (fun (r : Int32) (_ : Unit) => r = nI ln) (fun _ : Unit => [(hq, .inr (8, [.ref tx, .ref ag, .ref dd, .int (nI ln), .int (nI sr), .int (nI rc), .int (nI an)])), (tx, .inl (gC G, 60, .inl tf)), (ag, .inl (gI G, 3, .inl af))]) 0 0 := by
  refine Ct.ofI (cc := cX7_size) (maxL := 1) (by decide) rfl ⟨by simp [Value.category], Nat.le_of_ble_eq_true rfl⟩ ?_
  intro K hl hC hSF hnm hE
  subst hl
  have q0_ : ∀ w ∈ u_ws RX7 TX7 7, w ∈ wsX7_size := by decide +kernel
  have q1_ : Cond.fieldLink RX7 28 "FeatherShares$Program" "length" "I" ∈ wsX7_size := by decide +kernel
  show V G K 1 0 0 0 [some (.ref hq)] [] [(hq, .inr (8, [.ref tx, .ref ag, .ref dd, .int (nI ln), .int (nI sr), .int (nI rc), .int (nI an)])), (tx, .inl (gC G, 60, .inl tf)), (ag, .inl (gI G, 3, .inl af))]
  refine V.aload_n hC (x := hq) dX7_size_0 rfl ?_
  refine V.getf hC (T := TX7) q0_ 3 q1_ rfl (0) rfl rfl (by decide) (.int (nI ln)) rfl dX7_size_1 ?_
  exact hE 4 _ (nI ln) () dX7_size_4 rfl rfl

set_option maxHeartbeats 4000000 in
set_option maxRecDepth 100000 in
theorem c_progEmpty (l : Launch) (G : Gx) (hq tx ag dd ln sr rc an : Nat) (tf af : Nat → Int32) (hln : ln ≤ 60) : Ct l G SF0 yX7_empty wsX7_empty ({ frames := 0, cells := 0, slots := 0, locals := 0 }) [.ref hq] [(hq, .inr (8, [.ref tx, .ref ag, .ref dd, .int (nI ln), .int (nI sr), .int (nI rc), .int (nI an)])), (tx, .inl (gC G, 60, .inl tf)), (ag, .inl (gI G, 3, .inl af))] mkV (fun (_ : Unit) (_ : Unit) => True) (fun _ : Unit => [(hq, .inr (8, [.ref tx, .ref ag, .ref dd, .int (nI 0), .int (nI sr), .int (nI rc), .int (nI an)])), (tx, .inl (gC G, 60, .inl tf)), (ag, .inl (gI G, 3, .inl af))]) 0 0 := by
  refine Ct.ofV (cc := cX7_empty) (maxL := 1) (by decide) rfl ⟨by simp [Value.category], Nat.le_of_ble_eq_true rfl⟩ ?_
  intro K hl hC hSF hnm hE
  subst hl
  have q0_ : ∀ w ∈ u_ws RX7 TX7 7, w ∈ wsX7_empty := by decide +kernel
  have q1_ : Cond.fieldLink RX7 28 "FeatherShares$Program" "length" "I" ∈ wsX7_empty := by decide +kernel
  show V G K 1 0 0 0 [some (.ref hq)] [] [(hq, .inr (8, [.ref tx, .ref ag, .ref dd, .int (nI ln), .int (nI sr), .int (nI rc), .int (nI an)])), (tx, .inl (gC G, 60, .inl tf)), (ag, .inl (gI G, 3, .inl af))]
  refine V.aload_n hC (x := hq) dX7_empty_0 rfl ?_
  refine V.iconst hC 0 dX7_empty_1 rfl ?_
  refine V.putf hC (T := TX7) q0_ tyX7 tyX7_ok nmX7 3 q1_ rfl rfl (0) rfl rfl (by decide) (by simp) rfl rfl dX7_empty_2 [(hq, .inr (8, [.ref tx, .ref ag, .ref dd, .int 0, .int (nI sr), .int (nI rc), .int (nI an)])), (tx, .inl (gC G, 60, .inl tf)), (ag, .inl (gI G, 3, .inl af))] rfl ?_
  exact hE 5 _ () dX7_empty_5 trivial

set_option maxHeartbeats 4000000 in
set_option maxRecDepth 100000 in
theorem c_rewind (l : Launch) (G : Gx) (hq tx ag dd ln sr rc an : Nat) (tf af : Nat → Int32) (hln : ln ≤ 60) : Ct l G SF0 yX7_rewind wsX7_rewind ({ frames := 0, cells := 0, slots := 0, locals := 0 }) [.ref hq] [(hq, .inr (8, [.ref tx, .ref ag, .ref dd, .int (nI ln), .int (nI sr), .int (nI rc), .int (nI an)])), (tx, .inl (gC G, 60, .inl tf)), (ag, .inl (gI G, 3, .inl af))] mkV (fun (_ : Unit) (_ : Unit) => True) (fun _ : Unit => [(hq, .inr (8, [.ref tx, .ref ag, .ref dd, .int (nI ln), .int (nI 0), .int (nI rc), .int (nI an)])), (tx, .inl (gC G, 60, .inl tf)), (ag, .inl (gI G, 3, .inl af))]) 0 0 := by
  refine Ct.ofV (cc := cX7_rewind) (maxL := 1) (by decide) rfl ⟨by simp [Value.category], Nat.le_of_ble_eq_true rfl⟩ ?_
  intro K hl hC hSF hnm hE
  subst hl
  have q0_ : ∀ w ∈ u_ws RX7 TX7 7, w ∈ wsX7_rewind := by decide +kernel
  have q1_ : Cond.fieldLink RX7 32 "FeatherShares$Program" "start" "I" ∈ wsX7_rewind := by decide +kernel
  show V G K 1 0 0 0 [some (.ref hq)] [] [(hq, .inr (8, [.ref tx, .ref ag, .ref dd, .int (nI ln), .int (nI sr), .int (nI rc), .int (nI an)])), (tx, .inl (gC G, 60, .inl tf)), (ag, .inl (gI G, 3, .inl af))]
  refine V.aload_n hC (x := hq) dX7_rewind_0 rfl ?_
  refine V.iconst hC 0 dX7_rewind_1 rfl ?_
  refine V.putf hC (T := TX7) q0_ tyX7 tyX7_ok nmX7 4 q1_ rfl rfl (0) rfl rfl (by decide) (by simp) rfl rfl dX7_rewind_2 [(hq, .inr (8, [.ref tx, .ref ag, .ref dd, .int (nI ln), .int 0, .int (nI rc), .int (nI an)])), (tx, .inl (gC G, 60, .inl tf)), (ag, .inl (gI G, 3, .inl af))] rfl ?_
  exact hE 5 _ () dX7_rewind_5 trivial

set_option maxHeartbeats 4000000 in
set_option maxRecDepth 100000 in
theorem c_isAtEnd (l : Launch) (G : Gx) (hq tx ag dd ln sr rc an : Nat) (tf af : Nat → Int32) (hln : ln ≤ 60) (hsr : sr < 1000) : Ct l G SF0 yX7_isAtEnd wsX7_isAtEnd ({ frames := 0, cells := 0, slots := 0, locals := 0 }) [.ref hq] [(hq, .inr (8, [.ref tx, .ref ag, .ref dd, .int (nI ln), .int (nI sr), .int (nI rc), .int (nI an)])), (tx, .inl (gC G, 60, .inl tf)), (ag, .inl (gI G, 3, .inl af))] mkI (fun (r : Int32) (_ : Unit) => r = if ln ≤ sr then 1 else 0) (fun _ : Unit => [(hq, .inr (8, [.ref tx, .ref ag, .ref dd, .int (nI ln), .int (nI sr), .int (nI rc), .int (nI an)])), (tx, .inl (gC G, 60, .inl tf)), (ag, .inl (gI G, 3, .inl af))]) 0 0 := by
  refine Ct.ofI (cc := cX7_isAtEnd) (maxL := 1) (by decide) rfl ⟨by simp [Value.category], Nat.le_of_ble_eq_true rfl⟩ ?_
  intro K hl hC hSF hnm hE
  subst hl
  have q0_ : ∀ w ∈ u_ws RX7 TX7 7, w ∈ wsX7_isAtEnd := by decide +kernel
  have q1_ : Cond.fieldLink RX7 32 "FeatherShares$Program" "start" "I" ∈ wsX7_isAtEnd := by decide +kernel
  have q2_ : Cond.fieldLink RX7 28 "FeatherShares$Program" "length" "I" ∈ wsX7_isAtEnd := by decide +kernel
  show V G K 1 0 0 0 [some (.ref hq)] [] [(hq, .inr (8, [.ref tx, .ref ag, .ref dd, .int (nI ln), .int (nI sr), .int (nI rc), .int (nI an)])), (tx, .inl (gC G, 60, .inl tf)), (ag, .inl (gI G, 3, .inl af))]
  refine V.aload_n hC (x := hq) dX7_isAtEnd_0 rfl ?_
  refine V.getf hC (T := TX7) q0_ 4 q1_ rfl (0) rfl rfl (by decide) (.int (nI sr)) rfl dX7_isAtEnd_1 ?_
  refine V.aload_n hC (x := hq) dX7_isAtEnd_4 rfl ?_
  refine V.getf hC (T := TX7) q0_ 3 q2_ rfl (0) rfl rfl (by decide) (.int (nI ln)) rfl dX7_isAtEnd_5 ?_
  refine V.icmpN_lt hC sr ln 15 dX7_isAtEnd_8 rfl rfl rfl (by omega) (by omega) (fun c_8 => ?_) (fun c_8 => ?_)
  · refine V.iconst hC 0 dX7_isAtEnd_15 rfl ?_
    exact hE 16 _ 0 () dX7_isAtEnd_16 rfl ((if_neg (by omega)).symm)
  · refine V.iconst hC 1 dX7_isAtEnd_11 rfl ?_
    refine V.goto hC 16 dX7_isAtEnd_12 rfl ?_
    exact hE 16 _ 1 () dX7_isAtEnd_16 rfl ((if_pos c_8).symm)

set_option maxHeartbeats 4000000 in
set_option maxRecDepth 100000 in
theorem c_deed (l : Launch) (G : Gx) (hq tx ag dd ln sr rc an : Nat) (tf af : Nat → Int32) (hln : ln ≤ 60) : Ct l G SF0 yX7_deed wsX7_deed ({ frames := 0, cells := 0, slots := 0, locals := 0 }) [.ref hq] [(hq, .inr (8, [.ref tx, .ref ag, .ref dd, .int (nI ln), .int (nI sr), .int (nI rc), .int (nI an)])), (tx, .inl (gC G, 60, .inl tf)), (ag, .inl (gI G, 3, .inl af))] mkA (fun (r : Option Nat) (_ : Unit) => r = some dd) (fun _ : Unit => [(hq, .inr (8, [.ref tx, .ref ag, .ref dd, .int (nI ln), .int (nI sr), .int (nI rc), .int (nI an)])), (tx, .inl (gC G, 60, .inl tf)), (ag, .inl (gI G, 3, .inl af))]) 0 0 := by
  refine Ct.ofA (mk := fun r : Option Nat => va_rf r) (fun r => va_rf_or r) (Or.inl ⟨_, rfl⟩) (cc := cX7_deed) (maxL := 1) (by decide) rfl ⟨by simp [Value.category], Nat.le_of_ble_eq_true rfl⟩ ?_
  intro K hl hC hSF hnm hE
  subst hl
  have q0_ : ∀ w ∈ u_ws RX7 TX7 7, w ∈ wsX7_deed := by decide +kernel
  have q1_ : Cond.fieldLink RX7 25 "FeatherShares$Program" "deed" "LFeatherShares$Deed;" ∈ wsX7_deed := by decide +kernel
  show V G K 1 0 0 0 [some (.ref hq)] [] [(hq, .inr (8, [.ref tx, .ref ag, .ref dd, .int (nI ln), .int (nI sr), .int (nI rc), .int (nI an)])), (tx, .inl (gC G, 60, .inl tf)), (ag, .inl (gI G, 3, .inl af))]
  refine V.aload_n hC (x := hq) dX7_deed_0 rfl ?_
  refine V.getf hC (T := TX7) q0_ 2 q1_ rfl (0) rfl rfl (by decide) (.ref dd) rfl dX7_deed_1 ?_
  exact hE 4 _ (some dd) () dX7_deed_4 rfl

set_option maxHeartbeats 4000000 in
set_option maxRecDepth 100000 in
theorem c_argument (l : Launch) (G : Gx) (hq tx ag dd ln sr rc an : Nat) (tf af : Nat → Int32) (hln : ln ≤ 60) (han : an ≤ 3) (i : Nat) (hi : i < 3) : Ct l G SF0 yX7_argument wsX7_argument ({ frames := 0, cells := 0, slots := 0, locals := 0 }) [.ref hq, .int (nI i)] [(hq, .inr (8, [.ref tx, .ref ag, .ref dd, .int (nI ln), .int (nI sr), .int (nI rc), .int (nI an)])), (tx, .inl (gC G, 60, .inl tf)), (ag, .inl (gI G, 3, .inl af))] mkI (fun (r : Int32) (_ : Unit) => r = if i < an then af i else 0) (fun _ : Unit => [(hq, .inr (8, [.ref tx, .ref ag, .ref dd, .int (nI ln), .int (nI sr), .int (nI rc), .int (nI an)])), (tx, .inl (gC G, 60, .inl tf)), (ag, .inl (gI G, 3, .inl af))]) 0 0 := by
  refine Ct.ofI (cc := cX7_argument) (maxL := 2) (by decide) rfl ⟨by simp [Value.category], Nat.le_of_ble_eq_true rfl⟩ ?_
  intro K hl hC hSF hnm hE
  subst hl
  have q0_ : ∀ w ∈ u_ws RX7 TX7 7, w ∈ wsX7_argument := by decide +kernel
  have q1_ : Cond.fieldLink RX7 35 "FeatherShares$Program" "argumentsRead" "I" ∈ wsX7_argument := by decide +kernel
  have q2_ : Cond.fieldLink RX7 15 "FeatherShares$Program" "arguments" "[I" ∈ wsX7_argument := by decide +kernel
  show V G K 2 0 0 0 [some (.ref hq), some (.int (nI i))] [] [(hq, .inr (8, [.ref tx, .ref ag, .ref dd, .int (nI ln), .int (nI sr), .int (nI rc), .int (nI an)])), (tx, .inl (gC G, 60, .inl tf)), (ag, .inl (gI G, 3, .inl af))]
  refine V.iload_n hC (x := nI i) dX7_argument_0 rfl ?_
  refine V.ifN_lt hC i 26 dX7_argument_1 rfl rfl (by omega) ?_
  refine V.iload_n hC (x := nI i) dX7_argument_4 rfl ?_
  refine V.aload_n hC (x := hq) dX7_argument_5 rfl ?_
  refine V.getf hC (T := TX7) q0_ 6 q1_ rfl (0) rfl rfl (by decide) (.int (nI an)) rfl dX7_argument_6 ?_
  refine V.icmpN_ge hC i an 26 dX7_argument_9 rfl rfl rfl (by omega) (by omega) (fun c_9 => ?_) (fun c_9 => ?_)
  · refine V.iconst hC 0 dX7_argument_26 rfl ?_
    exact hE 27 _ 0 () dX7_argument_27 rfl ((if_neg (by omega)).symm)
  · refine V.iload_n hC (x := nI i) dX7_argument_12 rfl ?_
    refine V.iconst hC 3 dX7_argument_13 rfl ?_
    refine V.icmpN_ge hC i 3 26 dX7_argument_14 rfl rfl rfl (by omega) (by omega) (fun c_14 => ?_) (fun c_14 => ?_)
    · refine V.iconst hC 0 dX7_argument_26 rfl ?_
      exact hE 27 _ 0 () dX7_argument_27 rfl (absurd hi (by omega))
    · refine V.aload_n hC (x := hq) dX7_argument_17 rfl ?_
      refine V.getf hC (T := TX7) q0_ 1 q2_ rfl (0) rfl rfl (by decide) (.ref ag) rfl dX7_argument_18 ?_
      refine V.iload_n hC (x := nI i) dX7_argument_21 rfl ?_
      refine V.iald hC dX7_argument_22 (2) rfl i rfl (by omega) (by decide) ?_
      refine V.goto hC 27 dX7_argument_23 rfl ?_
      exact hE 27 _ (af i) () dX7_argument_27 rfl ((if_pos c_9).symm)

set_option maxHeartbeats 4000000 in
set_option maxRecDepth 100000 in
theorem c_passCommand (l : Launch) (G : Gx) (hq tx ag dd ln sr rc an : Nat) (tf af : Nat → Int32) (hln : ln ≤ 60) (hrc : rc ≤ 60) : Ct l G SF0 yX7_passCommand wsX7_passCommand ({ frames := 0, cells := 0, slots := 0, locals := 0 }) [.ref hq] [(hq, .inr (8, [.ref tx, .ref ag, .ref dd, .int (nI ln), .int (nI sr), .int (nI rc), .int (nI an)])), (tx, .inl (gC G, 60, .inl tf)), (ag, .inl (gI G, 3, .inl af))] mkV (fun (_ : Unit) (_ : Unit) => True) (fun _ : Unit => [(hq, .inr (8, [.ref tx, .ref ag, .ref dd, .int (nI ln), .int (nI (rc + 1)), .int (nI rc), .int (nI an)])), (tx, .inl (gC G, 60, .inl tf)), (ag, .inl (gI G, 3, .inl af))]) 0 0 := by
  refine Ct.ofV (cc := cX7_passCommand) (maxL := 1) (by decide) rfl ⟨by simp [Value.category], Nat.le_of_ble_eq_true rfl⟩ ?_
  intro K hl hC hSF hnm hE
  subst hl
  have q0_ : ∀ w ∈ u_ws RX7 TX7 7, w ∈ wsX7_passCommand := by decide +kernel
  have q1_ : Cond.fieldLink RX7 45 "FeatherShares$Program" "reached" "I" ∈ wsX7_passCommand := by decide +kernel
  have q2_ : Cond.fieldLink RX7 32 "FeatherShares$Program" "start" "I" ∈ wsX7_passCommand := by decide +kernel
  show V G K 1 0 0 0 [some (.ref hq)] [] [(hq, .inr (8, [.ref tx, .ref ag, .ref dd, .int (nI ln), .int (nI sr), .int (nI rc), .int (nI an)])), (tx, .inl (gC G, 60, .inl tf)), (ag, .inl (gI G, 3, .inl af))]
  refine V.aload_n hC (x := hq) dX7_passCommand_0 rfl ?_
  refine V.aload_n hC (x := hq) dX7_passCommand_1 rfl ?_
  refine V.getf hC (T := TX7) q0_ 5 q1_ rfl (0) rfl rfl (by decide) (.int (nI rc)) rfl dX7_passCommand_2 ?_
  refine V.iconst hC 1 dX7_passCommand_5 rfl ?_
  refine V.iaddN hC rc 1 dX7_passCommand_6 rfl rfl ?_
  refine V.putf hC (T := TX7) q0_ tyX7 tyX7_ok nmX7 4 q2_ rfl rfl (0) rfl rfl (by decide) (by simp) rfl rfl dX7_passCommand_7 [(hq, .inr (8, [.ref tx, .ref ag, .ref dd, .int (nI ln), .int (nI (rc + 1)), .int (nI rc), .int (nI an)])), (tx, .inl (gC G, 60, .inl tf)), (ag, .inl (gI G, 3, .inl af))] rfl ?_
  exact hE 10 _ () dX7_passCommand_10 trivial

set_option maxHeartbeats 4000000 in
set_option maxRecDepth 100000 in
theorem c_signAt (l : Launch) (G : Gx) (hq tx ag dd ln sr rc an : Nat) (tf af : Nat → Int32) (hln : ln ≤ 60) (i : Nat) (hi : i < 1000) : Ct l G SF0 yX7_signAt wsX7_signAt ({ frames := 0, cells := 0, slots := 0, locals := 0 }) [.ref hq, .int (nI i)] [(hq, .inr (8, [.ref tx, .ref ag, .ref dd, .int (nI ln), .int (nI sr), .int (nI rc), .int (nI an)])), (tx, .inl (gC G, 60, .inl tf)), (ag, .inl (gI G, 3, .inl af))] mkI (fun (r : Int32) (_ : Unit) => r = sgn tf ln i) (fun _ : Unit => [(hq, .inr (8, [.ref tx, .ref ag, .ref dd, .int (nI ln), .int (nI sr), .int (nI rc), .int (nI an)])), (tx, .inl (gC G, 60, .inl tf)), (ag, .inl (gI G, 3, .inl af))]) 0 0 := by
  refine Ct.ofI (cc := cX7_signAt) (maxL := 2) (by decide) rfl ⟨by simp [Value.category], Nat.le_of_ble_eq_true rfl⟩ ?_
  intro K hl hC hSF hnm hE
  subst hl
  have q0_ : ∀ w ∈ u_ws RX7 TX7 7, w ∈ wsX7_signAt := by decide +kernel
  have q1_ : Cond.fieldLink RX7 28 "FeatherShares$Program" "length" "I" ∈ wsX7_signAt := by decide +kernel
  have q2_ : Cond.fieldLink RX7 9 "FeatherShares$Program" "text" "[C" ∈ wsX7_signAt := by decide +kernel
  show V G K 2 0 0 0 [some (.ref hq), some (.int (nI i))] [] [(hq, .inr (8, [.ref tx, .ref ag, .ref dd, .int (nI ln), .int (nI sr), .int (nI rc), .int (nI an)])), (tx, .inl (gC G, 60, .inl tf)), (ag, .inl (gI G, 3, .inl af))]
  refine V.iload_n hC (x := nI i) dX7_signAt_0 rfl ?_
  refine V.ifN_lt hC i 21 dX7_signAt_1 rfl rfl (by omega) ?_
  refine V.iload_n hC (x := nI i) dX7_signAt_4 rfl ?_
  refine V.aload_n hC (x := hq) dX7_signAt_5 rfl ?_
  refine V.getf hC (T := TX7) q0_ 3 q1_ rfl (0) rfl rfl (by decide) (.int (nI ln)) rfl dX7_signAt_6 ?_
  refine V.icmpN_ge hC i ln 21 dX7_signAt_9 rfl rfl rfl (by omega) (by omega) (fun c_9 => ?_) (fun c_9 => ?_)
  · refine V.iconst hC (-1) dX7_signAt_21 rfl ?_
    exact hE 22 _ (-1) () dX7_signAt_22 rfl (by rw [sgn, if_neg (by omega)])
  · refine V.aload_n hC (x := hq) dX7_signAt_12 rfl ?_
    refine V.getf hC (T := TX7) q0_ 0 q2_ rfl (0) rfl rfl (by decide) (.ref tx) rfl dX7_signAt_13 ?_
    refine V.iload_n hC (x := nI i) dX7_signAt_16 rfl ?_
    refine V.cald hC dX7_signAt_17 (1) rfl i rfl (by omega) (by decide) ?_
    refine V.goto hC 22 dX7_signAt_18 rfl ?_
    exact hE 22 _ (tf i) () dX7_signAt_22 rfl (by rw [sgn, if_pos (by omega)])

set_option maxHeartbeats 4000000 in
set_option maxRecDepth 100000 in
theorem c_isDigit (l : Launch) (G : Gx) (x : Int32) : Ct l G SF0 yX7_isDigit wsX7_isDigit ({ frames := 0, cells := 0, slots := 0, locals := 0 }) [.int x] [] mkI (fun (r : Int32) (_ : Unit) => r = if isD x then 1 else 0) (fun _ : Unit => []) 0 0 := by
  refine Ct.ofI (cc := cX7_isDigit) (maxL := 1) (by decide) rfl ⟨by simp [Value.category], Nat.le_of_ble_eq_true rfl⟩ ?_
  intro K hl hC hSF hnm hE
  subst hl
  show V G K 1 0 0 0 [some (.int x)] [] []
  refine V.iload_n hC (x := x) dX7_isDigit_0 rfl ?_
  refine V.bipush hC 48 dX7_isDigit_1 rfl ?_
  refine V.icmp_lt hC 16 dX7_isDigit_3 rfl (fun c_3 => ?_) (fun c_3 => ?_)
  · refine V.iconst hC 0 dX7_isDigit_16 rfl ?_
    exact hE 17 _ 0 () dX7_isDigit_17 rfl ((if_neg (fun z => z.1 c_3)).symm)
  · refine V.iload_n hC (x := x) dX7_isDigit_6 rfl ?_
    refine V.bipush hC 57 dX7_isDigit_7 rfl ?_
    refine V.icmp_gt hC 16 dX7_isDigit_9 rfl (fun c_9 => ?_) (fun c_9 => ?_)
    · refine V.iconst hC 0 dX7_isDigit_16 rfl ?_
      exact hE 17 _ 0 () dX7_isDigit_17 rfl ((if_neg (fun z => z.2 c_9)).symm)
    · refine V.iconst hC 1 dX7_isDigit_12 rfl ?_
      refine V.goto hC 17 dX7_isDigit_13 rfl ?_
      exact hE 17 _ 1 () dX7_isDigit_17 rfl ((if_pos ⟨c_3, c_9⟩).symm)

set_option maxHeartbeats 4000000 in
set_option maxRecDepth 100000 in
theorem c_readNumber1 (l : Launch) (G : Gx) (hq tx ag dd ln sr rc an : Nat) (tf af : Nat → Int32) (hln : ln ≤ 60) (hrc : rc ≤ 60) (han : an < 3) : Ct l G SF0 yX7_readNumber wsX7_readNumber ({ frames := 1, cells := 0, slots := 0, locals := 21 }) [.ref hq, .int (nI 1)] [(hq, .inr (8, [.ref tx, .ref ag, .ref dd, .int (nI ln), .int (nI sr), .int (nI rc), .int (nI an)])), (tx, .inl (gC G, 60, .inl tf)), (ag, .inl (gI G, 3, .inl af))] mkV (fun (_ : Unit) (_ : Unit) => True) (fun _ : Unit => [(hq, .inr (8, [.ref tx, .ref ag, .ref dd, .int (nI ln), .int (nI sr), .int (nI (rc + dct tf ln rc 1)), .int (nI (an + 1))])), (tx, .inl (gC G, 60, .inl tf)), (ag, .inl (gI G, 3, .inl (upd af an (nmv tf ln rc (dct tf ln rc 1)))))]) 0 0 := by
  refine Ct.ofV (cc := cX7_readNumber) (maxL := 4) (by decide) rfl ⟨by simp [Value.category], Nat.le_of_ble_eq_true rfl⟩ ?_
  intro K hl hC hSF hnm hE
  subst hl
  have q0_ : ∀ w ∈ u_ws RX7 TX7 7, w ∈ wsX7_readNumber := by decide +kernel
  have q1_ : Cond.fieldLink RX7 35 "FeatherShares$Program" "argumentsRead" "I" ∈ wsX7_readNumber := by decide +kernel
  have q2_ : Cond.fieldLink RX7 15 "FeatherShares$Program" "arguments" "[I" ∈ wsX7_readNumber := by decide +kernel
  have q3_ : Cond.fieldLink RX7 45 "FeatherShares$Program" "reached" "I" ∈ wsX7_readNumber := by decide +kernel
  show V G K 4 0 0 0 [some (.ref hq), some (.int (nI 1)), none, none] [] [(hq, .inr (8, [.ref tx, .ref ag, .ref dd, .int (nI ln), .int (nI sr), .int (nI rc), .int (nI an)])), (tx, .inl (gC G, 60, .inl tf)), (ag, .inl (gI G, 3, .inl af))]
  refine V.iconst hC 0 dX7_readNumber_0 rfl ?_
  refine V.istore_n hC dX7_readNumber_1 [some (.ref hq), some (.int (nI 1)), some (.int 0), none] (Nat.le_of_ble_eq_true rfl) rfl ?_
  refine V.iconst hC 0 dX7_readNumber_2 rfl ?_
  refine V.istore_n hC dX7_readNumber_3 [some (.ref hq), some (.int (nI 1)), some (.int 0), some (.int 0)] (Nat.le_of_ble_eq_true rfl) rfl ?_
  have loop4 : ∀ (n : Nat) (j : Nat), 2 - j < n → (j ≤ 1) → (dct tf ln rc j = j) → V G K 4 0 0 4 [some (.ref hq), some (.int (nI 1)), some (.int (nmv tf ln rc j)), some (.int (nI j))] [] [(hq, .inr (8, [.ref tx, .ref ag, .ref dd, .int (nI ln), .int (nI sr), .int (nI (rc + j)), .int (nI an)])), (tx, .inl (gC G, 60, .inl tf)), (ag, .inl (gI G, 3, .inl af))] := by
    intro n
    induction n with
    | zero => intro j hlt; exact absurd hlt (Nat.not_lt_zero _)
    | succ n ih4 =>
      intro j hlt4 hj hd
      refine V.iload_n hC (x := nI j) dX7_readNumber_4 rfl ?_
      refine V.iload_n hC (x := nI 1) dX7_readNumber_5 rfl ?_
      refine V.icmpN_ge hC j 1 56 dX7_readNumber_6 rfl rfl rfl (by omega) (by omega) (fun c_6 => ?_) (fun c_6 => ?_)
      · have hj9 : dct tf ln rc 1 = j := (by rw [show 1 = j by omega]; exact hd)
        refine V.aload_n hC (x := hq) dX7_readNumber_56 rfl ?_
        refine V.getf hC (T := TX7) q0_ 6 q1_ rfl (0) rfl rfl (by decide) (.int (nI an)) rfl dX7_readNumber_57 ?_
        refine V.iconst hC 3 dX7_readNumber_60 rfl ?_
        refine V.icmpN_ge hC an 3 84 dX7_readNumber_61 rfl rfl rfl (by omega) (by omega) (fun c_61 => ?_) (fun c_61 => ?_)
        · exact absurd c_61 (by omega)
        · refine V.aload_n hC (x := hq) dX7_readNumber_64 rfl ?_
          refine V.getf hC (T := TX7) q0_ 1 q2_ rfl (0) rfl rfl (by decide) (.ref ag) rfl dX7_readNumber_65 ?_
          refine V.aload_n hC (x := hq) dX7_readNumber_68 rfl ?_
          refine V.getf hC (T := TX7) q0_ 6 q1_ rfl (0) rfl rfl (by decide) (.int (nI an)) rfl dX7_readNumber_69 ?_
          refine V.iload_n hC (x := nmv tf ln rc j) dX7_readNumber_72 rfl ?_
          refine V.iast hC dX7_readNumber_73 (2) rfl an rfl (by omega) (by decide) [(hq, .inr (8, [.ref tx, .ref ag, .ref dd, .int (nI ln), .int (nI sr), .int (nI (rc + j)), .int (nI an)])), (tx, .inl (gC G, 60, .inl tf)), (ag, .inl (gI G, 3, .inl (upd af an (nmv tf ln rc j))))] rfl ?_
          refine V.aload_n hC (x := hq) dX7_readNumber_74 rfl ?_
          refine V.dup hC dX7_readNumber_75 rfl ?_
          refine V.getf hC (T := TX7) q0_ 6 q1_ rfl (0) rfl rfl (by decide) (.int (nI an)) rfl dX7_readNumber_76 ?_
          refine V.iconst hC 1 dX7_readNumber_79 rfl ?_
          refine V.iaddN hC an 1 dX7_readNumber_80 rfl rfl ?_
          refine V.putf hC (T := TX7) q0_ tyX7 tyX7_ok nmX7 6 q1_ rfl rfl (0) rfl rfl (by decide) (by simp) rfl rfl dX7_readNumber_81 [(hq, .inr (8, [.ref tx, .ref ag, .ref dd, .int (nI ln), .int (nI sr), .int (nI (rc + j)), .int (nI (an + 1))])), (tx, .inl (gC G, 60, .inl tf)), (ag, .inl (gI G, 3, .inl (upd af an (nmv tf ln rc j))))] rfl ?_
          refine V.eqw (ws' := [(hq, .inr (8, [.ref tx, .ref ag, .ref dd, .int (nI ln), .int (nI sr), .int (nI (rc + dct tf ln rc 1)), .int (nI (an + 1))])), (tx, .inl (gC G, 60, .inl tf)), (ag, .inl (gI G, 3, .inl (upd af an (nmv tf ln rc (dct tf ln rc 1)))))]) (by rw [hj9]) ?_
          exact hE 84 _ () dX7_readNumber_84 trivial
      · refine V.aload_n hC (x := hq) dX7_readNumber_9 rfl ?_
        refine V.aload_n hC (x := hq) dX7_readNumber_10 rfl ?_
        refine V.getf hC (T := TX7) q0_ 5 q3_ rfl (0) rfl rfl (by decide) (.int (nI (rc + j))) rfl dX7_readNumber_11 ?_
        refine V.callVr (n := 1) (As := [.int (nI (rc + j))]) (rest := []) hC (c_signAt (kl K) G hq tx ag dd ln sr (rc + j) an tf af hln (rc + j) (by omega)) SFk0 SFgo0 gX7_readNumber_X7_signAt rfl ⟨rfl, rfl⟩ (by decide +kernel) ⟨by decide, by decide, by decide, by decide⟩ [0, 1, 2] rfl (by decide) rfl rfl rfl rfl (Nat.le_of_ble_eq_true rfl) dX7_readNumber_14 (fun r_14 u_14 hp_14 => ?_)
        subst hp_14
        show V G K 4 0 0 17 [some (.ref hq), some (.int (nI 1)), some (.int (nmv tf ln rc j)), some (.int (nI j))] [.int (sgn tf ln (rc + j))] [(hq, .inr (8, [.ref tx, .ref ag, .ref dd, .int (nI ln), .int (nI sr), .int (nI (rc + j)), .int (nI an)])), (tx, .inl (gC G, 60, .inl tf)), (ag, .inl (gI G, 3, .inl af))]
        refine V.callSr (n := 1) (As := [.int (sgn tf ln (rc + j))]) (rest := []) hC (c_isDigit (kl K) G (sgn tf ln (rc + j))) SFk0 SFgo0 gX7_readNumber_X7_isDigit rfl ⟨rfl, rfl⟩ (by decide +kernel) ⟨by decide, by decide, by decide, by decide⟩ [] rfl (by decide) rfl rfl (Nat.le_of_ble_eq_true rfl) dX7_readNumber_17 (fun r_17 u_17 hp_17 => ?_)
        subst hp_17
        show V G K 4 0 0 20 [some (.ref hq), some (.int (nI 1)), some (.int (nmv tf ln rc j)), some (.int (nI j))] [.int (if isD (sgn tf ln (rc + j)) then 1 else 0)] [(hq, .inr (8, [.ref tx, .ref ag, .ref dd, .int (nI ln), .int (nI sr), .int (nI (rc + j)), .int (nI an)])), (tx, .inl (gC G, 60, .inl tf)), (ag, .inl (gI G, 3, .inl af))]
        refine V.if_eq hC 56 dX7_readNumber_20 rfl (fun c_20 => ?_) (fun c_20 => ?_)
        · have hj9 : dct tf ln rc 1 = j := (by have := dct_stop hd (if10 c_20) (1 - j); rw [show j + (1 - j) = 1 by omega] at this; exact this)
          refine V.aload_n hC (x := hq) dX7_readNumber_56 rfl ?_
          refine V.getf hC (T := TX7) q0_ 6 q1_ rfl (0) rfl rfl (by decide) (.int (nI an)) rfl dX7_readNumber_57 ?_
          refine V.iconst hC 3 dX7_readNumber_60 rfl ?_
          refine V.icmpN_ge hC an 3 84 dX7_readNumber_61 rfl rfl rfl (by omega) (by omega) (fun c_61 => ?_) (fun c_61 => ?_)
          · exact absurd c_61 (by omega)
          · refine V.aload_n hC (x := hq) dX7_readNumber_64 rfl ?_
            refine V.getf hC (T := TX7) q0_ 1 q2_ rfl (0) rfl rfl (by decide) (.ref ag) rfl dX7_readNumber_65 ?_
            refine V.aload_n hC (x := hq) dX7_readNumber_68 rfl ?_
            refine V.getf hC (T := TX7) q0_ 6 q1_ rfl (0) rfl rfl (by decide) (.int (nI an)) rfl dX7_readNumber_69 ?_
            refine V.iload_n hC (x := nmv tf ln rc j) dX7_readNumber_72 rfl ?_
            refine V.iast hC dX7_readNumber_73 (2) rfl an rfl (by omega) (by decide) [(hq, .inr (8, [.ref tx, .ref ag, .ref dd, .int (nI ln), .int (nI sr), .int (nI (rc + j)), .int (nI an)])), (tx, .inl (gC G, 60, .inl tf)), (ag, .inl (gI G, 3, .inl (upd af an (nmv tf ln rc j))))] rfl ?_
            refine V.aload_n hC (x := hq) dX7_readNumber_74 rfl ?_
            refine V.dup hC dX7_readNumber_75 rfl ?_
            refine V.getf hC (T := TX7) q0_ 6 q1_ rfl (0) rfl rfl (by decide) (.int (nI an)) rfl dX7_readNumber_76 ?_
            refine V.iconst hC 1 dX7_readNumber_79 rfl ?_
            refine V.iaddN hC an 1 dX7_readNumber_80 rfl rfl ?_
            refine V.putf hC (T := TX7) q0_ tyX7 tyX7_ok nmX7 6 q1_ rfl rfl (0) rfl rfl (by decide) (by simp) rfl rfl dX7_readNumber_81 [(hq, .inr (8, [.ref tx, .ref ag, .ref dd, .int (nI ln), .int (nI sr), .int (nI (rc + j)), .int (nI (an + 1))])), (tx, .inl (gC G, 60, .inl tf)), (ag, .inl (gI G, 3, .inl (upd af an (nmv tf ln rc j))))] rfl ?_
            refine V.eqw (ws' := [(hq, .inr (8, [.ref tx, .ref ag, .ref dd, .int (nI ln), .int (nI sr), .int (nI (rc + dct tf ln rc 1)), .int (nI (an + 1))])), (tx, .inl (gC G, 60, .inl tf)), (ag, .inl (gI G, 3, .inl (upd af an (nmv tf ln rc (dct tf ln rc 1)))))]) (by rw [hj9]) ?_
            exact hE 84 _ () dX7_readNumber_84 trivial
        · refine V.iload_n hC (x := nmv tf ln rc j) dX7_readNumber_23 rfl ?_
          refine V.bipush hC 10 dX7_readNumber_24 rfl ?_
          refine V.imul hC dX7_readNumber_26 ?_
          refine V.aload_n hC (x := hq) dX7_readNumber_27 rfl ?_
          refine V.aload_n hC (x := hq) dX7_readNumber_28 rfl ?_
          refine V.getf hC (T := TX7) q0_ 5 q3_ rfl (0) rfl rfl (by decide) (.int (nI (rc + j))) rfl dX7_readNumber_29 ?_
          refine V.callVr (n := 1) (As := [.int (nI (rc + j))]) (rest := [.int ((nmv tf ln rc j) * 10)]) hC (c_signAt (kl K) G hq tx ag dd ln sr (rc + j) an tf af hln (rc + j) (by omega)) SFk0 SFgo0 gX7_readNumber_X7_signAt rfl ⟨rfl, rfl⟩ (by decide +kernel) ⟨by decide, by decide, by decide, by decide⟩ [0, 1, 2] rfl (by decide) rfl rfl rfl rfl (Nat.le_of_ble_eq_true rfl) dX7_readNumber_32 (fun r_32 u_32 hp_32 => ?_)
          subst hp_32
          show V G K 4 0 0 35 [some (.ref hq), some (.int (nI 1)), some (.int (nmv tf ln rc j)), some (.int (nI j))] [.int (sgn tf ln (rc + j)), .int ((nmv tf ln rc j) * 10)] [(hq, .inr (8, [.ref tx, .ref ag, .ref dd, .int (nI ln), .int (nI sr), .int (nI (rc + j)), .int (nI an)])), (tx, .inl (gC G, 60, .inl tf)), (ag, .inl (gI G, 3, .inl af))]
          refine V.iadd hC dX7_readNumber_35 ?_
          refine V.bipush hC 48 dX7_readNumber_36 rfl ?_
          refine V.isub hC dX7_readNumber_38 ?_
          refine V.istore_n hC dX7_readNumber_39 [some (.ref hq), some (.int (nI 1)), some (.int ((((nmv tf ln rc j) * 10) + (sgn tf ln (rc + j))) - 48)), some (.int (nI j))] (Nat.le_of_ble_eq_true rfl) rfl ?_
          refine V.lset 2 (x := .int ((((nmv tf ln rc j) * 10) + (sgn tf ln (rc + j))) - 48)) (y := .int (nmv tf ln rc (j + 1))) (congrArg Value.int (by rw [nmv])) rfl (lv' := [some (.ref hq), some (.int (nI 1)), some (.int (nmv tf ln rc (j + 1))), some (.int (nI j))]) rfl ?_
          refine V.aload_n hC (x := hq) dX7_readNumber_40 rfl ?_
          refine V.dup hC dX7_readNumber_41 rfl ?_
          refine V.getf hC (T := TX7) q0_ 5 q3_ rfl (0) rfl rfl (by decide) (.int (nI (rc + j))) rfl dX7_readNumber_42 ?_
          refine V.iconst hC 1 dX7_readNumber_45 rfl ?_
          refine V.iaddN hC (rc + j) 1 dX7_readNumber_46 rfl rfl ?_
          refine V.putf hC (T := TX7) q0_ tyX7 tyX7_ok nmX7 5 q3_ rfl rfl (0) rfl rfl (by decide) (by simp) rfl rfl dX7_readNumber_47 [(hq, .inr (8, [.ref tx, .ref ag, .ref dd, .int (nI ln), .int (nI sr), .int (nI ((rc + j) + 1)), .int (nI an)])), (tx, .inl (gC G, 60, .inl tf)), (ag, .inl (gI G, 3, .inl af))] rfl ?_
          refine V.iincN hC j 1 dX7_readNumber_50 rfl [some (.ref hq), some (.int (nI 1)), some (.int (nmv tf ln rc (j + 1))), some (.int (nI (j + 1)))] (Nat.le_of_ble_eq_true rfl) rfl rfl rfl ?_
          refine V.goto hC 4 dX7_readNumber_53 rfl ?_
          exact ih4 (j + 1) (by omega) (by omega) (dct_go hd (if10n c_20))
  exact loop4 _ 0 (Nat.lt_succ_self _) (by omega) rfl

set_option maxHeartbeats 4000000 in
set_option maxRecDepth 100000 in
theorem c_readNumber2 (l : Launch) (G : Gx) (hq tx ag dd ln sr rc an : Nat) (tf af : Nat → Int32) (hln : ln ≤ 60) (hrc : rc ≤ 60) (han : an < 3) : Ct l G SF0 yX7_readNumber wsX7_readNumber ({ frames := 1, cells := 0, slots := 0, locals := 21 }) [.ref hq, .int (nI 2)] [(hq, .inr (8, [.ref tx, .ref ag, .ref dd, .int (nI ln), .int (nI sr), .int (nI rc), .int (nI an)])), (tx, .inl (gC G, 60, .inl tf)), (ag, .inl (gI G, 3, .inl af))] mkV (fun (_ : Unit) (_ : Unit) => True) (fun _ : Unit => [(hq, .inr (8, [.ref tx, .ref ag, .ref dd, .int (nI ln), .int (nI sr), .int (nI (rc + dct tf ln rc 2)), .int (nI (an + 1))])), (tx, .inl (gC G, 60, .inl tf)), (ag, .inl (gI G, 3, .inl (upd af an (nmv tf ln rc (dct tf ln rc 2)))))]) 0 0 := by
  refine Ct.ofV (cc := cX7_readNumber) (maxL := 4) (by decide) rfl ⟨by simp [Value.category], Nat.le_of_ble_eq_true rfl⟩ ?_
  intro K hl hC hSF hnm hE
  subst hl
  have q0_ : ∀ w ∈ u_ws RX7 TX7 7, w ∈ wsX7_readNumber := by decide +kernel
  have q1_ : Cond.fieldLink RX7 35 "FeatherShares$Program" "argumentsRead" "I" ∈ wsX7_readNumber := by decide +kernel
  have q2_ : Cond.fieldLink RX7 15 "FeatherShares$Program" "arguments" "[I" ∈ wsX7_readNumber := by decide +kernel
  have q3_ : Cond.fieldLink RX7 45 "FeatherShares$Program" "reached" "I" ∈ wsX7_readNumber := by decide +kernel
  show V G K 4 0 0 0 [some (.ref hq), some (.int (nI 2)), none, none] [] [(hq, .inr (8, [.ref tx, .ref ag, .ref dd, .int (nI ln), .int (nI sr), .int (nI rc), .int (nI an)])), (tx, .inl (gC G, 60, .inl tf)), (ag, .inl (gI G, 3, .inl af))]
  refine V.iconst hC 0 dX7_readNumber_0 rfl ?_
  refine V.istore_n hC dX7_readNumber_1 [some (.ref hq), some (.int (nI 2)), some (.int 0), none] (Nat.le_of_ble_eq_true rfl) rfl ?_
  refine V.iconst hC 0 dX7_readNumber_2 rfl ?_
  refine V.istore_n hC dX7_readNumber_3 [some (.ref hq), some (.int (nI 2)), some (.int 0), some (.int 0)] (Nat.le_of_ble_eq_true rfl) rfl ?_
  have loop4 : ∀ (n : Nat) (j : Nat), 3 - j < n → (j ≤ 2) → (dct tf ln rc j = j) → V G K 4 0 0 4 [some (.ref hq), some (.int (nI 2)), some (.int (nmv tf ln rc j)), some (.int (nI j))] [] [(hq, .inr (8, [.ref tx, .ref ag, .ref dd, .int (nI ln), .int (nI sr), .int (nI (rc + j)), .int (nI an)])), (tx, .inl (gC G, 60, .inl tf)), (ag, .inl (gI G, 3, .inl af))] := by
    intro n
    induction n with
    | zero => intro j hlt; exact absurd hlt (Nat.not_lt_zero _)
    | succ n ih4 =>
      intro j hlt4 hj hd
      refine V.iload_n hC (x := nI j) dX7_readNumber_4 rfl ?_
      refine V.iload_n hC (x := nI 2) dX7_readNumber_5 rfl ?_
      refine V.icmpN_ge hC j 2 56 dX7_readNumber_6 rfl rfl rfl (by omega) (by omega) (fun c_6 => ?_) (fun c_6 => ?_)
      · have hj9 : dct tf ln rc 2 = j := (by rw [show 2 = j by omega]; exact hd)
        refine V.aload_n hC (x := hq) dX7_readNumber_56 rfl ?_
        refine V.getf hC (T := TX7) q0_ 6 q1_ rfl (0) rfl rfl (by decide) (.int (nI an)) rfl dX7_readNumber_57 ?_
        refine V.iconst hC 3 dX7_readNumber_60 rfl ?_
        refine V.icmpN_ge hC an 3 84 dX7_readNumber_61 rfl rfl rfl (by omega) (by omega) (fun c_61 => ?_) (fun c_61 => ?_)
        · exact absurd c_61 (by omega)
        · refine V.aload_n hC (x := hq) dX7_readNumber_64 rfl ?_
          refine V.getf hC (T := TX7) q0_ 1 q2_ rfl (0) rfl rfl (by decide) (.ref ag) rfl dX7_readNumber_65 ?_
          refine V.aload_n hC (x := hq) dX7_readNumber_68 rfl ?_
          refine V.getf hC (T := TX7) q0_ 6 q1_ rfl (0) rfl rfl (by decide) (.int (nI an)) rfl dX7_readNumber_69 ?_
          refine V.iload_n hC (x := nmv tf ln rc j) dX7_readNumber_72 rfl ?_
          refine V.iast hC dX7_readNumber_73 (2) rfl an rfl (by omega) (by decide) [(hq, .inr (8, [.ref tx, .ref ag, .ref dd, .int (nI ln), .int (nI sr), .int (nI (rc + j)), .int (nI an)])), (tx, .inl (gC G, 60, .inl tf)), (ag, .inl (gI G, 3, .inl (upd af an (nmv tf ln rc j))))] rfl ?_
          refine V.aload_n hC (x := hq) dX7_readNumber_74 rfl ?_
          refine V.dup hC dX7_readNumber_75 rfl ?_
          refine V.getf hC (T := TX7) q0_ 6 q1_ rfl (0) rfl rfl (by decide) (.int (nI an)) rfl dX7_readNumber_76 ?_
          refine V.iconst hC 1 dX7_readNumber_79 rfl ?_
          refine V.iaddN hC an 1 dX7_readNumber_80 rfl rfl ?_
          refine V.putf hC (T := TX7) q0_ tyX7 tyX7_ok nmX7 6 q1_ rfl rfl (0) rfl rfl (by decide) (by simp) rfl rfl dX7_readNumber_81 [(hq, .inr (8, [.ref tx, .ref ag, .ref dd, .int (nI ln), .int (nI sr), .int (nI (rc + j)), .int (nI (an + 1))])), (tx, .inl (gC G, 60, .inl tf)), (ag, .inl (gI G, 3, .inl (upd af an (nmv tf ln rc j))))] rfl ?_
          refine V.eqw (ws' := [(hq, .inr (8, [.ref tx, .ref ag, .ref dd, .int (nI ln), .int (nI sr), .int (nI (rc + dct tf ln rc 2)), .int (nI (an + 1))])), (tx, .inl (gC G, 60, .inl tf)), (ag, .inl (gI G, 3, .inl (upd af an (nmv tf ln rc (dct tf ln rc 2)))))]) (by rw [hj9]) ?_
          exact hE 84 _ () dX7_readNumber_84 trivial
      · refine V.aload_n hC (x := hq) dX7_readNumber_9 rfl ?_
        refine V.aload_n hC (x := hq) dX7_readNumber_10 rfl ?_
        refine V.getf hC (T := TX7) q0_ 5 q3_ rfl (0) rfl rfl (by decide) (.int (nI (rc + j))) rfl dX7_readNumber_11 ?_
        refine V.callVr (n := 1) (As := [.int (nI (rc + j))]) (rest := []) hC (c_signAt (kl K) G hq tx ag dd ln sr (rc + j) an tf af hln (rc + j) (by omega)) SFk0 SFgo0 gX7_readNumber_X7_signAt rfl ⟨rfl, rfl⟩ (by decide +kernel) ⟨by decide, by decide, by decide, by decide⟩ [0, 1, 2] rfl (by decide) rfl rfl rfl rfl (Nat.le_of_ble_eq_true rfl) dX7_readNumber_14 (fun r_14 u_14 hp_14 => ?_)
        subst hp_14
        show V G K 4 0 0 17 [some (.ref hq), some (.int (nI 2)), some (.int (nmv tf ln rc j)), some (.int (nI j))] [.int (sgn tf ln (rc + j))] [(hq, .inr (8, [.ref tx, .ref ag, .ref dd, .int (nI ln), .int (nI sr), .int (nI (rc + j)), .int (nI an)])), (tx, .inl (gC G, 60, .inl tf)), (ag, .inl (gI G, 3, .inl af))]
        refine V.callSr (n := 1) (As := [.int (sgn tf ln (rc + j))]) (rest := []) hC (c_isDigit (kl K) G (sgn tf ln (rc + j))) SFk0 SFgo0 gX7_readNumber_X7_isDigit rfl ⟨rfl, rfl⟩ (by decide +kernel) ⟨by decide, by decide, by decide, by decide⟩ [] rfl (by decide) rfl rfl (Nat.le_of_ble_eq_true rfl) dX7_readNumber_17 (fun r_17 u_17 hp_17 => ?_)
        subst hp_17
        show V G K 4 0 0 20 [some (.ref hq), some (.int (nI 2)), some (.int (nmv tf ln rc j)), some (.int (nI j))] [.int (if isD (sgn tf ln (rc + j)) then 1 else 0)] [(hq, .inr (8, [.ref tx, .ref ag, .ref dd, .int (nI ln), .int (nI sr), .int (nI (rc + j)), .int (nI an)])), (tx, .inl (gC G, 60, .inl tf)), (ag, .inl (gI G, 3, .inl af))]
        refine V.if_eq hC 56 dX7_readNumber_20 rfl (fun c_20 => ?_) (fun c_20 => ?_)
        · have hj9 : dct tf ln rc 2 = j := (by have := dct_stop hd (if10 c_20) (2 - j); rw [show j + (2 - j) = 2 by omega] at this; exact this)
          refine V.aload_n hC (x := hq) dX7_readNumber_56 rfl ?_
          refine V.getf hC (T := TX7) q0_ 6 q1_ rfl (0) rfl rfl (by decide) (.int (nI an)) rfl dX7_readNumber_57 ?_
          refine V.iconst hC 3 dX7_readNumber_60 rfl ?_
          refine V.icmpN_ge hC an 3 84 dX7_readNumber_61 rfl rfl rfl (by omega) (by omega) (fun c_61 => ?_) (fun c_61 => ?_)
          · exact absurd c_61 (by omega)
          · refine V.aload_n hC (x := hq) dX7_readNumber_64 rfl ?_
            refine V.getf hC (T := TX7) q0_ 1 q2_ rfl (0) rfl rfl (by decide) (.ref ag) rfl dX7_readNumber_65 ?_
            refine V.aload_n hC (x := hq) dX7_readNumber_68 rfl ?_
            refine V.getf hC (T := TX7) q0_ 6 q1_ rfl (0) rfl rfl (by decide) (.int (nI an)) rfl dX7_readNumber_69 ?_
            refine V.iload_n hC (x := nmv tf ln rc j) dX7_readNumber_72 rfl ?_
            refine V.iast hC dX7_readNumber_73 (2) rfl an rfl (by omega) (by decide) [(hq, .inr (8, [.ref tx, .ref ag, .ref dd, .int (nI ln), .int (nI sr), .int (nI (rc + j)), .int (nI an)])), (tx, .inl (gC G, 60, .inl tf)), (ag, .inl (gI G, 3, .inl (upd af an (nmv tf ln rc j))))] rfl ?_
            refine V.aload_n hC (x := hq) dX7_readNumber_74 rfl ?_
            refine V.dup hC dX7_readNumber_75 rfl ?_
            refine V.getf hC (T := TX7) q0_ 6 q1_ rfl (0) rfl rfl (by decide) (.int (nI an)) rfl dX7_readNumber_76 ?_
            refine V.iconst hC 1 dX7_readNumber_79 rfl ?_
            refine V.iaddN hC an 1 dX7_readNumber_80 rfl rfl ?_
            refine V.putf hC (T := TX7) q0_ tyX7 tyX7_ok nmX7 6 q1_ rfl rfl (0) rfl rfl (by decide) (by simp) rfl rfl dX7_readNumber_81 [(hq, .inr (8, [.ref tx, .ref ag, .ref dd, .int (nI ln), .int (nI sr), .int (nI (rc + j)), .int (nI (an + 1))])), (tx, .inl (gC G, 60, .inl tf)), (ag, .inl (gI G, 3, .inl (upd af an (nmv tf ln rc j))))] rfl ?_
            refine V.eqw (ws' := [(hq, .inr (8, [.ref tx, .ref ag, .ref dd, .int (nI ln), .int (nI sr), .int (nI (rc + dct tf ln rc 2)), .int (nI (an + 1))])), (tx, .inl (gC G, 60, .inl tf)), (ag, .inl (gI G, 3, .inl (upd af an (nmv tf ln rc (dct tf ln rc 2)))))]) (by rw [hj9]) ?_
            exact hE 84 _ () dX7_readNumber_84 trivial
        · refine V.iload_n hC (x := nmv tf ln rc j) dX7_readNumber_23 rfl ?_
          refine V.bipush hC 10 dX7_readNumber_24 rfl ?_
          refine V.imul hC dX7_readNumber_26 ?_
          refine V.aload_n hC (x := hq) dX7_readNumber_27 rfl ?_
          refine V.aload_n hC (x := hq) dX7_readNumber_28 rfl ?_
          refine V.getf hC (T := TX7) q0_ 5 q3_ rfl (0) rfl rfl (by decide) (.int (nI (rc + j))) rfl dX7_readNumber_29 ?_
          refine V.callVr (n := 1) (As := [.int (nI (rc + j))]) (rest := [.int ((nmv tf ln rc j) * 10)]) hC (c_signAt (kl K) G hq tx ag dd ln sr (rc + j) an tf af hln (rc + j) (by omega)) SFk0 SFgo0 gX7_readNumber_X7_signAt rfl ⟨rfl, rfl⟩ (by decide +kernel) ⟨by decide, by decide, by decide, by decide⟩ [0, 1, 2] rfl (by decide) rfl rfl rfl rfl (Nat.le_of_ble_eq_true rfl) dX7_readNumber_32 (fun r_32 u_32 hp_32 => ?_)
          subst hp_32
          show V G K 4 0 0 35 [some (.ref hq), some (.int (nI 2)), some (.int (nmv tf ln rc j)), some (.int (nI j))] [.int (sgn tf ln (rc + j)), .int ((nmv tf ln rc j) * 10)] [(hq, .inr (8, [.ref tx, .ref ag, .ref dd, .int (nI ln), .int (nI sr), .int (nI (rc + j)), .int (nI an)])), (tx, .inl (gC G, 60, .inl tf)), (ag, .inl (gI G, 3, .inl af))]
          refine V.iadd hC dX7_readNumber_35 ?_
          refine V.bipush hC 48 dX7_readNumber_36 rfl ?_
          refine V.isub hC dX7_readNumber_38 ?_
          refine V.istore_n hC dX7_readNumber_39 [some (.ref hq), some (.int (nI 2)), some (.int ((((nmv tf ln rc j) * 10) + (sgn tf ln (rc + j))) - 48)), some (.int (nI j))] (Nat.le_of_ble_eq_true rfl) rfl ?_
          refine V.lset 2 (x := .int ((((nmv tf ln rc j) * 10) + (sgn tf ln (rc + j))) - 48)) (y := .int (nmv tf ln rc (j + 1))) (congrArg Value.int (by rw [nmv])) rfl (lv' := [some (.ref hq), some (.int (nI 2)), some (.int (nmv tf ln rc (j + 1))), some (.int (nI j))]) rfl ?_
          refine V.aload_n hC (x := hq) dX7_readNumber_40 rfl ?_
          refine V.dup hC dX7_readNumber_41 rfl ?_
          refine V.getf hC (T := TX7) q0_ 5 q3_ rfl (0) rfl rfl (by decide) (.int (nI (rc + j))) rfl dX7_readNumber_42 ?_
          refine V.iconst hC 1 dX7_readNumber_45 rfl ?_
          refine V.iaddN hC (rc + j) 1 dX7_readNumber_46 rfl rfl ?_
          refine V.putf hC (T := TX7) q0_ tyX7 tyX7_ok nmX7 5 q3_ rfl rfl (0) rfl rfl (by decide) (by simp) rfl rfl dX7_readNumber_47 [(hq, .inr (8, [.ref tx, .ref ag, .ref dd, .int (nI ln), .int (nI sr), .int (nI ((rc + j) + 1)), .int (nI an)])), (tx, .inl (gC G, 60, .inl tf)), (ag, .inl (gI G, 3, .inl af))] rfl ?_
          refine V.iincN hC j 1 dX7_readNumber_50 rfl [some (.ref hq), some (.int (nI 2)), some (.int (nmv tf ln rc (j + 1))), some (.int (nI (j + 1)))] (Nat.le_of_ble_eq_true rfl) rfl rfl rfl ?_
          refine V.goto hC 4 dX7_readNumber_53 rfl ?_
          exact ih4 (j + 1) (by omega) (by omega) (dct_go hd (if10n c_20))
  exact loop4 _ 0 (Nat.lt_succ_self _) (by omega) rfl
