/-! Program: a sign accepted (printed by gen/s33.py) -/
set_option maxHeartbeats 4000000 in
set_option maxRecDepth 100000 in
theorem c_acceptY (l : Launch) (G : Gx) (hq tx ag dd ln sr rc an : Nat) (tf af : Nat → Int32) (hln : ln ≤ 60) (x : Int32) (hx : vp_nar .char x = x) (hl : ln < 60) : Ct l G SF0 yX7_accept wsX7_accept ({ frames := 0, cells := 0, slots := 0, locals := 0 }) [.ref hq, .int x] [(hq, .inr (8, [.ref tx, .ref ag, .ref dd, .int (nI ln), .int (nI sr), .int (nI rc), .int (nI an)])), (tx, .inl (gC G, 60, .inl tf)), (ag, .inl (gI G, 3, .inl af))] mkI (fun (r : Int32) (_ : Unit) => r = 1) (fun _ : Unit => [(hq, .inr (8, [.ref tx, .ref ag, .ref dd, .int (nI (ln + 1)), .int (nI sr), .int (nI rc), .int (nI an)])), (tx, .inl (gC G, 60, .inl (upd tf ln x))), (ag, .inl (gI G, 3, .inl af))]) 0 0 := by
  refine Ct.ofI (cc := cX7_accept) (maxL := 2) (by decide) rfl ⟨by simp [Value.category], Nat.le_of_ble_eq_true rfl⟩ ?_
  intro K hl hC hSF hnm hE
  subst hl
  have q0_ : ∀ w ∈ u_ws RX7 TX7 7, w ∈ wsX7_accept := by decide +kernel
  have q1_ : Cond.fieldLink RX7 28 "FeatherShares$Program" "length" "I" ∈ wsX7_accept := by decide +kernel
  have q2_ : Cond.fieldLink RX7 9 "FeatherShares$Program" "text" "[C" ∈ wsX7_accept := by decide +kernel
  show V G K 2 0 0 0 [some (.ref hq), some (.int x)] [] [(hq, .inr (8, [.ref tx, .ref ag, .ref dd, .int (nI ln), .int (nI sr), .int (nI rc), .int (nI an)])), (tx, .inl (gC G, 60, .inl tf)), (ag, .inl (gI G, 3, .inl af))]
  refine V.aload_n hC (x := hq) dX7_accept_0 rfl ?_
  refine V.getf hC (T := TX7) q0_ 3 q1_ rfl (0) rfl rfl (by decide) (.int (nI ln)) rfl dX7_accept_1 ?_
  refine V.bipush hC 60 dX7_accept_4 rfl ?_
  refine V.icmpN_lt hC ln 60 11 dX7_accept_6 rfl rfl rfl (by omega) (by omega) (fun c_6 => ?_) (fun c_6 => ?_)
  · refine V.aload_n hC (x := hq) dX7_accept_11 rfl ?_
    refine V.getf hC (T := TX7) q0_ 0 q2_ rfl (0) rfl rfl (by decide) (.ref tx) rfl dX7_accept_12 ?_
    refine V.aload_n hC (x := hq) dX7_accept_15 rfl ?_
    refine V.getf hC (T := TX7) q0_ 3 q1_ rfl (0) rfl rfl (by decide) (.int (nI ln)) rfl dX7_accept_16 ?_
    refine V.iload_n hC (x := x) dX7_accept_19 rfl ?_
    refine V.cast hC dX7_accept_20 (1) rfl ln rfl (by omega) (by decide) hx [(hq, .inr (8, [.ref tx, .ref ag, .ref dd, .int (nI ln), .int (nI sr), .int (nI rc), .int (nI an)])), (tx, .inl (gC G, 60, .inl (upd tf ln x))), (ag, .inl (gI G, 3, .inl af))] rfl ?_
    refine V.aload_n hC (x := hq) dX7_accept_21 rfl ?_
    refine V.dup hC dX7_accept_22 rfl ?_
    refine V.getf hC (T := TX7) q0_ 3 q1_ rfl (0) rfl rfl (by decide) (.int (nI ln)) rfl dX7_accept_23 ?_
    refine V.iconst hC 1 dX7_accept_26 rfl ?_
    refine V.iaddN hC ln 1 dX7_accept_27 rfl rfl ?_
    refine V.putf hC (T := TX7) q0_ tyX7 tyX7_ok nmX7 3 q1_ rfl rfl (0) rfl rfl (by decide) (by simp) rfl rfl dX7_accept_28 [(hq, .inr (8, [.ref tx, .ref ag, .ref dd, .int (nI (ln + 1)), .int (nI sr), .int (nI rc), .int (nI an)])), (tx, .inl (gC G, 60, .inl (upd tf ln x))), (ag, .inl (gI G, 3, .inl af))] rfl ?_
    refine V.iconst hC 1 dX7_accept_31 rfl ?_
    exact hE 32 _ 1 () dX7_accept_32 rfl rfl
  · exact absurd hl (by omega)

set_option maxHeartbeats 4000000 in
set_option maxRecDepth 100000 in
theorem c_acceptN (l : Launch) (G : Gx) (hq tx ag dd ln sr rc an : Nat) (tf af : Nat → Int32) (hln : ln ≤ 60) (x : Int32) (hl : ¬ ln < 60) : Ct l G SF0 yX7_accept wsX7_accept ({ frames := 0, cells := 0, slots := 0, locals := 0 }) [.ref hq, .int x] [(hq, .inr (8, [.ref tx, .ref ag, .ref dd, .int (nI ln), .int (nI sr), .int (nI rc), .int (nI an)])), (tx, .inl (gC G, 60, .inl tf)), (ag, .inl (gI G, 3, .inl af))] mkI (fun (r : Int32) (_ : Unit) => r = 0) (fun _ : Unit => [(hq, .inr (8, [.ref tx, .ref ag, .ref dd, .int (nI ln), .int (nI sr), .int (nI rc), .int (nI an)])), (tx, .inl (gC G, 60, .inl tf)), (ag, .inl (gI G, 3, .inl af))]) 0 0 := by
  refine Ct.ofI (cc := cX7_accept) (maxL := 2) (by decide) rfl ⟨by simp [Value.category], Nat.le_of_ble_eq_true rfl⟩ ?_
  intro K hl hC hSF hnm hE
  subst hl
  have q0_ : ∀ w ∈ u_ws RX7 TX7 7, w ∈ wsX7_accept := by decide +kernel
  have q1_ : Cond.fieldLink RX7 28 "FeatherShares$Program" "length" "I" ∈ wsX7_accept := by decide +kernel
  show V G K 2 0 0 0 [some (.ref hq), some (.int x)] [] [(hq, .inr (8, [.ref tx, .ref ag, .ref dd, .int (nI ln), .int (nI sr), .int (nI rc), .int (nI an)])), (tx, .inl (gC G, 60, .inl tf)), (ag, .inl (gI G, 3, .inl af))]
  refine V.aload_n hC (x := hq) dX7_accept_0 rfl ?_
  refine V.getf hC (T := TX7) q0_ 3 q1_ rfl (0) rfl rfl (by decide) (.int (nI ln)) rfl dX7_accept_1 ?_
  refine V.bipush hC 60 dX7_accept_4 rfl ?_
  refine V.icmpN_lt hC ln 60 11 dX7_accept_6 rfl rfl rfl (by omega) (by omega) (fun c_6 => ?_) (fun c_6 => ?_)
  · exact absurd c_6 hl
  · refine V.iconst hC 0 dX7_accept_9 rfl ?_
    exact hE 10 _ 0 () dX7_accept_10 rfl rfl
