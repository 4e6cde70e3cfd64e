/-! Changer (printed by gen/s25.py) -/
theorem V.topr {G : Gx} {K : Cx} {nL cells slots pc : Nat} {lv : List (Option Value)} {st : List Value} {ws : va_W} {x : Nat} (y : Nat) (e : x = y) (h : V G K nL cells slots pc lv (.ref y :: st) ws) : V G K nL cells slots pc lv (.ref x :: st) ws := by rw [e]; exact h
theorem i32_nat {x : Int32} {n : Nat} (hn : n < 2 ^ 31) (h : ¬ x < 0 ∧ x < nI n) : ∃ b, b < n ∧ x = nI b := by
  have h0 : (0 : Int32) ≤ x := Int32.not_lt.mp h.1
  have e1 : (0 : Int) ≤ x.toInt := by have := Int32.le_iff_toInt_le.mp h0; simpa using this
  have e2 : x.toInt < (nI n).toInt := Int32.lt_iff_toInt_lt.mp h.2
  rw [nI_toInt hn] at e2
  refine ⟨x.toInt.toNat, by omega, ?_⟩
  apply Int32.toInt_inj.mp
  rw [nI_toInt (by omega)]
  omega
theorem nI_nonneg {b : Nat} (h : b < 2 ^ 31) : (0 : Int32) ≤ nI b := (nI_leI (a := 0) (b := b) (by decide) h).mpr (Nat.zero_le b)
abbrev isR (x : Int32) : Prop := ¬ x < 0 ∧ x < 97
/-- why a change is refused: 0 not at all, 1 argument, 2 bird, 3 secret, 4 state, 5 holders -/
def pwB (nb : Nat) (x : Int32) : Nat := if ¬ x < 0 ∧ x < 4 then (if 8 ≤ nb then 4 else 0) else 1
def pwM (nb : Nat) (x y : Int32) : Nat := if ¬ x < 0 ∧ x < nI nb then (if ¬ y < 0 ∧ y < 4 then 0 else 1) else 2
def pwS (nb ns : Nat) (x y z : Int32) : Nat := if ¬ isR x then 1 else if y < 1 then 1 else if 4 < y then 1 else if ¬ isR z then 1 else if 6 ≤ ns then 4 else if nI nb < y then 4 else 0
def pwR (f : Option Nat) (y : Int32) : Nat := if f = none then 3 else if isR y then 0 else 1
def pwF (f : Option Nat) : Nat := if f = none then 3 else 0
def pwK (i : Nat) (s : Nat → Int32) (t b : Nat) (z : Int32) : Nat := if i = 4 ∧ (z = 0 ∨ ¬ isR z) then 1 else if (i = 5 ∧ ¬ s b = -1) ∨ (¬ i = 5 ∧ s b = -1) then 4 else if i = 5 ∧ ¬ t ≤ hc s 8 then 5 else 0
set_option maxRecDepth 100000 in
theorem c_ordinalD (l : Launch) (G : Gx) (i : Nat) (hi : i < 8) : Ct l G (SFx G) yJx29ce0_ordinal_8abf5 wsJx29ce0_ordinal_8abf5 ({ frames := 0, cells := 0, slots := 0, locals := 0 }) [.ref (adD G i)] [] mkI (fun (r : Int32) (_ : Unit) => r = nI i) (fun _ : Unit => []) 0 0 := by
  refine Ct.ofI (cc := cJx29ce0_ordinal_8abf5) (maxL := 1) (by decide) rfl ⟨by simp [Value.category], Nat.le_of_ble_eq_true rfl⟩ ?_
  intro K hl hC hSF hnm hE
  subst hl
  have q0_ : Cond.fieldLink RJx29ce0 7 "java/lang/Enum" "ordinal" "I" ∈ wsJx29ce0_ordinal_8abf5 := by decide +kernel
  show V G K 1 0 0 0 [some (.ref (adD G i))] [] []
  refine V.aload_n hC (x := adD G i) dJx29ce0_ordinal_8abf5_0 rfl ?_
  refine V.getOF hC (hSF.dor i hi) q0_ rfl dJx29ce0_ordinal_8abf5_1 ?_
  exact hE 4 _ (nI i) () dJx29ce0_ordinal_8abf5_4 rfl rfl

set_option maxRecDepth 100000 in
theorem c_ordinalP (l : Launch) (G : Gx) (i : Nat) (hi : i < 6) : Ct l G (SFx G) yJx29ce0_ordinal_8abf5 wsJx29ce0_ordinal_8abf5 ({ frames := 0, cells := 0, slots := 0, locals := 0 }) [.ref (adP G i)] [] mkI (fun (r : Int32) (_ : Unit) => r = nI i) (fun _ : Unit => []) 0 0 := by
  refine Ct.ofI (cc := cJx29ce0_ordinal_8abf5) (maxL := 1) (by decide) rfl ⟨by simp [Value.category], Nat.le_of_ble_eq_true rfl⟩ ?_
  intro K hl hC hSF hnm hE
  subst hl
  have q0_ : Cond.fieldLink RJx29ce0 7 "java/lang/Enum" "ordinal" "I" ∈ wsJx29ce0_ordinal_8abf5 := by decide +kernel
  show V G K 1 0 0 0 [some (.ref (adP G i))] [] []
  refine V.aload_n hC (x := adP G i) dJx29ce0_ordinal_8abf5_0 rfl ?_
  refine V.getOF hC (hSF.por i hi) q0_ rfl dJx29ce0_ordinal_8abf5_1 ?_
  exact hE 4 _ (nI i) () dJx29ce0_ordinal_8abf5_4 rfl rfl

set_option maxHeartbeats 4000000 in
set_option maxRecDepth 100000 in
theorem c_isResidue (l : Launch) (G : Gx) (x : Int32) : Ct l G SF0 yX1_isResidue wsX1_isResidue ({ frames := 0, cells := 0, slots := 0, locals := 0 }) [.int x] [] mkI (fun (r : Int32) (_ : Unit) => r = if isR x then 1 else 0) (fun _ : Unit => []) 0 0 := by
  refine Ct.ofI (cc := cX1_isResidue) (maxL := 1) (by decide) rfl ⟨by simp [Value.category], Nat.le_of_ble_eq_true rfl⟩ ?_
  intro K hl hC hSF hnm hE
  subst hl
  show V G K 1 0 0 0 [some (.int x)] [] []
  refine V.iload_n hC (x := x) dX1_isResidue_0 rfl ?_
  refine V.if_lt hC 14 dX1_isResidue_1 rfl (fun c_1 => ?_) (fun c_1 => ?_)
  · refine V.iconst hC 0 dX1_isResidue_14 rfl ?_
    exact hE 15 _ 0 () dX1_isResidue_15 rfl ((if_neg (fun z => z.1 c_1)).symm)
  · refine V.iload_n hC (x := x) dX1_isResidue_4 rfl ?_
    refine V.bipush hC 97 dX1_isResidue_5 rfl ?_
    refine V.icmp_ge hC 14 dX1_isResidue_7 rfl (fun c_7 => ?_) (fun c_7 => ?_)
    · refine V.iconst hC 0 dX1_isResidue_14 rfl ?_
      exact hE 15 _ 0 () dX1_isResidue_15 rfl ((if_neg (fun z => absurd z.2 (Int32.not_lt.mpr c_7))).symm)
    · refine V.iconst hC 1 dX1_isResidue_10 rfl ?_
      refine V.goto hC 15 dX1_isResidue_11 rfl ?_
      exact hE 15 _ 1 () dX1_isResidue_15 rfl ((if_pos ⟨c_1, Int32.not_le.mp c_7⟩).symm)

set_option maxHeartbeats 4000000 in
set_option maxRecDepth 100000 in
theorem c_pwBird (l : Launch) (G : Gx) (hg hr : Nat) (h ah as_ : Nat) (rr ra : Nat → Nat) (hm : Nat → Int32) (nb ns : Nat) (la : Int32) (lo : Int64) (nu : Nat → Int32) (tn : Nat → Nat) (sh : Nat → Nat → Int32) (hb8 : nb ≤ 8) (hs6 : ns ≤ 6) (x : Int32) : Ct l G (SFx G) yX1_problemWithBird wsX1_problemWithBird ({ frames := 1, cells := 0, slots := 0, locals := 20 }) [.ref hg, .int x] ([(hg, .inr (4, [.ref h, .ref hr]))] ++ (stW G h ah as_ rr ra hm nb ns la lo nu tn sh)) mkA (fun (r : Option Nat) (_ : Unit) => r = some (adP G (pwB nb x))) (fun _ : Unit => ([(hg, .inr (4, [.ref h, .ref hr]))] ++ (stW G h ah as_ rr ra hm nb ns la lo nu tn sh))) 0 0 := by
  refine Ct.ofA (mk := fun r : Option Nat => va_rf r) (fun r => va_rf_or r) (Or.inl ⟨_, rfl⟩) (cc := cX1_problemWithBird) (maxL := 2) (by decide) rfl ⟨by simp [Value.category], Nat.le_of_ble_eq_true rfl⟩ ?_
  intro K hl hC hSF hnm hE
  subst hl
  have hgo := SFgoS (SFx.k G) hSF
  have q0_ : ∀ w ∈ u_ws RX1 TX1 2, w ∈ wsX1_problemWithBird := by decide +kernel
  have q1_ : Cond.fieldLink RX1 12 "FeatherShares$Changer" "state" "LFeatherShares$State;" ∈ wsX1_problemWithBird := by decide +kernel
  have q2_ : Cond.fieldLink RX1 62 "FeatherShares$Problem" "NONE" "LFeatherShares$Problem;" ∈ wsX1_problemWithBird := by decide +kernel
  have q3_ : Cond.fieldLink RX1 79 "FeatherShares$Problem" "STATE" "LFeatherShares$Problem;" ∈ wsX1_problemWithBird := by decide +kernel
  have q4_ : Cond.fieldLink RX1 73 "FeatherShares$Problem" "ARGUMENT" "LFeatherShares$Problem;" ∈ wsX1_problemWithBird := by decide +kernel
  show V G K 2 0 0 0 [some (.ref hg), some (.int x)] [] ([(hg, .inr (4, [.ref h, .ref hr]))] ++ (stW G h ah as_ rr ra hm nb ns la lo nu tn sh))
  refine V.iload_n hC (x := x) dX1_problemWithBird_0 rfl ?_
  refine V.callSr (n := 1) (As := [.int x]) (rest := []) hC (c_isNest (kl K) G x) SFk0 SFgo0 gX1_problemWithBird_X11_isNest rfl ⟨rfl, rfl⟩ (by decide +kernel) ⟨by decide, by decide, by decide, by decide⟩ [] rfl (by decide) rfl rfl (Nat.le_of_ble_eq_true rfl) dX1_problemWithBird_1 (fun r_1 u_1 hp_1 => ?_)
  subst hp_1
  show V G K 2 0 0 4 [some (.ref hg), some (.int x)] [.int (if ¬ x < 0 ∧ x < 4 then 1 else 0)] ([(hg, .inr (4, [.ref h, .ref hr]))] ++ (stW G h ah as_ rr ra hm nb ns la lo nu tn sh))
  refine V.if_ne hC 11 dX1_problemWithBird_4 rfl (fun c_4 => ?_) (fun c_4 => ?_)
  · refine V.aload_n hC (x := hg) dX1_problemWithBird_11 rfl ?_
    refine V.getf hC (T := TX1) q0_ 0 q1_ rfl (0) rfl rfl (by decide) (.ref h) rfl dX1_problemWithBird_12 ?_
    refine V.callVr (n := 0) (As := []) (rest := []) hC (c_birdTally (kl K) G h ah as_ rr ra hm nb ns la lo nu tn sh hb8 hs6) SFk0 SFgo0 gX1_problemWithBird_X11_birdTally rfl ⟨rfl, rfl⟩ (by decide +kernel) ⟨by decide, by decide, by decide, by decide⟩ [1, 2, 3, 4, 5, 6, 7, 8, 9, 10, 11, 12, 13, 14, 15] rfl (by decide) rfl rfl rfl rfl (Nat.le_of_ble_eq_true rfl) dX1_problemWithBird_15 (fun r_15 u_15 hp_15 => ?_)
    subst hp_15
    show V G K 2 0 0 18 [some (.ref hg), some (.int x)] [.int (nI nb)] ([(hg, .inr (4, [.ref h, .ref hr]))] ++ (stW G h ah as_ rr ra hm nb ns la lo nu tn sh))
    refine V.bipush hC 8 dX1_problemWithBird_18 rfl ?_
    refine V.icmpN_lt hC nb 8 29 dX1_problemWithBird_20 rfl rfl rfl (by omega) (by omega) (fun c_20 => ?_) (fun c_20 => ?_)
    · refine V.gets hC (n := "NONE") (hSF.pz 0 (by decide)) q2_ rfl dX1_problemWithBird_29 ?_
      exact hE 32 _ (some (adP G 0)) () dX1_problemWithBird_32 (by rw [pwB, if_pos (if10n c_4), if_neg (by omega)])
    · refine V.gets hC (n := "STATE") (hSF.pz 4 (by decide)) q3_ rfl dX1_problemWithBird_23 ?_
      refine V.goto hC 32 dX1_problemWithBird_26 rfl ?_
      exact hE 32 _ (some (adP G 4)) () dX1_problemWithBird_32 (by rw [pwB, if_pos (if10n c_4), if_pos (by omega)])
  · refine V.gets hC (n := "ARGUMENT") (hSF.pz 1 (by decide)) q4_ rfl dX1_problemWithBird_7 ?_
    exact hE 10 _ (some (adP G 1)) () dX1_problemWithBird_10 (by rw [pwB, if_neg (if10 c_4)])

set_option maxHeartbeats 4000000 in
set_option maxRecDepth 100000 in
theorem c_pwMove (l : Launch) (G : Gx) (hg hr : Nat) (h ah as_ : Nat) (rr ra : Nat → Nat) (hm : Nat → Int32) (nb ns : Nat) (la : Int32) (lo : Int64) (nu : Nat → Int32) (tn : Nat → Nat) (sh : Nat → Nat → Int32) (hb8 : nb ≤ 8) (hs6 : ns ≤ 6) (x y : Int32) : Ct l G (SFx G) yX1_problemWithMove wsX1_problemWithMove ({ frames := 1, cells := 0, slots := 0, locals := 21 }) [.ref hg, .int x, .int y] ([(hg, .inr (4, [.ref h, .ref hr]))] ++ (stW G h ah as_ rr ra hm nb ns la lo nu tn sh)) mkA (fun (r : Option Nat) (_ : Unit) => r = some (adP G (pwM nb x y))) (fun _ : Unit => ([(hg, .inr (4, [.ref h, .ref hr]))] ++ (stW G h ah as_ rr ra hm nb ns la lo nu tn sh))) 0 0 := by
  refine Ct.ofA (mk := fun r : Option Nat => va_rf r) (fun r => va_rf_or r) (Or.inl ⟨_, rfl⟩) (cc := cX1_problemWithMove) (maxL := 3) (by decide) rfl ⟨by simp [Value.category], Nat.le_of_ble_eq_true rfl⟩ ?_
  intro K hl hC hSF hnm hE
  subst hl
  have hgo := SFgoS (SFx.k G) hSF
  have q0_ : ∀ w ∈ u_ws RX1 TX1 2, w ∈ wsX1_problemWithMove := by decide +kernel
  have q1_ : Cond.fieldLink RX1 12 "FeatherShares$Changer" "state" "LFeatherShares$State;" ∈ wsX1_problemWithMove := by decide +kernel
  have q2_ : Cond.fieldLink RX1 73 "FeatherShares$Problem" "ARGUMENT" "LFeatherShares$Problem;" ∈ wsX1_problemWithMove := by decide +kernel
  have q3_ : Cond.fieldLink RX1 62 "FeatherShares$Problem" "NONE" "LFeatherShares$Problem;" ∈ wsX1_problemWithMove := by decide +kernel
  have q4_ : Cond.fieldLink RX1 85 "FeatherShares$Problem" "BIRD" "LFeatherShares$Problem;" ∈ wsX1_problemWithMove := by decide +kernel
  show V G K 3 0 0 0 [some (.ref hg), some (.int x), some (.int y)] [] ([(hg, .inr (4, [.ref h, .ref hr]))] ++ (stW G h ah as_ rr ra hm nb ns la lo nu tn sh))
  refine V.aload_n hC (x := hg) dX1_problemWithMove_0 rfl ?_
  refine V.getf hC (T := TX1) q0_ 0 q1_ rfl (0) rfl rfl (by decide) (.ref h) rfl dX1_problemWithMove_1 ?_
  refine V.iload_n hC (x := x) dX1_problemWithMove_4 rfl ?_
  refine V.callVr (n := 1) (As := [.int x]) (rest := []) hC (c_hasBird (kl K) G h ah as_ rr ra hm nb ns la lo nu tn sh hb8 hs6 x) SFk0 SFgo0 gX1_problemWithMove_X11_hasBird rfl ⟨rfl, rfl⟩ (by decide +kernel) ⟨by decide, by decide, by decide, by decide⟩ [1, 2, 3, 4, 5, 6, 7, 8, 9, 10, 11, 12, 13, 14, 15] rfl (by decide) rfl rfl rfl rfl (Nat.le_of_ble_eq_true rfl) dX1_problemWithMove_5 (fun r_5 u_5 hp_5 => ?_)
  subst hp_5
  show V G K 3 0 0 8 [some (.ref hg), some (.int x), some (.int y)] [.int (if ¬ x < 0 ∧ x < nI nb then 1 else 0)] ([(hg, .inr (4, [.ref h, .ref hr]))] ++ (stW G h ah as_ rr ra hm nb ns la lo nu tn sh))
  refine V.if_ne hC 15 dX1_problemWithMove_8 rfl (fun c_8 => ?_) (fun c_8 => ?_)
  · refine V.iload_n hC (x := y) dX1_problemWithMove_15 rfl ?_
    refine V.callSr (n := 1) (As := [.int y]) (rest := []) hC (c_isNest (kl K) G y) SFk0 SFgo0 gX1_problemWithMove_X11_isNest rfl ⟨rfl, rfl⟩ (by decide +kernel) ⟨by decide, by decide, by decide, by decide⟩ [] rfl (by decide) rfl rfl (Nat.le_of_ble_eq_true rfl) dX1_problemWithMove_16 (fun r_16 u_16 hp_16 => ?_)
    subst hp_16
    show V G K 3 0 0 19 [some (.ref hg), some (.int x), some (.int y)] [.int (if ¬ y < 0 ∧ y < 4 then 1 else 0)] ([(hg, .inr (4, [.ref h, .ref hr]))] ++ (stW G h ah as_ rr ra hm nb ns la lo nu tn sh))
    refine V.if_eq hC 28 dX1_problemWithMove_19 rfl (fun c_19 => ?_) (fun c_19 => ?_)
    · refine V.gets hC (n := "ARGUMENT") (hSF.pz 1 (by decide)) q2_ rfl dX1_problemWithMove_28 ?_
      exact hE 31 _ (some (adP G 1)) () dX1_problemWithMove_31 (by rw [pwM, if_pos (if10n c_8), if_neg (if10 c_19)])
    · refine V.gets hC (n := "NONE") (hSF.pz 0 (by decide)) q3_ rfl dX1_problemWithMove_22 ?_
      refine V.goto hC 31 dX1_problemWithMove_25 rfl ?_
      exact hE 31 _ (some (adP G 0)) () dX1_problemWithMove_31 (by rw [pwM, if_pos (if10n c_8), if_pos (if10n c_19)])
  · refine V.gets hC (n := "BIRD") (hSF.pz 2 (by decide)) q4_ rfl dX1_problemWithMove_11 ?_
    exact hE 14 _ (some (adP G 2)) () dX1_problemWithMove_14 (by rw [pwM, if_neg (if10 c_8)])

set_option maxHeartbeats 4000000 in
set_option maxRecDepth 100000 in
theorem c_pwSplit (l : Launch) (G : Gx) (hg hr : Nat) (h ah as_ : Nat) (rr ra : Nat → Nat) (hm : Nat → Int32) (nb ns : Nat) (la : Int32) (lo : Int64) (nu : Nat → Int32) (tn : Nat → Nat) (sh : Nat → Nat → Int32) (hb8 : nb ≤ 8) (hs6 : ns ≤ 6) (x y z : Int32) : Ct l G (SFx G) yX1_problemWithSplit wsX1_problemWithSplit ({ frames := 1, cells := 0, slots := 0, locals := 20 }) [.ref hg, .int x, .int y, .int z] ([(hg, .inr (4, [.ref h, .ref hr]))] ++ (stW G h ah as_ rr ra hm nb ns la lo nu tn sh)) mkA (fun (r : Option Nat) (_ : Unit) => r = some (adP G (pwS nb ns x y z))) (fun _ : Unit => ([(hg, .inr (4, [.ref h, .ref hr]))] ++ (stW G h ah as_ rr ra hm nb ns la lo nu tn sh))) 0 0 := by
  refine Ct.ofA (mk := fun r : Option Nat => va_rf r) (fun r => va_rf_or r) (Or.inl ⟨_, rfl⟩) (cc := cX1_problemWithSplit) (maxL := 4) (by decide) rfl ⟨by simp [Value.category], Nat.le_of_ble_eq_true rfl⟩ ?_
  intro K hl hC hSF hnm hE
  subst hl
  have hgo := SFgoS (SFx.k G) hSF
  have q0_ : Cond.fieldLink RX1 73 "FeatherShares$Problem" "ARGUMENT" "LFeatherShares$Problem;" ∈ wsX1_problemWithSplit := by decide +kernel
  have q1_ : ∀ w ∈ u_ws RX1 TX1 2, w ∈ wsX1_problemWithSplit := by decide +kernel
  have q2_ : Cond.fieldLink RX1 12 "FeatherShares$Changer" "state" "LFeatherShares$State;" ∈ wsX1_problemWithSplit := by decide +kernel
  have q3_ : Cond.fieldLink RX1 79 "FeatherShares$Problem" "STATE" "LFeatherShares$Problem;" ∈ wsX1_problemWithSplit := by decide +kernel
  have q4_ : Cond.fieldLink RX1 62 "FeatherShares$Problem" "NONE" "LFeatherShares$Problem;" ∈ wsX1_problemWithSplit := by decide +kernel
  show V G K 4 0 0 0 [some (.ref hg), some (.int x), some (.int y), some (.int z)] [] ([(hg, .inr (4, [.ref h, .ref hr]))] ++ (stW G h ah as_ rr ra hm nb ns la lo nu tn sh))
  refine V.iload_n hC (x := x) dX1_problemWithSplit_0 rfl ?_
  refine V.callSr (n := 1) (As := [.int x]) (rest := []) hC (c_isResidue (kl K) G x) SFk0 SFgo0 gX1_problemWithSplit_X1_isResidue rfl ⟨rfl, rfl⟩ (by decide +kernel) ⟨by decide, by decide, by decide, by decide⟩ [] rfl (by decide) rfl rfl (Nat.le_of_ble_eq_true rfl) dX1_problemWithSplit_1 (fun r_1 u_1 hp_1 => ?_)
  subst hp_1
  show V G K 4 0 0 4 [some (.ref hg), some (.int x), some (.int y), some (.int z)] [.int (if isR x then 1 else 0)] ([(hg, .inr (4, [.ref h, .ref hr]))] ++ (stW G h ah as_ rr ra hm nb ns la lo nu tn sh))
  refine V.if_eq hC 24 dX1_problemWithSplit_4 rfl (fun c_4 => ?_) (fun c_4 => ?_)
  · refine V.gets hC (n := "ARGUMENT") (hSF.pz 1 (by decide)) q0_ rfl dX1_problemWithSplit_24 ?_
    exact hE 27 _ (some (adP G 1)) () dX1_problemWithSplit_27 (by rw [pwS, if_pos (if10 c_4)])
  · refine V.iload_n hC (x := y) dX1_problemWithSplit_7 rfl ?_
    refine V.iconst hC 1 dX1_problemWithSplit_8 rfl ?_
    refine V.icmp_lt hC 24 dX1_problemWithSplit_9 rfl (fun c_9 => ?_) (fun c_9 => ?_)
    · refine V.gets hC (n := "ARGUMENT") (hSF.pz 1 (by decide)) q0_ rfl dX1_problemWithSplit_24 ?_
      exact hE 27 _ (some (adP G 1)) () dX1_problemWithSplit_27 (by rw [pwS, if_neg (fun z => z (if10n c_4)), if_pos c_9])
    · refine V.iload_n hC (x := y) dX1_problemWithSplit_12 rfl ?_
      refine V.iconst hC 4 dX1_problemWithSplit_13 rfl ?_
      refine V.icmp_gt hC 24 dX1_problemWithSplit_14 rfl (fun c_14 => ?_) (fun c_14 => ?_)
      · refine V.gets hC (n := "ARGUMENT") (hSF.pz 1 (by decide)) q0_ rfl dX1_problemWithSplit_24 ?_
        exact hE 27 _ (some (adP G 1)) () dX1_problemWithSplit_27 (by rw [pwS, if_neg (fun z => z (if10n c_4)), if_neg c_9, if_pos c_14])
      · refine V.iload_n hC (x := z) dX1_problemWithSplit_17 rfl ?_
        refine V.callSr (n := 1) (As := [.int z]) (rest := []) hC (c_isResidue (kl K) G z) SFk0 SFgo0 gX1_problemWithSplit_X1_isResidue rfl ⟨rfl, rfl⟩ (by decide +kernel) ⟨by decide, by decide, by decide, by decide⟩ [] rfl (by decide) rfl rfl (Nat.le_of_ble_eq_true rfl) dX1_problemWithSplit_18 (fun r_18 u_18 hp_18 => ?_)
        subst hp_18
        show V G K 4 0 0 21 [some (.ref hg), some (.int x), some (.int y), some (.int z)] [.int (if isR z then 1 else 0)] ([(hg, .inr (4, [.ref h, .ref hr]))] ++ (stW G h ah as_ rr ra hm nb ns la lo nu tn sh))
        refine V.if_ne hC 28 dX1_problemWithSplit_21 rfl (fun c_21 => ?_) (fun c_21 => ?_)
        · refine V.aload_n hC (x := hg) dX1_problemWithSplit_28 rfl ?_
          refine V.getf hC (T := TX1) q1_ 0 q2_ rfl (0) rfl rfl (by decide) (.ref h) rfl dX1_problemWithSplit_29 ?_
          refine V.callVr (n := 0) (As := []) (rest := []) hC (c_secretTally (kl K) G h ah as_ rr ra hm nb ns la lo nu tn sh hb8 hs6) SFk0 SFgo0 gX1_problemWithSplit_X11_secretTally rfl ⟨rfl, rfl⟩ (by decide +kernel) ⟨by decide, by decide, by decide, by decide⟩ [1, 2, 3, 4, 5, 6, 7, 8, 9, 10, 11, 12, 13, 14, 15] rfl (by decide) rfl rfl rfl rfl (Nat.le_of_ble_eq_true rfl) dX1_problemWithSplit_32 (fun r_32 u_32 hp_32 => ?_)
          subst hp_32
          show V G K 4 0 0 35 [some (.ref hg), some (.int x), some (.int y), some (.int z)] [.int (nI ns)] ([(hg, .inr (4, [.ref h, .ref hr]))] ++ (stW G h ah as_ rr ra hm nb ns la lo nu tn sh))
          refine V.bipush hC 6 dX1_problemWithSplit_35 rfl ?_
          refine V.icmpN_ge hC ns 6 51 dX1_problemWithSplit_37 rfl rfl rfl (by omega) (by omega) (fun c_37 => ?_) (fun c_37 => ?_)
          · refine V.gets hC (n := "STATE") (hSF.pz 4 (by decide)) q3_ rfl dX1_problemWithSplit_51 ?_
            exact hE 54 _ (some (adP G 4)) () dX1_problemWithSplit_54 (by rw [pwS, if_neg (fun z => z (if10n c_4)), if_neg c_9, if_neg c_14, if_neg (fun z => z (if10n c_21)), if_pos c_37])
          · refine V.aload_n hC (x := hg) dX1_problemWithSplit_40 rfl ?_
            refine V.getf hC (T := TX1) q1_ 0 q2_ rfl (0) rfl rfl (by decide) (.ref h) rfl dX1_problemWithSplit_41 ?_
            refine V.callVr (n := 0) (As := []) (rest := []) hC (c_birdTally (kl K) G h ah as_ rr ra hm nb ns la lo nu tn sh hb8 hs6) SFk0 SFgo0 gX1_problemWithSplit_X11_birdTally rfl ⟨rfl, rfl⟩ (by decide +kernel) ⟨by decide, by decide, by decide, by decide⟩ [1, 2, 3, 4, 5, 6, 7, 8, 9, 10, 11, 12, 13, 14, 15] rfl (by decide) rfl rfl rfl rfl (Nat.le_of_ble_eq_true rfl) dX1_problemWithSplit_44 (fun r_44 u_44 hp_44 => ?_)
            subst hp_44
            show V G K 4 0 0 47 [some (.ref hg), some (.int x), some (.int y), some (.int z)] [.int (nI nb)] ([(hg, .inr (4, [.ref h, .ref hr]))] ++ (stW G h ah as_ rr ra hm nb ns la lo nu tn sh))
            refine V.iload_n hC (x := y) dX1_problemWithSplit_47 rfl ?_
            refine V.icmp_ge hC 55 dX1_problemWithSplit_48 rfl (fun c_48 => ?_) (fun c_48 => ?_)
            · refine V.gets hC (n := "NONE") (hSF.pz 0 (by decide)) q4_ rfl dX1_problemWithSplit_55 ?_
              exact hE 58 _ (some (adP G 0)) () dX1_problemWithSplit_58 (by rw [pwS, if_neg (fun z => z (if10n c_4)), if_neg c_9, if_neg c_14, if_neg (fun z => z (if10n c_21)), if_neg (by omega), if_neg (Int32.not_lt.mpr c_48)])
            · refine V.gets hC (n := "STATE") (hSF.pz 4 (by decide)) q3_ rfl dX1_problemWithSplit_51 ?_
              exact hE 54 _ (some (adP G 4)) () dX1_problemWithSplit_54 (by rw [pwS, if_neg (fun z => z (if10n c_4)), if_neg c_9, if_neg c_14, if_neg (fun z => z (if10n c_21)), if_neg (by omega), if_pos (Int32.not_le.mp c_48)])
        · refine V.gets hC (n := "ARGUMENT") (hSF.pz 1 (by decide)) q0_ rfl dX1_problemWithSplit_24 ?_
          exact hE 27 _ (some (adP G 1)) () dX1_problemWithSplit_27 (by rw [pwS, if_neg (fun z => z (if10n c_4)), if_neg c_9, if_neg c_14, if_pos (if10 c_21)])

set_option maxHeartbeats 4000000 in
set_option maxRecDepth 100000 in
theorem c_pwRefreshF (l : Launch) (G : Gx) (hg hr : Nat) (h ah as_ : Nat) (rr ra : Nat → Nat) (hm : Nat → Int32) (nb ns : Nat) (la : Int32) (lo : Int64) (nu : Nat → Int32) (tn : Nat → Nat) (sh : Nat → Nat → Int32) (hb8 : nb ≤ 8) (hs6 : ns ≤ 6) (x y : Int32) (k : Nat) (hk : k < 6) (hf : fd nu x ns = some k) : Ct l G (SFx G) yX1_problemWithRefresh wsX1_problemWithRefresh ({ frames := 2, cells := 0, slots := 0, locals := 44 }) [.ref hg, .int x, .int y] ([(hg, .inr (4, [.ref h, .ref hr]))] ++ (stW G h ah as_ rr ra hm nb ns la lo nu tn sh)) mkA (fun (r : Option Nat) (_ : Unit) => r = some (adP G (pwR (some k) y))) (fun _ : Unit => ([(hg, .inr (4, [.ref h, .ref hr]))] ++ (stW G h ah as_ rr ra hm nb ns la lo nu tn sh))) 0 0 := by
  refine Ct.ofA (mk := fun r : Option Nat => va_rf r) (fun r => va_rf_or r) (Or.inl ⟨_, rfl⟩) (cc := cX1_problemWithRefresh) (maxL := 3) (by decide) rfl ⟨by simp [Value.category], Nat.le_of_ble_eq_true rfl⟩ ?_
  intro K hl hC hSF hnm hE
  subst hl
  have hgo := SFgoS (SFx.k G) hSF
  have q0_ : ∀ w ∈ u_ws RX1 TX1 2, w ∈ wsX1_problemWithRefresh := by decide +kernel
  have q1_ : Cond.fieldLink RX1 12 "FeatherShares$Changer" "state" "LFeatherShares$State;" ∈ wsX1_problemWithRefresh := by decide +kernel
  have q2_ : Cond.fieldLink RX1 73 "FeatherShares$Problem" "ARGUMENT" "LFeatherShares$Problem;" ∈ wsX1_problemWithRefresh := by decide +kernel
  have q3_ : Cond.fieldLink RX1 62 "FeatherShares$Problem" "NONE" "LFeatherShares$Problem;" ∈ wsX1_problemWithRefresh := by decide +kernel
  show V G K 3 0 0 0 [some (.ref hg), some (.int x), some (.int y)] [] ([(hg, .inr (4, [.ref h, .ref hr]))] ++ (stW G h ah as_ rr ra hm nb ns la lo nu tn sh))
  refine V.aload_n hC (x := hg) dX1_problemWithRefresh_0 rfl ?_
  refine V.getf hC (T := TX1) q0_ 0 q1_ rfl (0) rfl rfl (by decide) (.ref h) rfl dX1_problemWithRefresh_1 ?_
  refine V.iload_n hC (x := x) dX1_problemWithRefresh_4 rfl ?_
  refine V.callVr (n := 1) (As := [.int x]) (rest := []) hC (c_find (kl K) G h ah as_ rr ra hm nb ns la lo nu tn sh hb8 hs6 x) SFk0 SFgo0 gX1_problemWithRefresh_X11_find rfl ⟨rfl, rfl⟩ (by decide +kernel) ⟨by decide, by decide, by decide, by decide⟩ [1, 2, 3, 4, 5, 6, 7, 8, 9, 10, 11, 12, 13, 14, 15] rfl (by decide) rfl rfl rfl rfl (Nat.le_of_ble_eq_true rfl) dX1_problemWithRefresh_5 (fun r_5 u_5 hp_5 => ?_)
  rw [hf] at hp_5
  subst hp_5
  show V G K 3 0 0 8 [some (.ref hg), some (.int x), some (.int y)] [.ref (rr k)] ([(hg, .inr (4, [.ref h, .ref hr]))] ++ (stW G h ah as_ rr ra hm nb ns la lo nu tn sh))
  refine V.ifnonnull hC 15 dX1_problemWithRefresh_8 rfl ?_
  refine V.iload_n hC (x := y) dX1_problemWithRefresh_15 rfl ?_
  refine V.callSr (n := 1) (As := [.int y]) (rest := []) hC (c_isResidue (kl K) G y) SFk0 SFgo0 gX1_problemWithRefresh_X1_isResidue rfl ⟨rfl, rfl⟩ (by decide +kernel) ⟨by decide, by decide, by decide, by decide⟩ [] rfl (by decide) rfl rfl (Nat.le_of_ble_eq_true rfl) dX1_problemWithRefresh_16 (fun r_16 u_16 hp_16 => ?_)
  subst hp_16
  show V G K 3 0 0 19 [some (.ref hg), some (.int x), some (.int y)] [.int (if isR y then 1 else 0)] ([(hg, .inr (4, [.ref h, .ref hr]))] ++ (stW G h ah as_ rr ra hm nb ns la lo nu tn sh))
  refine V.if_eq hC 28 dX1_problemWithRefresh_19 rfl (fun c_19 => ?_) (fun c_19 => ?_)
  · refine V.gets hC (n := "ARGUMENT") (hSF.pz 1 (by decide)) q2_ rfl dX1_problemWithRefresh_28 ?_
    exact hE 31 _ (some (adP G 1)) () dX1_problemWithRefresh_31 (by rw [pwR, if_neg (by simp), if_neg (if10 c_19)])
  · refine V.gets hC (n := "NONE") (hSF.pz 0 (by decide)) q3_ rfl dX1_problemWithRefresh_22 ?_
    refine V.goto hC 31 dX1_problemWithRefresh_25 rfl ?_
    exact hE 31 _ (some (adP G 0)) () dX1_problemWithRefresh_31 (by rw [pwR, if_neg (by simp), if_pos (if10n c_19)])

set_option maxHeartbeats 4000000 in
set_option maxRecDepth 100000 in
theorem c_pwRefreshN (l : Launch) (G : Gx) (hg hr : Nat) (h ah as_ : Nat) (rr ra : Nat → Nat) (hm : Nat → Int32) (nb ns : Nat) (la : Int32) (lo : Int64) (nu : Nat → Int32) (tn : Nat → Nat) (sh : Nat → Nat → Int32) (hb8 : nb ≤ 8) (hs6 : ns ≤ 6) (x y : Int32) (hf : fd nu x ns = none) : Ct l G (SFx G) yX1_problemWithRefresh wsX1_problemWithRefresh ({ frames := 2, cells := 0, slots := 0, locals := 44 }) [.ref hg, .int x, .int y] ([(hg, .inr (4, [.ref h, .ref hr]))] ++ (stW G h ah as_ rr ra hm nb ns la lo nu tn sh)) mkA (fun (r : Option Nat) (_ : Unit) => r = some (adP G (pwR (none) y))) (fun _ : Unit => ([(hg, .inr (4, [.ref h, .ref hr]))] ++ (stW G h ah as_ rr ra hm nb ns la lo nu tn sh))) 0 0 := by
  refine Ct.ofA (mk := fun r : Option Nat => va_rf r) (fun r => va_rf_or r) (Or.inl ⟨_, rfl⟩) (cc := cX1_problemWithRefresh) (maxL := 3) (by decide) rfl ⟨by simp [Value.category], Nat.le_of_ble_eq_true rfl⟩ ?_
  intro K hl hC hSF hnm hE
  subst hl
  have hgo := SFgoS (SFx.k G) hSF
  have q0_ : ∀ w ∈ u_ws RX1 TX1 2, w ∈ wsX1_problemWithRefresh := by decide +kernel
  have q1_ : Cond.fieldLink RX1 12 "FeatherShares$Changer" "state" "LFeatherShares$State;" ∈ wsX1_problemWithRefresh := by decide +kernel
  have q2_ : Cond.fieldLink RX1 56 "FeatherShares$Problem" "SECRET" "LFeatherShares$Problem;" ∈ wsX1_problemWithRefresh := by decide +kernel
  show V G K 3 0 0 0 [some (.ref hg), some (.int x), some (.int y)] [] ([(hg, .inr (4, [.ref h, .ref hr]))] ++ (stW G h ah as_ rr ra hm nb ns la lo nu tn sh))
  refine V.aload_n hC (x := hg) dX1_problemWithRefresh_0 rfl ?_
  refine V.getf hC (T := TX1) q0_ 0 q1_ rfl (0) rfl rfl (by decide) (.ref h) rfl dX1_problemWithRefresh_1 ?_
  refine V.iload_n hC (x := x) dX1_problemWithRefresh_4 rfl ?_
  refine V.callVr (n := 1) (As := [.int x]) (rest := []) hC (c_find (kl K) G h ah as_ rr ra hm nb ns la lo nu tn sh hb8 hs6 x) SFk0 SFgo0 gX1_problemWithRefresh_X11_find rfl ⟨rfl, rfl⟩ (by decide +kernel) ⟨by decide, by decide, by decide, by decide⟩ [1, 2, 3, 4, 5, 6, 7, 8, 9, 10, 11, 12, 13, 14, 15] rfl (by decide) rfl rfl rfl rfl (Nat.le_of_ble_eq_true rfl) dX1_problemWithRefresh_5 (fun r_5 u_5 hp_5 => ?_)
  rw [hf] at hp_5
  subst hp_5
  show V G K 3 0 0 8 [some (.ref hg), some (.int x), some (.int y)] [.null] ([(hg, .inr (4, [.ref h, .ref hr]))] ++ (stW G h ah as_ rr ra hm nb ns la lo nu tn sh))
  refine V.ifnonnullN hC dX1_problemWithRefresh_8 ?_
  refine V.gets hC (n := "SECRET") (hSF.pz 3 (by decide)) q2_ rfl dX1_problemWithRefresh_11 ?_
  exact hE 14 _ (some (adP G 3)) () dX1_problemWithRefresh_14 rfl

set_option maxHeartbeats 4000000 in
set_option maxRecDepth 100000 in
theorem c_pwShare3FV (l : Launch) (G : Gx) (hg hr : Nat) (h ah as_ : Nat) (rr ra : Nat → Nat) (hm : Nat → Int32) (nb ns : Nat) (la : Int32) (lo : Int64) (nu : Nat → Int32) (tn : Nat → Nat) (sh : Nat → Nat → Int32) (hb8 : nb ≤ 8) (hs6 : ns ≤ 6) (b : Nat) (hb : b < nb) (k : Nat) (hk : k < 6) (ht : tn k ≤ 4) (z : Int32) : Ct l G (SFx G) yX1_problemWithShare wsX1_problemWithShare ({ frames := 1, cells := 0, slots := 0, locals := 21 }) [.ref hg, .ref (adD G 3), .int (nI b), .ref (rr k), .int z] ([(hg, .inr (4, [.ref h, .ref hr]))] ++ (stW G h ah as_ rr ra hm nb ns la lo nu tn sh)) mkA (fun (r : Option Nat) (_ : Unit) => r = some (adP G (pwK 3 (sh k) (tn k) b z))) (fun _ : Unit => ([(hg, .inr (4, [.ref h, .ref hr]))] ++ (stW G h ah as_ rr ra hm nb ns la lo nu tn sh))) 0 0 := by
  refine Ct.ofA (mk := fun r : Option Nat => va_rf r) (fun r => va_rf_or r) (Or.inl ⟨_, rfl⟩) (cc := cX1_problemWithShare) (maxL := 5) (by decide) rfl ⟨by simp [Value.category], Nat.le_of_ble_eq_true rfl⟩ ?_
  intro K hl hC hSF hnm hE
  subst hl
  have hgo := SFgoS (SFx.k G) hSF
  have q0_ : ∀ w ∈ u_ws RX1 TX1 2, w ∈ wsX1_problemWithShare := by decide +kernel
  have q1_ : Cond.fieldLink RX1 12 "FeatherShares$Changer" "state" "LFeatherShares$State;" ∈ wsX1_problemWithShare := by decide +kernel
  have q2_ : Cond.fieldLink RX1 94 "FeatherShares$Deed" "SPOIL" "LFeatherShares$Deed;" ∈ wsX1_problemWithShare := by decide +kernel
  have q3_ : Cond.fieldLink RX1 103 "FeatherShares$Deed" "ISSUE" "LFeatherShares$Deed;" ∈ wsX1_problemWithShare := by decide +kernel
  have q4_ : Cond.fieldLink RX1 62 "FeatherShares$Problem" "NONE" "LFeatherShares$Problem;" ∈ wsX1_problemWithShare := by decide +kernel
  have q5_ : Cond.fieldLink RX1 79 "FeatherShares$Problem" "STATE" "LFeatherShares$Problem;" ∈ wsX1_problemWithShare := by decide +kernel
  show V G K 5 0 0 0 [some (.ref hg), some (.ref (adD G 3)), some (.int (nI b)), some (.ref (rr k)), some (.int z)] [] ([(hg, .inr (4, [.ref h, .ref hr]))] ++ (stW G h ah as_ rr ra hm nb ns la lo nu tn sh))
  refine V.aload_n hC (x := hg) dX1_problemWithShare_0 rfl ?_
  refine V.getf hC (T := TX1) q0_ 0 q1_ rfl (0) rfl rfl (by decide) (.ref h) rfl dX1_problemWithShare_1 ?_
  refine V.iload_n hC (x := nI b) dX1_problemWithShare_4 rfl ?_
  refine V.callVr (n := 1) (As := [.int (nI b)]) (rest := []) hC (c_hasBird (kl K) G h ah as_ rr ra hm nb ns la lo nu tn sh hb8 hs6 (nI b)) SFk0 SFgo0 gX1_problemWithShare_X11_hasBird rfl ⟨rfl, rfl⟩ (by decide +kernel) ⟨by decide, by decide, by decide, by decide⟩ [1, 2, 3, 4, 5, 6, 7, 8, 9, 10, 11, 12, 13, 14, 15] rfl (by decide) rfl rfl rfl rfl (Nat.le_of_ble_eq_true rfl) dX1_problemWithShare_5 (fun r_5 u_5 hp_5 => ?_)
  subst hp_5
  show V G K 5 0 0 8 [some (.ref hg), some (.ref (adD G 3)), some (.int (nI b)), some (.ref (rr k)), some (.int z)] [.int (if ¬ (nI b) < 0 ∧ (nI b) < nI nb then 1 else 0)] ([(hg, .inr (4, [.ref h, .ref hr]))] ++ (stW G h ah as_ rr ra hm nb ns la lo nu tn sh))
  refine V.if_ne hC 15 dX1_problemWithShare_8 rfl (fun c_8 => ?_) (fun c_8 => ?_)
  · refine V.aload_n hC (x := (rr k)) dX1_problemWithShare_15 rfl ?_
    refine V.ifnonnull hC 23 dX1_problemWithShare_16 rfl ?_
    refine V.aload_n hC (x := adD G 3) dX1_problemWithShare_23 rfl ?_
    refine V.gets hC (n := "SPOIL") (hSF.dz 4 (by decide)) q2_ rfl dX1_problemWithShare_24 ?_
    refine V.acmp_ne hC 47 dX1_problemWithShare_27 rfl (fun c_27 => ?_) (fun c_27 => ?_)
    · refine V.aload_n hC (x := (rr k)) dX1_problemWithShare_47 rfl ?_
      refine V.iload_n hC (x := nI b) dX1_problemWithShare_48 rfl ?_
      refine V.callVr (n := 1) (As := [.int (nI b)]) (rest := []) hC (c_isHeldBy (kl K) G (rr k) (ra k) (sh k) (nu k) (nI (tn k)) b (by omega)) SFk0 SFgo0 gX1_problemWithShare_X10_isHeldBy rfl ⟨rfl, rfl⟩ (by decide +kernel) ⟨by decide, by decide, by decide, by decide⟩ [1 + (3 + 2 * k), 1 + (4 + 2 * k)] (by rcases (lt6 hk) with rfl | rfl | rfl | rfl | rfl | rfl <;> rfl) (by rcases (lt6 hk) with rfl | rfl | rfl | rfl | rfl | rfl <;> rfl) rfl rfl rfl rfl (Nat.le_of_ble_eq_true rfl) dX1_problemWithShare_49 (fun r_49 u_49 hp_49 => ?_)
      subst hp_49
      show V G K 5 0 0 52 [some (.ref hg), some (.ref (adD G 3)), some (.int (nI b)), some (.ref (rr k)), some (.int z)] [.int (if sh k b = -1 then 0 else 1)] ([(hg, .inr (4, [.ref h, .ref hr]))] ++ (stW G h ah as_ rr ra hm nb ns la lo nu tn sh))
      refine V.aload_n hC (x := adD G 3) dX1_problemWithShare_52 rfl ?_
      refine V.gets hC (n := "ISSUE") (hSF.dz 5 (by decide)) q3_ rfl dX1_problemWithShare_53 ?_
      refine V.acmp_ne hC 63 dX1_problemWithShare_56 rfl (fun c_56 => ?_) (fun c_56 => ?_)
      · refine V.iconst hC 0 dX1_problemWithShare_63 rfl ?_
        refine V.icmp_ne hC 71 dX1_problemWithShare_64 rfl (fun c_64 => ?_) (fun c_64 => ?_)
        · refine V.aload_n hC (x := adD G 3) dX1_problemWithShare_71 rfl ?_
          refine V.gets hC (n := "ISSUE") (hSF.dz 5 (by decide)) q3_ rfl dX1_problemWithShare_72 ?_
          refine V.acmp_ne hC 91 dX1_problemWithShare_75 rfl (fun c_75 => ?_) (fun c_75 => ?_)
          · refine V.gets hC (n := "NONE") (hSF.pz 0 (by decide)) q4_ rfl dX1_problemWithShare_91 ?_
            exact hE 94 _ (some (adP G 0)) () dX1_problemWithShare_94 (by rw [pwK, if_neg (fun z => absurd z.1 (by decide)), if_neg (fun z => z.elim (fun y => absurd y.1 (by decide)) (fun y => c_64 (if_pos y.2))), if_neg (fun z => absurd z.1 (by decide))])
          · exact absurd ((hSF.dne (by decide) (by decide)).mp c_75) (by decide)
        · refine V.gets hC (n := "STATE") (hSF.pz 4 (by decide)) q5_ rfl dX1_problemWithShare_67 ?_
          exact hE 70 _ (some (adP G 4)) () dX1_problemWithShare_70 (by rw [pwK, if_neg (fun z => absurd z.1 (by decide)), if_pos (Or.inr ⟨by decide, (Decidable.byContradiction (fun z => by rw [if_neg z] at c_64; exact absurd c_64 (by decide)))⟩)])
      · exact absurd ((hSF.dne (by decide) (by decide)).mp c_56) (by decide)
    · exact absurd ((hSF.dne (by decide) (by decide)).mp c_27) (by decide)
  · exact absurd ⟨Int32.not_lt.mpr (nI_nonneg (by omega)), (nI_ltI (by omega) (by omega)).mpr hb⟩ (if10 c_8)

set_option maxHeartbeats 4000000 in
set_option maxRecDepth 100000 in
theorem c_pwShare3FX (l : Launch) (G : Gx) (hg hr : Nat) (h ah as_ : Nat) (rr ra : Nat → Nat) (hm : Nat → Int32) (nb ns : Nat) (la : Int32) (lo : Int64) (nu : Nat → Int32) (tn : Nat → Nat) (sh : Nat → Nat → Int32) (hb8 : nb ≤ 8) (hs6 : ns ≤ 6) (x : Int32) (hx : ¬ (¬ x < 0 ∧ x < nI nb)) (k : Nat) (hk : k < 6) (ht : tn k ≤ 4) (z : Int32) : Ct l G (SFx G) yX1_problemWithShare wsX1_problemWithShare ({ frames := 1, cells := 0, slots := 0, locals := 21 }) [.ref hg, .ref (adD G 3), .int x, .ref (rr k), .int z] ([(hg, .inr (4, [.ref h, .ref hr]))] ++ (stW G h ah as_ rr ra hm nb ns la lo nu tn sh)) mkA (fun (r : Option Nat) (_ : Unit) => r = some (adP G 2)) (fun _ : Unit => ([(hg, .inr (4, [.ref h, .ref hr]))] ++ (stW G h ah as_ rr ra hm nb ns la lo nu tn sh))) 0 0 := by
  refine Ct.ofA (mk := fun r : Option Nat => va_rf r) (fun r => va_rf_or r) (Or.inl ⟨_, rfl⟩) (cc := cX1_problemWithShare) (maxL := 5) (by decide) rfl ⟨by simp [Value.category], Nat.le_of_ble_eq_true rfl⟩ ?_
  intro K hl hC hSF hnm hE
  subst hl
  have hgo := SFgoS (SFx.k G) hSF
  have q0_ : ∀ w ∈ u_ws RX1 TX1 2, w ∈ wsX1_problemWithShare := by decide +kernel
  have q1_ : Cond.fieldLink RX1 12 "FeatherShares$Changer" "state" "LFeatherShares$State;" ∈ wsX1_problemWithShare := by decide +kernel
  have q2_ : Cond.fieldLink RX1 85 "FeatherShares$Problem" "BIRD" "LFeatherShares$Problem;" ∈ wsX1_problemWithShare := by decide +kernel
  show V G K 5 0 0 0 [some (.ref hg), some (.ref (adD G 3)), some (.int x), some (.ref (rr k)), some (.int z)] [] ([(hg, .inr (4, [.ref h, .ref hr]))] ++ (stW G h ah as_ rr ra hm nb ns la lo nu tn sh))
  refine V.aload_n hC (x := hg) dX1_problemWithShare_0 rfl ?_
  refine V.getf hC (T := TX1) q0_ 0 q1_ rfl (0) rfl rfl (by decide) (.ref h) rfl dX1_problemWithShare_1 ?_
  refine V.iload_n hC (x := x) dX1_problemWithShare_4 rfl ?_
  refine V.callVr (n := 1) (As := [.int x]) (rest := []) hC (c_hasBird (kl K) G h ah as_ rr ra hm nb ns la lo nu tn sh hb8 hs6 x) SFk0 SFgo0 gX1_problemWithShare_X11_hasBird rfl ⟨rfl, rfl⟩ (by decide +kernel) ⟨by decide, by decide, by decide, by decide⟩ [1, 2, 3, 4, 5, 6, 7, 8, 9, 10, 11, 12, 13, 14, 15] rfl (by decide) rfl rfl rfl rfl (Nat.le_of_ble_eq_true rfl) dX1_problemWithShare_5 (fun r_5 u_5 hp_5 => ?_)
  subst hp_5
  show V G K 5 0 0 8 [some (.ref hg), some (.ref (adD G 3)), some (.int x), some (.ref (rr k)), some (.int z)] [.int (if ¬ x < 0 ∧ x < nI nb then 1 else 0)] ([(hg, .inr (4, [.ref h, .ref hr]))] ++ (stW G h ah as_ rr ra hm nb ns la lo nu tn sh))
  refine V.if_ne hC 15 dX1_problemWithShare_8 rfl (fun c_8 => ?_) (fun c_8 => ?_)
  · exact absurd (if10n c_8) hx
  · refine V.gets hC (n := "BIRD") (hSF.pz 2 (by decide)) q2_ rfl dX1_problemWithShare_11 ?_
    exact hE 14 _ (some (adP G 2)) () dX1_problemWithShare_14 rfl

set_option maxHeartbeats 4000000 in
set_option maxRecDepth 100000 in
theorem c_pwShare3NV (l : Launch) (G : Gx) (hg hr : Nat) (h ah as_ : Nat) (rr ra : Nat → Nat) (hm : Nat → Int32) (nb ns : Nat) (la : Int32) (lo : Int64) (nu : Nat → Int32) (tn : Nat → Nat) (sh : Nat → Nat → Int32) (hb8 : nb ≤ 8) (hs6 : ns ≤ 6) (b : Nat) (hb : b < nb) (z : Int32) : Ct l G (SFx G) yX1_problemWithShare wsX1_problemWithShare ({ frames := 1, cells := 0, slots := 0, locals := 21 }) [.ref hg, .ref (adD G 3), .int (nI b), .null, .int z] ([(hg, .inr (4, [.ref h, .ref hr]))] ++ (stW G h ah as_ rr ra hm nb ns la lo nu tn sh)) mkA (fun (r : Option Nat) (_ : Unit) => r = some (adP G 3)) (fun _ : Unit => ([(hg, .inr (4, [.ref h, .ref hr]))] ++ (stW G h ah as_ rr ra hm nb ns la lo nu tn sh))) 0 0 := by
  refine Ct.ofA (mk := fun r : Option Nat => va_rf r) (fun r => va_rf_or r) (Or.inl ⟨_, rfl⟩) (cc := cX1_problemWithShare) (maxL := 5) (by decide) rfl ⟨by simp [Value.category], Nat.le_of_ble_eq_true rfl⟩ ?_
  intro K hl hC hSF hnm hE
  subst hl
  have hgo := SFgoS (SFx.k G) hSF
  have q0_ : ∀ w ∈ u_ws RX1 TX1 2, w ∈ wsX1_problemWithShare := by decide +kernel
  have q1_ : Cond.fieldLink RX1 12 "FeatherShares$Changer" "state" "LFeatherShares$State;" ∈ wsX1_problemWithShare := by decide +kernel
  have q2_ : Cond.fieldLink RX1 56 "FeatherShares$Problem" "SECRET" "LFeatherShares$Problem;" ∈ wsX1_problemWithShare := by decide +kernel
  show V G K 5 0 0 0 [some (.ref hg), some (.ref (adD G 3)), some (.int (nI b)), some (.null), some (.int z)] [] ([(hg, .inr (4, [.ref h, .ref hr]))] ++ (stW G h ah as_ rr ra hm nb ns la lo nu tn sh))
  refine V.aload_n hC (x := hg) dX1_problemWithShare_0 rfl ?_
  refine V.getf hC (T := TX1) q0_ 0 q1_ rfl (0) rfl rfl (by decide) (.ref h) rfl dX1_problemWithShare_1 ?_
  refine V.iload_n hC (x := nI b) dX1_problemWithShare_4 rfl ?_
  refine V.callVr (n := 1) (As := [.int (nI b)]) (rest := []) hC (c_hasBird (kl K) G h ah as_ rr ra hm nb ns la lo nu tn sh hb8 hs6 (nI b)) SFk0 SFgo0 gX1_problemWithShare_X11_hasBird rfl ⟨rfl, rfl⟩ (by decide +kernel) ⟨by decide, by decide, by decide, by decide⟩ [1, 2, 3, 4, 5, 6, 7, 8, 9, 10, 11, 12, 13, 14, 15] rfl (by decide) rfl rfl rfl rfl (Nat.le_of_ble_eq_true rfl) dX1_problemWithShare_5 (fun r_5 u_5 hp_5 => ?_)
  subst hp_5
  show V G K 5 0 0 8 [some (.ref hg), some (.ref (adD G 3)), some (.int (nI b)), some (.null), some (.int z)] [.int (if ¬ (nI b) < 0 ∧ (nI b) < nI nb then 1 else 0)] ([(hg, .inr (4, [.ref h, .ref hr]))] ++ (stW G h ah as_ rr ra hm nb ns la lo nu tn sh))
  refine V.if_ne hC 15 dX1_problemWithShare_8 rfl (fun c_8 => ?_) (fun c_8 => ?_)
  · refine V.aload_nN hC dX1_problemWithShare_15 rfl ?_
    refine V.ifnonnullN hC dX1_problemWithShare_16 ?_
    refine V.gets hC (n := "SECRET") (hSF.pz 3 (by decide)) q2_ rfl dX1_problemWithShare_19 ?_
    exact hE 22 _ (some (adP G 3)) () dX1_problemWithShare_22 rfl
  · exact absurd ⟨Int32.not_lt.mpr (nI_nonneg (by omega)), (nI_ltI (by omega) (by omega)).mpr hb⟩ (if10 c_8)

set_option maxHeartbeats 4000000 in
set_option maxRecDepth 100000 in
theorem c_pwShare3NX (l : Launch) (G : Gx) (hg hr : Nat) (h ah as_ : Nat) (rr ra : Nat → Nat) (hm : Nat → Int32) (nb ns : Nat) (la : Int32) (lo : Int64) (nu : Nat → Int32) (tn : Nat → Nat) (sh : Nat → Nat → Int32) (hb8 : nb ≤ 8) (hs6 : ns ≤ 6) (x : Int32) (hx : ¬ (¬ x < 0 ∧ x < nI nb)) (z : Int32) : Ct l G (SFx G) yX1_problemWithShare wsX1_problemWithShare ({ frames := 1, cells := 0, slots := 0, locals := 21 }) [.ref hg, .ref (adD G 3), .int x, .null, .int z] ([(hg, .inr (4, [.ref h, .ref hr]))] ++ (stW G h ah as_ rr ra hm nb ns la lo nu tn sh)) mkA (fun (r : Option Nat) (_ : Unit) => r = some (adP G 2)) (fun _ : Unit => ([(hg, .inr (4, [.ref h, .ref hr]))] ++ (stW G h ah as_ rr ra hm nb ns la lo nu tn sh))) 0 0 := by
  refine Ct.ofA (mk := fun r : Option Nat => va_rf r) (fun r => va_rf_or r) (Or.inl ⟨_, rfl⟩) (cc := cX1_problemWithShare) (maxL := 5) (by decide) rfl ⟨by simp [Value.category], Nat.le_of_ble_eq_true rfl⟩ ?_
  intro K hl hC hSF hnm hE
  subst hl
  have hgo := SFgoS (SFx.k G) hSF
  have q0_ : ∀ w ∈ u_ws RX1 TX1 2, w ∈ wsX1_problemWithShare := by decide +kernel
  have q1_ : Cond.fieldLink RX1 12 "FeatherShares$Changer" "state" "LFeatherShares$State;" ∈ wsX1_problemWithShare := by decide +kernel
  have q2_ : Cond.fieldLink RX1 85 "FeatherShares$Problem" "BIRD" "LFeatherShares$Problem;" ∈ wsX1_problemWithShare := by decide +kernel
  show V G K 5 0 0 0 [some (.ref hg), some (.ref (adD G 3)), some (.int x), some (.null), some (.int z)] [] ([(hg, .inr (4, [.ref h, .ref hr]))] ++ (stW G h ah as_ rr ra hm nb ns la lo nu tn sh))
  refine V.aload_n hC (x := hg) dX1_problemWithShare_0 rfl ?_
  refine V.getf hC (T := TX1) q0_ 0 q1_ rfl (0) rfl rfl (by decide) (.ref h) rfl dX1_problemWithShare_1 ?_
  refine V.iload_n hC (x := x) dX1_problemWithShare_4 rfl ?_
  refine V.callVr (n := 1) (As := [.int x]) (rest := []) hC (c_hasBird (kl K) G h ah as_ rr ra hm nb ns la lo nu tn sh hb8 hs6 x) SFk0 SFgo0 gX1_problemWithShare_X11_hasBird rfl ⟨rfl, rfl⟩ (by decide +kernel) ⟨by decide, by decide, by decide, by decide⟩ [1, 2, 3, 4, 5, 6, 7, 8, 9, 10, 11, 12, 13, 14, 15] rfl (by decide) rfl rfl rfl rfl (Nat.le_of_ble_eq_true rfl) dX1_problemWithShare_5 (fun r_5 u_5 hp_5 => ?_)
  subst hp_5
  show V G K 5 0 0 8 [some (.ref hg), some (.ref (adD G 3)), some (.int x), some (.null), some (.int z)] [.int (if ¬ x < 0 ∧ x < nI nb then 1 else 0)] ([(hg, .inr (4, [.ref h, .ref hr]))] ++ (stW G h ah as_ rr ra hm nb ns la lo nu tn sh))
  refine V.if_ne hC 15 dX1_problemWithShare_8 rfl (fun c_8 => ?_) (fun c_8 => ?_)
  · exact absurd (if10n c_8) hx
  · refine V.gets hC (n := "BIRD") (hSF.pz 2 (by decide)) q2_ rfl dX1_problemWithShare_11 ?_
    exact hE 14 _ (some (adP G 2)) () dX1_problemWithShare_14 rfl

set_option maxHeartbeats 4000000 in
set_option maxRecDepth 100000 in
theorem c_pwShare4FV (l : Launch) (G : Gx) (hg hr : Nat) (h ah as_ : Nat) (rr ra : Nat → Nat) (hm : Nat → Int32) (nb ns : Nat) (la : Int32) (lo : Int64) (nu : Nat → Int32) (tn : Nat → Nat) (sh : Nat → Nat → Int32) (hb8 : nb ≤ 8) (hs6 : ns ≤ 6) (b : Nat) (hb : b < nb) (k : Nat) (hk : k < 6) (ht : tn k ≤ 4) (z : Int32) : Ct l G (SFx G) yX1_problemWithShare wsX1_problemWithShare ({ frames := 1, cells := 0, slots := 0, locals := 21 }) [.ref hg, .ref (adD G 4), .int (nI b), .ref (rr k), .int z] ([(hg, .inr (4, [.ref h, .ref hr]))] ++ (stW G h ah as_ rr ra hm nb ns la lo nu tn sh)) mkA (fun (r : Option Nat) (_ : Unit) => r = some (adP G (pwK 4 (sh k) (tn k) b z))) (fun _ : Unit => ([(hg, .inr (4, [.ref h, .ref hr]))] ++ (stW G h ah as_ rr ra hm nb ns la lo nu tn sh))) 0 0 := by
  refine Ct.ofA (mk := fun r : Option Nat => va_rf r) (fun r => va_rf_or r) (Or.inl ⟨_, rfl⟩) (cc := cX1_problemWithShare) (maxL := 5) (by decide) rfl ⟨by simp [Value.category], Nat.le_of_ble_eq_true rfl⟩ ?_
  intro K hl hC hSF hnm hE
  subst hl
  have hgo := SFgoS (SFx.k G) hSF
  have q0_ : ∀ w ∈ u_ws RX1 TX1 2, w ∈ wsX1_problemWithShare := by decide +kernel
  have q1_ : Cond.fieldLink RX1 12 "FeatherShares$Changer" "state" "LFeatherShares$State;" ∈ wsX1_problemWithShare := by decide +kernel
  have q2_ : Cond.fieldLink RX1 94 "FeatherShares$Deed" "SPOIL" "LFeatherShares$Deed;" ∈ wsX1_problemWithShare := by decide +kernel
  have q3_ : Cond.fieldLink RX1 73 "FeatherShares$Problem" "ARGUMENT" "LFeatherShares$Problem;" ∈ wsX1_problemWithShare := by decide +kernel
  have q4_ : Cond.fieldLink RX1 103 "FeatherShares$Deed" "ISSUE" "LFeatherShares$Deed;" ∈ wsX1_problemWithShare := by decide +kernel
  have q5_ : Cond.fieldLink RX1 62 "FeatherShares$Problem" "NONE" "LFeatherShares$Problem;" ∈ wsX1_problemWithShare := by decide +kernel
  have q6_ : Cond.fieldLink RX1 79 "FeatherShares$Problem" "STATE" "LFeatherShares$Problem;" ∈ wsX1_problemWithShare := by decide +kernel
  show V G K 5 0 0 0 [some (.ref hg), some (.ref (adD G 4)), some (.int (nI b)), some (.ref (rr k)), some (.int z)] [] ([(hg, .inr (4, [.ref h, .ref hr]))] ++ (stW G h ah as_ rr ra hm nb ns la lo nu tn sh))
  refine V.aload_n hC (x := hg) dX1_problemWithShare_0 rfl ?_
  refine V.getf hC (T := TX1) q0_ 0 q1_ rfl (0) rfl rfl (by decide) (.ref h) rfl dX1_problemWithShare_1 ?_
  refine V.iload_n hC (x := nI b) dX1_problemWithShare_4 rfl ?_
  refine V.callVr (n := 1) (As := [.int (nI b)]) (rest := []) hC (c_hasBird (kl K) G h ah as_ rr ra hm nb ns la lo nu tn sh hb8 hs6 (nI b)) SFk0 SFgo0 gX1_problemWithShare_X11_hasBird rfl ⟨rfl, rfl⟩ (by decide +kernel) ⟨by decide, by decide, by decide, by decide⟩ [1, 2, 3, 4, 5, 6, 7, 8, 9, 10, 11, 12, 13, 14, 15] rfl (by decide) rfl rfl rfl rfl (Nat.le_of_ble_eq_true rfl) dX1_problemWithShare_5 (fun r_5 u_5 hp_5 => ?_)
  subst hp_5
  show V G K 5 0 0 8 [some (.ref hg), some (.ref (adD G 4)), some (.int (nI b)), some (.ref (rr k)), some (.int z)] [.int (if ¬ (nI b) < 0 ∧ (nI b) < nI nb then 1 else 0)] ([(hg, .inr (4, [.ref h, .ref hr]))] ++ (stW G h ah as_ rr ra hm nb ns la lo nu tn sh))
  refine V.if_ne hC 15 dX1_problemWithShare_8 rfl (fun c_8 => ?_) (fun c_8 => ?_)
  · refine V.aload_n hC (x := (rr k)) dX1_problemWithShare_15 rfl ?_
    refine V.ifnonnull hC 23 dX1_problemWithShare_16 rfl ?_
    refine V.aload_n hC (x := adD G 4) dX1_problemWithShare_23 rfl ?_
    refine V.gets hC (n := "SPOIL") (hSF.dz 4 (by decide)) q2_ rfl dX1_problemWithShare_24 ?_
    refine V.acmp_ne hC 47 dX1_problemWithShare_27 rfl (fun c_27 => ?_) (fun c_27 => ?_)
    · exact absurd rfl c_27
    · refine V.iload hC (x := z) dX1_problemWithShare_30 rfl ?_
      refine V.if_eq hC 43 dX1_problemWithShare_32 rfl (fun c_32 => ?_) (fun c_32 => ?_)
      · refine V.gets hC (n := "ARGUMENT") (hSF.pz 1 (by decide)) q3_ rfl dX1_problemWithShare_43 ?_
        exact hE 46 _ (some (adP G 1)) () dX1_problemWithShare_46 (by rw [pwK, if_pos ⟨rfl, Or.inl c_32⟩])
      · refine V.iload hC (x := z) dX1_problemWithShare_35 rfl ?_
        refine V.callSr (n := 1) (As := [.int z]) (rest := []) hC (c_isResidue (kl K) G z) SFk0 SFgo0 gX1_problemWithShare_X1_isResidue rfl ⟨rfl, rfl⟩ (by decide +kernel) ⟨by decide, by decide, by decide, by decide⟩ [] rfl (by decide) rfl rfl (Nat.le_of_ble_eq_true rfl) dX1_problemWithShare_37 (fun r_37 u_37 hp_37 => ?_)
        subst hp_37
        show V G K 5 0 0 40 [some (.ref hg), some (.ref (adD G 4)), some (.int (nI b)), some (.ref (rr k)), some (.int z)] [.int (if isR z then 1 else 0)] ([(hg, .inr (4, [.ref h, .ref hr]))] ++ (stW G h ah as_ rr ra hm nb ns la lo nu tn sh))
        refine V.if_ne hC 47 dX1_problemWithShare_40 rfl (fun c_40 => ?_) (fun c_40 => ?_)
        · refine V.aload_n hC (x := (rr k)) dX1_problemWithShare_47 rfl ?_
          refine V.iload_n hC (x := nI b) dX1_problemWithShare_48 rfl ?_
          refine V.callVr (n := 1) (As := [.int (nI b)]) (rest := []) hC (c_isHeldBy (kl K) G (rr k) (ra k) (sh k) (nu k) (nI (tn k)) b (by omega)) SFk0 SFgo0 gX1_problemWithShare_X10_isHeldBy rfl ⟨rfl, rfl⟩ (by decide +kernel) ⟨by decide, by decide, by decide, by decide⟩ [1 + (3 + 2 * k), 1 + (4 + 2 * k)] (by rcases (lt6 hk) with rfl | rfl | rfl | rfl | rfl | rfl <;> rfl) (by rcases (lt6 hk) with rfl | rfl | rfl | rfl | rfl | rfl <;> rfl) rfl rfl rfl rfl (Nat.le_of_ble_eq_true rfl) dX1_problemWithShare_49 (fun r_49 u_49 hp_49 => ?_)
          subst hp_49
          show V G K 5 0 0 52 [some (.ref hg), some (.ref (adD G 4)), some (.int (nI b)), some (.ref (rr k)), some (.int z)] [.int (if sh k b = -1 then 0 else 1)] ([(hg, .inr (4, [.ref h, .ref hr]))] ++ (stW G h ah as_ rr ra hm nb ns la lo nu tn sh))
          refine V.aload_n hC (x := adD G 4) dX1_problemWithShare_52 rfl ?_
          refine V.gets hC (n := "ISSUE") (hSF.dz 5 (by decide)) q4_ rfl dX1_problemWithShare_53 ?_
          refine V.acmp_ne hC 63 dX1_problemWithShare_56 rfl (fun c_56 => ?_) (fun c_56 => ?_)
          · refine V.iconst hC 0 dX1_problemWithShare_63 rfl ?_
            refine V.icmp_ne hC 71 dX1_problemWithShare_64 rfl (fun c_64 => ?_) (fun c_64 => ?_)
            · refine V.aload_n hC (x := adD G 4) dX1_problemWithShare_71 rfl ?_
              refine V.gets hC (n := "ISSUE") (hSF.dz 5 (by decide)) q4_ rfl dX1_problemWithShare_72 ?_
              refine V.acmp_ne hC 91 dX1_problemWithShare_75 rfl (fun c_75 => ?_) (fun c_75 => ?_)
              · refine V.gets hC (n := "NONE") (hSF.pz 0 (by decide)) q5_ rfl dX1_problemWithShare_91 ?_
                exact hE 94 _ (some (adP G 0)) () dX1_problemWithShare_94 (by rw [pwK, if_neg (fun z => z.2.elim c_32 (fun y => y (if10n c_40))), if_neg (fun z => z.elim (fun y => absurd y.1 (by decide)) (fun y => c_64 (if_pos y.2))), if_neg (fun z => absurd z.1 (by decide))])
              · exact absurd ((hSF.dne (by decide) (by decide)).mp c_75) (by decide)
            · refine V.gets hC (n := "STATE") (hSF.pz 4 (by decide)) q6_ rfl dX1_problemWithShare_67 ?_
              exact hE 70 _ (some (adP G 4)) () dX1_problemWithShare_70 (by rw [pwK, if_neg (fun z => z.2.elim c_32 (fun y => y (if10n c_40))), if_pos (Or.inr ⟨by decide, (Decidable.byContradiction (fun z => by rw [if_neg z] at c_64; exact absurd c_64 (by decide)))⟩)])
          · exact absurd ((hSF.dne (by decide) (by decide)).mp c_56) (by decide)
        · refine V.gets hC (n := "ARGUMENT") (hSF.pz 1 (by decide)) q3_ rfl dX1_problemWithShare_43 ?_
          exact hE 46 _ (some (adP G 1)) () dX1_problemWithShare_46 (by rw [pwK, if_pos ⟨rfl, Or.inr (if10 c_40)⟩])
  · exact absurd ⟨Int32.not_lt.mpr (nI_nonneg (by omega)), (nI_ltI (by omega) (by omega)).mpr hb⟩ (if10 c_8)

set_option maxHeartbeats 4000000 in
set_option maxRecDepth 100000 in
theorem c_pwShare4FX (l : Launch) (G : Gx) (hg hr : Nat) (h ah as_ : Nat) (rr ra : Nat → Nat) (hm : Nat → Int32) (nb ns : Nat) (la : Int32) (lo : Int64) (nu : Nat → Int32) (tn : Nat → Nat) (sh : Nat → Nat → Int32) (hb8 : nb ≤ 8) (hs6 : ns ≤ 6) (x : Int32) (hx : ¬ (¬ x < 0 ∧ x < nI nb)) (k : Nat) (hk : k < 6) (ht : tn k ≤ 4) (z : Int32) : Ct l G (SFx G) yX1_problemWithShare wsX1_problemWithShare ({ frames := 1, cells := 0, slots := 0, locals := 21 }) [.ref hg, .ref (adD G 4), .int x, .ref (rr k), .int z] ([(hg, .inr (4, [.ref h, .ref hr]))] ++ (stW G h ah as_ rr ra hm nb ns la lo nu tn sh)) mkA (fun (r : Option Nat) (_ : Unit) => r = some (adP G 2)) (fun _ : Unit => ([(hg, .inr (4, [.ref h, .ref hr]))] ++ (stW G h ah as_ rr ra hm nb ns la lo nu tn sh))) 0 0 := by
  refine Ct.ofA (mk := fun r : Option Nat => va_rf r) (fun r => va_rf_or r) (Or.inl ⟨_, rfl⟩) (cc := cX1_problemWithShare) (maxL := 5) (by decide) rfl ⟨by simp [Value.category], Nat.le_of_ble_eq_true rfl⟩ ?_
  intro K hl hC hSF hnm hE
  subst hl
  have hgo := SFgoS (SFx.k G) hSF
  have q0_ : ∀ w ∈ u_ws RX1 TX1 2, w ∈ wsX1_problemWithShare := by decide +kernel
  have q1_ : Cond.fieldLink RX1 12 "FeatherShares$Changer" "state" "LFeatherShares$State;" ∈ wsX1_problemWithShare := by decide +kernel
  have q2_ : Cond.fieldLink RX1 85 "FeatherShares$Problem" "BIRD" "LFeatherShares$Problem;" ∈ wsX1_problemWithShare := by decide +kernel
  show V G K 5 0 0 0 [some (.ref hg), some (.ref (adD G 4)), some (.int x), some (.ref (rr k)), some (.int z)] [] ([(hg, .inr (4, [.ref h, .ref hr]))] ++ (stW G h ah as_ rr ra hm nb ns la lo nu tn sh))
  refine V.aload_n hC (x := hg) dX1_problemWithShare_0 rfl ?_
  refine V.getf hC (T := TX1) q0_ 0 q1_ rfl (0) rfl rfl (by decide) (.ref h) rfl dX1_problemWithShare_1 ?_
  refine V.iload_n hC (x := x) dX1_problemWithShare_4 rfl ?_
  refine V.callVr (n := 1) (As := [.int x]) (rest := []) hC (c_hasBird (kl K) G h ah as_ rr ra hm nb ns la lo nu tn sh hb8 hs6 x) SFk0 SFgo0 gX1_problemWithShare_X11_hasBird rfl ⟨rfl, rfl⟩ (by decide +kernel) ⟨by decide, by decide, by decide, by decide⟩ [1, 2, 3, 4, 5, 6, 7, 8, 9, 10, 11, 12, 13, 14, 15] rfl (by decide) rfl rfl rfl rfl (Nat.le_of_ble_eq_true rfl) dX1_problemWithShare_5 (fun r_5 u_5 hp_5 => ?_)
  subst hp_5
  show V G K 5 0 0 8 [some (.ref hg), some (.ref (adD G 4)), some (.int x), some (.ref (rr k)), some (.int z)] [.int (if ¬ x < 0 ∧ x < nI nb then 1 else 0)] ([(hg, .inr (4, [.ref h, .ref hr]))] ++ (stW G h ah as_ rr ra hm nb ns la lo nu tn sh))
  refine V.if_ne hC 15 dX1_problemWithShare_8 rfl (fun c_8 => ?_) (fun c_8 => ?_)
  · exact absurd (if10n c_8) hx
  · refine V.gets hC (n := "BIRD") (hSF.pz 2 (by decide)) q2_ rfl dX1_problemWithShare_11 ?_
    exact hE 14 _ (some (adP G 2)) () dX1_problemWithShare_14 rfl

set_option maxHeartbeats 4000000 in
set_option maxRecDepth 100000 in
theorem c_pwShare4NV (l : Launch) (G : Gx) (hg hr : Nat) (h ah as_ : Nat) (rr ra : Nat → Nat) (hm : Nat → Int32) (nb ns : Nat) (la : Int32) (lo : Int64) (nu : Nat → Int32) (tn : Nat → Nat) (sh : Nat → Nat → Int32) (hb8 : nb ≤ 8) (hs6 : ns ≤ 6) (b : Nat) (hb : b < nb) (z : Int32) : Ct l G (SFx G) yX1_problemWithShare wsX1_problemWithShare ({ frames := 1, cells := 0, slots := 0, locals := 21 }) [.ref hg, .ref (adD G 4), .int (nI b), .null, .int z] ([(hg, .inr (4, [.ref h, .ref hr]))] ++ (stW G h ah as_ rr ra hm nb ns la lo nu tn sh)) mkA (fun (r : Option Nat) (_ : Unit) => r = some (adP G 3)) (fun _ : Unit => ([(hg, .inr (4, [.ref h, .ref hr]))] ++ (stW G h ah as_ rr ra hm nb ns la lo nu tn sh))) 0 0 := by
  refine Ct.ofA (mk := fun r : Option Nat => va_rf r) (fun r => va_rf_or r) (Or.inl ⟨_, rfl⟩) (cc := cX1_problemWithShare) (maxL := 5) (by decide) rfl ⟨by simp [Value.category], Nat.le_of_ble_eq_true rfl⟩ ?_
  intro K hl hC hSF hnm hE
  subst hl
  have hgo := SFgoS (SFx.k G) hSF
  have q0_ : ∀ w ∈ u_ws RX1 TX1 2, w ∈ wsX1_problemWithShare := by decide +kernel
  have q1_ : Cond.fieldLink RX1 12 "FeatherShares$Changer" "state" "LFeatherShares$State;" ∈ wsX1_problemWithShare := by decide +kernel
  have q2_ : Cond.fieldLink RX1 56 "FeatherShares$Problem" "SECRET" "LFeatherShares$Problem;" ∈ wsX1_problemWithShare := by decide +kernel
  show V G K 5 0 0 0 [some (.ref hg), some (.ref (adD G 4)), some (.int (nI b)), some (.null), some (.int z)] [] ([(hg, .inr (4, [.ref h, .ref hr]))] ++ (stW G h ah as_ rr ra hm nb ns la lo nu tn sh))
  refine V.aload_n hC (x := hg) dX1_problemWithShare_0 rfl ?_
  refine V.getf hC (T := TX1) q0_ 0 q1_ rfl (0) rfl rfl (by decide) (.ref h) rfl dX1_problemWithShare_1 ?_
  refine V.iload_n hC (x := nI b) dX1_problemWithShare_4 rfl ?_
  refine V.callVr (n := 1) (As := [.int (nI b)]) (rest := []) hC (c_hasBird (kl K) G h ah as_ rr ra hm nb ns la lo nu tn sh hb8 hs6 (nI b)) SFk0 SFgo0 gX1_problemWithShare_X11_hasBird rfl ⟨rfl, rfl⟩ (by decide +kernel) ⟨by decide, by decide, by decide, by decide⟩ [1, 2, 3, 4, 5, 6, 7, 8, 9, 10, 11, 12, 13, 14, 15] rfl (by decide) rfl rfl rfl rfl (Nat.le_of_ble_eq_true rfl) dX1_problemWithShare_5 (fun r_5 u_5 hp_5 => ?_)
  subst hp_5
  show V G K 5 0 0 8 [some (.ref hg), some (.ref (adD G 4)), some (.int (nI b)), some (.null), some (.int z)] [.int (if ¬ (nI b) < 0 ∧ (nI b) < nI nb then 1 else 0)] ([(hg, .inr (4, [.ref h, .ref hr]))] ++ (stW G h ah as_ rr ra hm nb ns la lo nu tn sh))
  refine V.if_ne hC 15 dX1_problemWithShare_8 rfl (fun c_8 => ?_) (fun c_8 => ?_)
  · refine V.aload_nN hC dX1_problemWithShare_15 rfl ?_
    refine V.ifnonnullN hC dX1_problemWithShare_16 ?_
    refine V.gets hC (n := "SECRET") (hSF.pz 3 (by decide)) q2_ rfl dX1_problemWithShare_19 ?_
    exact hE 22 _ (some (adP G 3)) () dX1_problemWithShare_22 rfl
  · exact absurd ⟨Int32.not_lt.mpr (nI_nonneg (by omega)), (nI_ltI (by omega) (by omega)).mpr hb⟩ (if10 c_8)

set_option maxHeartbeats 4000000 in
set_option maxRecDepth 100000 in
theorem c_pwShare4NX (l : Launch) (G : Gx) (hg hr : Nat) (h ah as_ : Nat) (rr ra : Nat → Nat) (hm : Nat → Int32) (nb ns : Nat) (la : Int32) (lo : Int64) (nu : Nat → Int32) (tn : Nat → Nat) (sh : Nat → Nat → Int32) (hb8 : nb ≤ 8) (hs6 : ns ≤ 6) (x : Int32) (hx : ¬ (¬ x < 0 ∧ x < nI nb)) (z : Int32) : Ct l G (SFx G) yX1_problemWithShare wsX1_problemWithShare ({ frames := 1, cells := 0, slots := 0, locals := 21 }) [.ref hg, .ref (adD G 4), .int x, .null, .int z] ([(hg, .inr (4, [.ref h, .ref hr]))] ++ (stW G h ah as_ rr ra hm nb ns la lo nu tn sh)) mkA (fun (r : Option Nat) (_ : Unit) => r = some (adP G 2)) (fun _ : Unit => ([(hg, .inr (4, [.ref h, .ref hr]))] ++ (stW G h ah as_ rr ra hm nb ns la lo nu tn sh))) 0 0 := by
  refine Ct.ofA (mk := fun r : Option Nat => va_rf r) (fun r => va_rf_or r) (Or.inl ⟨_, rfl⟩) (cc := cX1_problemWithShare) (maxL := 5) (by decide) rfl ⟨by simp [Value.category], Nat.le_of_ble_eq_true rfl⟩ ?_
  intro K hl hC hSF hnm hE
  subst hl
  have hgo := SFgoS (SFx.k G) hSF
  have q0_ : ∀ w ∈ u_ws RX1 TX1 2, w ∈ wsX1_problemWithShare := by decide +kernel
  have q1_ : Cond.fieldLink RX1 12 "FeatherShares$Changer" "state" "LFeatherShares$State;" ∈ wsX1_problemWithShare := by decide +kernel
  have q2_ : Cond.fieldLink RX1 85 "FeatherShares$Problem" "BIRD" "LFeatherShares$Problem;" ∈ wsX1_problemWithShare := by decide +kernel
  show V G K 5 0 0 0 [some (.ref hg), some (.ref (adD G 4)), some (.int x), some (.null), some (.int z)] [] ([(hg, .inr (4, [.ref h, .ref hr]))] ++ (stW G h ah as_ rr ra hm nb ns la lo nu tn sh))
  refine V.aload_n hC (x := hg) dX1_problemWithShare_0 rfl ?_
  refine V.getf hC (T := TX1) q0_ 0 q1_ rfl (0) rfl rfl (by decide) (.ref h) rfl dX1_problemWithShare_1 ?_
  refine V.iload_n hC (x := x) dX1_problemWithShare_4 rfl ?_
  refine V.callVr (n := 1) (As := [.int x]) (rest := []) hC (c_hasBird (kl K) G h ah as_ rr ra hm nb ns la lo nu tn sh hb8 hs6 x) SFk0 SFgo0 gX1_problemWithShare_X11_hasBird rfl ⟨rfl, rfl⟩ (by decide +kernel) ⟨by decide, by decide, by decide, by decide⟩ [1, 2, 3, 4, 5, 6, 7, 8, 9, 10, 11, 12, 13, 14, 15] rfl (by decide) rfl rfl rfl rfl (Nat.le_of_ble_eq_true rfl) dX1_problemWithShare_5 (fun r_5 u_5 hp_5 => ?_)
  subst hp_5
  show V G K 5 0 0 8 [some (.ref hg), some (.ref (adD G 4)), some (.int x), some (.null), some (.int z)] [.int (if ¬ x < 0 ∧ x < nI nb then 1 else 0)] ([(hg, .inr (4, [.ref h, .ref hr]))] ++ (stW G h ah as_ rr ra hm nb ns la lo nu tn sh))
  refine V.if_ne hC 15 dX1_problemWithShare_8 rfl (fun c_8 => ?_) (fun c_8 => ?_)
  · exact absurd (if10n c_8) hx
  · refine V.gets hC (n := "BIRD") (hSF.pz 2 (by decide)) q2_ rfl dX1_problemWithShare_11 ?_
    exact hE 14 _ (some (adP G 2)) () dX1_problemWithShare_14 rfl

set_option maxHeartbeats 4000000 in
set_option maxRecDepth 100000 in
theorem c_pwShare5FV (l : Launch) (G : Gx) (hg hr : Nat) (h ah as_ : Nat) (rr ra : Nat → Nat) (hm : Nat → Int32) (nb ns : Nat) (la : Int32) (lo : Int64) (nu : Nat → Int32) (tn : Nat → Nat) (sh : Nat → Nat → Int32) (hb8 : nb ≤ 8) (hs6 : ns ≤ 6) (b : Nat) (hb : b < nb) (k : Nat) (hk : k < 6) (ht : tn k ≤ 4) (z : Int32) : Ct l G (SFx G) yX1_problemWithShare wsX1_problemWithShare ({ frames := 3, cells := 0, slots := 0, locals := 64 }) [.ref hg, .ref (adD G 5), .int (nI b), .ref (rr k), .int z] ([(hg, .inr (4, [.ref h, .ref hr]))] ++ (stW G h ah as_ rr ra hm nb ns la lo nu tn sh)) mkA (fun (r : Option Nat) (_ : Unit) => r = some (adP G (pwK 5 (sh k) (tn k) b z))) (fun _ : Unit => ([(hg, .inr (4, [.ref h, .ref hr]))] ++ (stW G h ah as_ rr ra hm nb ns la lo nu tn sh))) 0 0 := by
  refine Ct.ofA (mk := fun r : Option Nat => va_rf r) (fun r => va_rf_or r) (Or.inl ⟨_, rfl⟩) (cc := cX1_problemWithShare) (maxL := 5) (by decide) rfl ⟨by simp [Value.category], Nat.le_of_ble_eq_true rfl⟩ ?_
  intro K hl hC hSF hnm hE
  subst hl
  have hgo := SFgoS (SFx.k G) hSF
  have q0_ : ∀ w ∈ u_ws RX1 TX1 2, w ∈ wsX1_problemWithShare := by decide +kernel
  have q1_ : Cond.fieldLink RX1 12 "FeatherShares$Changer" "state" "LFeatherShares$State;" ∈ wsX1_problemWithShare := by decide +kernel
  have q2_ : Cond.fieldLink RX1 94 "FeatherShares$Deed" "SPOIL" "LFeatherShares$Deed;" ∈ wsX1_problemWithShare := by decide +kernel
  have q3_ : Cond.fieldLink RX1 103 "FeatherShares$Deed" "ISSUE" "LFeatherShares$Deed;" ∈ wsX1_problemWithShare := by decide +kernel
  have q4_ : Cond.fieldLink RX1 62 "FeatherShares$Problem" "NONE" "LFeatherShares$Problem;" ∈ wsX1_problemWithShare := by decide +kernel
  have q5_ : Cond.fieldLink RX1 110 "FeatherShares$Problem" "HOLDERS" "LFeatherShares$Problem;" ∈ wsX1_problemWithShare := by decide +kernel
  have q6_ : Cond.fieldLink RX1 79 "FeatherShares$Problem" "STATE" "LFeatherShares$Problem;" ∈ wsX1_problemWithShare := by decide +kernel
  show V G K 5 0 0 0 [some (.ref hg), some (.ref (adD G 5)), some (.int (nI b)), some (.ref (rr k)), some (.int z)] [] ([(hg, .inr (4, [.ref h, .ref hr]))] ++ (stW G h ah as_ rr ra hm nb ns la lo nu tn sh))
  refine V.aload_n hC (x := hg) dX1_problemWithShare_0 rfl ?_
  refine V.getf hC (T := TX1) q0_ 0 q1_ rfl (0) rfl rfl (by decide) (.ref h) rfl dX1_problemWithShare_1 ?_
  refine V.iload_n hC (x := nI b) dX1_problemWithShare_4 rfl ?_
  refine V.callVr (n := 1) (As := [.int (nI b)]) (rest := []) hC (c_hasBird (kl K) G h ah as_ rr ra hm nb ns la lo nu tn sh hb8 hs6 (nI b)) SFk0 SFgo0 gX1_problemWithShare_X11_hasBird rfl ⟨rfl, rfl⟩ (by decide +kernel) ⟨by decide, by decide, by decide, by decide⟩ [1, 2, 3, 4, 5, 6, 7, 8, 9, 10, 11, 12, 13, 14, 15] rfl (by decide) rfl rfl rfl rfl (Nat.le_of_ble_eq_true rfl) dX1_problemWithShare_5 (fun r_5 u_5 hp_5 => ?_)
  subst hp_5
  show V G K 5 0 0 8 [some (.ref hg), some (.ref (adD G 5)), some (.int (nI b)), some (.ref (rr k)), some (.int z)] [.int (if ¬ (nI b) < 0 ∧ (nI b) < nI nb then 1 else 0)] ([(hg, .inr (4, [.ref h, .ref hr]))] ++ (stW G h ah as_ rr ra hm nb ns la lo nu tn sh))
  refine V.if_ne hC 15 dX1_problemWithShare_8 rfl (fun c_8 => ?_) (fun c_8 => ?_)
  · refine V.aload_n hC (x := (rr k)) dX1_problemWithShare_15 rfl ?_
    refine V.ifnonnull hC 23 dX1_problemWithShare_16 rfl ?_
    refine V.aload_n hC (x := adD G 5) dX1_problemWithShare_23 rfl ?_
    refine V.gets hC (n := "SPOIL") (hSF.dz 4 (by decide)) q2_ rfl dX1_problemWithShare_24 ?_
    refine V.acmp_ne hC 47 dX1_problemWithShare_27 rfl (fun c_27 => ?_) (fun c_27 => ?_)
    · refine V.aload_n hC (x := (rr k)) dX1_problemWithShare_47 rfl ?_
      refine V.iload_n hC (x := nI b) dX1_problemWithShare_48 rfl ?_
      refine V.callVr (n := 1) (As := [.int (nI b)]) (rest := []) hC (c_isHeldBy (kl K) G (rr k) (ra k) (sh k) (nu k) (nI (tn k)) b (by omega)) SFk0 SFgo0 gX1_problemWithShare_X10_isHeldBy rfl ⟨rfl, rfl⟩ (by decide +kernel) ⟨by decide, by decide, by decide, by decide⟩ [1 + (3 + 2 * k), 1 + (4 + 2 * k)] (by rcases (lt6 hk) with rfl | rfl | rfl | rfl | rfl | rfl <;> rfl) (by rcases (lt6 hk) with rfl | rfl | rfl | rfl | rfl | rfl <;> rfl) rfl rfl rfl rfl (Nat.le_of_ble_eq_true rfl) dX1_problemWithShare_49 (fun r_49 u_49 hp_49 => ?_)
      subst hp_49
      show V G K 5 0 0 52 [some (.ref hg), some (.ref (adD G 5)), some (.int (nI b)), some (.ref (rr k)), some (.int z)] [.int (if sh k b = -1 then 0 else 1)] ([(hg, .inr (4, [.ref h, .ref hr]))] ++ (stW G h ah as_ rr ra hm nb ns la lo nu tn sh))
      refine V.aload_n hC (x := adD G 5) dX1_problemWithShare_52 rfl ?_
      refine V.gets hC (n := "ISSUE") (hSF.dz 5 (by decide)) q3_ rfl dX1_problemWithShare_53 ?_
      refine V.acmp_ne hC 63 dX1_problemWithShare_56 rfl (fun c_56 => ?_) (fun c_56 => ?_)
      · exact absurd rfl c_56
      · refine V.iconst hC 1 dX1_problemWithShare_59 rfl ?_
        refine V.goto hC 64 dX1_problemWithShare_60 rfl ?_
        refine V.icmp_ne hC 71 dX1_problemWithShare_64 rfl (fun c_64 => ?_) (fun c_64 => ?_)
        · refine V.aload_n hC (x := adD G 5) dX1_problemWithShare_71 rfl ?_
          refine V.gets hC (n := "ISSUE") (hSF.dz 5 (by decide)) q3_ rfl dX1_problemWithShare_72 ?_
          refine V.acmp_ne hC 91 dX1_problemWithShare_75 rfl (fun c_75 => ?_) (fun c_75 => ?_)
          · exact absurd rfl c_75
          · refine V.aload_n hC (x := (rr k)) dX1_problemWithShare_78 rfl ?_
            refine V.callVr (n := 0) (As := []) (rest := []) hC (c_isRebuildable (kl K) G (rr k) (ra k) (sh k) (nu k) (tn k) ht) SFk0 SFgo0 gX1_problemWithShare_X10_isRebuildable rfl ⟨rfl, rfl⟩ (by decide +kernel) ⟨by decide, by decide, by decide, by decide⟩ [1 + (3 + 2 * k), 1 + (4 + 2 * k)] (by rcases (lt6 hk) with rfl | rfl | rfl | rfl | rfl | rfl <;> rfl) (by rcases (lt6 hk) with rfl | rfl | rfl | rfl | rfl | rfl <;> rfl) rfl rfl rfl rfl (Nat.le_of_ble_eq_true rfl) dX1_problemWithShare_79 (fun r_79 u_79 hp_79 => ?_)
            subst hp_79
            show V G K 5 0 0 82 [some (.ref hg), some (.ref (adD G 5)), some (.int (nI b)), some (.ref (rr k)), some (.int z)] [.int (if tn k ≤ hc (sh k) 8 then 1 else 0)] ([(hg, .inr (4, [.ref h, .ref hr]))] ++ (stW G h ah as_ rr ra hm nb ns la lo nu tn sh))
            refine V.if_ne hC 91 dX1_problemWithShare_82 rfl (fun c_82 => ?_) (fun c_82 => ?_)
            · refine V.gets hC (n := "NONE") (hSF.pz 0 (by decide)) q4_ rfl dX1_problemWithShare_91 ?_
              exact hE 94 _ (some (adP G 0)) () dX1_problemWithShare_94 (by rw [pwK, if_neg (fun z => absurd z.1 (by decide)), if_neg (fun z => z.elim (fun y => c_64 (if_neg y.2)) (fun y => y.1 rfl)), if_neg (fun z => z.2 (if10n c_82))])
            · refine V.gets hC (n := "HOLDERS") (hSF.pz 5 (by decide)) q5_ rfl dX1_problemWithShare_85 ?_
              refine V.goto hC 94 dX1_problemWithShare_88 rfl ?_
              exact hE 94 _ (some (adP G 5)) () dX1_problemWithShare_94 (by rw [pwK, if_neg (fun z => absurd z.1 (by decide)), if_neg (fun z => z.elim (fun y => c_64 (if_neg y.2)) (fun y => y.1 rfl)), if_pos ⟨rfl, if10 c_82⟩])
        · refine V.gets hC (n := "STATE") (hSF.pz 4 (by decide)) q6_ rfl dX1_problemWithShare_67 ?_
          exact hE 70 _ (some (adP G 4)) () dX1_problemWithShare_70 (by rw [pwK, if_neg (fun z => absurd z.1 (by decide)), if_pos (Or.inl ⟨rfl, (fun z => by rw [if_pos z] at c_64; exact absurd c_64 (by decide))⟩)])
    · exact absurd ((hSF.dne (by decide) (by decide)).mp c_27) (by decide)
  · exact absurd ⟨Int32.not_lt.mpr (nI_nonneg (by omega)), (nI_ltI (by omega) (by omega)).mpr hb⟩ (if10 c_8)

set_option maxHeartbeats 4000000 in
set_option maxRecDepth 100000 in
theorem c_pwShare5FX (l : Launch) (G : Gx) (hg hr : Nat) (h ah as_ : Nat) (rr ra : Nat → Nat) (hm : Nat → Int32) (nb ns : Nat) (la : Int32) (lo : Int64) (nu : Nat → Int32) (tn : Nat → Nat) (sh : Nat → Nat → Int32) (hb8 : nb ≤ 8) (hs6 : ns ≤ 6) (x : Int32) (hx : ¬ (¬ x < 0 ∧ x < nI nb)) (k : Nat) (hk : k < 6) (ht : tn k ≤ 4) (z : Int32) : Ct l G (SFx G) yX1_problemWithShare wsX1_problemWithShare ({ frames := 1, cells := 0, slots := 0, locals := 21 }) [.ref hg, .ref (adD G 5), .int x, .ref (rr k), .int z] ([(hg, .inr (4, [.ref h, .ref hr]))] ++ (stW G h ah as_ rr ra hm nb ns la lo nu tn sh)) mkA (fun (r : Option Nat) (_ : Unit) => r = some (adP G 2)) (fun _ : Unit => ([(hg, .inr (4, [.ref h, .ref hr]))] ++ (stW G h ah as_ rr ra hm nb ns la lo nu tn sh))) 0 0 := by
  refine Ct.ofA (mk := fun r : Option Nat => va_rf r) (fun r => va_rf_or r) (Or.inl ⟨_, rfl⟩) (cc := cX1_problemWithShare) (maxL := 5) (by decide) rfl ⟨by simp [Value.category], Nat.le_of_ble_eq_true rfl⟩ ?_
  intro K hl hC hSF hnm hE
  subst hl
  have hgo := SFgoS (SFx.k G) hSF
  have q0_ : ∀ w ∈ u_ws RX1 TX1 2, w ∈ wsX1_problemWithShare := by decide +kernel
  have q1_ : Cond.fieldLink RX1 12 "FeatherShares$Changer" "state" "LFeatherShares$State;" ∈ wsX1_problemWithShare := by decide +kernel
  have q2_ : Cond.fieldLink RX1 85 "FeatherShares$Problem" "BIRD" "LFeatherShares$Problem;" ∈ wsX1_problemWithShare := by decide +kernel
  show V G K 5 0 0 0 [some (.ref hg), some (.ref (adD G 5)), some (.int x), some (.ref (rr k)), some (.int z)] [] ([(hg, .inr (4, [.ref h, .ref hr]))] ++ (stW G h ah as_ rr ra hm nb ns la lo nu tn sh))
  refine V.aload_n hC (x := hg) dX1_problemWithShare_0 rfl ?_
  refine V.getf hC (T := TX1) q0_ 0 q1_ rfl (0) rfl rfl (by decide) (.ref h) rfl dX1_problemWithShare_1 ?_
  refine V.iload_n hC (x := x) dX1_problemWithShare_4 rfl ?_
  refine V.callVr (n := 1) (As := [.int x]) (rest := []) hC (c_hasBird (kl K) G h ah as_ rr ra hm nb ns la lo nu tn sh hb8 hs6 x) SFk0 SFgo0 gX1_problemWithShare_X11_hasBird rfl ⟨rfl, rfl⟩ (by decide +kernel) ⟨by decide, by decide, by decide, by decide⟩ [1, 2, 3, 4, 5, 6, 7, 8, 9, 10, 11, 12, 13, 14, 15] rfl (by decide) rfl rfl rfl rfl (Nat.le_of_ble_eq_true rfl) dX1_problemWithShare_5 (fun r_5 u_5 hp_5 => ?_)
  subst hp_5
  show V G K 5 0 0 8 [some (.ref hg), some (.ref (adD G 5)), some (.int x), some (.ref (rr k)), some (.int z)] [.int (if ¬ x < 0 ∧ x < nI nb then 1 else 0)] ([(hg, .inr (4, [.ref h, .ref hr]))] ++ (stW G h ah as_ rr ra hm nb ns la lo nu tn sh))
  refine V.if_ne hC 15 dX1_problemWithShare_8 rfl (fun c_8 => ?_) (fun c_8 => ?_)
  · exact absurd (if10n c_8) hx
  · refine V.gets hC (n := "BIRD") (hSF.pz 2 (by decide)) q2_ rfl dX1_problemWithShare_11 ?_
    exact hE 14 _ (some (adP G 2)) () dX1_problemWithShare_14 rfl

set_option maxHeartbeats 4000000 in
set_option maxRecDepth 100000 in
theorem c_pwShare5NV (l : Launch) (G : Gx) (hg hr : Nat) (h ah as_ : Nat) (rr ra : Nat → Nat) (hm : Nat → Int32) (nb ns : Nat) (la : Int32) (lo : Int64) (nu : Nat → Int32) (tn : Nat → Nat) (sh : Nat → Nat → Int32) (hb8 : nb ≤ 8) (hs6 : ns ≤ 6) (b : Nat) (hb : b < nb) (z : Int32) : Ct l G (SFx G) yX1_problemWithShare wsX1_problemWithShare ({ frames := 1, cells := 0, slots := 0, locals := 21 }) [.ref hg, .ref (adD G 5), .int (nI b), .null, .int z] ([(hg, .inr (4, [.ref h, .ref hr]))] ++ (stW G h ah as_ rr ra hm nb ns la lo nu tn sh)) mkA (fun (r : Option Nat) (_ : Unit) => r = some (adP G 3)) (fun _ : Unit => ([(hg, .inr (4, [.ref h, .ref hr]))] ++ (stW G h ah as_ rr ra hm nb ns la lo nu tn sh))) 0 0 := by
  refine Ct.ofA (mk := fun r : Option Nat => va_rf r) (fun r => va_rf_or r) (Or.inl ⟨_, rfl⟩) (cc := cX1_problemWithShare) (maxL := 5) (by decide) rfl ⟨by simp [Value.category], Nat.le_of_ble_eq_true rfl⟩ ?_
  intro K hl hC hSF hnm hE
  subst hl
  have hgo := SFgoS (SFx.k G) hSF
  have q0_ : ∀ w ∈ u_ws RX1 TX1 2, w ∈ wsX1_problemWithShare := by decide +kernel
  have q1_ : Cond.fieldLink RX1 12 "FeatherShares$Changer" "state" "LFeatherShares$State;" ∈ wsX1_problemWithShare := by decide +kernel
  have q2_ : Cond.fieldLink RX1 56 "FeatherShares$Problem" "SECRET" "LFeatherShares$Problem;" ∈ wsX1_problemWithShare := by decide +kernel
  show V G K 5 0 0 0 [some (.ref hg), some (.ref (adD G 5)), some (.int (nI b)), some (.null), some (.int z)] [] ([(hg, .inr (4, [.ref h, .ref hr]))] ++ (stW G h ah as_ rr ra hm nb ns la lo nu tn sh))
  refine V.aload_n hC (x := hg) dX1_problemWithShare_0 rfl ?_
  refine V.getf hC (T := TX1) q0_ 0 q1_ rfl (0) rfl rfl (by decide) (.ref h) rfl dX1_problemWithShare_1 ?_
  refine V.iload_n hC (x := nI b) dX1_problemWithShare_4 rfl ?_
  refine V.callVr (n := 1) (As := [.int (nI b)]) (rest := []) hC (c_hasBird (kl K) G h ah as_ rr ra hm nb ns la lo nu tn sh hb8 hs6 (nI b)) SFk0 SFgo0 gX1_problemWithShare_X11_hasBird rfl ⟨rfl, rfl⟩ (by decide +kernel) ⟨by decide, by decide, by decide, by decide⟩ [1, 2, 3, 4, 5, 6, 7, 8, 9, 10, 11, 12, 13, 14, 15] rfl (by decide) rfl rfl rfl rfl (Nat.le_of_ble_eq_true rfl) dX1_problemWithShare_5 (fun r_5 u_5 hp_5 => ?_)
  subst hp_5
  show V G K 5 0 0 8 [some (.ref hg), some (.ref (adD G 5)), some (.int (nI b)), some (.null), some (.int z)] [.int (if ¬ (nI b) < 0 ∧ (nI b) < nI nb then 1 else 0)] ([(hg, .inr (4, [.ref h, .ref hr]))] ++ (stW G h ah as_ rr ra hm nb ns la lo nu tn sh))
  refine V.if_ne hC 15 dX1_problemWithShare_8 rfl (fun c_8 => ?_) (fun c_8 => ?_)
  · refine V.aload_nN hC dX1_problemWithShare_15 rfl ?_
    refine V.ifnonnullN hC dX1_problemWithShare_16 ?_
    refine V.gets hC (n := "SECRET") (hSF.pz 3 (by decide)) q2_ rfl dX1_problemWithShare_19 ?_
    exact hE 22 _ (some (adP G 3)) () dX1_problemWithShare_22 rfl
  · exact absurd ⟨Int32.not_lt.mpr (nI_nonneg (by omega)), (nI_ltI (by omega) (by omega)).mpr hb⟩ (if10 c_8)

set_option maxHeartbeats 4000000 in
set_option maxRecDepth 100000 in
theorem c_pwShare5NX (l : Launch) (G : Gx) (hg hr : Nat) (h ah as_ : Nat) (rr ra : Nat → Nat) (hm : Nat → Int32) (nb ns : Nat) (la : Int32) (lo : Int64) (nu : Nat → Int32) (tn : Nat → Nat) (sh : Nat → Nat → Int32) (hb8 : nb ≤ 8) (hs6 : ns ≤ 6) (x : Int32) (hx : ¬ (¬ x < 0 ∧ x < nI nb)) (z : Int32) : Ct l G (SFx G) yX1_problemWithShare wsX1_problemWithShare ({ frames := 1, cells := 0, slots := 0, locals := 21 }) [.ref hg, .ref (adD G 5), .int x, .null, .int z] ([(hg, .inr (4, [.ref h, .ref hr]))] ++ (stW G h ah as_ rr ra hm nb ns la lo nu tn sh)) mkA (fun (r : Option Nat) (_ : Unit) => r = some (adP G 2)) (fun _ : Unit => ([(hg, .inr (4, [.ref h, .ref hr]))] ++ (stW G h ah as_ rr ra hm nb ns la lo nu tn sh))) 0 0 := by
  refine Ct.ofA (mk := fun r : Option Nat => va_rf r) (fun r => va_rf_or r) (Or.inl ⟨_, rfl⟩) (cc := cX1_problemWithShare) (maxL := 5) (by decide) rfl ⟨by simp [Value.category], Nat.le_of_ble_eq_true rfl⟩ ?_
  intro K hl hC hSF hnm hE
  subst hl
  have hgo := SFgoS (SFx.k G) hSF
  have q0_ : ∀ w ∈ u_ws RX1 TX1 2, w ∈ wsX1_problemWithShare := by decide +kernel
  have q1_ : Cond.fieldLink RX1 12 "FeatherShares$Changer" "state" "LFeatherShares$State;" ∈ wsX1_problemWithShare := by decide +kernel
  have q2_ : Cond.fieldLink RX1 85 "FeatherShares$Problem" "BIRD" "LFeatherShares$Problem;" ∈ wsX1_problemWithShare := by decide +kernel
  show V G K 5 0 0 0 [some (.ref hg), some (.ref (adD G 5)), some (.int x), some (.null), some (.int z)] [] ([(hg, .inr (4, [.ref h, .ref hr]))] ++ (stW G h ah as_ rr ra hm nb ns la lo nu tn sh))
  refine V.aload_n hC (x := hg) dX1_problemWithShare_0 rfl ?_
  refine V.getf hC (T := TX1) q0_ 0 q1_ rfl (0) rfl rfl (by decide) (.ref h) rfl dX1_problemWithShare_1 ?_
  refine V.iload_n hC (x := x) dX1_problemWithShare_4 rfl ?_
  refine V.callVr (n := 1) (As := [.int x]) (rest := []) hC (c_hasBird (kl K) G h ah as_ rr ra hm nb ns la lo nu tn sh hb8 hs6 x) SFk0 SFgo0 gX1_problemWithShare_X11_hasBird rfl ⟨rfl, rfl⟩ (by decide +kernel) ⟨by decide, by decide, by decide, by decide⟩ [1, 2, 3, 4, 5, 6, 7, 8, 9, 10, 11, 12, 13, 14, 15] rfl (by decide) rfl rfl rfl rfl (Nat.le_of_ble_eq_true rfl) dX1_problemWithShare_5 (fun r_5 u_5 hp_5 => ?_)
  subst hp_5
  show V G K 5 0 0 8 [some (.ref hg), some (.ref (adD G 5)), some (.int x), some (.null), some (.int z)] [.int (if ¬ x < 0 ∧ x < nI nb then 1 else 0)] ([(hg, .inr (4, [.ref h, .ref hr]))] ++ (stW G h ah as_ rr ra hm nb ns la lo nu tn sh))
  refine V.if_ne hC 15 dX1_problemWithShare_8 rfl (fun c_8 => ?_) (fun c_8 => ?_)
  · exact absurd (if10n c_8) hx
  · refine V.gets hC (n := "BIRD") (hSF.pz 2 (by decide)) q2_ rfl dX1_problemWithShare_11 ?_
    exact hE 14 _ (some (adP G 2)) () dX1_problemWithShare_14 rfl
