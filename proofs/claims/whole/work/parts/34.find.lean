/-! Program: what stands at a place, whatever the arguments held; the error position (printed by gen/s34.py) -/
theorem hfm_af (tf : Nat → Int32) (ln sr : Nat) (af ag : Nat → Int32) (i : Nat) : ∀ j, (hfm tf ln sr af i j).1 = (hfm tf ln sr ag i j).1 ∧ (hfm tf ln sr af i j).2.1 = (hfm tf ln sr ag i j).2.1 ∧ (hfm tf ln sr af i j).2.2.1 = (hfm tf ln sr ag i j).2.2.1 ∧ ∀ k, k < (hfm tf ln sr af i j).2.2.1 → (hfm tf ln sr af i j).2.2.2 k = (hfm tf ln sr ag i j).2.2.2 k
  | 0 => ⟨rfl, rfl, rfl, fun k h => absurd h (Nat.not_lt_zero _)⟩
  | j + 1 => by
    have ih := hfm_af tf ln sr af ag i j
    rw [hfm, hfm]
    generalize hfm tf ln sr af i j = X at ih ⊢
    generalize hfm tf ln sr ag i j = Y at ih ⊢
    obtain ⟨x1, x2, x3, x4⟩ := X
    obtain ⟨y1, y2, y3, y4⟩ := Y
    obtain ⟨a, b, c, d⟩ := ih
    simp only at a b c d
    subst a
    subst b
    subst c
    simp only
    by_cases h0 : x1 = 0
    · rw [if_pos h0, if_pos h0]
      exact ⟨rfl, rfl, rfl, d⟩
    · rw [if_neg h0, if_neg h0]
      by_cases h1 : chr i j = 35
      · rw [if_pos h1, if_pos h1]
        refine ⟨rfl, rfl, rfl, fun k hk => ?_⟩
        by_cases e : k = x3
        · subst e
          exact pk_us.trans pk_us.symm
        · exact (pk_un e).trans ((d k (by have hk2 : k < x3 + 1 := hk; omega)).trans (pk_un e).symm)
      · rw [if_neg h1, if_neg h1]
        by_cases h2 : chr i j = 37
        · rw [if_pos h2, if_pos h2]
          refine ⟨rfl, rfl, rfl, fun k hk => ?_⟩
          by_cases e : k = x3
          · subst e
            exact pk_us.trans pk_us.symm
          · exact (pk_un e).trans ((d k (by have hk2 : k < x3 + 1 := hk; omega)).trans (pk_un e).symm)
        · rw [if_neg h2, if_neg h2]
          split
          · exact ⟨rfl, rfl, rfl, d⟩
          · exact ⟨rfl, rfl, rfl, d⟩
/-- form i read from sr on -/
def hk (tf : Nat → Int32) (ln sr i : Nat) : Nat × Nat × Nat × (Nat → Int32) := hfw tf ln sr (fun _ => 0) i
/-- the first form that stands at sr, n looked at -/
def kf (tf : Nat → Int32) (ln sr : Nat) : Nat → Option Nat
  | 0 => none
  | i + 1 => match kf tf ln sr i with
    | some k => some k
    | none => if (hk tf ln sr i).1 = 0 then none else some i
/-- the furthest place that the first n forms reach -/
def kr (tf : Nat → Int32) (ln sr : Nat) : Nat → Nat
  | 0 => sr
  | i + 1 => max (kr tf ln sr i) (hk tf ln sr i).2.1
theorem fst_kf (tf : Nat → Int32) (ln sr : Nat) (af : Nat → Int32) : ∀ n, fst tf ln sr af n = kf tf ln sr n
  | 0 => rfl
  | n + 1 => by
    have h := (hfm_af tf ln sr (aff tf ln sr af n) (fun _ => 0) n (fLen.getD n 0)).1
    rw [fst, kf, fst_kf tf ln sr af n, hk, hfw, hfw, h]
    cases kf tf ln sr n with
    | none => rfl
    | some k => rfl
theorem frt_kr (tf : Nat → Int32) (ln sr : Nat) (af : Nat → Int32) : ∀ n, frt tf ln sr af n = kr tf ln sr n
  | 0 => rfl
  | n + 1 => by
    have h := (hfm_af tf ln sr (aff tf ln sr af n) (fun _ => 0) n (fLen.getD n 0)).2.1
    rw [frt, kr, frt_kr tf ln sr af n, hk, hfw, hfw, h]
theorem hk_ln {tf : Nat → Int32} {ln sr i : Nat} (hi : i < 8) (h : sr ≤ ln) : (hk tf ln sr i).2.1 ≤ ln := hfw_ln hi h
theorem kr_ln {tf : Nat → Int32} {ln sr : Nat} (h : sr ≤ ln) : kr tf ln sr 8 ≤ ln := by
  rw [← frt_kr tf ln sr (fun _ => 0)]
  exact frt_ln h 8 (Nat.le_refl 8)
theorem hk_an (tf : Nat → Int32) (ln sr : Nat) : ∀ i, i < 8 → (hk tf ln sr i).2.2.1 ≤ 3 := fun i hi => hfw_an i hi
theorem kf_lt {tf : Nat → Int32} {ln sr : Nat} : ∀ {n i : Nat}, kf tf ln sr n = some i → i < n ∧ ¬ (hk tf ln sr i).1 = 0
  | n + 1, i, h => by
    rw [kf] at h
    cases hx : kf tf ln sr n with
    | some k =>
      rw [hx] at h
      cases h
      exact ⟨Nat.lt_succ_of_lt (kf_lt hx).1, (kf_lt hx).2⟩
    | none =>
      rw [hx] at h
      simp only at h
      split at h
      · cases h
      · rename_i h0
        cases h
        exact ⟨Nat.lt_succ_self _, h0⟩
/-- the error position: none for a program; n: how many commands may still come -/
def prsB (tf : Nat → Int32) (ln r : Nat) (g : Nat → Nat) (F : Nat → Option Nat) : Option Nat → Option Nat
  | none => some r
  | some i => if ln ≤ g i then none else if tf (g i) = 59 then F (g i + 1) else some (g i)
def prs (tf : Nat → Int32) (ln : Nat) : Nat → Nat → Option Nat
  | 0 => fun _ => some ln
  | n + 1 => fun sr => prsB tf ln (kr tf ln sr 8) (fun i => (hk tf ln sr i).2.1) (prs tf ln n) (kf tf ln sr 8)
theorem prs_s (tf : Nat → Int32) (ln n sr : Nat) : prs tf ln (n + 1) sr = prsB tf ln (kr tf ln sr 8) (fun i => (hk tf ln sr i).2.1) (prs tf ln n) (kf tf ln sr 8) := by rw [prs]
theorem prs_none {tf : Nat → Int32} {ln n sr : Nat} (h : kf tf ln sr 8 = none) : prs tf ln (n + 1) sr = some (kr tf ln sr 8) := by
  rw [prs_s, h]
  exact rfl
theorem prs_end {tf : Nat → Int32} {ln n sr i : Nat} (h : kf tf ln sr 8 = some i) (h2 : ln ≤ (hk tf ln sr i).2.1) : prs tf ln (n + 1) sr = none := by
  rw [prs_s, h]
  exact if_pos h2
theorem prs_semi {tf : Nat → Int32} {ln n sr i : Nat} (h : kf tf ln sr 8 = some i) (h2 : ¬ ln ≤ (hk tf ln sr i).2.1) (h3 : tf (hk tf ln sr i).2.1 = 59) : prs tf ln (n + 1) sr = prs tf ln n ((hk tf ln sr i).2.1 + 1) := by
  rw [prs_s, h]
  exact (if_neg h2).trans (if_pos h3)
theorem prs_bad {tf : Nat → Int32} {ln n sr i : Nat} (h : kf tf ln sr 8 = some i) (h2 : ¬ ln ≤ (hk tf ln sr i).2.1) (h3 : ¬ tf (hk tf ln sr i).2.1 = 59) : prs tf ln (n + 1) sr = some (hk tf ln sr i).2.1 := by
  rw [prs_s, h]
  exact (if_neg h2).trans (if_neg h3)
def oI (o : Option Nat) : Int32 := match o with
  | none => -1
  | some p => nI p
theorem c_readCmd (l : Launch) (G : Gx) (hq tx ag dd ln sr rc an : Nat) (tf af : Nat → Int32) (hln : ln ≤ 60) (hsr : sr ≤ ln) (han : an ≤ 3) : Ct l G (SFx G) yX7_readCommand wsX7_readCommand ({ frames := 5, cells := 0, slots := 0, locals := 109 }) [.ref hq] [(hq, .inr (8, [.ref tx, .ref ag, .ref dd, .int (nI ln), .int (nI sr), .int (nI rc), .int (nI an)])), (tx, .inl (gC G, 60, .inl tf)), (ag, .inl (gI G, 3, .inl af))] mkI (fun (r : Int32) (u : Nat × Nat × Nat × (Nat → Int32)) => (∃ i, i < 8 ∧ kf tf ln sr 8 = some i ∧ r = 1 ∧ u.1 = adD G i ∧ u.2.1 = (hk tf ln sr i).2.1 ∧ u.2.2.1 = (hk tf ln sr i).2.2.1 ∧ ∀ k, k < u.2.2.1 → u.2.2.2 k = (hk tf ln sr i).2.2.2 k) ∨ (kf tf ln sr 8 = none ∧ r = 0 ∧ u.1 = dd ∧ u.2.1 = kr tf ln sr 8 ∧ u.2.2.1 ≤ 3)) (fun u : Nat × Nat × Nat × (Nat → Int32) => [(hq, .inr (8, [.ref tx, .ref ag, .ref (u.1), .int (nI ln), .int (nI sr), .int (nI (u.2.1)), .int (nI (u.2.2.1))])), (tx, .inl (gC G, 60, .inl tf)), (ag, .inl (gI G, 3, .inl (u.2.2.2)))]) 0 0 := by
  refine Ct.mono (c_readCommand l G hq tx ag dd ln sr rc an tf af hln hsr han 8 rfl) (fun r u h => ?_)
  rcases h with ⟨i, hi, h1, h2, h3⟩ | ⟨h1, h2, h3, h4, h5, h6⟩
  · have a := hfm_af tf ln sr (aff tf ln sr af i) (fun _ => 0) i (fLen.getD i 0)
    rw [fst_kf] at h1
    subst h3
    exact ⟨(adD G i, (hfw tf ln sr (aff tf ln sr af i) i).2), Or.inl ⟨i, hi, h1, h2, rfl, a.2.1, a.2.2.1, a.2.2.2⟩, rfl⟩
  · rw [fst_kf] at h1
    rw [frt_kr] at h4
    exact ⟨u, Or.inr ⟨h1, h2, h3, h4, h5⟩, rfl⟩
set_option maxHeartbeats 4000000 in
set_option maxRecDepth 100000 in
theorem c_findError (l : Launch) (G : Gx) (hq tx ag dd ln sr rc an : Nat) (tf af : Nat → Int32) (hln : ln ≤ 60) (hrc0 : rc ≤ 60) (han : an ≤ 3) : Ct l G (SFx G) yX7_findError wsX7_findError ({ frames := 6, cells := 0, slots := 0, locals := 131 }) [.ref hq] [(hq, .inr (8, [.ref tx, .ref ag, .ref dd, .int (nI ln), .int (nI sr), .int (nI rc), .int (nI an)])), (tx, .inl (gC G, 60, .inl tf)), (ag, .inl (gI G, 3, .inl af))] mkI (fun (r : Int32) (u : Nat × Nat × Nat × Nat × (Nat → Int32)) => r = oI (prs tf ln 61 0) ∧ u.2.1 ≤ ln ∧ u.2.2.1 ≤ 60 ∧ u.2.2.2.1 ≤ 3) (fun u : Nat × Nat × Nat × Nat × (Nat → Int32) => [(hq, .inr (8, [.ref tx, .ref ag, .ref (u.1), .int (nI ln), .int (nI (u.2.1)), .int (nI (u.2.2.1)), .int (nI (u.2.2.2.1))])), (tx, .inl (gC G, 60, .inl tf)), (ag, .inl (gI G, 3, .inl (u.2.2.2.2)))]) 0 0 := by
  refine Ct.ofI (cc := cX7_findError) (maxL := 2) (by decide) rfl ⟨by simp [Value.category], Nat.le_of_ble_eq_true rfl⟩ ?_
  intro K hl hC hSF hnm hE
  subst hl
  have hgo := SFgoS (SFx.k G) hSF
  have q0_ : ∀ w ∈ u_ws RX7 TX7 7, w ∈ wsX7_findError := by decide +kernel
  have q1_ : Cond.fieldLink RX7 28 "FeatherShares$Program" "length" "I" ∈ wsX7_findError := by decide +kernel
  have q2_ : Cond.fieldLink RX7 45 "FeatherShares$Program" "reached" "I" ∈ wsX7_findError := by decide +kernel
  show V G K 2 0 0 0 [some (.ref hq), none] [] [(hq, .inr (8, [.ref tx, .ref ag, .ref dd, .int (nI ln), .int (nI sr), .int (nI rc), .int (nI an)])), (tx, .inl (gC G, 60, .inl tf)), (ag, .inl (gI G, 3, .inl af))]
  refine V.aload_n hC (x := hq) dX7_findError_0 rfl ?_
  refine V.callV (n := 0) (As := []) (rest := []) hC (c_rewind (kl K) G hq tx ag dd ln sr rc an tf af hln) SFk0 SFgo0 gX7_findError_X7_rewind rfl ⟨rfl, rfl⟩ (by decide +kernel) ⟨by decide, by decide, by decide, by decide⟩ [0, 1, 2] rfl (by decide) (fun _ => rfl) rfl rfl rfl rfl (Nat.le_of_ble_eq_true rfl) dX7_findError_1 (fun r_1 u_1 hp_1 => ?_)
  show V G K 2 0 0 4 [some (.ref hq), none] [] [(hq, .inr (8, [.ref tx, .ref ag, .ref dd, .int (nI ln), .int (nI 0), .int (nI rc), .int (nI an)])), (tx, .inl (gC G, 60, .inl tf)), (ag, .inl (gI G, 3, .inl af))]
  refine V.iconst hC 0 dX7_findError_4 rfl ?_
  refine V.istore_n hC dX7_findError_5 [some (.ref hq), some (.int 0)] (Nat.le_of_ble_eq_true rfl) rfl ?_
  have loop6 : ∀ (n : Nat) (c : Nat) (dd1 : Nat) (sr1 : Nat) (rc1 : Nat) (an1 : Nat) (af1 : Nat → Int32), 62 - c < n → (c ≤ 61) → (sr1 ≤ ln) → (rc1 ≤ 60) → (an1 ≤ 3) → (prs tf ln (61 - c) sr1 = prs tf ln 61 0) → V G K 2 0 0 6 [some (.ref hq), some (.int (nI c))] [] [(hq, .inr (8, [.ref tx, .ref ag, .ref dd1, .int (nI ln), .int (nI sr1), .int (nI rc1), .int (nI an1)])), (tx, .inl (gC G, 60, .inl tf)), (ag, .inl (gI G, 3, .inl af1))] := by
    intro n
    induction n with
    | zero => intro c dd1 sr1 rc1 an1 af1 hlt; exact absurd hlt (Nat.not_lt_zero _)
    | succ n ih6 =>
      intro c dd1 sr1 rc1 an1 af1 hlt6 hc hs1 hr1 ha1 hpr
      refine V.iload_n hC (x := nI c) dX7_findError_6 rfl ?_
      refine V.bipush hC 60 dX7_findError_7 rfl ?_
      refine V.icmpN_gt hC c 60 65 dX7_findError_9 rfl rfl rfl (by omega) (by omega) (fun c_9 => ?_) (fun c_9 => ?_)
      · refine V.aload_n hC (x := hq) dX7_findError_65 rfl ?_
        refine V.getf hC (T := TX7) q0_ 3 q1_ rfl (0) rfl rfl (by decide) (.int (nI ln)) rfl dX7_findError_66 ?_
        exact hE 69 _ (nI ln) (dd1, sr1, rc1, an1, af1) dX7_findError_69 rfl ⟨by rw [← hpr, show 61 - c = 0 by omega]; rfl, hs1, hr1, ha1⟩
      · refine V.aload_n hC (x := hq) dX7_findError_12 rfl ?_
        refine V.callV (n := 0) (As := []) (rest := []) hC (c_readCmd (kl K) G hq tx ag dd1 ln sr1 rc1 an1 tf af1 hln hs1 ha1) (SFx.k G) hgo gX7_findError_X7_readCommand rfl ⟨rfl, rfl⟩ (by decide +kernel) ⟨by decide, by decide, by decide, by decide⟩ [0, 1, 2] rfl (by decide) (fun _ => rfl) rfl rfl rfl rfl (Nat.le_of_ble_eq_true rfl) dX7_findError_13 (fun r_13 u_13 hp_13 => ?_)
        rcases hp_13 with ⟨i, hi, hkf, hr, hu1, hu2, hu3, hu4⟩ | ⟨hkf, hr, hu1, hu2, hu3⟩
        · subst hr
          have hkl := hk_ln (tf := tf) hi hs1
          have hka := hk_an tf ln sr1 i hi
          rw [← hu2] at hkl
          rw [← hu3] at hka
          show V G K 2 0 0 16 [some (.ref hq), some (.int (nI c))] [.int (nI 1)] [(hq, .inr (8, [.ref tx, .ref ag, .ref (u_13.1), .int (nI ln), .int (nI sr1), .int (nI (u_13.2.1)), .int (nI (u_13.2.2.1))])), (tx, .inl (gC G, 60, .inl tf)), (ag, .inl (gI G, 3, .inl (u_13.2.2.2)))]
          refine V.ifN_ne hC 1 24 dX7_findError_16 rfl rfl (by omega) (fun c_16 => ?_) (fun c_16 => ?_)
          · refine V.aload_n hC (x := hq) dX7_findError_24 rfl ?_
            refine V.getf hC (T := TX7) q0_ 5 q2_ rfl (0) rfl rfl (by decide) (.int (nI (u_13.2.1))) rfl dX7_findError_25 ?_
            refine V.aload_n hC (x := hq) dX7_findError_28 rfl ?_
            refine V.getf hC (T := TX7) q0_ 3 q1_ rfl (0) rfl rfl (by decide) (.int (nI ln)) rfl dX7_findError_29 ?_
            refine V.icmpN_lt hC (u_13.2.1) ln 37 dX7_findError_32 rfl rfl rfl (by omega) (by omega) (fun c_32 => ?_) (fun c_32 => ?_)
            · refine V.aload_n hC (x := hq) dX7_findError_37 rfl ?_
              refine V.aload_n hC (x := hq) dX7_findError_38 rfl ?_
              refine V.getf hC (T := TX7) q0_ 5 q2_ rfl (0) rfl rfl (by decide) (.int (nI (u_13.2.1))) rfl dX7_findError_39 ?_
              refine V.callVr (n := 1) (As := [.int (nI (u_13.2.1))]) (rest := []) hC (c_signAt (kl K) G hq tx ag u_13.1 ln sr1 u_13.2.1 u_13.2.2.1 tf u_13.2.2.2 hln u_13.2.1 (by omega)) SFk0 SFgo0 gX7_findError_X7_signAt rfl ⟨rfl, rfl⟩ (by decide +kernel) ⟨by decide, by decide, by decide, by decide⟩ [0, 1, 2] rfl (by decide) rfl rfl rfl rfl (Nat.le_of_ble_eq_true rfl) dX7_findError_42 (fun r_42 u_42 hp_42 => ?_)
              subst hp_42
              show V G K 2 0 0 45 [some (.ref hq), some (.int (nI c))] [.int (sgn tf ln u_13.2.1)] [(hq, .inr (8, [.ref tx, .ref ag, .ref (u_13.1), .int (nI ln), .int (nI sr1), .int (nI (u_13.2.1)), .int (nI (u_13.2.2.1))])), (tx, .inl (gC G, 60, .inl tf)), (ag, .inl (gI G, 3, .inl (u_13.2.2.2)))]
              refine V.bipush hC 59 dX7_findError_45 rfl ?_
              refine V.icmp_eq hC 55 dX7_findError_47 rfl (fun c_47 => ?_) (fun c_47 => ?_)
              · have hsem : tf u_13.2.1 = 59 := by rw [sgn, if_pos (by omega)] at c_47; exact c_47
                refine V.aload_n hC (x := hq) dX7_findError_55 rfl ?_
                refine V.callV (n := 0) (As := []) (rest := []) hC (c_passCommand (kl K) G hq tx ag u_13.1 ln sr1 u_13.2.1 u_13.2.2.1 tf u_13.2.2.2 hln (by omega)) SFk0 SFgo0 gX7_findError_X7_passCommand rfl ⟨rfl, rfl⟩ (by decide +kernel) ⟨by decide, by decide, by decide, by decide⟩ [0, 1, 2] rfl (by decide) (fun _ => rfl) rfl rfl rfl rfl (Nat.le_of_ble_eq_true rfl) dX7_findError_56 (fun r_56 u_56 hp_56 => ?_)
                show V G K 2 0 0 59 [some (.ref hq), some (.int (nI c))] [] [(hq, .inr (8, [.ref tx, .ref ag, .ref (u_13.1), .int (nI ln), .int (nI (u_13.2.1 + 1)), .int (nI (u_13.2.1)), .int (nI (u_13.2.2.1))])), (tx, .inl (gC G, 60, .inl tf)), (ag, .inl (gI G, 3, .inl (u_13.2.2.2)))]
                refine V.iincN hC c 1 dX7_findError_59 rfl [some (.ref hq), some (.int (nI (c + 1)))] (Nat.le_of_ble_eq_true rfl) rfl rfl rfl ?_
                refine V.goto hC 6 dX7_findError_62 rfl ?_
                exact ih6 (c + 1) (u_13.1) (u_13.2.1 + 1) (u_13.2.1) (u_13.2.2.1) (u_13.2.2.2) (by omega) (by omega) (by omega) (by omega) hka (by rw [← hpr, show 61 - c = (60 - c) + 1 by omega, prs_semi hkf (by rw [← hu2]; omega) (by rw [← hu2]; exact hsem), ← hu2, show 61 - (c + 1) = 60 - c by omega])
              · have hne : ¬ tf u_13.2.1 = 59 := fun z => c_47 (by rw [sgn, if_pos (by omega)]; exact z)
                refine V.aload_n hC (x := hq) dX7_findError_50 rfl ?_
                refine V.getf hC (T := TX7) q0_ 5 q2_ rfl (0) rfl rfl (by decide) (.int (nI (u_13.2.1))) rfl dX7_findError_51 ?_
                exact hE 54 _ (nI (u_13.2.1)) (u_13.1, sr1, u_13.2.1, u_13.2.2.1, u_13.2.2.2) dX7_findError_54 rfl ⟨by rw [← hpr, show 61 - c = (60 - c) + 1 by omega, prs_bad hkf (by rw [← hu2]; omega) (by rw [← hu2]; exact hne)]; exact congrArg nI hu2, hs1, (Nat.le_trans hkl hln), hka⟩
            · refine V.iconst hC (-1) dX7_findError_35 rfl ?_
              exact hE 36 _ (-1) (u_13.1, sr1, u_13.2.1, u_13.2.2.1, u_13.2.2.2) dX7_findError_36 rfl ⟨by rw [← hpr, show 61 - c = (60 - c) + 1 by omega, prs_end hkf (by rw [← hu2]; exact c_32)]; rfl, hs1, (Nat.le_trans hkl hln), hka⟩
          · exact absurd c_16 (by decide)
        · subst hr
          have hkl := kr_ln (tf := tf) hs1
          rw [← hu2] at hkl
          show V G K 2 0 0 16 [some (.ref hq), some (.int (nI c))] [.int (nI 0)] [(hq, .inr (8, [.ref tx, .ref ag, .ref (u_13.1), .int (nI ln), .int (nI sr1), .int (nI (u_13.2.1)), .int (nI (u_13.2.2.1))])), (tx, .inl (gC G, 60, .inl tf)), (ag, .inl (gI G, 3, .inl (u_13.2.2.2)))]
          refine V.ifN_ne hC 0 24 dX7_findError_16 rfl rfl (by omega) (fun c_16 => ?_) (fun c_16 => ?_)
          · exact absurd c_16 (by decide)
          · refine V.aload_n hC (x := hq) dX7_findError_19 rfl ?_
            refine V.getf hC (T := TX7) q0_ 5 q2_ rfl (0) rfl rfl (by decide) (.int (nI (u_13.2.1))) rfl dX7_findError_20 ?_
            exact hE 23 _ (nI (u_13.2.1)) (u_13.1, sr1, u_13.2.1, u_13.2.2.1, u_13.2.2.2) dX7_findError_23 rfl ⟨by rw [← hpr, show 61 - c = (60 - c) + 1 by omega, prs_none hkf]; exact congrArg nI hu2, hs1, (Nat.le_trans hkl hln), hu3⟩
  exact loop6 _ 0 dd 0 rc an af (Nat.lt_succ_self _) (by omega) (by omega) hrc0 han rfl
