/-! FeatherShares: the program carried out (printed by gen/s50.py) -/
/-- the argument j of the form i that stands at sr -/
def agx (tf : Nat → Int32) (ln sr i j : Nat) : Int32 := if j < (hk tf ln sr i).2.2.1 then (hk tf ln sr i).2.2.2 j else 0
def exB (g : Nat → Nat) (a : Nat → Nat → Int32) (F : Nat → Nat → ASt → Nat × Bool × ASt) (c : Nat) (s : ASt) : Option Nat → Nat × Bool × ASt
  | none => (c, false, s)
  | some i => if pwX i s (a i 0) (a i 1) (a i 2) = 0 then F (g i + 1) (c + 1) (cX i s (a i 0) (a i 1) (a i 2)) else (c, false, s)
/-- the commands carried out: how many, whether all, the state behind -/
def exA (tf : Nat → Int32) (ln : Nat) : Nat → Nat → Nat → ASt → Nat × Bool × ASt
  | 0 => fun sr c s => (c, decide (ln ≤ sr), s)
  | n + 1 => fun sr c s => if ln ≤ sr then (c, decide (ln ≤ sr), s) else exB (fun i => (hk tf ln sr i).2.1) (agx tf ln sr) (exA tf ln n) c s (kf tf ln sr 8)
theorem exA_s (tf : Nat → Int32) (ln n sr c : Nat) (s : ASt) : exA tf ln (n + 1) sr c s = if ln ≤ sr then (c, decide (ln ≤ sr), s) else exB (fun i => (hk tf ln sr i).2.1) (agx tf ln sr) (exA tf ln n) c s (kf tf ln sr 8) := by rw [exA]
theorem exA_end {tf : Nat → Int32} {ln sr c : Nat} {s : ASt} (h : ln ≤ sr) : ∀ n, exA tf ln n sr c s = (c, decide (ln ≤ sr), s)
  | 0 => by rw [exA]
  | n + 1 => by rw [exA_s, if_pos h]
theorem exA_go {tf : Nat → Int32} {ln n sr c i : Nat} {s : ASt} (h : ¬ ln ≤ sr) (h2 : kf tf ln sr 8 = some i) (h3 : pwX i s (agx tf ln sr i 0) (agx tf ln sr i 1) (agx tf ln sr i 2) = 0) :
    exA tf ln (n + 1) sr c s = exA tf ln n ((hk tf ln sr i).2.1 + 1) (c + 1) (cX i s (agx tf ln sr i 0) (agx tf ln sr i 1) (agx tf ln sr i 2)) := by
  rw [exA_s, if_neg h, h2]
  exact if_pos h3
theorem exA_bad {tf : Nat → Int32} {ln n sr c i : Nat} {s : ASt} (h : ¬ ln ≤ sr) (h2 : kf tf ln sr 8 = some i) (h3 : ¬ pwX i s (agx tf ln sr i 0) (agx tf ln sr i 1) (agx tf ln sr i 2) = 0) :
    exA tf ln (n + 1) sr c s = (c, decide (ln ≤ sr), s) := by
  rw [exA_s, if_neg h, h2]
  refine (if_neg h3).trans ?_
  rw [show decide (ln ≤ sr) = false from decide_eq_false h]
theorem hfm_adv (tf : Nat → Int32) (ln sr : Nat) (af : Nat → Int32) (i : Nat) : ∀ j, ¬ (hfm tf ln sr af i j).1 = 0 → sr + j ≤ (hfm tf ln sr af i j).2.1
  | 0, _ => Nat.le_refl _
  | j + 1, h => by
    have ih := hfm_adv tf ln sr af i j
    rw [hfm] at h ⊢
    generalize hfm tf ln sr af i j = X at ih h ⊢
    obtain ⟨x1, x2, x3, x4⟩ := X
    simp only at ih h ⊢
    by_cases h0 : x1 = 0
    · rw [if_pos h0] at h
      exact absurd h0 h
    · have ih := ih h0
      rw [if_neg h0] at h ⊢
      by_cases h1 : chr i j = 35
      · rw [if_pos h1] at h ⊢
        by_cases h2 : dct tf ln x2 1 = 0
        · exact absurd (if_pos h2) h
        · show sr + (j + 1) ≤ x2 + dct tf ln x2 1
          omega
      · rw [if_neg h1] at h ⊢
        by_cases h3 : chr i j = 37
        · rw [if_pos h3] at h ⊢
          by_cases h2 : dct tf ln x2 2 = 0
          · exact absurd (if_pos h2) h
          · show sr + (j + 1) ≤ x2 + dct tf ln x2 2
            omega
        · rw [if_neg h3] at h ⊢
          split
          · show sr + (j + 1) ≤ x2 + 1
            omega
          · rename_i h4
            rw [if_neg h4] at h
            exact absurd rfl h
theorem len_6 : ∀ i, i < 8 → 6 ≤ fLen.getD i 0 := by decide
theorem hk_adv {tf : Nat → Int32} {ln sr i : Nat} (h : kf tf ln sr 8 = some i) : sr + 6 ≤ (hk tf ln sr i).2.1 := by
  have h1 := kf_lt h
  have h2 := hfm_adv tf ln sr (fun _ => 0) i (fLen.getD i 0) h1.2
  have h3 := len_6 i h1.1
  exact Nat.le_trans (by omega) h2
theorem prs_next {tf : Nat → Int32} {ln n sr i : Nat} (h : kf tf ln sr 8 = some i) (hp : prs tf ln (n + 1) sr = none) (h2 : (hk tf ln sr i).2.1 + 1 ≤ ln) : prs tf ln n ((hk tf ln sr i).2.1 + 1) = none := by
  by_cases h3 : tf (hk tf ln sr i).2.1 = 59
  · rw [← prs_semi h (by omega) h3]
    exact hp
  · rw [prs_bad h (by omega) h3] at hp
    cases hp
set_option maxHeartbeats 4000000 in
set_option maxRecDepth 100000 in
theorem c_carryOutProgram (l : Launch) (G : Gx) (hst : l.stackTraces = false) (fs h h2 h3 hh hr hg hq hl : Nat) (iS eA fA : Int32) (ah as_ : Nat) (rr ra : Nat → Nat) (s : ASt) (B : Nat) (hI : InvA B s) (hp ap av he aw al af as3 : Nat) (ar : Nat → Nat) (E : Scr) (hok : Sok E) (tx ag dd ln sr rc an : Nat) (tf pf : Nat → Int32) (hln : ln ≤ 60) (hrc0 : rc ≤ 60) (han : an ≤ 3) (hval0 : prs tf ln 61 0 = none) (X : Nat × Bool × ASt) (hX : exA tf ln 60 0 0 s = X) : Ct l G (SFt G) yX12_carryOutProgram wsX12_carryOutProgram ({ frames := 6, cells := 0, slots := 0, locals := 131 }) [.ref fs] ([(fs, .inr (12, [.ref h, .ref h2, .ref h3, .ref hh, .ref hr, .ref hg, .ref hq, .ref hl, .int iS, .int eA, .int fA])), (hq, .inr (8, [.ref tx, .ref ag, .ref dd, .int (nI ln), .int (nI sr), .int (nI rc), .int (nI an)])), (tx, .inl (gC G, 60, .inl tf)), (ag, .inl (gI G, 3, .inl pf)), (hg, .inr (4, [.ref h, .ref hr]))] ++ ((stW G h ah as_ rr ra (sHm s) (sNb s) (sNs s) (sLa s) (sLo s) (sNu s) (sTn s) (sSh s)) ++ (rbW G hr hp ap av he aw al af as3 ar E))) mkI (fun (r : Int32) (u : ASt × (Nat → Nat) × (Nat → Nat) × Scr × Nat × Nat × Nat × Nat × (Nat → Int32)) => ∃ c, c ≤ 8 ∧ r = nI c ∧ X = (c, decide (ln ≤ u.2.2.2.2.2.1), u.1) ∧ InvA (B + 8) u.1 ∧ Sok (u.2.2.2.1) ∧ u.2.2.2.2.2.1 ≤ ln + 1 ∧ u.2.2.2.2.2.2.1 ≤ 60 ∧ u.2.2.2.2.2.2.2.1 ≤ 3) (fun u : ASt × (Nat → Nat) × (Nat → Nat) × Scr × Nat × Nat × Nat × Nat × (Nat → Int32) => ([(fs, .inr (12, [.ref h, .ref h2, .ref h3, .ref hh, .ref hr, .ref hg, .ref hq, .ref hl, .int iS, .int eA, .int fA])), (hq, .inr (8, [.ref tx, .ref ag, .ref (u.2.2.2.2.1), .int (nI ln), .int (nI (u.2.2.2.2.2.1)), .int (nI (u.2.2.2.2.2.2.1)), .int (nI (u.2.2.2.2.2.2.2.1))])), (tx, .inl (gC G, 60, .inl tf)), (ag, .inl (gI G, 3, .inl (u.2.2.2.2.2.2.2.2))), (hg, .inr (4, [.ref h, .ref hr]))] ++ ((stW G h ah as_ (u.2.1) (u.2.2.1) (sHm (u.1)) (sNb (u.1)) (sNs (u.1)) (sLa (u.1)) (sLo (u.1)) (sNu (u.1)) (sTn (u.1)) (sSh (u.1))) ++ (rbW G hr hp ap av he aw al af as3 ar (u.2.2.2.1.1, u.2.2.2.1.2.1, u.2.2.2.1.2.2.1, u.2.2.2.1.2.2.2.1, u.2.2.2.1.2.2.2.2.1, u.2.2.2.1.2.2.2.2.2.1, u.2.2.2.1.2.2.2.2.2.2.1, u.2.2.2.1.2.2.2.2.2.2.2))))) 0 0 := by
  have hb8 := hI.1
  have hs6 := hI.2.1
  refine Ct.ofI (cc := cX12_carryOutProgram) (maxL := 6) (by decide) rfl ⟨by simp [Value.category], Nat.le_of_ble_eq_true rfl⟩ ?_
  intro K hl hC hSF hnm hE
  subst hl
  have hgot := SFgoS (SFt.k G) hSF
  have hgo := SFgo.x hgot
  have hSFt := hSF
  replace hSF := hSF.1
  have q0_ : ∀ w ∈ u_ws RX12 TX12 11, w ∈ wsX12_carryOutProgram := by decide +kernel
  have q1_ : Cond.fieldLink RX12 51 "FeatherShares" "program" "LFeatherShares$Program;" ∈ wsX12_carryOutProgram := by decide +kernel
  have q2_ : Cond.fieldLink RX12 10 "FeatherShares" "changer" "LFeatherShares$Changer;" ∈ wsX12_carryOutProgram := by decide +kernel
  have q3_ : Cond.fieldLink RX12 332 "FeatherShares$Problem" "NONE" "LFeatherShares$Problem;" ∈ wsX12_carryOutProgram := by decide +kernel
  show V G K 6 0 0 0 [some (.ref fs), none, none, none, none, none] [] ([(fs, .inr (12, [.ref h, .ref h2, .ref h3, .ref hh, .ref hr, .ref hg, .ref hq, .ref hl, .int iS, .int eA, .int fA])), (hq, .inr (8, [.ref tx, .ref ag, .ref dd, .int (nI ln), .int (nI sr), .int (nI rc), .int (nI an)])), (tx, .inl (gC G, 60, .inl tf)), (ag, .inl (gI G, 3, .inl pf)), (hg, .inr (4, [.ref h, .ref hr]))] ++ ((stW G h ah as_ rr ra (sHm s) (sNb s) (sNs s) (sLa s) (sLo s) (sNu s) (sTn s) (sSh s)) ++ (rbW G hr hp ap av he aw al af as3 ar E)))
  refine V.iconst hC 0 dX12_carryOutProgram_0 rfl ?_
  refine V.istore_n hC dX12_carryOutProgram_1 [some (.ref fs), some (.int 0), none, none, none, none] (Nat.le_of_ble_eq_true rfl) rfl ?_
  refine V.aload_n hC (x := fs) dX12_carryOutProgram_2 rfl ?_
  refine V.getf hC (T := TX12) q0_ 6 q1_ rfl (0) rfl rfl (by decide) (.ref hq) rfl dX12_carryOutProgram_3 ?_
  refine V.callV (n := 0) (As := []) (rest := []) hC (c_rewind (kl K) G hq tx ag dd ln sr rc an tf pf hln) SFk0 SFgo0 gX12_carryOutProgram_X7_rewind rfl ⟨rfl, rfl⟩ (by decide +kernel) ⟨by decide, by decide, by decide, by decide⟩ [1, 2, 3] rfl (by decide) (fun _ => rfl) rfl rfl rfl rfl (Nat.le_of_ble_eq_true rfl) dX12_carryOutProgram_6 (fun r_6 u_6 hp_6 => ?_)
  show V G K 6 0 0 9 [some (.ref fs), some (.int 0), none, none, none, none] [] ([(fs, .inr (12, [.ref h, .ref h2, .ref h3, .ref hh, .ref hr, .ref hg, .ref hq, .ref hl, .int iS, .int eA, .int fA])), (hq, .inr (8, [.ref tx, .ref ag, .ref dd, .int (nI ln), .int (nI 0), .int (nI rc), .int (nI an)])), (tx, .inl (gC G, 60, .inl tf)), (ag, .inl (gI G, 3, .inl pf)), (hg, .inr (4, [.ref h, .ref hr]))] ++ ((stW G h ah as_ rr ra (sHm s) (sNb s) (sNs s) (sLa s) (sLo s) (sNu s) (sTn s) (sSh s)) ++ (rbW G hr hp ap av he aw al af as3 ar E)))
  have loop9 : ∀ (n : Nat) (c : Nat) (s1 : ASt) (rr1 : Nat → Nat) (ra1 : Nat → Nat) (E1 : Scr) (dd1 : Nat) (sr1 : Nat) (rc1 : Nat) (an1 : Nat) (pf1 : Nat → Int32), 60 - c < n → (c ≤ 60) → (InvA (B + c) s1) → (Sok E1) → (sr1 ≤ ln + 1) → (rc1 ≤ 60) → (an1 ≤ 3) → (sr1 ≤ ln → prs tf ln (61 - c) sr1 = none) → (7 * c ≤ sr1) → (exA tf ln (60 - c) sr1 c s1 = X) → V G K 6 0 0 9 [some (.ref fs), some (.int (nI c)), none, none, none, none] [] ([(fs, .inr (12, [.ref h, .ref h2, .ref h3, .ref hh, .ref hr, .ref hg, .ref hq, .ref hl, .int iS, .int eA, .int fA])), (hq, .inr (8, [.ref tx, .ref ag, .ref dd1, .int (nI ln), .int (nI sr1), .int (nI rc1), .int (nI an1)])), (tx, .inl (gC G, 60, .inl tf)), (ag, .inl (gI G, 3, .inl pf1)), (hg, .inr (4, [.ref h, .ref hr]))] ++ ((stW G h ah as_ rr1 ra1 (sHm s1) (sNb s1) (sNs s1) (sLa s1) (sLo s1) (sNu s1) (sTn s1) (sSh s1)) ++ (rbW G hr hp ap av he aw al af as3 ar E1))) := by
    intro n
    induction n with
    | zero => intro c s1 rr1 ra1 E1 dd1 sr1 rc1 an1 pf1 hlt; exact absurd hlt (Nat.not_lt_zero _)
    | succ n ih9 =>
      intro c s1 rr1 ra1 E1 dd1 sr1 rc1 an1 pf1 hlt9 hc hI1 hE1 hsr hrc ha1 hval h7 hex
      refine V.iload_n hC (x := nI c) dX12_carryOutProgram_9 rfl ?_
      refine V.bipush hC 60 dX12_carryOutProgram_10 rfl ?_
      refine V.icmpN_ge hC c 60 118 dX12_carryOutProgram_12 rfl rfl rfl (by omega) (by omega) (fun c_12 => ?_) (fun c_12 => ?_)
      · refine V.iload_n hC (x := nI c) dX12_carryOutProgram_118 rfl ?_
        exact hE 119 _ (nI c) (s1, rr1, ra1, E1, dd1, sr1, rc1, an1, pf1) dX12_carryOutProgram_119 rfl ⟨c, by omega, rfl, by rw [← hex, show 60 - c = 0 by omega, exA], InvA.up hI1 (by omega), hE1, hsr, hrc, ha1⟩
      · refine V.aload_n hC (x := fs) dX12_carryOutProgram_15 rfl ?_
        refine V.getf hC (T := TX12) q0_ 6 q1_ rfl (0) rfl rfl (by decide) (.ref hq) rfl dX12_carryOutProgram_16 ?_
        refine V.callVr (n := 0) (As := []) (rest := []) hC (c_isAtEnd (kl K) G hq tx ag dd1 ln sr1 rc1 an1 tf pf1 hln (by omega)) SFk0 SFgo0 gX12_carryOutProgram_X7_isAtEnd rfl ⟨rfl, rfl⟩ (by decide +kernel) ⟨by decide, by decide, by decide, by decide⟩ [1, 2, 3] rfl (by decide) rfl rfl rfl rfl (Nat.le_of_ble_eq_true rfl) dX12_carryOutProgram_19 (fun r_19 u_19 hp_19 => ?_)
        subst hp_19
        show V G K 6 0 0 22 [some (.ref fs), some (.int (nI c)), none, none, none, none] [.int (if ln ≤ sr1 then 1 else 0)] ([(fs, .inr (12, [.ref h, .ref h2, .ref h3, .ref hh, .ref hr, .ref hg, .ref hq, .ref hl, .int iS, .int eA, .int fA])), (hq, .inr (8, [.ref tx, .ref ag, .ref dd1, .int (nI ln), .int (nI sr1), .int (nI rc1), .int (nI an1)])), (tx, .inl (gC G, 60, .inl tf)), (ag, .inl (gI G, 3, .inl pf1)), (hg, .inr (4, [.ref h, .ref hr]))] ++ ((stW G h ah as_ rr1 ra1 (sHm s1) (sNb s1) (sNs s1) (sLa s1) (sLo s1) (sNu s1) (sTn s1) (sSh s1)) ++ (rbW G hr hp ap av he aw al af as3 ar E1)))
        refine V.if_ne hC 118 dX12_carryOutProgram_22 rfl (fun c_22 => ?_) (fun c_22 => ?_)
        · refine V.iload_n hC (x := nI c) dX12_carryOutProgram_118 rfl ?_
          exact hE 119 _ (nI c) (s1, rr1, ra1, E1, dd1, sr1, rc1, an1, pf1) dX12_carryOutProgram_119 rfl ⟨c, by omega, rfl, by rw [← hex, exA_end (if10n c_22)], InvA.up hI1 (by omega), hE1, hsr, hrc, ha1⟩
        · have hnl : ¬ ln ≤ sr1 := if10 c_22
          refine V.aload_n hC (x := fs) dX12_carryOutProgram_25 rfl ?_
          refine V.getf hC (T := TX12) q0_ 6 q1_ rfl (0) rfl rfl (by decide) (.ref hq) rfl dX12_carryOutProgram_26 ?_
          refine V.callV (n := 0) (As := []) (rest := []) hC (c_readCmd (kl K) G hq tx ag dd1 ln sr1 rc1 an1 tf pf1 hln (by omega) ha1) (SFx.k G) hgo gX12_carryOutProgram_X7_readCommand rfl ⟨rfl, rfl⟩ (by decide +kernel) ⟨by decide, by decide, by decide, by decide⟩ [1, 2, 3] rfl (by decide) (fun _ => rfl) rfl rfl rfl rfl (Nat.le_of_ble_eq_true rfl) dX12_carryOutProgram_29 (fun r_29 u_29 hp_29 => ?_)
          rcases hp_29 with ⟨i, hi, hkf, hr, hu1, hu2, hu3, hu4⟩ | hno
          rotate_left
          · exact absurd (hval (by omega)) (by rw [show 61 - c = (60 - c) + 1 by omega, prs_none hno.1]; exact fun z => by cases z)
          subst hr
          have hkl := hk_ln (tf := tf) hi (show sr1 ≤ ln by omega)
          have hka := hk_an tf ln sr1 i hi
          rw [← hu2] at hkl
          rw [← hu3] at hka
          have hgx : ∀ j, (if j < u_29.2.2.1 then u_29.2.2.2 j else 0) = agx tf ln sr1 i j := by
            intro j
            unfold agx
            by_cases hj : j < u_29.2.2.1
            · rw [if_pos hj, if_pos (by rw [← hu3]; exact hj), hu4 j hj]
            · rw [if_neg hj, if_neg (by rw [← hu3]; exact hj)]
          show V G K 6 0 0 32 [some (.ref fs), some (.int (nI c)), none, none, none, none] [.int (nI 1)] ([(fs, .inr (12, [.ref h, .ref h2, .ref h3, .ref hh, .ref hr, .ref hg, .ref hq, .ref hl, .int iS, .int eA, .int fA])), (hq, .inr (8, [.ref tx, .ref ag, .ref (u_29.1), .int (nI ln), .int (nI sr1), .int (nI (u_29.2.1)), .int (nI (u_29.2.2.1))])), (tx, .inl (gC G, 60, .inl tf)), (ag, .inl (gI G, 3, .inl (u_29.2.2.2))), (hg, .inr (4, [.ref h, .ref hr]))] ++ ((stW G h ah as_ rr1 ra1 (sHm s1) (sNb s1) (sNs s1) (sLa s1) (sLo s1) (sNu s1) (sTn s1) (sSh s1)) ++ (rbW G hr hp ap av he aw al af as3 ar E1)))
          refine V.pop hC dX12_carryOutProgram_32 rfl ?_
          refine V.aload_n hC (x := fs) dX12_carryOutProgram_33 rfl ?_
          refine V.getf hC (T := TX12) q0_ 6 q1_ rfl (0) rfl rfl (by decide) (.ref hq) rfl dX12_carryOutProgram_34 ?_
          refine V.callVr (n := 0) (As := []) (rest := []) hC (c_deed (kl K) G hq tx ag u_29.1 ln sr1 u_29.2.1 u_29.2.2.1 tf u_29.2.2.2 hln) SFk0 SFgo0 gX12_carryOutProgram_X7_deed rfl ⟨rfl, rfl⟩ (by decide +kernel) ⟨by decide, by decide, by decide, by decide⟩ [1, 2, 3] rfl (by decide) rfl rfl rfl rfl (Nat.le_of_ble_eq_true rfl) dX12_carryOutProgram_37 (fun r_37 u_37 hp_37 => ?_)
          have hq_37 := hp_37.trans (congrArg some hu1)
          subst hq_37
          show V G K 6 0 0 40 [some (.ref fs), some (.int (nI c)), none, none, none, none] [.ref (adD G i)] ([(fs, .inr (12, [.ref h, .ref h2, .ref h3, .ref hh, .ref hr, .ref hg, .ref hq, .ref hl, .int iS, .int eA, .int fA])), (hq, .inr (8, [.ref tx, .ref ag, .ref (u_29.1), .int (nI ln), .int (nI sr1), .int (nI (u_29.2.1)), .int (nI (u_29.2.2.1))])), (tx, .inl (gC G, 60, .inl tf)), (ag, .inl (gI G, 3, .inl (u_29.2.2.2))), (hg, .inr (4, [.ref h, .ref hr]))] ++ ((stW G h ah as_ rr1 ra1 (sHm s1) (sNb s1) (sNs s1) (sLa s1) (sLo s1) (sNu s1) (sTn s1) (sSh s1)) ++ (rbW G hr hp ap av he aw al af as3 ar E1)))
          refine V.astore_n hC dX12_carryOutProgram_40 [some (.ref fs), some (.int (nI c)), some (.ref (adD G i)), none, none, none] (Nat.le_of_ble_eq_true rfl) rfl ?_
          refine V.aload_n hC (x := fs) dX12_carryOutProgram_41 rfl ?_
          refine V.getf hC (T := TX12) q0_ 6 q1_ rfl (0) rfl rfl (by decide) (.ref hq) rfl dX12_carryOutProgram_42 ?_
          refine V.iconst hC 0 dX12_carryOutProgram_45 rfl ?_
          refine V.callVr (n := 1) (As := [.int 0]) (rest := []) hC (c_argument (kl K) G hq tx ag u_29.1 ln sr1 u_29.2.1 u_29.2.2.1 tf u_29.2.2.2 hln hka 0 (by decide)) SFk0 SFgo0 gX12_carryOutProgram_X7_argument rfl ⟨rfl, rfl⟩ (by decide +kernel) ⟨by decide, by decide, by decide, by decide⟩ [1, 2, 3] rfl (by decide) rfl rfl rfl rfl (Nat.le_of_ble_eq_true rfl) dX12_carryOutProgram_46 (fun r_46 u_46 hp_46 => ?_)
          have hq_46 := hp_46.trans (hgx 0)
          subst hq_46
          show V G K 6 0 0 49 [some (.ref fs), some (.int (nI c)), some (.ref (adD G i)), none, none, none] [.int (agx tf ln sr1 i 0)] ([(fs, .inr (12, [.ref h, .ref h2, .ref h3, .ref hh, .ref hr, .ref hg, .ref hq, .ref hl, .int iS, .int eA, .int fA])), (hq, .inr (8, [.ref tx, .ref ag, .ref (u_29.1), .int (nI ln), .int (nI sr1), .int (nI (u_29.2.1)), .int (nI (u_29.2.2.1))])), (tx, .inl (gC G, 60, .inl tf)), (ag, .inl (gI G, 3, .inl (u_29.2.2.2))), (hg, .inr (4, [.ref h, .ref hr]))] ++ ((stW G h ah as_ rr1 ra1 (sHm s1) (sNb s1) (sNs s1) (sLa s1) (sLo s1) (sNu s1) (sTn s1) (sSh s1)) ++ (rbW G hr hp ap av he aw al af as3 ar E1)))
          refine V.istore_n hC dX12_carryOutProgram_49 [some (.ref fs), some (.int (nI c)), some (.ref (adD G i)), some (.int (agx tf ln sr1 i 0)), none, none] (Nat.le_of_ble_eq_true rfl) rfl ?_
          refine V.aload_n hC (x := fs) dX12_carryOutProgram_50 rfl ?_
          refine V.getf hC (T := TX12) q0_ 6 q1_ rfl (0) rfl rfl (by decide) (.ref hq) rfl dX12_carryOutProgram_51 ?_
          refine V.iconst hC 1 dX12_carryOutProgram_54 rfl ?_
          refine V.callVr (n := 1) (As := [.int 1]) (rest := []) hC (c_argument (kl K) G hq tx ag u_29.1 ln sr1 u_29.2.1 u_29.2.2.1 tf u_29.2.2.2 hln hka 1 (by decide)) SFk0 SFgo0 gX12_carryOutProgram_X7_argument rfl ⟨rfl, rfl⟩ (by decide +kernel) ⟨by decide, by decide, by decide, by decide⟩ [1, 2, 3] rfl (by decide) rfl rfl rfl rfl (Nat.le_of_ble_eq_true rfl) dX12_carryOutProgram_55 (fun r_55 u_55 hp_55 => ?_)
          have hq_55 := hp_55.trans (hgx 1)
          subst hq_55
          show V G K 6 0 0 58 [some (.ref fs), some (.int (nI c)), some (.ref (adD G i)), some (.int (agx tf ln sr1 i 0)), none, none] [.int (agx tf ln sr1 i 1)] ([(fs, .inr (12, [.ref h, .ref h2, .ref h3, .ref hh, .ref hr, .ref hg, .ref hq, .ref hl, .int iS, .int eA, .int fA])), (hq, .inr (8, [.ref tx, .ref ag, .ref (u_29.1), .int (nI ln), .int (nI sr1), .int (nI (u_29.2.1)), .int (nI (u_29.2.2.1))])), (tx, .inl (gC G, 60, .inl tf)), (ag, .inl (gI G, 3, .inl (u_29.2.2.2))), (hg, .inr (4, [.ref h, .ref hr]))] ++ ((stW G h ah as_ rr1 ra1 (sHm s1) (sNb s1) (sNs s1) (sLa s1) (sLo s1) (sNu s1) (sTn s1) (sSh s1)) ++ (rbW G hr hp ap av he aw al af as3 ar E1)))
          refine V.istore hC dX12_carryOutProgram_58 [some (.ref fs), some (.int (nI c)), some (.ref (adD G i)), some (.int (agx tf ln sr1 i 0)), some (.int (agx tf ln sr1 i 1)), none] (Nat.le_of_ble_eq_true rfl) rfl ?_
          refine V.aload_n hC (x := fs) dX12_carryOutProgram_60 rfl ?_
          refine V.getf hC (T := TX12) q0_ 6 q1_ rfl (0) rfl rfl (by decide) (.ref hq) rfl dX12_carryOutProgram_61 ?_
          refine V.iconst hC 2 dX12_carryOutProgram_64 rfl ?_
          refine V.callVr (n := 1) (As := [.int 2]) (rest := []) hC (c_argument (kl K) G hq tx ag u_29.1 ln sr1 u_29.2.1 u_29.2.2.1 tf u_29.2.2.2 hln hka 2 (by decide)) SFk0 SFgo0 gX12_carryOutProgram_X7_argument rfl ⟨rfl, rfl⟩ (by decide +kernel) ⟨by decide, by decide, by decide, by decide⟩ [1, 2, 3] rfl (by decide) rfl rfl rfl rfl (Nat.le_of_ble_eq_true rfl) dX12_carryOutProgram_65 (fun r_65 u_65 hp_65 => ?_)
          have hq_65 := hp_65.trans (hgx 2)
          subst hq_65
          show V G K 6 0 0 68 [some (.ref fs), some (.int (nI c)), some (.ref (adD G i)), some (.int (agx tf ln sr1 i 0)), some (.int (agx tf ln sr1 i 1)), none] [.int (agx tf ln sr1 i 2)] ([(fs, .inr (12, [.ref h, .ref h2, .ref h3, .ref hh, .ref hr, .ref hg, .ref hq, .ref hl, .int iS, .int eA, .int fA])), (hq, .inr (8, [.ref tx, .ref ag, .ref (u_29.1), .int (nI ln), .int (nI sr1), .int (nI (u_29.2.1)), .int (nI (u_29.2.2.1))])), (tx, .inl (gC G, 60, .inl tf)), (ag, .inl (gI G, 3, .inl (u_29.2.2.2))), (hg, .inr (4, [.ref h, .ref hr]))] ++ ((stW G h ah as_ rr1 ra1 (sHm s1) (sNb s1) (sNs s1) (sLa s1) (sLo s1) (sNu s1) (sTn s1) (sSh s1)) ++ (rbW G hr hp ap av he aw al af as3 ar E1)))
          refine V.istore hC dX12_carryOutProgram_68 [some (.ref fs), some (.int (nI c)), some (.ref (adD G i)), some (.int (agx tf ln sr1 i 0)), some (.int (agx tf ln sr1 i 1)), some (.int (agx tf ln sr1 i 2))] (Nat.le_of_ble_eq_true rfl) rfl ?_
          refine V.aload_n hC (x := fs) dX12_carryOutProgram_70 rfl ?_
          refine V.getf hC (T := TX12) q0_ 5 q2_ rfl (0) rfl rfl (by decide) (.ref hg) rfl dX12_carryOutProgram_71 ?_
          refine V.aload_n hC (x := adD G i) dX12_carryOutProgram_74 rfl ?_
          refine V.iload_n hC (x := agx tf ln sr1 i 0) dX12_carryOutProgram_75 rfl ?_
          refine V.iload hC (x := agx tf ln sr1 i 1) dX12_carryOutProgram_76 rfl ?_
          refine V.iload hC (x := agx tf ln sr1 i 2) dX12_carryOutProgram_78 rfl ?_
          refine V.callVr (n := 4) (As := [.ref (adD G i), .int (agx tf ln sr1 i 0), .int (agx tf ln sr1 i 1), .int (agx tf ln sr1 i 2)]) (rest := []) hC (c_pw (kl K) G hg hr h ah as_ rr1 ra1 s1 (B + c) hI1 i hi (agx tf ln sr1 i 0) (agx tf ln sr1 i 1) (agx tf ln sr1 i 2)) (SFx.k G) hgo gX12_carryOutProgram_X1_problemWith rfl ⟨rfl, rfl⟩ (by decide +kernel) ⟨by decide, by decide, by decide, by decide⟩ [4, 5, 6, 7, 8, 9, 10, 11, 12, 13, 14, 15, 16, 17, 18, 19] rfl (by decide) rfl rfl rfl rfl (Nat.le_of_ble_eq_true rfl) dX12_carryOutProgram_80 (fun r_80 u_80 hp_80 => ?_)
          subst hp_80
          show V G K 6 0 0 83 [some (.ref fs), some (.int (nI c)), some (.ref (adD G i)), some (.int (agx tf ln sr1 i 0)), some (.int (agx tf ln sr1 i 1)), some (.int (agx tf ln sr1 i 2))] [.ref (adP G (pwX i s1 (agx tf ln sr1 i 0) (agx tf ln sr1 i 1) (agx tf ln sr1 i 2)))] ([(fs, .inr (12, [.ref h, .ref h2, .ref h3, .ref hh, .ref hr, .ref hg, .ref hq, .ref hl, .int iS, .int eA, .int fA])), (hq, .inr (8, [.ref tx, .ref ag, .ref (u_29.1), .int (nI ln), .int (nI sr1), .int (nI (u_29.2.1)), .int (nI (u_29.2.2.1))])), (tx, .inl (gC G, 60, .inl tf)), (ag, .inl (gI G, 3, .inl (u_29.2.2.2))), (hg, .inr (4, [.ref h, .ref hr]))] ++ ((stW G h ah as_ rr1 ra1 (sHm s1) (sNb s1) (sNs s1) (sLa s1) (sLo s1) (sNu s1) (sTn s1) (sSh s1)) ++ (rbW G hr hp ap av he aw al af as3 ar E1)))
          refine V.gets hC (n := "NONE") (hSF.pz 0 (by decide)) q3_ rfl dX12_carryOutProgram_83 ?_
          refine V.acmp_eq hC 91 dX12_carryOutProgram_86 rfl (fun c_86 => ?_) (fun c_86 => ?_)
          · have h0 := (hSF.pne (pwX_lt i s1 (agx tf ln sr1 i 0) (agx tf ln sr1 i 1) (agx tf ln sr1 i 2)) (by decide)).mp c_86
            refine V.aload_n hC (x := fs) dX12_carryOutProgram_91 rfl ?_
            refine V.getf hC (T := TX12) q0_ 5 q2_ rfl (0) rfl rfl (by decide) (.ref hg) rfl dX12_carryOutProgram_92 ?_
            refine V.aload_n hC (x := adD G i) dX12_carryOutProgram_95 rfl ?_
            refine V.iload_n hC (x := agx tf ln sr1 i 0) dX12_carryOutProgram_96 rfl ?_
            refine V.iload hC (x := agx tf ln sr1 i 1) dX12_carryOutProgram_97 rfl ?_
            refine V.iload hC (x := agx tf ln sr1 i 2) dX12_carryOutProgram_99 rfl ?_
            refine V.callVG (n := 4) (As := [.ref (adD G i), .int (agx tf ln sr1 i 0), .int (agx tf ln sr1 i 1), .int (agx tf ln sr1 i 2)]) (rest := []) (wr := [(fs, .inr (12, [.ref h, .ref h2, .ref h3, .ref hh, .ref hr, .ref hg, .ref hq, .ref hl, .int iS, .int eA, .int fA])), (hq, .inr (8, [.ref tx, .ref ag, .ref (u_29.1), .int (nI ln), .int (nI sr1), .int (nI (u_29.2.1)), .int (nI (u_29.2.2.1))])), (tx, .inl (gC G, 60, .inl tf)), (ag, .inl (gI G, 3, .inl (u_29.2.2.2)))]) hC (c_co (kl K) G hg hr h ah as_ rr1 ra1 s1 (B + c) hI1 hp ap av he aw al af as3 ar E1 hE1 i hi (agx tf ln sr1 i 0) (agx tf ln sr1 i 1) (agx tf ln sr1 i 2) h0) (SFx.k G) hgo gX12_carryOutProgram_X1_carryOut rfl ⟨rfl, rfl⟩ (by decide +kernel) ⟨by decide, by decide, by decide, by decide⟩ [4, 5, 6, 7, 8, 9, 10, 11, 12, 13, 14, 15, 16, 17, 18, 19, 20, 21, 22, 23, 24, 25, 26, 27, 28, 29, 30, 31, 32] [0, 1, 2, 3] rfl (by decide) rfl (by decide) (by decide) rfl rfl rfl rfl (Nat.le_of_ble_eq_true rfl) dX12_carryOutProgram_101 (fun r_101 u_101 hp_101 => ?_)
            obtain ⟨e_101, hE_101⟩ := hp_101
            subst e_101
            show V G K 6 0 0 104 [some (.ref fs), some (.int (nI c)), some (.ref (adD G i)), some (.int (agx tf ln sr1 i 0)), some (.int (agx tf ln sr1 i 1)), some (.int (agx tf ln sr1 i 2))] [.int (rX i s1 (agx tf ln sr1 i 0) (agx tf ln sr1 i 1) (agx tf ln sr1 i 2))] ([(fs, .inr (12, [.ref h, .ref h2, .ref h3, .ref hh, .ref hr, .ref hg, .ref hq, .ref hl, .int iS, .int eA, .int fA])), (hq, .inr (8, [.ref tx, .ref ag, .ref (u_29.1), .int (nI ln), .int (nI sr1), .int (nI (u_29.2.1)), .int (nI (u_29.2.2.1))])), (tx, .inl (gC G, 60, .inl tf)), (ag, .inl (gI G, 3, .inl (u_29.2.2.2))), (hg, .inr (4, [.ref h, .ref hr]))] ++ ((stW G h ah as_ (u_101.1) (u_101.2.1) (sHm (cX i s1 (agx tf ln sr1 i 0) (agx tf ln sr1 i 1) (agx tf ln sr1 i 2))) (sNb (cX i s1 (agx tf ln sr1 i 0) (agx tf ln sr1 i 1) (agx tf ln sr1 i 2))) (sNs (cX i s1 (agx tf ln sr1 i 0) (agx tf ln sr1 i 1) (agx tf ln sr1 i 2))) (sLa (cX i s1 (agx tf ln sr1 i 0) (agx tf ln sr1 i 1) (agx tf ln sr1 i 2))) (sLo (cX i s1 (agx tf ln sr1 i 0) (agx tf ln sr1 i 1) (agx tf ln sr1 i 2))) (sNu (cX i s1 (agx tf ln sr1 i 0) (agx tf ln sr1 i 1) (agx tf ln sr1 i 2))) (sTn (cX i s1 (agx tf ln sr1 i 0) (agx tf ln sr1 i 1) (agx tf ln sr1 i 2))) (sSh (cX i s1 (agx tf ln sr1 i 0) (agx tf ln sr1 i 1) (agx tf ln sr1 i 2)))) ++ (rbW G hr hp ap av he aw al af as3 ar (u_101.2.2.1, u_101.2.2.2.1, u_101.2.2.2.2.1, u_101.2.2.2.2.2.1, u_101.2.2.2.2.2.2.1, u_101.2.2.2.2.2.2.2.1, u_101.2.2.2.2.2.2.2.2.1, u_101.2.2.2.2.2.2.2.2.2))))
            refine V.pop hC dX12_carryOutProgram_104 rfl ?_
            refine V.aload_n hC (x := fs) dX12_carryOutProgram_105 rfl ?_
            refine V.getf hC (T := TX12) q0_ 6 q1_ rfl (0) rfl rfl (by decide) (.ref hq) rfl dX12_carryOutProgram_106 ?_
            refine V.callV (n := 0) (As := []) (rest := []) hC (c_passCommand (kl K) G hq tx ag u_29.1 ln sr1 u_29.2.1 u_29.2.2.1 tf u_29.2.2.2 hln (by omega)) SFk0 SFgo0 gX12_carryOutProgram_X7_passCommand rfl ⟨rfl, rfl⟩ (by decide +kernel) ⟨by decide, by decide, by decide, by decide⟩ [1, 2, 3] rfl (by decide) (fun _ => rfl) rfl rfl rfl rfl (Nat.le_of_ble_eq_true rfl) dX12_carryOutProgram_109 (fun r_109 u_109 hp_109 => ?_)
            show V G K 6 0 0 112 [some (.ref fs), some (.int (nI c)), some (.ref (adD G i)), some (.int (agx tf ln sr1 i 0)), some (.int (agx tf ln sr1 i 1)), some (.int (agx tf ln sr1 i 2))] [] ([(fs, .inr (12, [.ref h, .ref h2, .ref h3, .ref hh, .ref hr, .ref hg, .ref hq, .ref hl, .int iS, .int eA, .int fA])), (hq, .inr (8, [.ref tx, .ref ag, .ref (u_29.1), .int (nI ln), .int (nI (u_29.2.1 + 1)), .int (nI (u_29.2.1)), .int (nI (u_29.2.2.1))])), (tx, .inl (gC G, 60, .inl tf)), (ag, .inl (gI G, 3, .inl (u_29.2.2.2))), (hg, .inr (4, [.ref h, .ref hr]))] ++ ((stW G h ah as_ (u_101.1) (u_101.2.1) (sHm (cX i s1 (agx tf ln sr1 i 0) (agx tf ln sr1 i 1) (agx tf ln sr1 i 2))) (sNb (cX i s1 (agx tf ln sr1 i 0) (agx tf ln sr1 i 1) (agx tf ln sr1 i 2))) (sNs (cX i s1 (agx tf ln sr1 i 0) (agx tf ln sr1 i 1) (agx tf ln sr1 i 2))) (sLa (cX i s1 (agx tf ln sr1 i 0) (agx tf ln sr1 i 1) (agx tf ln sr1 i 2))) (sLo (cX i s1 (agx tf ln sr1 i 0) (agx tf ln sr1 i 1) (agx tf ln sr1 i 2))) (sNu (cX i s1 (agx tf ln sr1 i 0) (agx tf ln sr1 i 1) (agx tf ln sr1 i 2))) (sTn (cX i s1 (agx tf ln sr1 i 0) (agx tf ln sr1 i 1) (agx tf ln sr1 i 2))) (sSh (cX i s1 (agx tf ln sr1 i 0) (agx tf ln sr1 i 1) (agx tf ln sr1 i 2)))) ++ (rbW G hr hp ap av he aw al af as3 ar (u_101.2.2.1, u_101.2.2.2.1, u_101.2.2.2.2.1, u_101.2.2.2.2.2.1, u_101.2.2.2.2.2.2.1, u_101.2.2.2.2.2.2.2.1, u_101.2.2.2.2.2.2.2.2.1, u_101.2.2.2.2.2.2.2.2.2))))
            refine V.iincN hC c 1 dX12_carryOutProgram_112 rfl [some (.ref fs), some (.int (nI (c + 1))), some (.ref (adD G i)), some (.int (agx tf ln sr1 i 0)), some (.int (agx tf ln sr1 i 1)), some (.int (agx tf ln sr1 i 2))] (Nat.le_of_ble_eq_true rfl) rfl rfl rfl ?_
            refine V.goto hC 9 dX12_carryOutProgram_115 rfl ?_
            refine V.drop 2 (lv' := [some (.ref fs), some (.int (nI (c + 1))), none, some (.int (agx tf ln sr1 i 0)), some (.int (agx tf ln sr1 i 1)), some (.int (agx tf ln sr1 i 2))]) rfl ?_
            refine V.drop 3 (lv' := [some (.ref fs), some (.int (nI (c + 1))), none, none, some (.int (agx tf ln sr1 i 1)), some (.int (agx tf ln sr1 i 2))]) rfl ?_
            refine V.drop 4 (lv' := [some (.ref fs), some (.int (nI (c + 1))), none, none, none, some (.int (agx tf ln sr1 i 2))]) rfl ?_
            refine V.drop 5 (lv' := [some (.ref fs), some (.int (nI (c + 1))), none, none, none, none]) rfl ?_
            exact ih9 (c + 1) (cX i s1 (agx tf ln sr1 i 0) (agx tf ln sr1 i 1) (agx tf ln sr1 i 2)) (u_101.1) (u_101.2.1) (u_101.2.2) (u_29.1) (u_29.2.1 + 1) (u_29.2.1) (u_29.2.2.1) (u_29.2.2.2) (by omega) (by omega) (InvA.step hI1 hi h0) hE_101 (by omega) (by omega) hka (fun hz => by have hv := hval (by omega); rw [show 61 - c = (60 - c) + 1 by omega] at hv; have := prs_next hkf hv (by rw [← hu2]; omega); rw [hu2, show 61 - (c + 1) = 60 - c by omega]; exact this) (by have := hk_adv hkf; rw [← hu2] at this; omega) (by rw [← hex, show 60 - c = (59 - c) + 1 by omega, exA_go hnl hkf h0, hu2, show 60 - (c + 1) = 59 - c by omega])
          · have hn0 : ¬ pwX i s1 (agx tf ln sr1 i 0) (agx tf ln sr1 i 1) (agx tf ln sr1 i 2) = 0 := fun z => c_86 (by rw [z])
            refine V.iload_n hC (x := nI c) dX12_carryOutProgram_89 rfl ?_
            exact hE 90 _ (nI c) (s1, rr1, ra1, E1, u_29.1, sr1, u_29.2.1, u_29.2.2.1, u_29.2.2.2) dX12_carryOutProgram_90 rfl ⟨c, by omega, rfl, by rw [← hex, show 60 - c = (59 - c) + 1 by omega, exA_bad (by omega) hkf hn0], InvA.up hI1 (by omega), hE1, hsr, (Nat.le_trans hkl hln), hka⟩
  exact loop9 _ 0 s rr ra E dd 0 rc an pf (Nat.lt_succ_self _) (by omega) hI hok (by omega) hrc0 han (fun _ => hval0) (by omega) hX
