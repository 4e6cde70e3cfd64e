/-! Program: a form read (printed by gen/s31.py) -/
/-- a form read from sr on, j of its signs seen: whether it stands so far, the place reached, the arguments -/
def hfm (tf : Nat → Int32) (ln sr : Nat) (af : Nat → Int32) (i : Nat) : Nat → Nat × Nat × Nat × (Nat → Int32)
  | 0 => (1, sr, 0, af)
  | j + 1 =>
    if (hfm tf ln sr af i j).1 = 0 then hfm tf ln sr af i j
    else if chr i j = 35 then (if dct tf ln (hfm tf ln sr af i j).2.1 1 = 0 then 0 else 1, (hfm tf ln sr af i j).2.1 + dct tf ln (hfm tf ln sr af i j).2.1 1, (hfm tf ln sr af i j).2.2.1 + 1, upd (hfm tf ln sr af i j).2.2.2 (hfm tf ln sr af i j).2.2.1 (nmv tf ln (hfm tf ln sr af i j).2.1 (dct tf ln (hfm tf ln sr af i j).2.1 1)))
    else if chr i j = 37 then (if dct tf ln (hfm tf ln sr af i j).2.1 2 = 0 then 0 else 1, (hfm tf ln sr af i j).2.1 + dct tf ln (hfm tf ln sr af i j).2.1 2, (hfm tf ln sr af i j).2.2.1 + 1, upd (hfm tf ln sr af i j).2.2.2 (hfm tf ln sr af i j).2.2.1 (nmv tf ln (hfm tf ln sr af i j).2.1 (dct tf ln (hfm tf ln sr af i j).2.1 2)))
    else if sgn tf ln (hfm tf ln sr af i j).2.1 = nI (chr i j) then (1, (hfm tf ln sr af i j).2.1 + 1, (hfm tf ln sr af i j).2.2.1, (hfm tf ln sr af i j).2.2.2)
    else (0, (hfm tf ln sr af i j).2.1, (hfm tf ln sr af i j).2.2.1, (hfm tf ln sr af i j).2.2.2)
section HFM
variable {tf : Nat → Int32} {ln sr : Nat} {af : Nat → Int32} {i j : Nat}
theorem hfm_1 (h : ¬ (hfm tf ln sr af i j).1 = 0) (c : chr i j = 35) : hfm tf ln sr af i (j + 1) = (if dct tf ln (hfm tf ln sr af i j).2.1 1 = 0 then 0 else 1, (hfm tf ln sr af i j).2.1 + dct tf ln (hfm tf ln sr af i j).2.1 1, (hfm tf ln sr af i j).2.2.1 + 1, upd (hfm tf ln sr af i j).2.2.2 (hfm tf ln sr af i j).2.2.1 (nmv tf ln (hfm tf ln sr af i j).2.1 (dct tf ln (hfm tf ln sr af i j).2.1 1))) := by rw [hfm, if_neg h, if_pos c]
theorem hfm_2 (h : ¬ (hfm tf ln sr af i j).1 = 0) (c : ¬ chr i j = 35) (c2 : chr i j = 37) : hfm tf ln sr af i (j + 1) = (if dct tf ln (hfm tf ln sr af i j).2.1 2 = 0 then 0 else 1, (hfm tf ln sr af i j).2.1 + dct tf ln (hfm tf ln sr af i j).2.1 2, (hfm tf ln sr af i j).2.2.1 + 1, upd (hfm tf ln sr af i j).2.2.2 (hfm tf ln sr af i j).2.2.1 (nmv tf ln (hfm tf ln sr af i j).2.1 (dct tf ln (hfm tf ln sr af i j).2.1 2))) := by rw [hfm, if_neg h, if_neg c, if_pos c2]
theorem hfm_3 (h : ¬ (hfm tf ln sr af i j).1 = 0) (c : ¬ chr i j = 35) (c2 : ¬ chr i j = 37) (c3 : sgn tf ln (hfm tf ln sr af i j).2.1 = nI (chr i j)) : hfm tf ln sr af i (j + 1) = (1, (hfm tf ln sr af i j).2.1 + 1, (hfm tf ln sr af i j).2.2.1, (hfm tf ln sr af i j).2.2.2) := by rw [hfm, if_neg h, if_neg c, if_neg c2, if_pos c3]
theorem hfm_4 (h : ¬ (hfm tf ln sr af i j).1 = 0) (c : ¬ chr i j = 35) (c2 : ¬ chr i j = 37) (c3 : ¬ sgn tf ln (hfm tf ln sr af i j).2.1 = nI (chr i j)) : hfm tf ln sr af i (j + 1) = (0, (hfm tf ln sr af i j).2.1, (hfm tf ln sr af i j).2.2.1, (hfm tf ln sr af i j).2.2.2) := by rw [hfm, if_neg h, if_neg c, if_neg c2, if_neg c3]
theorem hfm_stop (h : (hfm tf ln sr af i j).1 = 0) : ∀ n, hfm tf ln sr af i (j + n) = hfm tf ln sr af i j
  | 0 => rfl
  | n + 1 => by
    have ih := hfm_stop h n
    rw [← Nat.add_assoc, hfm, ih, if_pos h]
theorem hfm_end {n : Nat} (h : (hfm tf ln sr af i j).1 = 0) (hn : j ≤ n) : hfm tf ln sr af i j = hfm tf ln sr af i n := by
  have := hfm_stop h (n - j)
  rw [show j + (n - j) = n by omega] at this
  exact this.symm
theorem hfm_le1 : ∀ j, (hfm tf ln sr af i j).1 ≤ 1
  | 0 => Nat.le_refl 1
  | j + 1 => by
    have ih := hfm_le1 j
    rw [hfm]
    repeat' split
    all_goals first | exact ih | (show (0 : Nat) ≤ 1; omega) | (show (1 : Nat) ≤ 1; omega) | (simp only []; split <;> omega)
theorem sgn_lt {x : Nat} (h : ¬ sgn tf ln x = -1) : x < ln := by
  rcases Nat.lt_or_ge x ln with q | q
  · exact q
  · exact absurd (by rw [sgn, if_neg (by omega)]) h
theorem dct_ln {rc : Nat} (h : rc ≤ ln) : ∀ n, rc + dct tf ln rc n ≤ ln
  | 0 => h
  | n + 1 => by
    have ih := dct_ln h n
    rw [dct]
    split
    · rename_i z
      have : rc + n < ln := sgn_lt (fun y => by have := z.2; rw [y] at this; exact absurd this (by decide))
      omega
    · exact ih
theorem hfm_ln (h : sr ≤ ln) (hc : ∀ j, ¬ nI (chr i j) = -1) : ∀ j, (hfm tf ln sr af i j).2.1 ≤ ln
  | 0 => h
  | j + 1 => by
    have ih := hfm_ln h hc j
    by_cases h0 : (hfm tf ln sr af i j).1 = 0
    · rw [hfm, if_pos h0]
      exact ih
    · by_cases c1 : chr i j = 35
      · rw [hfm_1 h0 c1]
        exact dct_ln ih 1
      · by_cases c2 : chr i j = 37
        · rw [hfm_2 h0 c1 c2]
          exact dct_ln ih 2
        · by_cases c3 : sgn tf ln (hfm tf ln sr af i j).2.1 = nI (chr i j)
          · rw [hfm_3 h0 c1 c2 c3]
            exact sgn_lt (by rw [c3]; exact hc j)
          · rw [hfm_4 h0 c1 c2 c3]
            exact ih
/-- how many numbers stand among the first signs of a form -/
def ncn (i : Nat) : Nat → Nat
  | 0 => 0
  | j + 1 => ncn i j + (if chr i j = 35 ∨ chr i j = 37 then 1 else 0)
theorem hfm_an : ∀ j, (hfm tf ln sr af i j).2.2.1 ≤ ncn i j
  | 0 => Nat.le_refl 0
  | j + 1 => by
    have ih := hfm_an j
    rw [ncn]
    by_cases h0 : (hfm tf ln sr af i j).1 = 0
    · rw [hfm, if_pos h0]
      omega
    · by_cases c1 : chr i j = 35
      · rw [hfm_1 h0 c1, if_pos (Or.inl c1)]
        exact Nat.succ_le_succ ih
      · by_cases c2 : chr i j = 37
        · rw [hfm_2 h0 c1 c2, if_pos (Or.inr c2)]
          exact Nat.succ_le_succ ih
        · by_cases c3 : sgn tf ln (hfm tf ln sr af i j).2.1 = nI (chr i j)
          · rw [hfm_3 h0 c1 c2 c3]
            exact Nat.le_trans ih (Nat.le_add_right _ _)
          · rw [hfm_4 h0 c1 c2 c3]
            exact Nat.le_trans ih (Nat.le_add_right _ _)
end HFM
theorem ncn_3 : ∀ i, i < 8 → ∀ j, j < fLen.getD i 0 → (chr i j = 35 ∨ chr i j = 37) → ncn i j < 3 := by decide
theorem chr_127 : ∀ i, i < 8 → ∀ j, j < 12 → chr i j < 127 := by decide
theorem chr_out (i j : Nat) (hi : i < 8) (hj : 12 ≤ j) : chr i j = 0 := by
  have : ∀ i, i < 8 → (fmS.getD i []).length ≤ 12 := by decide
  unfold chr
  rw [List.getD_eq_getElem?_getD, List.getElem?_eq_none (by have := this i hi; omega)]
  rfl
theorem chr_m1 (i : Nat) (hi : i < 8) (j : Nat) : ¬ nI (chr i j) = -1 := by
  rcases Nat.lt_or_ge j 12 with q | q
  · intro z
    have h := nI_nonneg (b := chr i j) (by have := chr_127 i hi j q; omega)
    rw [z] at h
    exact absurd h (by decide)
  · rw [chr_out i j hi q]
    decide
set_option maxHeartbeats 4000000 in
set_option maxRecDepth 100000 in
theorem c_hasForm (l : Launch) (G : Gx) (hq tx ag dd ln sr rc an : Nat) (tf af : Nat → Int32) (hln : ln ≤ 60) (i : Nat) (hi : i < 8) (hsr : sr ≤ ln) : Ct l G (SFx G) yX7_hasForm wsX7_hasForm ({ frames := 4, cells := 0, slots := 0, locals := 85 }) [.ref hq, .ref (adK G i)] [(hq, .inr (8, [.ref tx, .ref ag, .ref dd, .int (nI ln), .int (nI sr), .int (nI rc), .int (nI an)])), (tx, .inl (gC G, 60, .inl tf)), (ag, .inl (gI G, 3, .inl af))] mkI (fun (r : Int32) (_ : Unit) => r = nI (hfm tf ln sr af i (fLen.getD i 0)).1) (fun _ : Unit => [(hq, .inr (8, [.ref tx, .ref ag, .ref dd, .int (nI ln), .int (nI sr), .int (nI ((hfm tf ln sr af i (fLen.getD i 0)).2.1)), .int (nI ((hfm tf ln sr af i (fLen.getD i 0)).2.2.1))])), (tx, .inl (gC G, 60, .inl tf)), (ag, .inl (gI G, 3, .inl ((hfm tf ln sr af i (fLen.getD i 0)).2.2.2)))]) 0 0 := by
  have hl11 := len_11 i hi
  refine Ct.ofI (cc := cX7_hasForm) (maxL := 5) (by decide) rfl ⟨by simp [Value.category], Nat.le_of_ble_eq_true rfl⟩ ?_
  intro K hl hC hSF hnm hE
  subst hl
  have hgo := SFgoS (SFx.k G) hSF
  have q0_ : ∀ w ∈ u_ws RX7 TX7 7, w ∈ wsX7_hasForm := by decide +kernel
  have q1_ : Cond.fieldLink RX7 32 "FeatherShares$Program" "start" "I" ∈ wsX7_hasForm := by decide +kernel
  have q2_ : Cond.fieldLink RX7 45 "FeatherShares$Program" "reached" "I" ∈ wsX7_hasForm := by decide +kernel
  have q3_ : Cond.fieldLink RX7 35 "FeatherShares$Program" "argumentsRead" "I" ∈ wsX7_hasForm := by decide +kernel
  show V G K 5 0 0 0 [some (.ref hq), some (.ref (adK G i)), none, none, none] [] [(hq, .inr (8, [.ref tx, .ref ag, .ref dd, .int (nI ln), .int (nI sr), .int (nI rc), .int (nI an)])), (tx, .inl (gC G, 60, .inl tf)), (ag, .inl (gI G, 3, .inl af))]
  refine V.aload_n hC (x := hq) dX7_hasForm_0 rfl ?_
  refine V.aload_n hC (x := hq) dX7_hasForm_1 rfl ?_
  refine V.getf hC (T := TX7) q0_ 4 q1_ rfl (0) rfl rfl (by decide) (.int (nI sr)) rfl dX7_hasForm_2 ?_
  refine V.putf hC (T := TX7) q0_ tyX7 tyX7_ok nmX7 5 q2_ rfl rfl (0) rfl rfl (by decide) (by simp) rfl rfl dX7_hasForm_5 [(hq, .inr (8, [.ref tx, .ref ag, .ref dd, .int (nI ln), .int (nI sr), .int (nI sr), .int (nI an)])), (tx, .inl (gC G, 60, .inl tf)), (ag, .inl (gI G, 3, .inl af))] rfl ?_
  refine V.aload_n hC (x := hq) dX7_hasForm_8 rfl ?_
  refine V.iconst hC 0 dX7_hasForm_9 rfl ?_
  refine V.putf hC (T := TX7) q0_ tyX7 tyX7_ok nmX7 6 q3_ rfl rfl (0) rfl rfl (by decide) (by simp) rfl rfl dX7_hasForm_10 [(hq, .inr (8, [.ref tx, .ref ag, .ref dd, .int (nI ln), .int (nI sr), .int (nI sr), .int 0])), (tx, .inl (gC G, 60, .inl tf)), (ag, .inl (gI G, 3, .inl af))] rfl ?_
  refine V.eqw (ws' := [(hq, .inr (8, [.ref tx, .ref ag, .ref dd, .int (nI ln), .int (nI sr), .int (nI ((hfm tf ln sr af i 0).2.1)), .int (nI ((hfm tf ln sr af i 0).2.2.1))])), (tx, .inl (gC G, 60, .inl tf)), (ag, .inl (gI G, 3, .inl ((hfm tf ln sr af i 0).2.2.2)))]) (by rfl) ?_
  refine V.iconst hC 0 dX7_hasForm_13 rfl ?_
  refine V.istore_n hC dX7_hasForm_14 [some (.ref hq), some (.ref (adK G i)), some (.int 0), none, none] (Nat.le_of_ble_eq_true rfl) rfl ?_
  have loop15 : ∀ (n : Nat) (j : Nat), 12 - j < n → (j ≤ fLen.getD i 0) → (¬ (hfm tf ln sr af i j).1 = 0) → V G K 5 0 0 15 [some (.ref hq), some (.ref (adK G i)), some (.int (nI j)), none, none] [] [(hq, .inr (8, [.ref tx, .ref ag, .ref dd, .int (nI ln), .int (nI sr), .int (nI ((hfm tf ln sr af i j).2.1)), .int (nI ((hfm tf ln sr af i j).2.2.1))])), (tx, .inl (gC G, 60, .inl tf)), (ag, .inl (gI G, 3, .inl ((hfm tf ln sr af i j).2.2.2)))] := by
    intro n
    induction n with
    | zero => intro j hlt; exact absurd hlt (Nat.not_lt_zero _)
    | succ n ih15 =>
      intro j hlt15 hj hok
      have hrc := hfm_ln (tf := tf) (af := af) (i := i) hsr (chr_m1 i hi) j
      have hd1 := dct_ln (tf := tf) hrc 1
      have hd2 := dct_ln (tf := tf) hrc 2
      refine V.iload_n hC (x := nI j) dX7_hasForm_15 rfl ?_
      refine V.aload_n hC (x := adK G i) dX7_hasForm_16 rfl ?_
      refine V.callO (n := 0) (As := []) (rest := [.int (nI j)]) hC (c_strLength (kl K) G i hi) (SFx.k G) hgo (hSF.2.2.2.2.2.2.2.2.2.1.1 i hi).1 gX7_hasForm_J0_length_8abf5 rfl ⟨rfl, rfl⟩ (by decide +kernel) ⟨by decide, by decide, by decide, by decide⟩ [] rfl (by decide) (fun _ => rfl) rfl rfl (Nat.le_of_ble_eq_true rfl) dX7_hasForm_17 (fun r_17 u_17 hp_17 => ?_)
      subst hp_17
      show V G K 5 0 0 20 [some (.ref hq), some (.ref (adK G i)), some (.int (nI j)), none, none] [.int (nI (fLen.getD i 0)), .int (nI j)] [(hq, .inr (8, [.ref tx, .ref ag, .ref dd, .int (nI ln), .int (nI sr), .int (nI ((hfm tf ln sr af i j).2.1)), .int (nI ((hfm tf ln sr af i j).2.2.1))])), (tx, .inl (gC G, 60, .inl tf)), (ag, .inl (gI G, 3, .inl ((hfm tf ln sr af i j).2.2.2)))]
      refine V.icmpN_ge hC j (fLen.getD i 0) 104 dX7_hasForm_20 rfl rfl rfl (by omega) (by omega) (fun c_20 => ?_) (fun c_20 => ?_)
      · refine V.eqw (ws' := [(hq, .inr (8, [.ref tx, .ref ag, .ref dd, .int (nI ln), .int (nI sr), .int (nI ((hfm tf ln sr af i (fLen.getD i 0)).2.1)), .int (nI ((hfm tf ln sr af i (fLen.getD i 0)).2.2.1))])), (tx, .inl (gC G, 60, .inl tf)), (ag, .inl (gI G, 3, .inl ((hfm tf ln sr af i (fLen.getD i 0)).2.2.2)))]) (by rw [show j = fLen.getD i 0 by omega]) ?_
        refine V.iconst hC 1 dX7_hasForm_104 rfl ?_
        exact hE 105 _ 1 () dX7_hasForm_105 rfl (nI_one (hfm_le1 _) (by rw [← show j = fLen.getD i 0 by omega]; exact hok))
      · refine V.aload_n hC (x := hq) dX7_hasForm_23 rfl ?_
        refine V.getf hC (T := TX7) q0_ 5 q2_ rfl (0) rfl rfl (by decide) (.int (nI ((hfm tf ln sr af i j).2.1))) rfl dX7_hasForm_24 ?_
        refine V.istore_n hC dX7_hasForm_27 [some (.ref hq), some (.ref (adK G i)), some (.int (nI j)), some (.int (nI ((hfm tf ln sr af i j).2.1))), none] (Nat.le_of_ble_eq_true rfl) rfl ?_
        refine V.aload_n hC (x := adK G i) dX7_hasForm_28 rfl ?_
        refine V.iload_n hC (x := nI j) dX7_hasForm_29 rfl ?_
        refine V.callO (n := 1) (As := [.int (nI j)]) (rest := []) hC (c_charAt (kl K) G i hi j (by omega)) (SFx.k G) hgo (hSF.2.2.2.2.2.2.2.2.2.1.1 i hi).1 gX7_hasForm_J0_charAt_5068e rfl ⟨rfl, rfl⟩ (by decide +kernel) ⟨by decide, by decide, by decide, by decide⟩ [] rfl (by decide) (fun _ => rfl) rfl rfl (Nat.le_of_ble_eq_true rfl) dX7_hasForm_30 (fun r_30 u_30 hp_30 => ?_)
        subst hp_30
        show V G K 5 0 0 33 [some (.ref hq), some (.ref (adK G i)), some (.int (nI j)), some (.int (nI ((hfm tf ln sr af i j).2.1))), none] [.int (nI (chr i j))] [(hq, .inr (8, [.ref tx, .ref ag, .ref dd, .int (nI ln), .int (nI sr), .int (nI ((hfm tf ln sr af i j).2.1)), .int (nI ((hfm tf ln sr af i j).2.2.1))])), (tx, .inl (gC G, 60, .inl tf)), (ag, .inl (gI G, 3, .inl ((hfm tf ln sr af i j).2.2.2)))]
        refine V.istore hC dX7_hasForm_33 [some (.ref hq), some (.ref (adK G i)), some (.int (nI j)), some (.int (nI ((hfm tf ln sr af i j).2.1))), some (.int (nI (chr i j)))] (Nat.le_of_ble_eq_true rfl) rfl ?_
        have h127 := chr_127 i hi j (by omega)
        refine V.iload hC (x := nI (chr i j)) dX7_hasForm_35 rfl ?_
        refine V.bipush hC 35 dX7_hasForm_37 rfl ?_
        refine V.icmpN_ne hC (chr i j) 35 50 dX7_hasForm_39 rfl rfl rfl (by omega) (by omega) (fun c_39 => ?_) (fun c_39 => ?_)
        · refine V.iload hC (x := nI (chr i j)) dX7_hasForm_50 rfl ?_
          refine V.bipush hC 37 dX7_hasForm_52 rfl ?_
          refine V.icmpN_ne hC (chr i j) 37 65 dX7_hasForm_54 rfl rfl rfl (by omega) (by omega) (fun c_54 => ?_) (fun c_54 => ?_)
          · refine V.aload_n hC (x := hq) dX7_hasForm_65 rfl ?_
            refine V.aload_n hC (x := hq) dX7_hasForm_66 rfl ?_
            refine V.getf hC (T := TX7) q0_ 5 q2_ rfl (0) rfl rfl (by decide) (.int (nI ((hfm tf ln sr af i j).2.1))) rfl dX7_hasForm_67 ?_
            refine V.callVr (n := 1) (As := [.int (nI ((hfm tf ln sr af i j).2.1))]) (rest := []) hC (c_signAt (kl K) G hq tx ag dd ln sr (hfm tf ln sr af i j).2.1 (hfm tf ln sr af i j).2.2.1 tf (hfm tf ln sr af i j).2.2.2 hln (hfm tf ln sr af i j).2.1 (by omega)) SFk0 SFgo0 gX7_hasForm_X7_signAt rfl ⟨rfl, rfl⟩ (by decide +kernel) ⟨by decide, by decide, by decide, by decide⟩ [0, 1, 2] rfl (by decide) rfl rfl rfl rfl (Nat.le_of_ble_eq_true rfl) dX7_hasForm_70 (fun r_70 u_70 hp_70 => ?_)
            subst hp_70
            show V G K 5 0 0 73 [some (.ref hq), some (.ref (adK G i)), some (.int (nI j)), some (.int (nI ((hfm tf ln sr af i j).2.1))), some (.int (nI (chr i j)))] [.int (sgn tf ln (hfm tf ln sr af i j).2.1)] [(hq, .inr (8, [.ref tx, .ref ag, .ref dd, .int (nI ln), .int (nI sr), .int (nI ((hfm tf ln sr af i j).2.1)), .int (nI ((hfm tf ln sr af i j).2.2.1))])), (tx, .inl (gC G, 60, .inl tf)), (ag, .inl (gI G, 3, .inl ((hfm tf ln sr af i j).2.2.2)))]
            refine V.iload hC (x := nI (chr i j)) dX7_hasForm_73 rfl ?_
            refine V.icmp_ne hC 88 dX7_hasForm_75 rfl (fun c_75 => ?_) (fun c_75 => ?_)
            · refine V.aload_n hC (x := hq) dX7_hasForm_88 rfl ?_
              refine V.getf hC (T := TX7) q0_ 5 q2_ rfl (0) rfl rfl (by decide) (.int (nI ((hfm tf ln sr af i j).2.1))) rfl dX7_hasForm_89 ?_
              refine V.iload_n hC (x := nI ((hfm tf ln sr af i j).2.1)) dX7_hasForm_92 rfl ?_
              refine V.icmpN_ne hC ((hfm tf ln sr af i j).2.1) ((hfm tf ln sr af i j).2.1) 98 dX7_hasForm_93 rfl rfl rfl (by omega) (by omega) (fun c_93 => ?_) (fun c_93 => ?_)
              · exact absurd rfl c_93
              · have hz_ : (hfm tf ln sr af i (j + 1)).1 = 0 := by rw [hfm_4 hok c_39 c_54 c_75]
                refine V.eqw (ws' := [(hq, .inr (8, [.ref tx, .ref ag, .ref dd, .int (nI ln), .int (nI sr), .int (nI ((hfm tf ln sr af i (fLen.getD i 0)).2.1)), .int (nI ((hfm tf ln sr af i (fLen.getD i 0)).2.2.1))])), (tx, .inl (gC G, 60, .inl tf)), (ag, .inl (gI G, 3, .inl ((hfm tf ln sr af i (fLen.getD i 0)).2.2.2)))]) (by rw [← hfm_end (n := fLen.getD i 0) hz_ (by omega), hfm_4 hok c_39 c_54 c_75]) ?_
                refine V.iconst hC 0 dX7_hasForm_96 rfl ?_
                exact hE 97 _ 0 () dX7_hasForm_97 rfl (nI_zer (by rw [← hfm_end (n := fLen.getD i 0) hz_ (by omega)]; exact hz_))
            · refine V.aload_n hC (x := hq) dX7_hasForm_78 rfl ?_
              refine V.dup hC dX7_hasForm_79 rfl ?_
              refine V.getf hC (T := TX7) q0_ 5 q2_ rfl (0) rfl rfl (by decide) (.int (nI ((hfm tf ln sr af i j).2.1))) rfl dX7_hasForm_80 ?_
              refine V.iconst hC 1 dX7_hasForm_83 rfl ?_
              refine V.iaddN hC ((hfm tf ln sr af i j).2.1) 1 dX7_hasForm_84 rfl rfl ?_
              refine V.putf hC (T := TX7) q0_ tyX7 tyX7_ok nmX7 5 q2_ rfl rfl (0) rfl rfl (by decide) (by simp) rfl rfl dX7_hasForm_85 [(hq, .inr (8, [.ref tx, .ref ag, .ref dd, .int (nI ln), .int (nI sr), .int (nI (((hfm tf ln sr af i j).2.1) + 1)), .int (nI ((hfm tf ln sr af i j).2.2.1))])), (tx, .inl (gC G, 60, .inl tf)), (ag, .inl (gI G, 3, .inl ((hfm tf ln sr af i j).2.2.2)))] rfl ?_
              refine V.aload_n hC (x := hq) dX7_hasForm_88 rfl ?_
              refine V.getf hC (T := TX7) q0_ 5 q2_ rfl (0) rfl rfl (by decide) (.int (nI (((hfm tf ln sr af i j).2.1) + 1))) rfl dX7_hasForm_89 ?_
              refine V.iload_n hC (x := nI ((hfm tf ln sr af i j).2.1)) dX7_hasForm_92 rfl ?_
              refine V.icmpN_ne hC (((hfm tf ln sr af i j).2.1) + 1) ((hfm tf ln sr af i j).2.1) 98 dX7_hasForm_93 rfl rfl rfl (by omega) (by omega) (fun c_93 => ?_) (fun c_93 => ?_)
              · refine V.eqw (ws' := [(hq, .inr (8, [.ref tx, .ref ag, .ref dd, .int (nI ln), .int (nI sr), .int (nI ((hfm tf ln sr af i (j + 1)).2.1)), .int (nI ((hfm tf ln sr af i (j + 1)).2.2.1))])), (tx, .inl (gC G, 60, .inl tf)), (ag, .inl (gI G, 3, .inl ((hfm tf ln sr af i (j + 1)).2.2.2)))]) (by rw [hfm_3 hok c_39 c_54 c_75]) ?_
                refine V.iincN hC j 1 dX7_hasForm_98 rfl [some (.ref hq), some (.ref (adK G i)), some (.int (nI (j + 1))), some (.int (nI ((hfm tf ln sr af i j).2.1))), some (.int (nI (chr i j)))] (Nat.le_of_ble_eq_true rfl) rfl rfl rfl ?_
                refine V.goto hC 15 dX7_hasForm_101 rfl ?_
                refine V.drop 3 (lv' := [some (.ref hq), some (.ref (adK G i)), some (.int (nI (j + 1))), none, some (.int (nI (chr i j)))]) rfl ?_
                refine V.drop 4 (lv' := [some (.ref hq), some (.ref (adK G i)), some (.int (nI (j + 1))), none, none]) rfl ?_
                exact ih15 (j + 1) (by omega) (by omega) (by rw [hfm_3 hok c_39 c_54 c_75]; exact (by decide : ¬ (1 : Nat) = 0))
              · exact absurd c_93 (by omega)
          · refine V.aload_n hC (x := hq) dX7_hasForm_57 rfl ?_
            refine V.iconst hC 2 dX7_hasForm_58 rfl ?_
            refine V.callV (n := 1) (As := [.int 2]) (rest := []) hC (c_readNumber2 (kl K) G hq tx ag dd ln sr (hfm tf ln sr af i j).2.1 (hfm tf ln sr af i j).2.2.1 tf (hfm tf ln sr af i j).2.2.2 hln (by omega) (Nat.lt_of_le_of_lt (hfm_an j) (ncn_3 i hi j (by omega) (Or.inr c_54)))) SFk0 SFgo0 gX7_hasForm_X7_readNumber rfl ⟨rfl, rfl⟩ (by decide +kernel) ⟨by decide, by decide, by decide, by decide⟩ [0, 1, 2] rfl (by decide) (fun _ => rfl) rfl rfl rfl rfl (Nat.le_of_ble_eq_true rfl) dX7_hasForm_59 (fun r_59 u_59 hp_59 => ?_)
            show V G K 5 0 0 62 [some (.ref hq), some (.ref (adK G i)), some (.int (nI j)), some (.int (nI ((hfm tf ln sr af i j).2.1))), some (.int (nI (chr i j)))] [] [(hq, .inr (8, [.ref tx, .ref ag, .ref dd, .int (nI ln), .int (nI sr), .int (nI ((hfm tf ln sr af i j).2.1 + dct tf ln (hfm tf ln sr af i j).2.1 2)), .int (nI ((hfm tf ln sr af i j).2.2.1 + 1))])), (tx, .inl (gC G, 60, .inl tf)), (ag, .inl (gI G, 3, .inl (upd (hfm tf ln sr af i j).2.2.2 (hfm tf ln sr af i j).2.2.1 (nmv tf ln (hfm tf ln sr af i j).2.1 (dct tf ln (hfm tf ln sr af i j).2.1 2)))))]
            refine V.goto hC 88 dX7_hasForm_62 rfl ?_
            refine V.aload_n hC (x := hq) dX7_hasForm_88 rfl ?_
            refine V.getf hC (T := TX7) q0_ 5 q2_ rfl (0) rfl rfl (by decide) (.int (nI ((hfm tf ln sr af i j).2.1 + dct tf ln (hfm tf ln sr af i j).2.1 2))) rfl dX7_hasForm_89 ?_
            refine V.iload_n hC (x := nI ((hfm tf ln sr af i j).2.1)) dX7_hasForm_92 rfl ?_
            refine V.icmpN_ne hC ((hfm tf ln sr af i j).2.1 + dct tf ln (hfm tf ln sr af i j).2.1 2) ((hfm tf ln sr af i j).2.1) 98 dX7_hasForm_93 rfl rfl rfl (by omega) (by omega) (fun c_93 => ?_) (fun c_93 => ?_)
            · refine V.eqw (ws' := [(hq, .inr (8, [.ref tx, .ref ag, .ref dd, .int (nI ln), .int (nI sr), .int (nI ((hfm tf ln sr af i (j + 1)).2.1)), .int (nI ((hfm tf ln sr af i (j + 1)).2.2.1))])), (tx, .inl (gC G, 60, .inl tf)), (ag, .inl (gI G, 3, .inl ((hfm tf ln sr af i (j + 1)).2.2.2)))]) (by rw [hfm_2 hok c_39 c_54]) ?_
              refine V.iincN hC j 1 dX7_hasForm_98 rfl [some (.ref hq), some (.ref (adK G i)), some (.int (nI (j + 1))), some (.int (nI ((hfm tf ln sr af i j).2.1))), some (.int (nI (chr i j)))] (Nat.le_of_ble_eq_true rfl) rfl rfl rfl ?_
              refine V.goto hC 15 dX7_hasForm_101 rfl ?_
              refine V.drop 3 (lv' := [some (.ref hq), some (.ref (adK G i)), some (.int (nI (j + 1))), none, some (.int (nI (chr i j)))]) rfl ?_
              refine V.drop 4 (lv' := [some (.ref hq), some (.ref (adK G i)), some (.int (nI (j + 1))), none, none]) rfl ?_
              exact ih15 (j + 1) (by omega) (by omega) (by rw [hfm_2 hok c_39 c_54]; show ¬ (if _ then 0 else 1) = 0; rw [if_neg (by omega)]; decide)
            · have hz_ : (hfm tf ln sr af i (j + 1)).1 = 0 := by rw [hfm_2 hok c_39 c_54]; exact if_pos (by omega)
              refine V.eqw (ws' := [(hq, .inr (8, [.ref tx, .ref ag, .ref dd, .int (nI ln), .int (nI sr), .int (nI ((hfm tf ln sr af i (fLen.getD i 0)).2.1)), .int (nI ((hfm tf ln sr af i (fLen.getD i 0)).2.2.1))])), (tx, .inl (gC G, 60, .inl tf)), (ag, .inl (gI G, 3, .inl ((hfm tf ln sr af i (fLen.getD i 0)).2.2.2)))]) (by rw [← hfm_end (n := fLen.getD i 0) hz_ (by omega), hfm_2 hok c_39 c_54]) ?_
              refine V.iconst hC 0 dX7_hasForm_96 rfl ?_
              exact hE 97 _ 0 () dX7_hasForm_97 rfl (nI_zer (by rw [← hfm_end (n := fLen.getD i 0) hz_ (by omega)]; exact hz_))
        · refine V.aload_n hC (x := hq) dX7_hasForm_42 rfl ?_
          refine V.iconst hC 1 dX7_hasForm_43 rfl ?_
          refine V.callV (n := 1) (As := [.int 1]) (rest := []) hC (c_readNumber1 (kl K) G hq tx ag dd ln sr (hfm tf ln sr af i j).2.1 (hfm tf ln sr af i j).2.2.1 tf (hfm tf ln sr af i j).2.2.2 hln (by omega) (Nat.lt_of_le_of_lt (hfm_an j) (ncn_3 i hi j (by omega) (Or.inl c_39)))) SFk0 SFgo0 gX7_hasForm_X7_readNumber rfl ⟨rfl, rfl⟩ (by decide +kernel) ⟨by decide, by decide, by decide, by decide⟩ [0, 1, 2] rfl (by decide) (fun _ => rfl) rfl rfl rfl rfl (Nat.le_of_ble_eq_true rfl) dX7_hasForm_44 (fun r_44 u_44 hp_44 => ?_)
          show V G K 5 0 0 47 [some (.ref hq), some (.ref (adK G i)), some (.int (nI j)), some (.int (nI ((hfm tf ln sr af i j).2.1))), some (.int (nI (chr i j)))] [] [(hq, .inr (8, [.ref tx, .ref ag, .ref dd, .int (nI ln), .int (nI sr), .int (nI ((hfm tf ln sr af i j).2.1 + dct tf ln (hfm tf ln sr af i j).2.1 1)), .int (nI ((hfm tf ln sr af i j).2.2.1 + 1))])), (tx, .inl (gC G, 60, .inl tf)), (ag, .inl (gI G, 3, .inl (upd (hfm tf ln sr af i j).2.2.2 (hfm tf ln sr af i j).2.2.1 (nmv tf ln (hfm tf ln sr af i j).2.1 (dct tf ln (hfm tf ln sr af i j).2.1 1)))))]
          refine V.goto hC 88 dX7_hasForm_47 rfl ?_
          refine V.aload_n hC (x := hq) dX7_hasForm_88 rfl ?_
          refine V.getf hC (T := TX7) q0_ 5 q2_ rfl (0) rfl rfl (by decide) (.int (nI ((hfm tf ln sr af i j).2.1 + dct tf ln (hfm tf ln sr af i j).2.1 1))) rfl dX7_hasForm_89 ?_
          refine V.iload_n hC (x := nI ((hfm tf ln sr af i j).2.1)) dX7_hasForm_92 rfl ?_
          refine V.icmpN_ne hC ((hfm tf ln sr af i j).2.1 + dct tf ln (hfm tf ln sr af i j).2.1 1) ((hfm tf ln sr af i j).2.1) 98 dX7_hasForm_93 rfl rfl rfl (by omega) (by omega) (fun c_93 => ?_) (fun c_93 => ?_)
          · refine V.eqw (ws' := [(hq, .inr (8, [.ref tx, .ref ag, .ref dd, .int (nI ln), .int (nI sr), .int (nI ((hfm tf ln sr af i (j + 1)).2.1)), .int (nI ((hfm tf ln sr af i (j + 1)).2.2.1))])), (tx, .inl (gC G, 60, .inl tf)), (ag, .inl (gI G, 3, .inl ((hfm tf ln sr af i (j + 1)).2.2.2)))]) (by rw [hfm_1 hok c_39]) ?_
            refine V.iincN hC j 1 dX7_hasForm_98 rfl [some (.ref hq), some (.ref (adK G i)), some (.int (nI (j + 1))), some (.int (nI ((hfm tf ln sr af i j).2.1))), some (.int (nI (chr i j)))] (Nat.le_of_ble_eq_true rfl) rfl rfl rfl ?_
            refine V.goto hC 15 dX7_hasForm_101 rfl ?_
            refine V.drop 3 (lv' := [some (.ref hq), some (.ref (adK G i)), some (.int (nI (j + 1))), none, some (.int (nI (chr i j)))]) rfl ?_
            refine V.drop 4 (lv' := [some (.ref hq), some (.ref (adK G i)), some (.int (nI (j + 1))), none, none]) rfl ?_
            exact ih15 (j + 1) (by omega) (by omega) (by rw [hfm_1 hok c_39]; show ¬ (if _ then 0 else 1) = 0; rw [if_neg (by omega)]; decide)
          · have hz_ : (hfm tf ln sr af i (j + 1)).1 = 0 := by rw [hfm_1 hok c_39]; exact if_pos (by omega)
            refine V.eqw (ws' := [(hq, .inr (8, [.ref tx, .ref ag, .ref dd, .int (nI ln), .int (nI sr), .int (nI ((hfm tf ln sr af i (fLen.getD i 0)).2.1)), .int (nI ((hfm tf ln sr af i (fLen.getD i 0)).2.2.1))])), (tx, .inl (gC G, 60, .inl tf)), (ag, .inl (gI G, 3, .inl ((hfm tf ln sr af i (fLen.getD i 0)).2.2.2)))]) (by rw [← hfm_end (n := fLen.getD i 0) hz_ (by omega), hfm_1 hok c_39]) ?_
            refine V.iconst hC 0 dX7_hasForm_96 rfl ?_
            exact hE 97 _ 0 () dX7_hasForm_97 rfl (nI_zer (by rw [← hfm_end (n := fLen.getD i 0) hz_ (by omega)]; exact hz_))
  exact loop15 _ 0 (Nat.lt_succ_self _) (by omega) (show ¬ (1 : Nat) = 0 by decide)
