/-! Rebuilder: canTakeAll (printed by gen/s17.py) -/
set_option maxHeartbeats 4000000 in
set_option maxRecDepth 100000 in
theorem c_canTakeAll (l : Launch) (G : Gx) (hr hp ap av he aw al af as_ : Nat) (ar : Nat → Nat) (E : Scr) (hb : eBd (eqE E)) (hu : E.2.2.2.1 ≤ 4) (h a : Nat) (sh : Nat → Int32) (nu : Int32) (t : Nat) (D : Nat) (hD : D < 256) (v : Nat → Nat) (hv : ∀ b, b < 8 → D / 2 ^ b % 2 = 1 → sh b = nI (v b)) (hv2 : ∀ b, b < 8 → D / 2 ^ b % 2 = 1 → v b < 97) : Ct l G SF0 yX8_canTakeAll wsX8_canTakeAll ({ frames := 3, cells := 0, slots := 0, locals := 70 }) [.ref hr, .ref h, .int (nI D)] ((rbW G hr hp ap av he aw al af as_ ar E) ++ [(h, .inr (10, [.ref a, .int nu, .int (nI t)])), (a, .inl (gI G, 8, .inl sh))]) mkI (fun (r : Int32) (u : US) => r = nI (cta E.2.2.2.1 D v (eqE E) 8).1 ∧ u = (cta E.2.2.2.1 D v (eqE E) 8).2) (fun u : US => ((rbW G hr hp ap av he aw al af as_ ar (E.1, E.2.1, E.2.2.1, E.2.2.2.1, u.1, u.2.1, u.2.2, E.2.2.2.2.2.2.2)) ++ [(h, .inr (10, [.ref a, .int nu, .int (nI t)])), (a, .inl (gI G, 8, .inl sh))])) 0 0 := by
  refine Ct.ofI (cc := cX8_canTakeAll) (maxL := 4) (by decide) rfl ⟨by simp [Value.category], Nat.le_of_ble_eq_true rfl⟩ ?_
  intro K hl hC hSF hnm hE
  subst hl
  have q0_ : ∀ w ∈ u_ws RX8 TX8 2, w ∈ wsX8_canTakeAll := by decide +kernel
  have q1_ : Cond.fieldLink RX8 21 "FeatherShares$Rebuilder" "equations" "LFeatherShares$Equations;" ∈ wsX8_canTakeAll := by decide +kernel
  show V G K 4 0 0 0 [some (.ref hr), some (.ref h), some (.int (nI D)), none] [] ((rbW G hr hp ap av he aw al af as_ ar E) ++ [(h, .inr (10, [.ref a, .int nu, .int (nI t)])), (a, .inl (gI G, 8, .inl sh))])
  refine V.iconst hC 0 dX8_canTakeAll_0 rfl ?_
  refine V.istore_n hC dX8_canTakeAll_1 [some (.ref hr), some (.ref h), some (.int (nI D)), some (.int 0)] (Nat.le_of_ble_eq_true rfl) rfl ?_
  have loop2 : ∀ (n : Nat) (b : Nat), 9 - b < n → (b ≤ 8) → ((cta E.2.2.2.1 D v (eqE E) b).1 ≠ 0) → V G K 4 0 0 2 [some (.ref hr), some (.ref h), some (.int (nI D)), some (.int (nI b))] [] ((rbW G hr hp ap av he aw al af as_ ar (E.1, E.2.1, E.2.2.1, E.2.2.2.1, (cta E.2.2.2.1 D v (eqE E) b).2.1, (cta E.2.2.2.1 D v (eqE E) b).2.2.1, (cta E.2.2.2.1 D v (eqE E) b).2.2.2, E.2.2.2.2.2.2.2)) ++ [(h, .inr (10, [.ref a, .int nu, .int (nI t)])), (a, .inl (gI G, 8, .inl sh))]) := by
    intro n
    induction n with
    | zero => intro b hlt; exact absurd hlt (Nat.not_lt_zero _)
    | succ n ih2 =>
      intro b hlt2 hbb hn
      have hq := cta_bd (un := E.2.2.2.1) hv2 hb b hbb
      refine V.iload_n hC (x := nI b) dX8_canTakeAll_2 rfl ?_
      refine V.bipush hC 8 dX8_canTakeAll_3 rfl ?_
      refine V.icmpN_ge hC b 8 43 dX8_canTakeAll_5 rfl rfl rfl (by omega) (by omega) (fun c_5 => ?_) (fun c_5 => ?_)
      · refine V.eqw (ws' := ((rbW G hr hp ap av he aw al af as_ ar (E.1, E.2.1, E.2.2.1, E.2.2.2.1, (cta E.2.2.2.1 D v (eqE E) 8).2.1, (cta E.2.2.2.1 D v (eqE E) 8).2.2.1, (cta E.2.2.2.1 D v (eqE E) 8).2.2.2, E.2.2.2.2.2.2.2)) ++ [(h, .inr (10, [.ref a, .int nu, .int (nI t)])), (a, .inl (gI G, 8, .inl sh))])) (by rw [show b = 8 by omega]) ?_
        refine V.iconst hC 1 dX8_canTakeAll_43 rfl ?_
        exact hE 44 _ 1 (cta E.2.2.2.1 D v (eqE E) 8).2 dX8_canTakeAll_44 rfl ⟨(nI_one (cta_le _ _ _ _ _) (by rw [← show b = 8 by omega]; exact hn)), rfl⟩
      · refine V.iload_n hC (x := nI D) dX8_canTakeAll_8 rfl ?_
        refine V.iload_n hC (x := nI b) dX8_canTakeAll_9 rfl ?_
        refine V.ishr hC dX8_canTakeAll_10 ?_
        refine V.iconst hC 1 dX8_canTakeAll_11 rfl ?_
        refine V.iand hC dX8_canTakeAll_12 ?_
        refine V.topeq (nI (D / 2 ^ b % 2)) (bit8 b (by omega) D hD) ?_
        refine V.iconst hC 1 dX8_canTakeAll_13 rfl ?_
        refine V.icmpN_ne hC (D / 2 ^ b % 2) 1 37 dX8_canTakeAll_14 rfl rfl rfl (r31 (by decide) (by decide)) (by omega) (fun c_14 => ?_) (fun c_14 => ?_)
        · refine V.eqw (ws' := ((rbW G hr hp ap av he aw al af as_ ar (E.1, E.2.1, E.2.2.1, E.2.2.2.1, (cta E.2.2.2.1 D v (eqE E) (b + 1)).2.1, (cta E.2.2.2.1 D v (eqE E) (b + 1)).2.2.1, (cta E.2.2.2.1 D v (eqE E) (b + 1)).2.2.2, E.2.2.2.2.2.2.2)) ++ [(h, .inr (10, [.ref a, .int nu, .int (nI t)])), (a, .inl (gI G, 8, .inl sh))])) (by rw [cta_n hn c_14]) ?_
          refine V.iincN hC b 1 dX8_canTakeAll_37 rfl [some (.ref hr), some (.ref h), some (.int (nI D)), some (.int (nI (b + 1)))] (Nat.le_of_ble_eq_true rfl) rfl rfl rfl ?_
          refine V.goto hC 2 dX8_canTakeAll_40 rfl ?_
          exact ih2 (b + 1) (by omega) (by omega) (by rw [← cta_n hn c_14]; exact hn)
        · refine V.aload_n hC (x := hr) dX8_canTakeAll_17 rfl ?_
          refine V.getf hC (T := TX8) q0_ 1 q1_ rfl (0) rfl rfl (by decide) (.ref he) rfl dX8_canTakeAll_18 ?_
          refine V.iload_n hC (x := nI b) dX8_canTakeAll_21 rfl ?_
          refine V.iconst hC 1 dX8_canTakeAll_22 rfl ?_
          refine V.iaddN hC b 1 dX8_canTakeAll_23 rfl rfl ?_
          refine V.aload_n hC (x := h) dX8_canTakeAll_24 rfl ?_
          refine V.iload_n hC (x := nI b) dX8_canTakeAll_25 rfl ?_
          refine V.callVr (n := 1) (As := [.int (nI b)]) (rest := [.int (nI (b + 1)), .ref he]) hC (c_shareWith (kl K) G h a sh nu (nI t) b (by omega)) SFk0 SFgo0 gX8_canTakeAll_X10_shareWith rfl ⟨rfl, rfl⟩ (by decide +kernel) ⟨by decide, by decide, by decide, by decide⟩ [13, 14] rfl (by decide) rfl rfl rfl rfl (Nat.le_of_ble_eq_true rfl) dX8_canTakeAll_26 (fun r_26 u_26 hp_26 => ?_)
          subst hp_26
          show V G K 4 0 0 29 [some (.ref hr), some (.ref h), some (.int (nI D)), some (.int (nI b))] [.int (sh b), .int (nI (b + 1)), .ref he] ((rbW G hr hp ap av he aw al af as_ ar (E.1, E.2.1, E.2.2.1, E.2.2.2.1, (cta E.2.2.2.1 D v (eqE E) b).2.1, (cta E.2.2.2.1 D v (eqE E) b).2.2.1, (cta E.2.2.2.1 D v (eqE E) b).2.2.2, E.2.2.2.2.2.2.2)) ++ [(h, .inr (10, [.ref a, .int nu, .int (nI t)])), (a, .inl (gI G, 8, .inl sh))])
          refine V.topeq (nI (v b)) (hv b (by omega) c_14) ?_
          refine V.callV (n := 2) (As := [.int (nI (b + 1)), .int (nI (v b))]) (rest := []) hC (c_take (kl K) G he aw al af as_ ar (E.2.2.2.1) ((cta E.2.2.2.1 D v (eqE E) b).2.1) ((cta E.2.2.2.1 D v (eqE E) b).2.2.1) ((cta E.2.2.2.1 D v (eqE E) b).2.2.2) (E.2.2.2.2.2.2.2) hu hq.1 hq.2.2 (fun j _ => hq.2.1 j) (b + 1) (v b) (by omega) (hv2 b (by omega) c_14)) SFk0 SFgo0 gX8_canTakeAll_X3_take rfl ⟨rfl, rfl⟩ (by decide +kernel) ⟨by decide, by decide, by decide, by decide⟩ [4, 5, 6, 7, 8, 9, 10, 11, 12] rfl (by decide) (fun _ => rfl) rfl rfl rfl rfl (Nat.le_of_ble_eq_true rfl) dX8_canTakeAll_29 (fun r_29 u_29 hp_29 => ?_)
          obtain ⟨e1_, e2_⟩ := pot_tkE hp_29
          subst e1_ e2_
          show V G K 4 0 0 32 [some (.ref hr), some (.ref h), some (.int (nI D)), some (.int (nI b))] [.int (nI ((tkE E.2.2.2.1 (cta E.2.2.2.1 D v (eqE E) b).2 (b + 1) (v b)).1))] ((rbW G hr hp ap av he aw al af as_ ar (E.1, E.2.1, E.2.2.1, E.2.2.2.1, (tkE E.2.2.2.1 (cta E.2.2.2.1 D v (eqE E) b).2 (b + 1) (v b)).2.1, (tkE E.2.2.2.1 (cta E.2.2.2.1 D v (eqE E) b).2 (b + 1) (v b)).2.2.1, (tkE E.2.2.2.1 (cta E.2.2.2.1 D v (eqE E) b).2 (b + 1) (v b)).2.2.2, E.2.2.2.2.2.2.2)) ++ [(h, .inr (10, [.ref a, .int nu, .int (nI t)])), (a, .inl (gI G, 8, .inl sh))])
          refine V.ifN_ne hC ((tkE E.2.2.2.1 (cta E.2.2.2.1 D v (eqE E) b).2 (b + 1) (v b)).1) 37 dX8_canTakeAll_32 rfl rfl (Nat.lt_of_le_of_lt (tkE_le _ _ _ _) (by decide)) (fun c_32 => ?_) (fun c_32 => ?_)
          · refine V.eqw (ws' := ((rbW G hr hp ap av he aw al af as_ ar (E.1, E.2.1, E.2.2.1, E.2.2.2.1, (cta E.2.2.2.1 D v (eqE E) (b + 1)).2.1, (cta E.2.2.2.1 D v (eqE E) (b + 1)).2.2.1, (cta E.2.2.2.1 D v (eqE E) (b + 1)).2.2.2, E.2.2.2.2.2.2.2)) ++ [(h, .inr (10, [.ref a, .int nu, .int (nI t)])), (a, .inl (gI G, 8, .inl sh))])) (by rw [cta_y hn c_14]) ?_
            refine V.iincN hC b 1 dX8_canTakeAll_37 rfl [some (.ref hr), some (.ref h), some (.int (nI D)), some (.int (nI (b + 1)))] (Nat.le_of_ble_eq_true rfl) rfl rfl rfl ?_
            refine V.goto hC 2 dX8_canTakeAll_40 rfl ?_
            exact ih2 (b + 1) (by omega) (by omega) (by rw [← cta_y hn c_14]; exact c_32)
          · refine V.eqw (ws' := ((rbW G hr hp ap av he aw al af as_ ar (E.1, E.2.1, E.2.2.1, E.2.2.2.1, (cta E.2.2.2.1 D v (eqE E) 8).2.1, (cta E.2.2.2.1 D v (eqE E) 8).2.2.1, (cta E.2.2.2.1 D v (eqE E) 8).2.2.2, E.2.2.2.2.2.2.2)) ++ [(h, .inr (10, [.ref a, .int nu, .int (nI t)])), (a, .inl (gI G, 8, .inl sh))])) (by rw [cta_8z (by omega) hn c_14 c_32]) ?_
            refine V.iconst hC 0 dX8_canTakeAll_35 rfl ?_
            exact hE 36 _ 0 (cta E.2.2.2.1 D v (eqE E) 8).2 dX8_canTakeAll_36 rfl ⟨(nI_zer (by rw [← cta_8z (by omega) hn c_14 c_32]; exact c_32)), rfl⟩
  exact loop2 _ 0 (Nat.lt_succ_self _) (by omega) (show ¬ (1 : Nat) = 0 by decide)
